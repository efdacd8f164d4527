set_option maxHeartbeats 4000000 in
set_option maxRecDepth 100000 in
theorem c_X2_isAsTold (l : Launch) (G : gG) (v : Nat → Nat → Int32) (w : Nat → Nat → Int64) (sg : Nat → Nat) (p0 : Int32) {A0 : Int} (a0 : p0.toInt = A0) (p1 : Int32) {A1 : Int} (a1 : p1.toInt = A1) (p2 : Int32) {A2 : Int} (a2 : p2.toInt = A2) (p3 : Int32) {A3 : Int} (a3 : p3.toInt = A3) (ci : cI v) : Met l yX2_isAsTold wsX2_isAsTold ({ frames := 1, cells := 0, slots := 0, locals := 21 }) (gPre G v w sg [.int (p0), .int (p1), .int (p2), .int (p3)]) (gQi G (fun r v' w' sg' => ((r = 1 ∧ True) ∨ (r = 0 ∧ True)) ∧ v = v' ∧ w = w' ∧ sg = sg')) 0 0 (gA G) := by
  refine gM_ofz (cc := cX2_isAsTold) (maxL := 4) (by decide) rfl (Nat.le_of_ble_eq_true rfl) ?_
  intro p e R s m args below meth c Q ls C hR ret h hl
  have hx := C.1.1
  have hb := C.1.2.1
  have hown := C.1.2.2.2.1
  have hts := C.1.2.2.2.2
  have hl : lv_has ls 4 [(0, .int (p0)), (1, .int (p1)), (2, .int (p2)), (3, .int (p3))] := hl
  have q0 := i_rng p0; rw [a0] at q0
  have q1 := i_rng p1; rw [a1] at q1
  have q2 := i_rng p2; rw [a2] at q2
  have q3 := i_rng p3; rw [a3] at q3
  have z_0 : (0 : Int32).toInt = 0 := by decide
  have z_1 : (1 : Int32).toInt = 1 := by decide
  have z_3 : (3 : Int32).toInt = 3 := by decide
  have z_4 : (4 : Int32).toInt = 4 := by decide
  have z_300 : (300 : Int32).toInt = 300 := by decide
  have z_10000 : (10000 : Int32).toInt = 10000 := by decide
  have o_1 := ci
  obtain ⟨K1, K2, K3, K4, K5, K6, K7, Ks, K9, Ka, Kr, Kz⟩ := o_1
  refine lv_iload_n hx hb dX2_isAsTold_0 rfl (lv_at hl 0 rfl) ?_
  refine lv_iconst (v := 3) hx hb dX2_isAsTold_1 (by decide) ?_
  refine lv_icmp_ne (tgt := 13) hx hb dX2_isAsTold_2 (by decide) (fun c_2 => ?_) (fun c_2 => ?_)
  · have j_3 : ¬ (A0 = 3) := fun q => c_2 ((i_eq a0 (by decide)).mpr q)
    refine lv_iload_n hx hb dX2_isAsTold_13 rfl (lv_at hl 0 rfl) ?_
    refine lv_if_lt (tgt := 56) hx hb dX2_isAsTold_14 (by decide) (fun c_4 => ?_) (fun c_4 => ?_)
    · have j_5 : A0 < 0 := (i_lt a0 (by decide)).mp c_4
      refine lv_iconst (v := 0) hx hb dX2_isAsTold_56 (by decide) ?_
      exact ret 0 v w sg _ _ _ _ rfl dX2_isAsTold_57 h ⟨Or.inr ⟨rfl, trivial⟩, rfl, rfl, rfl⟩
    · have j_5 : ¬ (A0 < 0) := fun q => c_4 ((i_lt a0 (by decide)).mpr q)
      refine lv_iload_n hx hb dX2_isAsTold_17 rfl (lv_at hl 0 rfl) ?_
      refine lv_iconst (v := 4) hx hb dX2_isAsTold_18 (by decide) ?_
      refine lv_icmp_gt (tgt := 56) hx hb dX2_isAsTold_19 (by decide) (fun c_6 => ?_) (fun c_6 => ?_)
      · have j_7 : 4 < A0 := (i_lt (by decide) a0).mp c_6
        refine lv_iconst (v := 0) hx hb dX2_isAsTold_56 (by decide) ?_
        exact ret 0 v w sg _ _ _ _ rfl dX2_isAsTold_57 h ⟨Or.inr ⟨rfl, trivial⟩, rfl, rfl, rfl⟩
      · have j_7 : ¬ (4 < A0) := fun q => c_6 ((i_lt (by decide) a0).mpr q)
        refine lv_iload_n hx hb dX2_isAsTold_22 rfl (lv_at hl 1 rfl) ?_
        refine lv_sipush (v := 10000) hx hb dX2_isAsTold_23 (by decide) ?_
        refine g_calli C (va_runSN (As := [.int (p1), .int (10000)]) (rest := []) C.1 (c_X9_isWithin l G v w sg p1 (A0 := A1) a1 (10000) (A1 := 10000) (by decide) (by omega)) ⟨va_cnB 2 hts ggX2_isAsTold_X9_isWithin rfl rfl rfl C.2.1.2.2.1 (hts (.initialized RX9) (by decide +kernel)) (by decide +kernel) ⟨by rw [hR]; exact Nat.le_of_ble_eq_true rfl, by rw [hR]; exact Nat.le_of_ble_eq_true rfl⟩, (hts (.static yX9_isWithin) (by decide +kernel)), trivial⟩ ⟨gPre_blind, gS_pre C h _⟩ rfl rfl hl.1 rfl (lv_room (Nat.le_of_ble_eq_true rfl)) dX2_isAsTold_26 ⟨Nat.zero_le _, Nat.zero_le _⟩) h (fun r_8 v_10 w_11 g_12 H locs p_9 h => ?_)
        obtain ⟨p_9, rfl, rfl, rfl⟩ := p_9
        rcases p_9 with ⟨rfl, t_13⟩ | ⟨rfl, t_13⟩
        · skip
          refine lv_if_eq (tgt := 56) hx hb dX2_isAsTold_29 (by decide) (fun c_14 => absurd c_14 (by decide)) (fun _ => ?_)
          refine lv_iload_n hx hb dX2_isAsTold_32 rfl (lv_at hl 2 rfl) ?_
          refine lv_sipush (v := 10000) hx hb dX2_isAsTold_33 (by decide) ?_
          refine g_calli C (va_runSN (As := [.int (p2), .int (10000)]) (rest := []) C.1 (c_X9_isWithin l G v w sg p2 (A0 := A2) a2 (10000) (A1 := 10000) (by decide) (by omega)) ⟨va_cnB 2 hts ggX2_isAsTold_X9_isWithin rfl rfl rfl C.2.1.2.2.1 (hts (.initialized RX9) (by decide +kernel)) (by decide +kernel) ⟨by rw [hR]; exact Nat.le_of_ble_eq_true rfl, by rw [hR]; exact Nat.le_of_ble_eq_true rfl⟩, (hts (.static yX9_isWithin) (by decide +kernel)), trivial⟩ ⟨gPre_blind, gS_pre C h _⟩ rfl rfl hl.1 rfl (lv_room (Nat.le_of_ble_eq_true rfl)) dX2_isAsTold_36 ⟨Nat.zero_le _, Nat.zero_le _⟩) h (fun r_15 v_17 w_18 g_19 H locs p_16 h => ?_)
          obtain ⟨p_16, rfl, rfl, rfl⟩ := p_16
          rcases p_16 with ⟨rfl, t_20⟩ | ⟨rfl, t_20⟩
          · skip
            refine lv_if_eq (tgt := 56) hx hb dX2_isAsTold_39 (by decide) (fun c_21 => absurd c_21 (by decide)) (fun _ => ?_)
            refine lv_iload_n hx hb dX2_isAsTold_42 rfl (lv_at hl 3 rfl) ?_
            refine lv_sipush (v := 10000) hx hb dX2_isAsTold_43 (by decide) ?_
            refine g_calli C (va_runSN (As := [.int (p3), .int (10000)]) (rest := []) C.1 (c_X9_isWithin l G v w sg p3 (A0 := A3) a3 (10000) (A1 := 10000) (by decide) (by omega)) ⟨va_cnB 2 hts ggX2_isAsTold_X9_isWithin rfl rfl rfl C.2.1.2.2.1 (hts (.initialized RX9) (by decide +kernel)) (by decide +kernel) ⟨by rw [hR]; exact Nat.le_of_ble_eq_true rfl, by rw [hR]; exact Nat.le_of_ble_eq_true rfl⟩, (hts (.static yX9_isWithin) (by decide +kernel)), trivial⟩ ⟨gPre_blind, gS_pre C h _⟩ rfl rfl hl.1 rfl (lv_room (Nat.le_of_ble_eq_true rfl)) dX2_isAsTold_46 ⟨Nat.zero_le _, Nat.zero_le _⟩) h (fun r_22 v_24 w_25 g_26 H locs p_23 h => ?_)
            obtain ⟨p_23, rfl, rfl, rfl⟩ := p_23
            rcases p_23 with ⟨rfl, t_27⟩ | ⟨rfl, t_27⟩
            · skip
              refine lv_if_eq (tgt := 56) hx hb dX2_isAsTold_49 (by decide) (fun c_28 => absurd c_28 (by decide)) (fun _ => ?_)
              refine lv_iconst (v := 1) hx hb dX2_isAsTold_52 (by decide) ?_
              refine lv_goto (tgt := 57) hx hb dX2_isAsTold_53 (by decide) ?_
              exact ret 1 v w sg _ _ _ _ rfl dX2_isAsTold_57 h ⟨Or.inl ⟨rfl, trivial⟩, rfl, rfl, rfl⟩
            · skip
              refine lv_if_eq (tgt := 56) hx hb dX2_isAsTold_49 (by decide) (fun _ => ?_) (fun c_29 => absurd (by decide) c_29)
              refine lv_iconst (v := 0) hx hb dX2_isAsTold_56 (by decide) ?_
              exact ret 0 v w sg _ _ _ _ rfl dX2_isAsTold_57 h ⟨Or.inr ⟨rfl, trivial⟩, rfl, rfl, rfl⟩
          · skip
            refine lv_if_eq (tgt := 56) hx hb dX2_isAsTold_39 (by decide) (fun _ => ?_) (fun c_30 => absurd (by decide) c_30)
            refine lv_iconst (v := 0) hx hb dX2_isAsTold_56 (by decide) ?_
            exact ret 0 v w sg _ _ _ _ rfl dX2_isAsTold_57 h ⟨Or.inr ⟨rfl, trivial⟩, rfl, rfl, rfl⟩
        · skip
          refine lv_if_eq (tgt := 56) hx hb dX2_isAsTold_29 (by decide) (fun _ => ?_) (fun c_31 => absurd (by decide) c_31)
          refine lv_iconst (v := 0) hx hb dX2_isAsTold_56 (by decide) ?_
          exact ret 0 v w sg _ _ _ _ rfl dX2_isAsTold_57 h ⟨Or.inr ⟨rfl, trivial⟩, rfl, rfl, rfl⟩
  · have j_3 : A0 = 3 := (i_eq a0 (by decide)).mp c_2
    refine lv_iload_n hx hb dX2_isAsTold_5 rfl (lv_at hl 1 rfl) ?_
    refine lv_sipush (v := 300) hx hb dX2_isAsTold_6 (by decide) ?_
    refine g_calli C (va_runSN (As := [.int (p1), .int (300)]) (rest := []) C.1 (c_X9_isWithin l G v w sg p1 (A0 := A1) a1 (300) (A1 := 300) (by decide) (by omega)) ⟨va_cnB 2 hts ggX2_isAsTold_X9_isWithin rfl rfl rfl C.2.1.2.2.1 (hts (.initialized RX9) (by decide +kernel)) (by decide +kernel) ⟨by rw [hR]; exact Nat.le_of_ble_eq_true rfl, by rw [hR]; exact Nat.le_of_ble_eq_true rfl⟩, (hts (.static yX9_isWithin) (by decide +kernel)), trivial⟩ ⟨gPre_blind, gS_pre C h _⟩ rfl rfl hl.1 rfl (lv_room (Nat.le_of_ble_eq_true rfl)) dX2_isAsTold_9 ⟨Nat.zero_le _, Nat.zero_le _⟩) h (fun r_32 v_34 w_35 g_36 H locs p_33 h => ?_)
    obtain ⟨p_33, rfl, rfl, rfl⟩ := p_33
    rcases p_33 with ⟨rfl, t_37⟩ | ⟨rfl, t_37⟩
    · skip
      exact ret 1 v w sg _ _ _ _ rfl dX2_isAsTold_12 h ⟨Or.inl ⟨rfl, trivial⟩, rfl, rfl, rfl⟩
    · skip
      exact ret 0 v w sg _ _ _ _ rfl dX2_isAsTold_12 h ⟨Or.inr ⟨rfl, trivial⟩, rfl, rfl, rfl⟩

set_option maxHeartbeats 4000000 in
set_option maxRecDepth 100000 in
theorem c_X2_become (l : Launch) (G : gG) (v : Nat → Nat → Int32) (w : Nat → Nat → Int64) (sg : Nat → Nat) (o : Nat) (p1 : Int32) {A1 : Int} (a1 : p1.toInt = A1) (p2 : Int32) {A2 : Int} (a2 : p2.toInt = A2) (p3 : Int32) {A3 : Int} (a3 : p3.toInt = A3) (p4 : Int32) {A4 : Int} (a4 : p4.toInt = A4) (ho : 56 ≤ o ∧ o < 66) (ci : cI v) : Met l yX2_become wsX2_become ({ frames := 0, cells := 0, slots := 0, locals := 0 }) (gPre G v w sg [.ref (G.2.2 (o)), .int (p1), .int (p2), .int (p3), .int (p4)]) (gQv G (fun v' w' sg' => (cI v' ∧ fC 51 66 v w v' w ∧ ∀ k, k ≠ o → v' k = v k) ∧ w = w' ∧ sg = sg')) 0 0 (gA G) := by
  refine gM_ofv (cc := cX2_become) (maxL := 5) (by decide) rfl (Nat.le_of_ble_eq_true rfl) ?_
  intro p e R s m args below meth c Q ls C hR ret h hl
  have hx := C.1.1
  have hb := C.1.2.1
  have hown := C.1.2.2.2.1
  have hts := C.1.2.2.2.2
  have hl : lv_has ls 5 [(0, .ref (G.2.2 (o))), (1, .int (p1)), (2, .int (p2)), (3, .int (p3)), (4, .int (p4))] := hl
  have q1 := i_rng p1; rw [a1] at q1
  have q2 := i_rng p2; rw [a2] at q2
  have q3 := i_rng p3; rw [a3] at q3
  have q4 := i_rng p4; rw [a4] at q4
  have z_0 : (0 : Int32).toInt = 0 := by decide
  have z_1 : (1 : Int32).toInt = 1 := by decide
  have f9 : Cond.fieldLink RX2 9 "WindHall$Correction" "on" "Z" ∈ wsX2_become := by decide +kernel
  have hi2 : ∀ x ∈ u_ws RX2 TX2 5, x ∈ wsX2_become := fun x q => List.mem_cons_of_mem _ (List.mem_append_right _ q)
  have f15 : Cond.fieldLink RX2 15 "WindHall$Correction" "kind" "I" ∈ wsX2_become := by decide +kernel
  have f19 : Cond.fieldLink RX2 19 "WindHall$Correction" "u" "I" ∈ wsX2_become := by decide +kernel
  have f22 : Cond.fieldLink RX2 22 "WindHall$Correction" "v" "I" ∈ wsX2_become := by decide +kernel
  have f25 : Cond.fieldLink RX2 25 "WindHall$Correction" "w" "I" ∈ wsX2_become := by decide +kernel
  have o_1 := ci
  obtain ⟨K1, K2, K3, K4, K5, K6, K7, Ks, K9, Ka, Kr, Kz⟩ := o_1
  refine lv_aload_n hx hb dX2_become_0 rfl (lv_at hl 0 rfl) ?_
  refine lv_iconst (v := 1) hx hb dX2_become_1 (by decide) ?_
  refine g_put (ci := 2) (x := 1) (ty := .boolean) C h o (by omega) (g_coe ho) rfl hi2 tyX2 tyX2_ok nmX2 0 (by decide) f9 rfl rfl (by decide +kernel) rfl rfl (Nat.le_of_ble_eq_true rfl) (g_cos ho (by decide) 1) dX2_become_2 (fun H locs h => ?_)
  obtain ⟨v_2, hv_2⟩ : ∃ z, z = gu v o 0 1 := ⟨_, rfl⟩
  have h : gS (gA G) G s v_2 w sg H locs := by rw [hv_2]; exact h
  have u_3 : cI v_2 := by rw [hv_2]; exact (cI_o ci (by omega))
  have u_4 : fC 51 66 v w v_2 w := by rw [hv_2]; exact (fC_v fC_rf (by omega))
  refine lv_aload_n hx hb dX2_become_5 rfl (lv_at hl 0 rfl) ?_
  refine lv_iload_n hx hb dX2_become_6 rfl (lv_at hl 1 rfl) ?_
  refine g_put (ci := 2) (x := p1) (ty := .int) C h o (by omega) (g_coe ho) rfl hi2 tyX2 tyX2_ok nmX2 1 (by decide) f15 rfl rfl (by decide +kernel) rfl rfl (Nat.le_of_ble_eq_true rfl) (g_cos ho (by decide) p1) dX2_become_7 (fun H locs h => ?_)
  obtain ⟨v_5, hv_5⟩ : ∃ z, z = gu v_2 o 1 p1 := ⟨_, rfl⟩
  have h : gS (gA G) G s v_5 w sg H locs := by rw [hv_5]; exact h
  have u_6 : cI v_5 := by rw [hv_5]; exact (cI_o u_3 (by omega))
  have u_7 : fC 51 66 v w v_5 w := by rw [hv_5]; exact (fC_v u_4 (by omega))
  refine lv_aload_n hx hb dX2_become_10 rfl (lv_at hl 0 rfl) ?_
  refine lv_iload_n hx hb dX2_become_11 rfl (lv_at hl 2 rfl) ?_
  refine g_put (ci := 2) (x := p2) (ty := .int) C h o (by omega) (g_coe ho) rfl hi2 tyX2 tyX2_ok nmX2 2 (by decide) f19 rfl rfl (by decide +kernel) rfl rfl (Nat.le_of_ble_eq_true rfl) (g_cos ho (by decide) p2) dX2_become_12 (fun H locs h => ?_)
  obtain ⟨v_8, hv_8⟩ : ∃ z, z = gu v_5 o 2 p2 := ⟨_, rfl⟩
  have h : gS (gA G) G s v_8 w sg H locs := by rw [hv_8]; exact h
  have u_9 : cI v_8 := by rw [hv_8]; exact (cI_o u_6 (by omega))
  have u_10 : fC 51 66 v w v_8 w := by rw [hv_8]; exact (fC_v u_7 (by omega))
  refine lv_aload_n hx hb dX2_become_15 rfl (lv_at hl 0 rfl) ?_
  refine lv_iload_n hx hb dX2_become_16 rfl (lv_at hl 3 rfl) ?_
  refine g_put (ci := 2) (x := p3) (ty := .int) C h o (by omega) (g_coe ho) rfl hi2 tyX2 tyX2_ok nmX2 3 (by decide) f22 rfl rfl (by decide +kernel) rfl rfl (Nat.le_of_ble_eq_true rfl) (g_cos ho (by decide) p3) dX2_become_17 (fun H locs h => ?_)
  obtain ⟨v_11, hv_11⟩ : ∃ z, z = gu v_8 o 3 p3 := ⟨_, rfl⟩
  have h : gS (gA G) G s v_11 w sg H locs := by rw [hv_11]; exact h
  have u_12 : cI v_11 := by rw [hv_11]; exact (cI_o u_9 (by omega))
  have u_13 : fC 51 66 v w v_11 w := by rw [hv_11]; exact (fC_v u_10 (by omega))
  refine lv_aload_n hx hb dX2_become_20 rfl (lv_at hl 0 rfl) ?_
  refine lv_iload hx hb dX2_become_21 (lv_at hl 4 rfl) ?_
  refine g_put (ci := 2) (x := p4) (ty := .int) C h o (by omega) (g_coe ho) rfl hi2 tyX2 tyX2_ok nmX2 4 (by decide) f25 rfl rfl (by decide +kernel) rfl rfl (Nat.le_of_ble_eq_true rfl) (g_cos ho (by decide) p4) dX2_become_23 (fun H locs h => ?_)
  obtain ⟨v_14, hv_14⟩ : ∃ z, z = gu v_11 o 4 p4 := ⟨_, rfl⟩
  have h : gS (gA G) G s v_14 w sg H locs := by rw [hv_14]; exact h
  have u_15 : cI v_14 := by rw [hv_14]; exact (cI_o u_12 (by omega))
  have u_16 : fC 51 66 v w v_14 w := by rw [hv_14]; exact (fC_v u_13 (by omega))
  exact ret v_14 w sg _ _ _ _ dX2_become_26 h ⟨⟨u_15, u_16, (fun k hk => by rw [hv_14, gu_o hk, hv_11, gu_o hk, hv_8, gu_o hk, hv_5, gu_o hk, hv_2, gu_o hk])⟩, rfl, rfl⟩

set_option maxHeartbeats 4000000 in
set_option maxRecDepth 100000 in
theorem c_X2_lessen (l : Launch) (G : gG) (v : Nat → Nat → Int32) (w : Nat → Nat → Int64) (sg : Nat → Nat) (o1 : Nat) (p1 : Int32) {A1 : Int} (a1 : p1.toInt = A1) (p2 : Int32) {A2 : Int} (a2 : p2.toInt = A2) (p3 : Int32) {A3 : Int} (a3 : p3.toInt = A3) (Rk : 51 ≤ o1 ∧ o1 < 66) (Rd : gkd o1 = 2) (Rn : gln o1 = 3) (ci : cI v) : Met l yX2_lessen wsX2_lessen ({ frames := 0, cells := 0, slots := 0, locals := 0 }) (gPre G v w sg [.ref (G.2.2 (o1)), .int (p1), .int (p2), .int (p3)]) (gQv G (fun v' w' sg' => (cI v ∧ fC 51 66 v w v w') ∧ v = v' ∧ sg = sg')) 0 0 (gA G) := by
  refine gM_ofv (cc := cX2_lessen) (maxL := 4) (by decide) rfl (Nat.le_of_ble_eq_true rfl) ?_
  intro p e R s m args below meth c Q ls C hR ret h hl
  have hx := C.1.1
  have hb := C.1.2.1
  have hown := C.1.2.2.2.1
  have hts := C.1.2.2.2.2
  have hl : lv_has ls 4 [(0, .ref (G.2.2 (o1))), (1, .int (p1)), (2, .int (p2)), (3, .int (p3))] := hl
  have q1 := i_rng p1; rw [a1] at q1
  have q2 := i_rng p2; rw [a2] at q2
  have q3 := i_rng p3; rw [a3] at q3
  have z_0 : (0 : Int32).toInt = 0 := by decide
  have z_1 : (1 : Int32).toInt = 1 := by decide
  have z_2 : (2 : Int32).toInt = 2 := by decide
  have o_1 := ci
  obtain ⟨K1, K2, K3, K4, K5, K6, K7, Ks, K9, Ka, Kr, Kz⟩ := o_1
  refine lv_aload_n hx hb dX2_lessen_0 rfl (lv_at hl 0 rfl) ?_
  refine lv_iconst (v := 0) hx hb dX2_lessen_1 (by decide) ?_
  refine lv_dup2_11 hx hb dX2_lessen_2 rfl rfl ?_
  refine g_lald C h o1 (by omega) Rd (n := 3) Rn (vp_of (I := 0) (by decide) (by decide) (by decide)) dX2_lessen_3 ?_
  refine lv_topl (fun x_2 e_3 => ?_)
  refine lv_iload_n hx hb dX2_lessen_4 rfl (lv_at hl 1 rfl) ?_
  refine lv_i2l (v := (p1 : Int32).toInt64) hx hb dX2_lessen_5 rfl ?_
  refine lv_lsub hx hb dX2_lessen_6 ?_
  refine lv_topl (fun x_4 e_5 => ?_)
  refine g_last C h o1 (by omega) Rd (n := 3) Rn (vp_of (I := 0) (by decide) (by decide) (by decide)) dX2_lessen_7 (fun H locs h => ?_)
  obtain ⟨w_6, hw_6⟩ : ∃ z, z = gul w o1 0 x_4 := ⟨_, rfl⟩
  have h : gS (gA G) G s v w_6 sg H locs := by rw [hw_6]; exact h
  have u_7 : fC 51 66 v w v w_6 := by rw [hw_6]; exact (fC_w fC_rf (by omega))
  refine lv_aload_n hx hb dX2_lessen_8 rfl (lv_at hl 0 rfl) ?_
  refine lv_iconst (v := 1) hx hb dX2_lessen_9 (by decide) ?_
  refine lv_dup2_11 hx hb dX2_lessen_10 rfl rfl ?_
  refine g_lald C h o1 (by omega) Rd (n := 3) Rn (vp_of (I := 1) (by decide) (by decide) (by decide)) dX2_lessen_11 ?_
  refine lv_topl (fun x_8 e_9 => ?_)
  refine lv_iload_n hx hb dX2_lessen_12 rfl (lv_at hl 2 rfl) ?_
  refine lv_i2l (v := (p2 : Int32).toInt64) hx hb dX2_lessen_13 rfl ?_
  refine lv_lsub hx hb dX2_lessen_14 ?_
  refine lv_topl (fun x_10 e_11 => ?_)
  refine g_last C h o1 (by omega) Rd (n := 3) Rn (vp_of (I := 1) (by decide) (by decide) (by decide)) dX2_lessen_15 (fun H locs h => ?_)
  obtain ⟨w_12, hw_12⟩ : ∃ z, z = gul w_6 o1 1 x_10 := ⟨_, rfl⟩
  have h : gS (gA G) G s v w_12 sg H locs := by rw [hw_12]; exact h
  have u_13 : fC 51 66 v w v w_12 := by rw [hw_12]; exact (fC_w u_7 (by omega))
  refine lv_aload_n hx hb dX2_lessen_16 rfl (lv_at hl 0 rfl) ?_
  refine lv_iconst (v := 2) hx hb dX2_lessen_17 (by decide) ?_
  refine lv_dup2_11 hx hb dX2_lessen_18 rfl rfl ?_
  refine g_lald C h o1 (by omega) Rd (n := 3) Rn (vp_of (I := 2) (by decide) (by decide) (by decide)) dX2_lessen_19 ?_
  refine lv_topl (fun x_14 e_15 => ?_)
  refine lv_iload_n hx hb dX2_lessen_20 rfl (lv_at hl 3 rfl) ?_
  refine lv_i2l (v := (p3 : Int32).toInt64) hx hb dX2_lessen_21 rfl ?_
  refine lv_lsub hx hb dX2_lessen_22 ?_
  refine lv_topl (fun x_16 e_17 => ?_)
  refine g_last C h o1 (by omega) Rd (n := 3) Rn (vp_of (I := 2) (by decide) (by decide) (by decide)) dX2_lessen_23 (fun H locs h => ?_)
  obtain ⟨w_18, hw_18⟩ : ∃ z, z = gul w_12 o1 2 x_16 := ⟨_, rfl⟩
  have h : gS (gA G) G s v w_18 sg H locs := by rw [hw_18]; exact h
  have u_19 : fC 51 66 v w v w_18 := by rw [hw_18]; exact (fC_w u_13 (by omega))
  exact ret v w_18 sg _ _ _ _ dX2_lessen_24 h ⟨⟨ci, u_19⟩, rfl, rfl⟩

set_option maxHeartbeats 4000000 in
set_option maxRecDepth 100000 in
theorem c_X2_drifted (l : Launch) (G : gG) (v : Nat → Nat → Int32) (w : Nat → Nat → Int64) (sg : Nat → Nat) (p0 : Int32) {A0 : Int} (a0 : p0.toInt = A0) (p1 : Int32) {A1 : Int} (a1 : p1.toInt = A1) : Met l yX2_drifted wsX2_drifted ({ frames := 1, cells := 0, slots := 0, locals := 22 }) (gPre G v w sg [.int (p0), .int (p1)]) (gQi G (fun r v' w' sg' => (True) ∧ v = v' ∧ w = w' ∧ sg = sg')) 0 0 (gA G) := by
  refine gM_ofi (cc := cX2_drifted) (maxL := 2) (by decide) rfl (Nat.le_of_ble_eq_true rfl) ?_
  intro p e R s m args below meth c Q ls C hR ret h hl
  have hx := C.1.1
  have hb := C.1.2.1
  have hown := C.1.2.2.2.1
  have hts := C.1.2.2.2.2
  have hl : lv_has ls 2 [(0, .int (p0)), (1, .int (p1))] := hl
  have q0 := i_rng p0; rw [a0] at q0
  have q1 := i_rng p1; rw [a1] at q1
  have z_0 : (0 : Int32).toInt = 0 := by decide
  have z_1 : (1 : Int32).toInt = 1 := by decide
  have z_1000 : (1000 : Int32).toInt = 1000 := by decide
  refine lv_iload_n hx hb dX2_drifted_0 rfl (lv_at hl 0 rfl) ?_
  refine lv_iload_n hx hb dX2_drifted_1 rfl (lv_at hl 0 rfl) ?_
  refine lv_iload_n hx hb dX2_drifted_2 rfl (lv_at hl 1 rfl) ?_
  refine lv_imul hx hb dX2_drifted_3 ?_
  refine lv_topi (fun x_1 e_2 => ?_)
  refine lv_sipush (v := 1000) hx hb dX2_drifted_4 (by decide) ?_
  refine g_calli C (va_runS (As := [.int (x_1), .int (1000)]) (rest := [.int (p0)]) C.1 (c_J9_floorDiv_7cf53 l G v w sg x_1 (A0 := (x_1).toInt) rfl (1000) (A1 := 1000) (by decide) (by omega)) (va_cwS 2 hts gX2_drifted_J9_floorDiv_7cf53 rfl rfl rfl (by decide +kernel) ⟨by rw [hR]; exact Nat.le_of_ble_eq_true rfl, by rw [hR]; exact Nat.le_of_ble_eq_true rfl⟩) ⟨gPre_blind, gS_pre C h _⟩ rfl rfl hl.1 rfl (lv_room (Nat.le_of_ble_eq_true rfl)) dX2_drifted_7 ⟨Nat.zero_le _, Nat.zero_le _⟩) h (fun r_3 v_5 w_6 g_7 H locs p_4 h => ?_)
  obtain ⟨p_4, rfl, rfl, rfl⟩ := p_4
  refine lv_iadd hx hb dX2_drifted_10 ?_
  refine lv_topi (fun x_8 e_9 => ?_)
  exact ret x_8 v w sg _ _ _ _ dX2_drifted_11 h ⟨trivial, rfl, rfl, rfl⟩

set_option maxHeartbeats 4000000 in
set_option maxRecDepth 100000 in
theorem c_X2_cos (l : Launch) (G : gG) (v : Nat → Nat → Int32) (w : Nat → Nat → Int64) (sg : Nat → Nat) (p0 : Int32) {A0 : Int} (a0 : p0.toInt = A0) : Met l yX2_cos wsX2_cos ({ frames := 1, cells := 0, slots := 0, locals := 22 }) (gPre G v w sg [.int (p0)]) (gQi G (fun r v' w' sg' => (True) ∧ v = v' ∧ w = w' ∧ sg = sg')) 0 0 (gA G) := by
  refine gM_ofi (cc := cX2_cos) (maxL := 1) (by decide) rfl (Nat.le_of_ble_eq_true rfl) ?_
  intro p e R s m args below meth c Q ls C hR ret h hl
  have hx := C.1.1
  have hb := C.1.2.1
  have hown := C.1.2.2.2.1
  have hts := C.1.2.2.2.2
  have hl : lv_has ls 1 [(0, .int (p0))] := hl
  have q0 := i_rng p0; rw [a0] at q0
  have z_0 : (0 : Int32).toInt = 0 := by decide
  have z_1 : (1 : Int32).toInt = 1 := by decide
  have z_24 : (24 : Int32).toInt = 24 := by decide
  obtain ⟨tC, hZ, hT⟩ := C.2.2.2.2
  refine va_gets hx hb hZ h.2 hown (hts (.fieldLink RX2 57 "WindHall$Correction" "COS" "[I") (by decide +kernel)) (fun _ h9 => h9) dX2_cos_0 ?_
  refine lv_iload_n hx hb dX2_cos_3 rfl (lv_at hl 0 rfl) ?_
  refine lv_bipush (v := 24) hx hb dX2_cos_4 (by decide) ?_
  refine g_calli C (va_runS (As := [.int (p0), .int (24)]) (rest := [.ref tC]) C.1 (c_J9_floorMod_7cf53 l G v w sg p0 (A0 := A0) a0 (24) (A1 := 24) (by decide) (by omega)) (va_cwS 2 hts gX2_cos_J9_floorMod_7cf53 rfl rfl rfl (by decide +kernel) ⟨by rw [hR]; exact Nat.le_of_ble_eq_true rfl, by rw [hR]; exact Nat.le_of_ble_eq_true rfl⟩) ⟨gPre_blind, gS_pre C h _⟩ rfl rfl hl.1 rfl (lv_room (Nat.le_of_ble_eq_true rfl)) dX2_cos_6 ⟨Nat.zero_le _, Nat.zero_le _⟩) h (fun r_1 v_3 w_4 g_5 H locs p_2 h => ?_)
  obtain ⟨p_2, rfl, rfl, rfl⟩ := p_2
  refine va_ti hx hb hT h.2 (vp_of rfl (by omega) (by omega)) (v := .int (gCos (r_1 : Int32).toNatClampNeg)) rfl dX2_cos_9 ?_
  refine lv_topi (fun x_6 e_7 => ?_)
  exact ret x_6 v w sg _ _ _ _ dX2_cos_10 h ⟨trivial, rfl, rfl, rfl⟩

set_option maxHeartbeats 4000000 in
set_option maxRecDepth 100000 in
theorem c_X2_share (l : Launch) (G : gG) (v : Nat → Nat → Int32) (w : Nat → Nat → Int64) (sg : Nat → Nat) (o : Nat) (p1 : Int32) {A1 : Int} (a1 : p1.toInt = A1) (ho : 56 ≤ o ∧ o < 66) (ci : cI v) : Met l yX2_share wsX2_share ({ frames := 1, cells := 0, slots := 0, locals := 22 }) (gPre G v w sg [.ref (G.2.2 (o)), .int (p1)]) (gQi G (fun r v' w' sg' => (True) ∧ v = v' ∧ w = w' ∧ sg = sg')) 0 0 (gA G) := by
  refine gM_ofi (cc := cX2_share) (maxL := 2) (by decide) rfl (Nat.le_of_ble_eq_true rfl) ?_
  intro p e R s m args below meth c Q ls C hR ret h hl
  have hx := C.1.1
  have hb := C.1.2.1
  have hown := C.1.2.2.2.1
  have hts := C.1.2.2.2.2
  have hl : lv_has ls 2 [(0, .ref (G.2.2 (o))), (1, .int (p1))] := hl
  have q1 := i_rng p1; rw [a1] at q1
  have z_0 : (0 : Int32).toInt = 0 := by decide
  have z_1 : (1 : Int32).toInt = 1 := by decide
  have z_1000 : (1000 : Int32).toInt = 1000 := by decide
  have f19 : Cond.fieldLink RX2 19 "WindHall$Correction" "u" "I" ∈ wsX2_share := by decide +kernel
  have hi2 : ∀ x ∈ u_ws RX2 TX2 5, x ∈ wsX2_share := fun x q => List.mem_cons_of_mem _ (List.mem_append_right _ q)
  have o_1 := ci
  obtain ⟨K1, K2, K3, K4, K5, K6, K7, Ks, K9, Ka, Kr, Kz⟩ := o_1
  refine lv_aload_n hx hb dX2_share_0 rfl (lv_at hl 0 rfl) ?_
  refine g_geti (ci := 2) (x := v o 2) C h o (by omega) (g_coe ho) rfl hi2 2 (by decide) f19 rfl rfl rfl dX2_share_1 ?_
  refine lv_iload_n hx hb dX2_share_4 rfl (lv_at hl 1 rfl) ?_
  refine lv_imul hx hb dX2_share_5 ?_
  refine lv_topi (fun x_2 e_3 => ?_)
  refine lv_sipush (v := 1000) hx hb dX2_share_6 (by decide) ?_
  refine g_calli C (va_runS (As := [.int (x_2), .int (1000)]) (rest := []) C.1 (c_J9_floorDiv_7cf53 l G v w sg x_2 (A0 := (x_2).toInt) rfl (1000) (A1 := 1000) (by decide) (by omega)) (va_cwS 2 hts gX2_share_J9_floorDiv_7cf53 rfl rfl rfl (by decide +kernel) ⟨by rw [hR]; exact Nat.le_of_ble_eq_true rfl, by rw [hR]; exact Nat.le_of_ble_eq_true rfl⟩) ⟨gPre_blind, gS_pre C h _⟩ rfl rfl hl.1 rfl (lv_room (Nat.le_of_ble_eq_true rfl)) dX2_share_9 ⟨Nat.zero_le _, Nat.zero_le _⟩) h (fun r_4 v_6 w_7 g_8 H locs p_5 h => ?_)
  obtain ⟨p_5, rfl, rfl, rfl⟩ := p_5
  exact ret r_4 v w sg _ _ _ _ dX2_share_12 h ⟨trivial, rfl, rfl, rfl⟩

set_option maxHeartbeats 4000000 in
set_option maxRecDepth 100000 in
theorem c_X2_change (l : Launch) (G : gG) (v : Nat → Nat → Int32) (w : Nat → Nat → Int64) (sg : Nat → Nat) (o : Nat) (o1 : Nat) (p2 : Int32) {A2 : Int} (a2 : p2.toInt = A2) (p3 : Int32) {A3 : Int} (a3 : p3.toInt = A3) (ho : 56 ≤ o ∧ o < 66) (Rk : 51 ≤ o1 ∧ o1 < 66) (Rd : gkd o1 = 2) (Rn : gln o1 = 3) (ci : cI v) : Met l yX2_change wsX2_change ({ frames := 2, cells := 0, slots := 0, locals := 43 }) (gPre G v w sg [.ref (G.2.2 (o)), .ref (G.2.2 (o1)), .int (p2), .int (p3)]) (gQv G (fun v' w' sg' => (cI v ∧ fC 51 66 v w v w') ∧ v = v' ∧ sg = sg')) 0 0 (gA G) := by
  refine gM_ofv (cc := cX2_change) (maxL := 5) (by decide) rfl (Nat.le_of_ble_eq_true rfl) ?_
  intro p e R s m args below meth c Q ls C hR ret h hl
  have hx := C.1.1
  have hb := C.1.2.1
  have hown := C.1.2.2.2.1
  have hts := C.1.2.2.2.2
  have hl : lv_has ls 5 [(0, .ref (G.2.2 (o))), (1, .ref (G.2.2 (o1))), (2, .int (p2)), (3, .int (p3))] := hl
  have q2 := i_rng p2; rw [a2] at q2
  have q3 := i_rng p3; rw [a3] at q3
  have z_0 : (0 : Int32).toInt = 0 := by decide
  have z_1 : (1 : Int32).toInt = 1 := by decide
  have z_2 : (2 : Int32).toInt = 2 := by decide
  have z_3 : (3 : Int32).toInt = 3 := by decide
  have z_6 : (6 : Int32).toInt = 6 := by decide
  have f15 : Cond.fieldLink RX2 15 "WindHall$Correction" "kind" "I" ∈ wsX2_change := by decide +kernel
  have hi2 : ∀ x ∈ u_ws RX2 TX2 5, x ∈ wsX2_change := fun x q => List.mem_cons_of_mem _ (List.mem_append_right _ q)
  have f19 : Cond.fieldLink RX2 19 "WindHall$Correction" "u" "I" ∈ wsX2_change := by decide +kernel
  have f22 : Cond.fieldLink RX2 22 "WindHall$Correction" "v" "I" ∈ wsX2_change := by decide +kernel
  have f25 : Cond.fieldLink RX2 25 "WindHall$Correction" "w" "I" ∈ wsX2_change := by decide +kernel
  have k40 : (Cond.constantLong RX2 40 (100)).before args s = true := hts _ (by decide +kernel)
  have o_1 := ci
  obtain ⟨K1, K2, K3, K4, K5, K6, K7, Ks, K9, Ka, Kr, Kz⟩ := o_1
  refine lv_aload_n hx hb dX2_change_0 rfl (lv_at hl 0 rfl) ?_
  refine g_geti (ci := 2) (x := v o 1) C h o (by omega) (g_coe ho) rfl hi2 1 (by decide) f15 rfl rfl rfl dX2_change_1 ?_
  have s_2 : (v o 1).toInt = 0 ∨ (v o 1).toInt = 1 ∨ (v o 1).toInt = 2 ∨ (v o 1).toInt = 3 ∨ ((v o 1).toInt < 0 ∨ 3 < (v o 1).toInt) := by omega
  rcases s_2 with s_2 | s_2 | s_2 | s_2 | s_2
  · have hq : (v o 1 : Int32).toInt = 0 := (Eq.refl _).trans s_2
    refine lv_tableIn (off := 32) (tgt := 36) hx hb dX2_change_4 (by rw [hq]; decide) (by rw [hq]; decide) (by rw [hq]; rfl) (by decide) ?_
    refine lv_aload_n hx hb dX2_change_36 rfl (lv_at hl 1 rfl) ?_
    refine lv_aload_n hx hb dX2_change_37 rfl (lv_at hl 0 rfl) ?_
    refine g_geti (ci := 2) (x := v o 2) C h o (by omega) (g_coe ho) rfl hi2 2 (by decide) f19 rfl rfl rfl dX2_change_38 ?_
    refine lv_aload_n hx hb dX2_change_41 rfl (lv_at hl 0 rfl) ?_
    refine g_geti (ci := 2) (x := v o 3) C h o (by omega) (g_coe ho) rfl hi2 3 (by decide) f22 rfl rfl rfl dX2_change_42 ?_
    refine lv_aload_n hx hb dX2_change_45 rfl (lv_at hl 0 rfl) ?_
    refine g_geti (ci := 2) (x := v o 4) C h o (by omega) (g_coe ho) rfl hi2 4 (by decide) f25 rfl rfl rfl dX2_change_46 ?_
    refine g_callv C (va_runS (As := [.ref (G.2.2 (o1)), .int (v o 2), .int (v o 3), .int (v o 4)]) (rest := []) C.1 (c_X2_lessen l G v w sg o1 (v o 2) (A1 := (v o 2).toInt) rfl (v o 3) (A2 := (v o 3).toInt) rfl (v o 4) (A3 := (v o 4).toInt) rfl (by omega) Rd Rn ci) (va_cwS 4 hts gX2_change_X2_lessen rfl rfl rfl (by decide +kernel) ⟨by rw [hR]; exact Nat.le_of_ble_eq_true rfl, by rw [hR]; exact Nat.le_of_ble_eq_true rfl⟩) ⟨gPre_blind, gS_pre C h _⟩ rfl rfl hl.1 rfl (lv_room (Nat.le_of_ble_eq_true rfl)) dX2_change_49 ⟨Nat.zero_le _, Nat.zero_le _⟩) h (fun v_5 w_6 g_7 H locs p_4 h => ?_)
    obtain ⟨p_4, rfl, rfl⟩ := p_4
    have u_8 : cI v := p_4.1
    have u_9 : fC 51 66 v w v w_6 := fC_tr fC_rf (fC_le p_4.2 (by decide))
    have o_10 := u_8
    obtain ⟨K1, K2, K3, K4, K5, K6, K7, Ks, K9, Ka, Kr, Kz⟩ := o_10
    refine lv_goto (tgt := 176) hx hb dX2_change_52 (by decide) ?_
    exact ret v w_6 sg _ _ _ _ dX2_change_176 h ⟨⟨u_8, u_9⟩, rfl, rfl⟩
  · have hq : (v o 1 : Int32).toInt = 1 := (Eq.refl _).trans s_2
    refine lv_tableIn (off := 51) (tgt := 55) hx hb dX2_change_4 (by rw [hq]; decide) (by rw [hq]; decide) (by rw [hq]; rfl) (by decide) ?_
    refine lv_aload_n hx hb dX2_change_55 rfl (lv_at hl 1 rfl) ?_
    refine lv_aload_n hx hb dX2_change_56 rfl (lv_at hl 0 rfl) ?_
    refine g_geti (ci := 2) (x := v o 2) C h o (by omega) (g_coe ho) rfl hi2 2 (by decide) f19 rfl rfl rfl dX2_change_57 ?_
    refine lv_iload_n hx hb dX2_change_60 rfl (lv_at hl 2 rfl) ?_
    refine g_calli C (va_runS (As := [.int (v o 2), .int (p2)]) (rest := [.ref (G.2.2 (o1))]) C.1 (c_X2_drifted l G v w sg (v o 2) (A0 := (v o 2).toInt) rfl p2 (A1 := A2) a2) (va_cwS 2 hts gX2_change_X2_drifted rfl rfl rfl (by decide +kernel) ⟨by rw [hR]; exact Nat.le_of_ble_eq_true rfl, by rw [hR]; exact Nat.le_of_ble_eq_true rfl⟩) ⟨gPre_blind, gS_pre C h _⟩ rfl rfl hl.1 rfl (lv_room (Nat.le_of_ble_eq_true rfl)) dX2_change_61 ⟨Nat.zero_le _, Nat.zero_le _⟩) h (fun r_11 v_13 w_14 g_15 H locs p_12 h => ?_)
    obtain ⟨p_12, rfl, rfl, rfl⟩ := p_12
    refine lv_aload_n hx hb dX2_change_64 rfl (lv_at hl 0 rfl) ?_
    refine g_geti (ci := 2) (x := v o 3) C h o (by omega) (g_coe ho) rfl hi2 3 (by decide) f22 rfl rfl rfl dX2_change_65 ?_
    refine lv_iload_n hx hb dX2_change_68 rfl (lv_at hl 2 rfl) ?_
    refine g_calli C (va_runS (As := [.int (v o 3), .int (p2)]) (rest := [.int (r_11), .ref (G.2.2 (o1))]) C.1 (c_X2_drifted l G v w sg (v o 3) (A0 := (v o 3).toInt) rfl p2 (A1 := A2) a2) (va_cwS 2 hts gX2_change_X2_drifted rfl rfl rfl (by decide +kernel) ⟨by rw [hR]; exact Nat.le_of_ble_eq_true rfl, by rw [hR]; exact Nat.le_of_ble_eq_true rfl⟩) ⟨gPre_blind, gS_pre C h _⟩ rfl rfl hl.1 rfl (lv_room (Nat.le_of_ble_eq_true rfl)) dX2_change_69 ⟨Nat.zero_le _, Nat.zero_le _⟩) h (fun r_16 v_18 w_19 g_20 H locs p_17 h => ?_)
    obtain ⟨p_17, rfl, rfl, rfl⟩ := p_17
    refine lv_aload_n hx hb dX2_change_72 rfl (lv_at hl 0 rfl) ?_
    refine g_geti (ci := 2) (x := v o 4) C h o (by omega) (g_coe ho) rfl hi2 4 (by decide) f25 rfl rfl rfl dX2_change_73 ?_
    refine lv_iload_n hx hb dX2_change_76 rfl (lv_at hl 2 rfl) ?_
    refine g_calli C (va_runS (As := [.int (v o 4), .int (p2)]) (rest := [.int (r_16), .int (r_11), .ref (G.2.2 (o1))]) C.1 (c_X2_drifted l G v w sg (v o 4) (A0 := (v o 4).toInt) rfl p2 (A1 := A2) a2) (va_cwS 2 hts gX2_change_X2_drifted rfl rfl rfl (by decide +kernel) ⟨by rw [hR]; exact Nat.le_of_ble_eq_true rfl, by rw [hR]; exact Nat.le_of_ble_eq_true rfl⟩) ⟨gPre_blind, gS_pre C h _⟩ rfl rfl hl.1 rfl (lv_room (Nat.le_of_ble_eq_true rfl)) dX2_change_77 ⟨Nat.zero_le _, Nat.zero_le _⟩) h (fun r_21 v_23 w_24 g_25 H locs p_22 h => ?_)
    obtain ⟨p_22, rfl, rfl, rfl⟩ := p_22
    refine g_callv C (va_runS (As := [.ref (G.2.2 (o1)), .int (r_11), .int (r_16), .int (r_21)]) (rest := []) C.1 (c_X2_lessen l G v w sg o1 r_11 (A1 := (r_11).toInt) rfl r_16 (A2 := (r_16).toInt) rfl r_21 (A3 := (r_21).toInt) rfl (by omega) Rd Rn ci) (va_cwS 4 hts gX2_change_X2_lessen rfl rfl rfl (by decide +kernel) ⟨by rw [hR]; exact Nat.le_of_ble_eq_true rfl, by rw [hR]; exact Nat.le_of_ble_eq_true rfl⟩) ⟨gPre_blind, gS_pre C h _⟩ rfl rfl hl.1 rfl (lv_room (Nat.le_of_ble_eq_true rfl)) dX2_change_80 ⟨Nat.zero_le _, Nat.zero_le _⟩) h (fun v_28 w_29 g_30 H locs p_27 h => ?_)
    obtain ⟨p_27, rfl, rfl⟩ := p_27
    have u_31 : cI v := p_27.1
    have u_32 : fC 51 66 v w v w_29 := fC_tr fC_rf (fC_le p_27.2 (by decide))
    have o_33 := u_31
    obtain ⟨K1, K2, K3, K4, K5, K6, K7, Ks, K9, Ka, Kr, Kz⟩ := o_33
    refine lv_goto (tgt := 176) hx hb dX2_change_83 (by decide) ?_
    exact ret v w_29 sg _ _ _ _ dX2_change_176 h ⟨⟨u_31, u_32⟩, rfl, rfl⟩
  · have hq : (v o 1 : Int32).toInt = 2 := (Eq.refl _).trans s_2
    refine lv_tableIn (off := 82) (tgt := 86) hx hb dX2_change_4 (by rw [hq]; decide) (by rw [hq]; decide) (by rw [hq]; rfl) (by decide) ?_
    refine lv_aload_n hx hb dX2_change_86 rfl (lv_at hl 1 rfl) ?_
    refine lv_iconst (v := 2) hx hb dX2_change_87 (by decide) ?_
    refine lv_aload_n hx hb dX2_change_88 rfl (lv_at hl 0 rfl) ?_
    refine g_geti (ci := 2) (x := v o 2) C h o (by omega) (g_coe ho) rfl hi2 2 (by decide) f19 rfl rfl rfl dX2_change_89 ?_
    refine lv_imul hx hb dX2_change_92 ?_
    refine lv_topi (fun x_34 e_35 => ?_)
    refine lv_iconst (v := 2) hx hb dX2_change_93 (by decide) ?_
    refine lv_aload_n hx hb dX2_change_94 rfl (lv_at hl 0 rfl) ?_
    refine g_geti (ci := 2) (x := v o 3) C h o (by omega) (g_coe ho) rfl hi2 3 (by decide) f22 rfl rfl rfl dX2_change_95 ?_
    refine lv_imul hx hb dX2_change_98 ?_
    refine lv_topi (fun x_36 e_37 => ?_)
    refine lv_iconst (v := 2) hx hb dX2_change_99 (by decide) ?_
    refine lv_aload_n hx hb dX2_change_100 rfl (lv_at hl 0 rfl) ?_
    refine g_geti (ci := 2) (x := v o 4) C h o (by omega) (g_coe ho) rfl hi2 4 (by decide) f25 rfl rfl rfl dX2_change_101 ?_
    refine lv_imul hx hb dX2_change_104 ?_
    refine lv_topi (fun x_38 e_39 => ?_)
    refine g_callv C (va_runS (As := [.ref (G.2.2 (o1)), .int (x_34), .int (x_36), .int (x_38)]) (rest := []) C.1 (c_X2_lessen l G v w sg o1 x_34 (A1 := (x_34).toInt) rfl x_36 (A2 := (x_36).toInt) rfl x_38 (A3 := (x_38).toInt) rfl (by omega) Rd Rn ci) (va_cwS 4 hts gX2_change_X2_lessen rfl rfl rfl (by decide +kernel) ⟨by rw [hR]; exact Nat.le_of_ble_eq_true rfl, by rw [hR]; exact Nat.le_of_ble_eq_true rfl⟩) ⟨gPre_blind, gS_pre C h _⟩ rfl rfl hl.1 rfl (lv_room (Nat.le_of_ble_eq_true rfl)) dX2_change_105 ⟨Nat.zero_le _, Nat.zero_le _⟩) h (fun v_42 w_43 g_44 H locs p_41 h => ?_)
    obtain ⟨p_41, rfl, rfl⟩ := p_41
    have u_45 : cI v := p_41.1
    have u_46 : fC 51 66 v w v w_43 := fC_tr fC_rf (fC_le p_41.2 (by decide))
    have o_47 := u_45
    obtain ⟨K1, K2, K3, K4, K5, K6, K7, Ks, K9, Ka, Kr, Kz⟩ := o_47
    refine lv_goto (tgt := 176) hx hb dX2_change_108 (by decide) ?_
    exact ret v w_43 sg _ _ _ _ dX2_change_176 h ⟨⟨u_45, u_46⟩, rfl, rfl⟩
  · have hq : (v o 1 : Int32).toInt = 3 := (Eq.refl _).trans s_2
    refine lv_tableIn (off := 107) (tgt := 111) hx hb dX2_change_4 (by rw [hq]; decide) (by rw [hq]; decide) (by rw [hq]; rfl) (by decide) ?_
    refine lv_iconst (v := 0) hx hb dX2_change_111 (by decide) ?_
    have J114_49 : ∀ (n : Nat) (y_48 : Int32) (w_49 : Nat → Nat → Int64) (H : Heap) (locs : List Loc) (ls : Array Slot), (3 - (y_48).toInt).toNat < n → (cI v) → (fC 51 66 v w v w_49) → (0 ≤ (y_48).toInt ∧ (y_48).toInt ≤ 3) → gS (gA G) G s v w_49 sg H locs → lv_has ls 5 [(0, .ref (G.2.2 (o))), (1, .ref (G.2.2 (o1))), (2, .int (p2)), (3, .int (p3)), (4, .int (y_48))] → W p l e R s m args below meth c H locs 0 0 Q (F0 m 114 ls []) := by
      intro n
      induction n with
      | zero => intro y_48 w_49 H locs ls hm; exact absurd hm (Nat.not_lt_zero _)
      | succ n ih114 =>
        intro y_48 w_49 H locs ls hm u_50 u_51 f_52 h hl
        have o_53 := u_50
        obtain ⟨K1, K2, K3, K4, K5, K6, K7, Ks, K9, Ka, Kr, Kz⟩ := o_53
        refine lv_iload hx hb dX2_change_114 (lv_at hl 4 rfl) ?_
        refine lv_iconst (v := 3) hx hb dX2_change_116 (by decide) ?_
        refine lv_icmp_ge (tgt := 146) hx hb dX2_change_117 (by decide) (fun c_54 => ?_) (fun c_54 => ?_)
        · have j_55 : 3 ≤ (y_48).toInt := (i_le (by decide) rfl).mp c_54
          refine lv_goto (tgt := 176) hx hb dX2_change_146 (by decide) ?_
          exact ret v w_49 sg _ _ _ _ dX2_change_176 h ⟨⟨u_50, u_51⟩, rfl, rfl⟩
        · have j_55 : ¬ (3 ≤ (y_48).toInt) := fun q => c_54 ((i_le (by decide) rfl).mpr q)
          refine lv_aload_n hx hb dX2_change_120 rfl (lv_at hl 1 rfl) ?_
          refine lv_iload hx hb dX2_change_121 (lv_at hl 4 rfl) ?_
          refine lv_aload_n hx hb dX2_change_123 rfl (lv_at hl 1 rfl) ?_
          refine lv_iload hx hb dX2_change_124 (lv_at hl 4 rfl) ?_
          refine g_lald C h o1 (by omega) Rd (n := 3) Rn (vp_of rfl (by omega) (by omega)) dX2_change_126 ?_
          refine lv_topl (fun x_56 e_57 => ?_)
          refine lv_aload_n hx hb dX2_change_127 rfl (lv_at hl 0 rfl) ?_
          refine g_geti (ci := 2) (x := v o 2) C h o (by omega) (g_coe ho) rfl hi2 2 (by decide) f19 rfl rfl rfl dX2_change_128 ?_
          have q_58 := i_rng (v o 2)
          refine lv_i2l (v := (v o 2 : Int32).toInt64) hx hb dX2_change_131 rfl ?_
          refine lv_lmul hx hb dX2_change_132 ?_
          refine lv_topl (fun x_59 e_60 => ?_)
          refine lv_ldc2 hx hb hown k40 dX2_change_133 ?_
          refine g_calll C (va_runS (As := [.long (x_59), .long (100)]) (rest := [.int (y_48), .ref (G.2.2 (o1))]) C.1 (c_J9_floorDiv_f86c9 l G v w_49 sg x_59 (A0 := (x_59).toInt) rfl (100) (A2 := 100) (by decide) (by omega)) (va_cwS 2 hts gX2_change_J9_floorDiv_f86c9 rfl rfl rfl (by decide +kernel) ⟨by rw [hR]; exact Nat.le_of_ble_eq_true rfl, by rw [hR]; exact Nat.le_of_ble_eq_true rfl⟩) ⟨gPre_blind, gS_pre C h _⟩ rfl rfl hl.1 rfl (lv_room (Nat.le_of_ble_eq_true rfl)) dX2_change_136 ⟨Nat.zero_le _, Nat.zero_le _⟩) h (fun r_61 v_63 w_64 g_65 H locs p_62 h => ?_)
          obtain ⟨p_62, rfl, rfl, rfl⟩ := p_62
          refine g_last C h o1 (by omega) Rd (n := 3) Rn (vp_of rfl (by omega) (by omega)) dX2_change_139 (fun H locs h => ?_)
          obtain ⟨w_66, hw_66⟩ : ∃ z, z = gul w_49 o1 ((y_48 : Int32).toNatClampNeg) r_61 := ⟨_, rfl⟩
          have h : gS (gA G) G s v w_66 sg H locs := by rw [hw_66]; exact h
          have u_67 : fC 51 66 v w v w_66 := by rw [hw_66]; exact (fC_w u_51 (by omega))
          obtain ⟨x_68, e_69⟩ : ∃ y : Int32, y = y_48 + 1 := ⟨_, rfl⟩
          have i_70 : x_68.toInt = (y_48).toInt + 1 := ia_add e_69 rfl (by decide) (by omega) (by omega)
          refine lv_iinc (v := x_68) (lv' := [(4, .int (x_68)), (0, .ref (G.2.2 (o))), (1, .ref (G.2.2 (o1))), (2, .int (p2)), (3, .int (p3))]) hx hb dX2_change_140 hl (k := 4) rfl (by rw [e_69]; rfl) (by decide) rfl (fun ls hl => ?_)
          refine lv_goto (tgt := 114) hx hb dX2_change_143 (by decide) ?_
          exact ih114 x_68 w_66 _ _ _ (by omega) u_50 u_67 (by omega) h (lv_sub hl [1, 2, 3, 4, 0] rfl)
    refine lv_istore (lv' := [(4, .int (0)), (0, .ref (G.2.2 (o))), (1, .ref (G.2.2 (o1))), (2, .int (p2)), (3, .int (p3))]) hx hb dX2_change_112 hl (by decide) rfl (fun ls hl => ?_)
    exact J114_49 _ 0 w _ _ _ (Nat.lt_succ_self _) ci fC_rf (by omega) h (lv_sub hl [1, 2, 3, 4, 0] rfl)
  · refine lv_tableOut (tgt := 149) hx hb dX2_change_4 (by rw [show (v o 1 : Int32).toInt = (v o 1).toInt from rfl]; exact s_2) (by decide) ?_
    refine lv_aload_n hx hb dX2_change_149 rfl (lv_at hl 1 rfl) ?_
    refine lv_aload_n hx hb dX2_change_150 rfl (lv_at hl 0 rfl) ?_
    refine lv_iload_n hx hb dX2_change_151 rfl (lv_at hl 3 rfl) ?_
    refine g_calli C (va_runS (As := [.int (p3)]) (rest := [.ref (G.2.2 (o)), .ref (G.2.2 (o1))]) C.1 (c_X2_cos l G v w sg p3 (A0 := A3) a3) (va_cwS 1 hts gX2_change_X2_cos rfl rfl rfl (by decide +kernel) ⟨by rw [hR]; exact Nat.le_of_ble_eq_true rfl, by rw [hR]; exact Nat.le_of_ble_eq_true rfl⟩) ⟨gPre_blind, gS_pre C h _⟩ rfl rfl hl.1 rfl (lv_room (Nat.le_of_ble_eq_true rfl)) dX2_change_152 ⟨Nat.zero_le _, Nat.zero_le _⟩) h (fun r_71 v_73 w_74 g_75 H locs p_72 h => ?_)
    obtain ⟨p_72, rfl, rfl, rfl⟩ := p_72
    refine g_calli C (va_runV (As := [.int (r_71)]) (rest := [.ref (G.2.2 (o1))]) C.1 (c_X2_share l G v w sg o r_71 (A1 := (r_71).toInt) rfl (by omega) ci) (cwV 1 hts gX2_change_X2_share rfl rfl rfl (by decide +kernel) ⟨by rw [hR]; exact Nat.le_of_ble_eq_true rfl, by rw [hR]; exact Nat.le_of_ble_eq_true rfl⟩) ⟨gPre_blind, g_recv C h o (by omega) (ci := 2) (g_coe ho) rfl, gS_pre C h _⟩ rfl rfl hl.1 rfl (lv_room (Nat.le_of_ble_eq_true rfl)) dX2_change_155 ⟨Nat.zero_le _, Nat.zero_le _⟩) h (fun r_76 v_78 w_79 g_80 H locs p_77 h => ?_)
    obtain ⟨p_77, rfl, rfl, rfl⟩ := p_77
    refine lv_aload_n hx hb dX2_change_158 rfl (lv_at hl 0 rfl) ?_
    refine lv_iload_n hx hb dX2_change_159 rfl (lv_at hl 3 rfl) ?_
    refine lv_bipush (v := 6) hx hb dX2_change_160 (by decide) ?_
    refine lv_isub hx hb dX2_change_162 ?_
    refine lv_topi (fun x_81 e_82 => ?_)
    refine g_calli C (va_runS (As := [.int (x_81)]) (rest := [.ref (G.2.2 (o)), .int (r_76), .ref (G.2.2 (o1))]) C.1 (c_X2_cos l G v w sg x_81 (A0 := (x_81).toInt) rfl) (va_cwS 1 hts gX2_change_X2_cos rfl rfl rfl (by decide +kernel) ⟨by rw [hR]; exact Nat.le_of_ble_eq_true rfl, by rw [hR]; exact Nat.le_of_ble_eq_true rfl⟩) ⟨gPre_blind, gS_pre C h _⟩ rfl rfl hl.1 rfl (lv_room (Nat.le_of_ble_eq_true rfl)) dX2_change_163 ⟨Nat.zero_le _, Nat.zero_le _⟩) h (fun r_83 v_85 w_86 g_87 H locs p_84 h => ?_)
    obtain ⟨p_84, rfl, rfl, rfl⟩ := p_84
    refine g_calli C (va_runV (As := [.int (r_83)]) (rest := [.int (r_76), .ref (G.2.2 (o1))]) C.1 (c_X2_share l G v w sg o r_83 (A1 := (r_83).toInt) rfl (by omega) ci) (cwV 1 hts gX2_change_X2_share rfl rfl rfl (by decide +kernel) ⟨by rw [hR]; exact Nat.le_of_ble_eq_true rfl, by rw [hR]; exact Nat.le_of_ble_eq_true rfl⟩) ⟨gPre_blind, g_recv C h o (by omega) (ci := 2) (g_coe ho) rfl, gS_pre C h _⟩ rfl rfl hl.1 rfl (lv_room (Nat.le_of_ble_eq_true rfl)) dX2_change_166 ⟨Nat.zero_le _, Nat.zero_le _⟩) h (fun r_88 v_90 w_91 g_92 H locs p_89 h => ?_)
    obtain ⟨p_89, rfl, rfl, rfl⟩ := p_89
    refine lv_aload_n hx hb dX2_change_169 rfl (lv_at hl 0 rfl) ?_
    refine g_geti (ci := 2) (x := v o 3) C h o (by omega) (g_coe ho) rfl hi2 3 (by decide) f22 rfl rfl rfl dX2_change_170 ?_
    refine g_callv C (va_runS (As := [.ref (G.2.2 (o1)), .int (r_76), .int (r_88), .int (v o 3)]) (rest := []) C.1 (c_X2_lessen l G v w sg o1 r_76 (A1 := (r_76).toInt) rfl r_88 (A2 := (r_88).toInt) rfl (v o 3) (A3 := (v o 3).toInt) rfl (by omega) Rd Rn ci) (va_cwS 4 hts gX2_change_X2_lessen rfl rfl rfl (by decide +kernel) ⟨by rw [hR]; exact Nat.le_of_ble_eq_true rfl, by rw [hR]; exact Nat.le_of_ble_eq_true rfl⟩) ⟨gPre_blind, gS_pre C h _⟩ rfl rfl hl.1 rfl (lv_room (Nat.le_of_ble_eq_true rfl)) dX2_change_173 ⟨Nat.zero_le _, Nat.zero_le _⟩) h (fun v_95 w_96 g_97 H locs p_94 h => ?_)
    obtain ⟨p_94, rfl, rfl⟩ := p_94
    have u_98 : cI v := p_94.1
    have u_99 : fC 51 66 v w v w_96 := fC_tr fC_rf (fC_le p_94.2 (by decide))
    have o_100 := u_98
    obtain ⟨K1, K2, K3, K4, K5, K6, K7, Ks, K9, Ka, Kr, Kz⟩ := o_100
    exact ret v w_96 sg _ _ _ _ dX2_change_176 h ⟨⟨u_98, u_99⟩, rfl, rfl⟩

set_option maxHeartbeats 4000000 in
set_option maxRecDepth 100000 in
theorem c_X3_append (l : Launch) (G : gG) (v : Nat → Nat → Int32) (w : Nat → Nat → Int64) (sg : Nat → Nat) (p1 : Int32) {A1 : Int} (a1 : p1.toInt = A1) (p2 : Int32) {A2 : Int} (a2 : p2.toInt = A2) (p3 : Int32) {A3 : Int} (a3 : p3.toInt = A3) (p4 : Int32) {A4 : Int} (a4 : p4.toInt = A4) (bc : (v 51 1).toInt ≤ 9) (ci : cI v) (cg : cG sg) : Met l yX3_append wsX3_append ({ frames := 1, cells := 0, slots := 0, locals := 24 }) (gPre G v w sg [.ref (G.2.2 (51)), .int (p1), .int (p2), .int (p3), .int (p4)]) (gQi G (fun r v' w' sg' => (cI v' ∧ fC 51 66 v w v' w) ∧ w = w' ∧ sg = sg')) 0 0 (gA G) := by
  refine gM_ofi (cc := cX3_append) (maxL := 5) (by decide) rfl (Nat.le_of_ble_eq_true rfl) ?_
  intro p e R s m args below meth c Q ls C hR ret h hl
  have hx := C.1.1
  have hb := C.1.2.1
  have hown := C.1.2.2.2.1
  have hts := C.1.2.2.2.2
  have hl : lv_has ls 5 [(0, .ref (G.2.2 (51))), (1, .int (p1)), (2, .int (p2)), (3, .int (p3)), (4, .int (p4))] := hl
  have q1 := i_rng p1; rw [a1] at q1
  have q2 := i_rng p2; rw [a2] at q2
  have q3 := i_rng p3; rw [a3] at q3
  have q4 := i_rng p4; rw [a4] at q4
  have z_0 : (0 : Int32).toInt = 0 := by decide
  have z_1 : (1 : Int32).toInt = 1 := by decide
  have f13 : Cond.fieldLink RX3 13 "WindHall$Corrections" "row" "[LWindHall$Correction;" ∈ wsX3_append := by decide +kernel
  have hi3 : ∀ x ∈ u_ws RX3 TX3 7, x ∈ wsX3_append := fun x q => List.mem_cons_of_mem _ (List.mem_append_left _ (List.mem_append_right _ q))
  have f17 : Cond.fieldLink RX3 17 "WindHall$Corrections" "count" "I" ∈ wsX3_append := by decide +kernel
  have o_1 := ci
  obtain ⟨K1, K2, K3, K4, K5, K6, K7, Ks, K9, Ka, Kr, Kz⟩ := o_1
  refine lv_aload_n hx hb dX3_append_0 rfl (lv_at hl 0 rfl) ?_
  refine g_get (ci := 3) (x := .ref (G.2.2 (52))) C h 51 (by decide) rfl rfl hi3 0 (by decide) f13 rfl rfl dX3_append_1 ?_
  refine lv_aload_n hx hb dX3_append_4 rfl (lv_at hl 0 rfl) ?_
  refine g_geti (ci := 3) (x := v 51 1) C h 51 (by decide) rfl rfl hi3 1 (by decide) f17 rfl rfl rfl dX3_append_5 ?_
  refine g_aald (ty := .object "WindHall$Correction") C h 52 (by decide) 2 (by decide) (n := 10) (by decide) rfl rfl (vp_of rfl (by omega) (by omega)) dX3_append_8 ?_
  obtain ⟨q_2, q_2_e, q_2_l⟩ := g_row52 cg (i := v 51 1) rfl (by omega) (by omega)
  rw [q_2_e]
  refine lv_iload_n hx hb dX3_append_9 rfl (lv_at hl 1 rfl) ?_
  refine lv_iload_n hx hb dX3_append_10 rfl (lv_at hl 2 rfl) ?_
  refine lv_iload_n hx hb dX3_append_11 rfl (lv_at hl 3 rfl) ?_
  refine lv_iload hx hb dX3_append_12 (lv_at hl 4 rfl) ?_
  refine g_callv C (va_runV (As := [.int (p1), .int (p2), .int (p3), .int (p4)]) (rest := []) C.1 (c_X2_become l G v w sg q_2 p1 (A1 := A1) a1 p2 (A2 := A2) a2 p3 (A3 := A3) a3 p4 (A4 := A4) a4 (by omega) ci) (cwV 4 hts gX3_append_X2_become rfl rfl rfl (by decide +kernel) ⟨by rw [hR]; exact Nat.le_of_ble_eq_true rfl, by rw [hR]; exact Nat.le_of_ble_eq_true rfl⟩) ⟨gPre_blind, g_recv C h q_2 (by omega) (ci := 2) (g_coe q_2_l) rfl, gS_pre C h _⟩ rfl rfl hl.1 rfl (lv_room (Nat.le_of_ble_eq_true rfl)) dX3_append_14 ⟨Nat.zero_le _, Nat.zero_le _⟩) h (fun v_5 w_6 g_7 H locs p_4 h => ?_)
  obtain ⟨p_4, rfl, rfl⟩ := p_4
  have u_8 : cI v_5 := p_4.1
  have u_9 : fC 51 66 v w v_5 w := fC_tr fC_rf (fC_le p_4.2.1 (by decide))
  have u_10 : cG sg := cg
  have o_11 := u_8
  obtain ⟨K1, K2, K3, K4, K5, K6, K7, Ks, K9, Ka, Kr, Kz⟩ := o_11
  have e51 : (v_5 51 1).toInt = (v 51 1).toInt := by rw [p_4.2.2 51 (by omega)]
  refine lv_aload_n hx hb dX3_append_17 rfl (lv_at hl 0 rfl) ?_
  refine lv_dup hx hb dX3_append_18 rfl ?_
  refine g_geti (ci := 3) (x := v_5 51 1) C h 51 (by decide) rfl rfl hi3 1 (by decide) f17 rfl rfl rfl dX3_append_19 ?_
  refine lv_iconst (v := 1) hx hb dX3_append_22 (by decide) ?_
  refine lv_iadd hx hb dX3_append_23 ?_
  refine lv_topi (fun x_12 e_13 => ?_)
  have i_14 : x_12.toInt = (v_5 51 1).toInt + 1 := ia_add e_13 rfl (by decide) (by omega) (by omega)
  refine g_put (ci := 3) (x := x_12) (ty := .int) C h 51 (by decide) rfl rfl hi3 tyX3 tyX3_ok nmX3 1 (by decide) f17 rfl rfl (by decide +kernel) rfl rfl (Nat.le_of_ble_eq_true rfl) rfl dX3_append_24 (fun H locs h => ?_)
  obtain ⟨v_15, hv_15⟩ : ∃ z, z = gu v_5 51 1 x_12 := ⟨_, rfl⟩
  have h : gS (gA G) G s v_15 w sg H locs := by rw [hv_15]; exact h
  have u_16 : cI v_15 := by rw [hv_15]; exact (cI_51_1 u_8 (by omega))
  have u_17 : fC 51 66 v w v_15 w := by rw [hv_15]; exact (fC_v u_9 (by decide))
  refine lv_aload_n hx hb dX3_append_27 rfl (lv_at hl 0 rfl) ?_
  refine g_geti (ci := 3) (x := x_12) C h 51 (by decide) rfl rfl hi3 1 (by decide) f17 rfl rfl (by rw [hv_15] <;> rfl) dX3_append_28 ?_
  refine lv_iconst (v := 1) hx hb dX3_append_31 (by decide) ?_
  refine lv_isub hx hb dX3_append_32 ?_
  refine lv_topi (fun x_18 e_19 => ?_)
  exact ret x_18 v_15 w sg _ _ _ _ dX3_append_33 h ⟨⟨u_16, u_17⟩, rfl, rfl⟩

set_option maxHeartbeats 4000000 in
set_option maxRecDepth 100000 in
theorem c_X3_changeIfOn (l : Launch) (G : gG) (v : Nat → Nat → Int32) (w : Nat → Nat → Int64) (sg : Nat → Nat) (p1 : Int32) {A1 : Int} (a1 : p1.toInt = A1) (o1 : Nat) (b1 : 0 ≤ A1 ∧ A1 ≤ 9) (Rk : 51 ≤ o1 ∧ o1 < 66) (Rd : gkd o1 = 2) (Rn : gln o1 = 3) (ci : cI v) (cg : cG sg) : Met l yX3_changeIfOn wsX3_changeIfOn ({ frames := 3, cells := 0, slots := 0, locals := 67 }) (gPre G v w sg [.ref (G.2.2 (51)), .int (p1), .ref (G.2.2 (o1))]) (gQv G (fun v' w' sg' => (cI v ∧ fC 51 66 v w v w') ∧ v = v' ∧ sg = sg')) 0 0 (gA G) := by
  refine gM_ofv (cc := cX3_changeIfOn) (maxL := 3) (by decide) rfl (Nat.le_of_ble_eq_true rfl) ?_
  intro p e R s m args below meth c Q ls C hR ret h hl
  have hx := C.1.1
  have hb := C.1.2.1
  have hown := C.1.2.2.2.1
  have hts := C.1.2.2.2.2
  have hl : lv_has ls 3 [(0, .ref (G.2.2 (51))), (1, .int (p1)), (2, .ref (G.2.2 (o1)))] := hl
  have q1 := i_rng p1; rw [a1] at q1
  have z_0 : (0 : Int32).toInt = 0 := by decide
  have z_1 : (1 : Int32).toInt = 1 := by decide
  have f13 : Cond.fieldLink RX3 13 "WindHall$Corrections" "row" "[LWindHall$Correction;" ∈ wsX3_changeIfOn := by decide +kernel
  have hi3 : ∀ x ∈ u_ws RX3 TX3 7, x ∈ wsX3_changeIfOn := fun x q => List.mem_cons_of_mem _ (List.mem_append_left _ (List.mem_append_right _ q))
  have f47 : Cond.fieldLink RX3 47 "WindHall$Correction" "on" "Z" ∈ wsX3_changeIfOn := by decide +kernel
  have hi2 : ∀ x ∈ u_ws RX2 TX2 5, x ∈ wsX3_changeIfOn := fun x q => List.mem_cons_of_mem _ (List.mem_append_right _ q)
  have f25 : Cond.fieldLink RX3 25 "WindHall$Corrections" "time" "I" ∈ wsX3_changeIfOn := by decide +kernel
  have f28 : Cond.fieldLink RX3 28 "WindHall$Corrections" "angle" "I" ∈ wsX3_changeIfOn := by decide +kernel
  have o_1 := ci
  obtain ⟨K1, K2, K3, K4, K5, K6, K7, Ks, K9, Ka, Kr, Kz⟩ := o_1
  refine lv_aload_n hx hb dX3_changeIfOn_0 rfl (lv_at hl 0 rfl) ?_
  refine g_get (ci := 3) (x := .ref (G.2.2 (52))) C h 51 (by decide) rfl rfl hi3 0 (by decide) f13 rfl rfl dX3_changeIfOn_1 ?_
  refine lv_iload_n hx hb dX3_changeIfOn_4 rfl (lv_at hl 1 rfl) ?_
  refine g_aald (ty := .object "WindHall$Correction") C h 52 (by decide) 2 (by decide) (n := 10) (by decide) rfl rfl (vp_of a1 (by omega) (by omega)) dX3_changeIfOn_5 ?_
  obtain ⟨q_2, q_2_e, q_2_l⟩ := g_row52 cg (i := p1) a1 (by omega) (by omega)
  rw [q_2_e]
  refine g_geti (ci := 2) (x := v q_2 0) C h q_2 (by omega) (g_coe q_2_l) rfl hi2 0 (by decide) f47 rfl rfl rfl dX3_changeIfOn_6 ?_
  refine lv_if_eq (tgt := 30) hx hb dX3_changeIfOn_9 (by decide) (fun c_3 => ?_) (fun c_3 => ?_)
  · have j_4 : (v q_2 0).toInt = 0 := (i_eq rfl (by decide)).mp c_3
    exact ret v w sg _ _ _ _ dX3_changeIfOn_30 h ⟨⟨ci, fC_rf⟩, rfl, rfl⟩
  · have j_4 : ¬ ((v q_2 0).toInt = 0) := fun q => c_3 ((i_eq rfl (by decide)).mpr q)
    refine lv_aload_n hx hb dX3_changeIfOn_12 rfl (lv_at hl 0 rfl) ?_
    refine g_get (ci := 3) (x := .ref (G.2.2 (52))) C h 51 (by decide) rfl rfl hi3 0 (by decide) f13 rfl rfl dX3_changeIfOn_13 ?_
    refine lv_iload_n hx hb dX3_changeIfOn_16 rfl (lv_at hl 1 rfl) ?_
    refine g_aald (ty := .object "WindHall$Correction") C h 52 (by decide) 2 (by decide) (n := 10) (by decide) rfl rfl (vp_of a1 (by omega) (by omega)) dX3_changeIfOn_17 ?_
    obtain ⟨q_5, q_5_e, q_5_l⟩ := g_row52 cg (i := p1) a1 (by omega) (by omega)
    rw [q_5_e]
    refine lv_aload_n hx hb dX3_changeIfOn_18 rfl (lv_at hl 2 rfl) ?_
    refine lv_aload_n hx hb dX3_changeIfOn_19 rfl (lv_at hl 0 rfl) ?_
    refine g_geti (ci := 3) (x := v 51 3) C h 51 (by decide) rfl rfl hi3 3 (by decide) f25 rfl rfl rfl dX3_changeIfOn_20 ?_
    refine lv_aload_n hx hb dX3_changeIfOn_23 rfl (lv_at hl 0 rfl) ?_
    refine g_geti (ci := 3) (x := v 51 4) C h 51 (by decide) rfl rfl hi3 4 (by decide) f28 rfl rfl rfl dX3_changeIfOn_24 ?_
    refine g_callv C (va_runV (As := [.ref (G.2.2 (o1)), .int (v 51 3), .int (v 51 4)]) (rest := []) C.1 (c_X2_change l G v w sg q_5 o1 (v 51 3) (A2 := (v 51 3).toInt) rfl (v 51 4) (A3 := (v 51 4).toInt) rfl (by omega) (by omega) Rd Rn ci) (cwV 3 hts gX3_changeIfOn_X2_change rfl rfl rfl (by decide +kernel) ⟨by rw [hR]; exact Nat.le_of_ble_eq_true rfl, by rw [hR]; exact Nat.le_of_ble_eq_true rfl⟩) ⟨gPre_blind, g_recv C h q_5 (by omega) (ci := 2) (g_coe q_5_l) rfl, gS_pre C h _⟩ rfl rfl hl.1 rfl (lv_room (Nat.le_of_ble_eq_true rfl)) dX3_changeIfOn_27 ⟨Nat.zero_le _, Nat.zero_le _⟩) h (fun v_8 w_9 g_10 H locs p_7 h => ?_)
    obtain ⟨p_7, rfl, rfl⟩ := p_7
    have u_11 : cI v := p_7.1
    have u_12 : fC 51 66 v w v w_9 := fC_tr fC_rf (fC_le p_7.2 (by decide))
    have u_13 : cG sg := cg
    have o_14 := u_11
    obtain ⟨K1, K2, K3, K4, K5, K6, K7, Ks, K9, Ka, Kr, Kz⟩ := o_14
    exact ret v w_9 sg _ _ _ _ dX3_changeIfOn_30 h ⟨⟨u_11, u_12⟩, rfl, rfl⟩

set_option maxHeartbeats 4000000 in
set_option maxRecDepth 100000 in
theorem c_X3_goThrough (l : Launch) (G : gG) (v : Nat → Nat → Int32) (w : Nat → Nat → Int64) (sg : Nat → Nat) (p1 : Int32) {A1 : Int} (a1 : p1.toInt = A1) (o1 : Nat) (b1 : 0 ≤ A1 ∧ A1 ≤ 10) (Rk : 51 ≤ o1 ∧ o1 < 66) (Rd : gkd o1 = 2) (Rn : gln o1 = 3) (ci : cI v) (cg : cG sg) : Met l yX3_goThrough wsX3_goThrough ({ frames := 4, cells := 0, slots := 0, locals := 89 }) (gPre G v w sg [.ref (G.2.2 (51)), .int (p1), .ref (G.2.2 (o1))]) (gQv G (fun v' w' sg' => (cI v ∧ fC 51 66 v w v w') ∧ v = v' ∧ sg = sg')) 0 0 (gA G) := by
  refine gM_ofv (cc := cX3_goThrough) (maxL := 4) (by decide) rfl (Nat.le_of_ble_eq_true rfl) ?_
  intro p e R s m args below meth c Q ls C hR ret h hl
  have hx := C.1.1
  have hb := C.1.2.1
  have hown := C.1.2.2.2.1
  have hts := C.1.2.2.2.2
  have hl : lv_has ls 4 [(0, .ref (G.2.2 (51))), (1, .int (p1)), (2, .ref (G.2.2 (o1)))] := hl
  have q1 := i_rng p1; rw [a1] at q1
  have z_0 : (0 : Int32).toInt = 0 := by decide
  have z_1 : (1 : Int32).toInt = 1 := by decide
  have z_3 : (3 : Int32).toInt = 3 := by decide
  have f21 : Cond.fieldLink RX3 21 "WindHall$Corrections" "told" "[I" ∈ wsX3_goThrough := by decide +kernel
  have hi3 : ∀ x ∈ u_ws RX3 TX3 7, x ∈ wsX3_goThrough := fun x q => List.mem_cons_of_mem _ (List.mem_append_left _ (List.mem_append_right _ q))
  have o_1 := ci
  obtain ⟨K1, K2, K3, K4, K5, K6, K7, Ks, K9, Ka, Kr, Kz⟩ := o_1
  refine lv_iconst (v := 0) hx hb dX3_goThrough_0 (by decide) ?_
  have J2_3 : ∀ (n : Nat) (y_2 : Int32) (w_3 : Nat → Nat → Int64) (H : Heap) (locs : List Loc) (ls : Array Slot), (3 - (y_2).toInt).toNat < n → (cI v) → (fC 51 66 v w v w_3) → (cG sg) → (0 ≤ (y_2).toInt ∧ (y_2).toInt ≤ 3) → gS (gA G) G s v w_3 sg H locs → lv_has ls 4 [(0, .ref (G.2.2 (51))), (1, .int (p1)), (2, .ref (G.2.2 (o1))), (3, .int (y_2))] → W p l e R s m args below meth c H locs 0 0 Q (F0 m 2 ls []) := by
    intro n
    induction n with
    | zero => intro y_2 w_3 H locs ls hm; exact absurd hm (Nat.not_lt_zero _)
    | succ n ih2 =>
      intro y_2 w_3 H locs ls hm u_4 u_5 u_6 f_7 h hl
      have o_8 := u_4
      obtain ⟨K1, K2, K3, K4, K5, K6, K7, Ks, K9, Ka, Kr, Kz⟩ := o_8
      refine lv_iload_n hx hb dX3_goThrough_2 rfl (lv_at hl 3 rfl) ?_
      refine lv_iconst (v := 3) hx hb dX3_goThrough_3 (by decide) ?_
      refine lv_icmp_ge (tgt := 23) hx hb dX3_goThrough_4 (by decide) (fun c_9 => ?_) (fun c_9 => ?_)
      · have j_10 : 3 ≤ (y_2).toInt := (i_le (by decide) rfl).mp c_9
        refine lv_iconst (v := 0) hx hb dX3_goThrough_23 (by decide) ?_
        have J25_12 : ∀ (n : Nat) (y_11 : Int32) (w_12 : Nat → Nat → Int64) (H : Heap) (locs : List Loc) (ls : Array Slot), (A1 - (y_11).toInt).toNat < n → (cI v) → (fC 51 66 v w v w_12) → (cG sg) → (0 ≤ (y_11).toInt ∧ (y_11).toInt ≤ A1) → gS (gA G) G s v w_12 sg H locs → lv_has ls 4 [(0, .ref (G.2.2 (51))), (1, .int (p1)), (2, .ref (G.2.2 (o1))), (3, .int (y_11))] → W p l e R s m args below meth c H locs 0 0 Q (F0 m 25 ls []) := by
          intro n
          induction n with
          | zero => intro y_11 w_12 H locs ls hm; exact absurd hm (Nat.not_lt_zero _)
          | succ n ih25 =>
            intro y_11 w_12 H locs ls hm u_13 u_14 u_15 f_16 h hl
            have o_17 := u_13
            obtain ⟨K1, K2, K3, K4, K5, K6, K7, Ks, K9, Ka, Kr, Kz⟩ := o_17
            refine lv_iload_n hx hb dX3_goThrough_25 rfl (lv_at hl 3 rfl) ?_
            refine lv_iload_n hx hb dX3_goThrough_26 rfl (lv_at hl 1 rfl) ?_
            refine lv_icmp_ge (tgt := 42) hx hb dX3_goThrough_27 (by decide) (fun c_18 => ?_) (fun c_18 => ?_)
            · have j_19 : A1 ≤ (y_11).toInt := (i_le a1 rfl).mp c_18
              exact ret v w_12 sg _ _ _ _ dX3_goThrough_42 h ⟨⟨u_13, u_14⟩, rfl, rfl⟩
            · have j_19 : ¬ (A1 ≤ (y_11).toInt) := fun q => c_18 ((i_le a1 rfl).mpr q)
              refine lv_aload_n hx hb dX3_goThrough_30 rfl (lv_at hl 0 rfl) ?_
              refine lv_iload_n hx hb dX3_goThrough_31 rfl (lv_at hl 3 rfl) ?_
              refine lv_aload_n hx hb dX3_goThrough_32 rfl (lv_at hl 2 rfl) ?_
              refine g_callv C (va_runV (As := [.int (y_11), .ref (G.2.2 (o1))]) (rest := []) C.1 (c_X3_changeIfOn l G v w_12 sg y_11 (A1 := (y_11).toInt) rfl o1 (by omega) (by omega) Rd Rn u_13 u_15) (cwV 2 hts gX3_goThrough_X3_changeIfOn rfl rfl rfl (by decide +kernel) ⟨by rw [hR]; exact Nat.le_of_ble_eq_true rfl, by rw [hR]; exact Nat.le_of_ble_eq_true rfl⟩) ⟨gPre_blind, g_recv C h 51 (by decide) (ci := 3) rfl rfl, gS_pre C h _⟩ rfl rfl hl.1 rfl (lv_room (Nat.le_of_ble_eq_true rfl)) dX3_goThrough_33 ⟨Nat.zero_le _, Nat.zero_le _⟩) h (fun v_22 w_23 g_24 H locs p_21 h => ?_)
              obtain ⟨p_21, rfl, rfl⟩ := p_21
              have u_25 : cI v := p_21.1
              have u_26 : fC 51 66 v w v w_23 := fC_tr u_14 (fC_le p_21.2 (by decide))
              have u_27 : cG sg := u_15
              have o_28 := u_25
              obtain ⟨K1, K2, K3, K4, K5, K6, K7, Ks, K9, Ka, Kr, Kz⟩ := o_28
              obtain ⟨x_29, e_30⟩ : ∃ y : Int32, y = y_11 + 1 := ⟨_, rfl⟩
              have i_31 : x_29.toInt = (y_11).toInt + 1 := ia_add e_30 rfl (by decide) (by omega) (by omega)
              refine lv_iinc (v := x_29) (lv' := [(3, .int (x_29)), (0, .ref (G.2.2 (51))), (1, .int (p1)), (2, .ref (G.2.2 (o1)))]) hx hb dX3_goThrough_36 hl (k := 3) rfl (by rw [e_30]; rfl) (by decide) rfl (fun ls hl => ?_)
              refine lv_goto (tgt := 25) hx hb dX3_goThrough_39 (by decide) ?_
              exact ih25 x_29 w_23 _ _ _ (by omega) u_25 u_26 u_27 (by omega) h (lv_sub hl [1, 2, 3, 0] rfl)
        refine lv_istore_n (lv' := [(3, .int (0)), (0, .ref (G.2.2 (51))), (1, .int (p1)), (2, .ref (G.2.2 (o1)))]) hx hb dX3_goThrough_24 rfl hl (by decide) rfl (fun ls hl => ?_)
        exact J25_12 _ 0 w_3 _ _ _ (Nat.lt_succ_self _) u_4 u_5 u_6 (by omega) h (lv_sub hl [1, 2, 3, 0] rfl)
      · have j_10 : ¬ (3 ≤ (y_2).toInt) := fun q => c_9 ((i_le (by decide) rfl).mpr q)
        refine lv_aload_n hx hb dX3_goThrough_7 rfl (lv_at hl 2 rfl) ?_
        refine lv_iload_n hx hb dX3_goThrough_8 rfl (lv_at hl 3 rfl) ?_
        refine lv_aload_n hx hb dX3_goThrough_9 rfl (lv_at hl 0 rfl) ?_
        refine g_get (ci := 3) (x := .ref (G.2.2 (53))) C h 51 (by decide) rfl rfl hi3 2 (by decide) f21 rfl rfl dX3_goThrough_10 ?_
        refine lv_iload_n hx hb dX3_goThrough_13 rfl (lv_at hl 3 rfl) ?_
        refine g_iald C h 53 (by decide) (by decide) (n := 3) (by decide) (vp_of rfl (by omega) (by omega)) dX3_goThrough_14 ?_
        refine lv_topi (fun x_32 e_33 => ?_)
        have q_34 := i_rng x_32
        refine lv_i2l (v := (x_32 : Int32).toInt64) hx hb dX3_goThrough_15 rfl ?_
        refine g_last C h o1 (by omega) Rd (n := 3) Rn (vp_of rfl (by omega) (by omega)) dX3_goThrough_16 (fun H locs h => ?_)
        obtain ⟨w_35, hw_35⟩ : ∃ z, z = gul w_3 o1 ((y_2 : Int32).toNatClampNeg) ((x_32 : Int32).toInt64) := ⟨_, rfl⟩
        have h : gS (gA G) G s v w_35 sg H locs := by rw [hw_35]; exact h
        have u_36 : fC 51 66 v w v w_35 := by rw [hw_35]; exact (fC_w u_5 (by omega))
        obtain ⟨x_37, e_38⟩ : ∃ y : Int32, y = y_2 + 1 := ⟨_, rfl⟩
        have i_39 : x_37.toInt = (y_2).toInt + 1 := ia_add e_38 rfl (by decide) (by omega) (by omega)
        refine lv_iinc (v := x_37) (lv' := [(3, .int (x_37)), (0, .ref (G.2.2 (51))), (1, .int (p1)), (2, .ref (G.2.2 (o1)))]) hx hb dX3_goThrough_17 hl (k := 3) rfl (by rw [e_38]; rfl) (by decide) rfl (fun ls hl => ?_)
        refine lv_goto (tgt := 2) hx hb dX3_goThrough_20 (by decide) ?_
        exact ih2 x_37 w_35 _ _ _ (by omega) u_4 u_36 u_6 (by omega) h (lv_sub hl [1, 2, 3, 0] rfl)
  refine lv_istore_n (lv' := [(3, .int (0)), (0, .ref (G.2.2 (51))), (1, .int (p1)), (2, .ref (G.2.2 (o1)))]) hx hb dX3_goThrough_1 rfl hl (by decide) rfl (fun ls hl => ?_)
  exact J2_3 _ 0 w _ _ _ (Nat.lt_succ_self _) ci fC_rf cg (by omega) h (lv_sub hl [1, 2, 3, 0] rfl)

set_option maxHeartbeats 4000000 in
set_option maxRecDepth 100000 in
theorem c_X3_differ (l : Launch) (G : gG) (v : Nat → Nat → Int32) (w : Nat → Nat → Int64) (sg : Nat → Nat) (ci : cI v) : Met l yX3_differ wsX3_differ ({ frames := 0, cells := 0, slots := 0, locals := 0 }) (gPre G v w sg [.ref (G.2.2 (51))]) (gQi G (fun r v' w' sg' => ((r = 1 ∧ True) ∨ (r = 0 ∧ True)) ∧ v = v' ∧ w = w' ∧ sg = sg')) 0 0 (gA G) := by
  refine gM_ofz (cc := cX3_differ) (maxL := 1) (by decide) rfl (Nat.le_of_ble_eq_true rfl) ?_
  intro p e R s m args below meth c Q ls C hR ret h hl
  have hx := C.1.1
  have hb := C.1.2.1
  have hown := C.1.2.2.2.1
  have hts := C.1.2.2.2.2
  have hl : lv_has ls 1 [(0, .ref (G.2.2 (51)))] := hl
  have z_0 : (0 : Int32).toInt = 0 := by decide
  have z_1 : (1 : Int32).toInt = 1 := by decide
  have z_2 : (2 : Int32).toInt = 2 := by decide
  have f31 : Cond.fieldLink RX3 31 "WindHall$Corrections" "now" "[J" ∈ wsX3_differ := by decide +kernel
  have hi3 : ∀ x ∈ u_ws RX3 TX3 7, x ∈ wsX3_differ := fun x q => List.mem_cons_of_mem _ (List.mem_append_right _ q)
  have f35 : Cond.fieldLink RX3 35 "WindHall$Corrections" "other" "[J" ∈ wsX3_differ := by decide +kernel
  have o_1 := ci
  obtain ⟨K1, K2, K3, K4, K5, K6, K7, Ks, K9, Ka, Kr, Kz⟩ := o_1
  refine lv_aload_n hx hb dX3_differ_0 rfl (lv_at hl 0 rfl) ?_
  refine g_get (ci := 3) (x := .ref (G.2.2 (54))) C h 51 (by decide) rfl rfl hi3 5 (by decide) f31 rfl rfl dX3_differ_1 ?_
  refine lv_iconst (v := 0) hx hb dX3_differ_4 (by decide) ?_
  refine g_lald C h 54 (by decide) (by decide) (n := 3) (by decide) (vp_of (I := 0) (by decide) (by decide) (by decide)) dX3_differ_5 ?_
  refine lv_topl (fun x_2 e_3 => ?_)
  refine lv_aload_n hx hb dX3_differ_6 rfl (lv_at hl 0 rfl) ?_
  refine g_get (ci := 3) (x := .ref (G.2.2 (55))) C h 51 (by decide) rfl rfl hi3 6 (by decide) f35 rfl rfl dX3_differ_7 ?_
  refine lv_iconst (v := 0) hx hb dX3_differ_10 (by decide) ?_
  refine g_lald C h 55 (by decide) (by decide) (n := 3) (by decide) (vp_of (I := 0) (by decide) (by decide) (by decide)) dX3_differ_11 ?_
  refine lv_topl (fun x_4 e_5 => ?_)
  refine W.lcmp hx hb dX3_differ_12 ?_
  refine lv_if_ne (tgt := 48) hx hb dX3_differ_13 (by decide) (fun c_6 => ?_) (fun c_6 => ?_)
  · have j_7 : ¬ ((x_2).toInt = (x_4).toInt) := fun q => c_6 ((l_eq0 rfl rfl).mpr q)
    refine lv_iconst (v := 1) hx hb dX3_differ_48 (by decide) ?_
    refine lv_goto (tgt := 53) hx hb dX3_differ_49 (by decide) ?_
    exact ret 1 v w sg _ _ _ _ rfl dX3_differ_53 h ⟨Or.inl ⟨rfl, trivial⟩, rfl, rfl, rfl⟩
  · have j_7 : (x_2).toInt = (x_4).toInt := (l_eq0 rfl rfl).mp c_6
    refine lv_aload_n hx hb dX3_differ_16 rfl (lv_at hl 0 rfl) ?_
    refine g_get (ci := 3) (x := .ref (G.2.2 (54))) C h 51 (by decide) rfl rfl hi3 5 (by decide) f31 rfl rfl dX3_differ_17 ?_
    refine lv_iconst (v := 1) hx hb dX3_differ_20 (by decide) ?_
    refine g_lald C h 54 (by decide) (by decide) (n := 3) (by decide) (vp_of (I := 1) (by decide) (by decide) (by decide)) dX3_differ_21 ?_
    refine lv_topl (fun x_8 e_9 => ?_)
    refine lv_aload_n hx hb dX3_differ_22 rfl (lv_at hl 0 rfl) ?_
    refine g_get (ci := 3) (x := .ref (G.2.2 (55))) C h 51 (by decide) rfl rfl hi3 6 (by decide) f35 rfl rfl dX3_differ_23 ?_
    refine lv_iconst (v := 1) hx hb dX3_differ_26 (by decide) ?_
    refine g_lald C h 55 (by decide) (by decide) (n := 3) (by decide) (vp_of (I := 1) (by decide) (by decide) (by decide)) dX3_differ_27 ?_
    refine lv_topl (fun x_10 e_11 => ?_)
    refine W.lcmp hx hb dX3_differ_28 ?_
    refine lv_if_ne (tgt := 48) hx hb dX3_differ_29 (by decide) (fun c_12 => ?_) (fun c_12 => ?_)
    · have j_13 : ¬ ((x_8).toInt = (x_10).toInt) := fun q => c_12 ((l_eq0 rfl rfl).mpr q)
      refine lv_iconst (v := 1) hx hb dX3_differ_48 (by decide) ?_
      refine lv_goto (tgt := 53) hx hb dX3_differ_49 (by decide) ?_
      exact ret 1 v w sg _ _ _ _ rfl dX3_differ_53 h ⟨Or.inl ⟨rfl, trivial⟩, rfl, rfl, rfl⟩
    · have j_13 : (x_8).toInt = (x_10).toInt := (l_eq0 rfl rfl).mp c_12
      refine lv_aload_n hx hb dX3_differ_32 rfl (lv_at hl 0 rfl) ?_
      refine g_get (ci := 3) (x := .ref (G.2.2 (54))) C h 51 (by decide) rfl rfl hi3 5 (by decide) f31 rfl rfl dX3_differ_33 ?_
      refine lv_iconst (v := 2) hx hb dX3_differ_36 (by decide) ?_
      refine g_lald C h 54 (by decide) (by decide) (n := 3) (by decide) (vp_of (I := 2) (by decide) (by decide) (by decide)) dX3_differ_37 ?_
      refine lv_topl (fun x_14 e_15 => ?_)
      refine lv_aload_n hx hb dX3_differ_38 rfl (lv_at hl 0 rfl) ?_
      refine g_get (ci := 3) (x := .ref (G.2.2 (55))) C h 51 (by decide) rfl rfl hi3 6 (by decide) f35 rfl rfl dX3_differ_39 ?_
      refine lv_iconst (v := 2) hx hb dX3_differ_42 (by decide) ?_
      refine g_lald C h 55 (by decide) (by decide) (n := 3) (by decide) (vp_of (I := 2) (by decide) (by decide) (by decide)) dX3_differ_43 ?_
      refine lv_topl (fun x_16 e_17 => ?_)
      refine W.lcmp hx hb dX3_differ_44 ?_
      refine lv_if_eq (tgt := 52) hx hb dX3_differ_45 (by decide) (fun c_18 => ?_) (fun c_18 => ?_)
      · have j_19 : (x_14).toInt = (x_16).toInt := (l_eq0 rfl rfl).mp c_18
        refine lv_iconst (v := 0) hx hb dX3_differ_52 (by decide) ?_
        exact ret 0 v w sg _ _ _ _ rfl dX3_differ_53 h ⟨Or.inr ⟨rfl, trivial⟩, rfl, rfl, rfl⟩
      · have j_19 : ¬ ((x_14).toInt = (x_16).toInt) := fun q => c_18 ((l_eq0 rfl rfl).mpr q)
        refine lv_iconst (v := 1) hx hb dX3_differ_48 (by decide) ?_
        refine lv_goto (tgt := 53) hx hb dX3_differ_49 (by decide) ?_
        exact ret 1 v w sg _ _ _ _ rfl dX3_differ_53 h ⟨Or.inl ⟨rfl, trivial⟩, rfl, rfl, rfl⟩

set_option maxHeartbeats 4000000 in
set_option maxRecDepth 100000 in
theorem c_X3_isFelt (l : Launch) (G : gG) (v : Nat → Nat → Int32) (w : Nat → Nat → Int64) (sg : Nat → Nat) (p1 : Int32) {A1 : Int} (a1 : p1.toInt = A1) (b1 : 0 ≤ A1 ∧ A1 ≤ 9) (ci : cI v) (cg : cG sg) : Met l yX3_isFelt wsX3_isFelt ({ frames := 5, cells := 0, slots := 0, locals := 112 }) (gPre G v w sg [.ref (G.2.2 (51)), .int (p1)]) (gQi G (fun r v' w' sg' => (cI v ∧ fC 51 66 v w v w') ∧ v = v' ∧ sg = sg')) 0 0 (gA G) := by
  refine gM_ofz (cc := cX3_isFelt) (maxL := 2) (by decide) rfl (Nat.le_of_ble_eq_true rfl) ?_
  intro p e R s m args below meth c Q ls C hR ret h hl
  have hx := C.1.1
  have hb := C.1.2.1
  have hown := C.1.2.2.2.1
  have hts := C.1.2.2.2.2
  have hl : lv_has ls 2 [(0, .ref (G.2.2 (51))), (1, .int (p1))] := hl
  have q1 := i_rng p1; rw [a1] at q1
  have z_0 : (0 : Int32).toInt = 0 := by decide
  have z_1 : (1 : Int32).toInt = 1 := by decide
  have f31 : Cond.fieldLink RX3 31 "WindHall$Corrections" "now" "[J" ∈ wsX3_isFelt := by decide +kernel
  have hi3 : ∀ x ∈ u_ws RX3 TX3 7, x ∈ wsX3_isFelt := fun x q => List.mem_cons_of_mem _ (List.mem_append_left _ (List.mem_append_right _ q))
  have f35 : Cond.fieldLink RX3 35 "WindHall$Corrections" "other" "[J" ∈ wsX3_isFelt := by decide +kernel
  have f13 : Cond.fieldLink RX3 13 "WindHall$Corrections" "row" "[LWindHall$Correction;" ∈ wsX3_isFelt := by decide +kernel
  have f25 : Cond.fieldLink RX3 25 "WindHall$Corrections" "time" "I" ∈ wsX3_isFelt := by decide +kernel
  have f28 : Cond.fieldLink RX3 28 "WindHall$Corrections" "angle" "I" ∈ wsX3_isFelt := by decide +kernel
  have o_1 := ci
  obtain ⟨K1, K2, K3, K4, K5, K6, K7, Ks, K9, Ka, Kr, Kz⟩ := o_1
  refine lv_aload_n hx hb dX3_isFelt_0 rfl (lv_at hl 0 rfl) ?_
  refine lv_iload_n hx hb dX3_isFelt_1 rfl (lv_at hl 1 rfl) ?_
  refine lv_aload_n hx hb dX3_isFelt_2 rfl (lv_at hl 0 rfl) ?_
  refine g_get (ci := 3) (x := .ref (G.2.2 (54))) C h 51 (by decide) rfl rfl hi3 5 (by decide) f31 rfl rfl dX3_isFelt_3 ?_
  refine g_callv C (va_runV (As := [.int (p1), .ref (G.2.2 (54))]) (rest := []) C.1 (c_X3_goThrough l G v w sg p1 (A1 := A1) a1 54 (by omega) (by decide) (by decide) (by decide) ci cg) (cwV 2 hts gX3_isFelt_X3_goThrough rfl rfl rfl (by decide +kernel) ⟨by rw [hR]; exact Nat.le_of_ble_eq_true rfl, by rw [hR]; exact Nat.le_of_ble_eq_true rfl⟩) ⟨gPre_blind, g_recv C h 51 (by decide) (ci := 3) rfl rfl, gS_pre C h _⟩ rfl rfl hl.1 rfl (lv_room (Nat.le_of_ble_eq_true rfl)) dX3_isFelt_6 ⟨Nat.zero_le _, Nat.zero_le _⟩) h (fun v_4 w_5 g_6 H locs p_3 h => ?_)
  obtain ⟨p_3, rfl, rfl⟩ := p_3
  have u_7 : cI v := p_3.1
  have u_8 : fC 51 66 v w v w_5 := fC_tr fC_rf (fC_le p_3.2 (by decide))
  have u_9 : cG sg := cg
  have o_10 := u_7
  obtain ⟨K1, K2, K3, K4, K5, K6, K7, Ks, K9, Ka, Kr, Kz⟩ := o_10
  refine lv_aload_n hx hb dX3_isFelt_9 rfl (lv_at hl 0 rfl) ?_
  refine lv_iload_n hx hb dX3_isFelt_10 rfl (lv_at hl 1 rfl) ?_
  refine lv_aload_n hx hb dX3_isFelt_11 rfl (lv_at hl 0 rfl) ?_
  refine g_get (ci := 3) (x := .ref (G.2.2 (55))) C h 51 (by decide) rfl rfl hi3 6 (by decide) f35 rfl rfl dX3_isFelt_12 ?_
  refine g_callv C (va_runV (As := [.int (p1), .ref (G.2.2 (55))]) (rest := []) C.1 (c_X3_goThrough l G v w_5 sg p1 (A1 := A1) a1 55 (by omega) (by decide) (by decide) (by decide) u_7 u_9) (cwV 2 hts gX3_isFelt_X3_goThrough rfl rfl rfl (by decide +kernel) ⟨by rw [hR]; exact Nat.le_of_ble_eq_true rfl, by rw [hR]; exact Nat.le_of_ble_eq_true rfl⟩) ⟨gPre_blind, g_recv C h 51 (by decide) (ci := 3) rfl rfl, gS_pre C h _⟩ rfl rfl hl.1 rfl (lv_room (Nat.le_of_ble_eq_true rfl)) dX3_isFelt_15 ⟨Nat.zero_le _, Nat.zero_le _⟩) h (fun v_13 w_14 g_15 H locs p_12 h => ?_)
  obtain ⟨p_12, rfl, rfl⟩ := p_12
  have u_16 : cI v := p_12.1
  have u_17 : fC 51 66 v w v w_14 := fC_tr u_8 (fC_le p_12.2 (by decide))
  have u_18 : cG sg := u_9
  have o_19 := u_16
  obtain ⟨K1, K2, K3, K4, K5, K6, K7, Ks, K9, Ka, Kr, Kz⟩ := o_19
  refine lv_aload_n hx hb dX3_isFelt_18 rfl (lv_at hl 0 rfl) ?_
  refine g_get (ci := 3) (x := .ref (G.2.2 (52))) C h 51 (by decide) rfl rfl hi3 0 (by decide) f13 rfl rfl dX3_isFelt_19 ?_
  refine lv_iload_n hx hb dX3_isFelt_22 rfl (lv_at hl 1 rfl) ?_
  refine g_aald (ty := .object "WindHall$Correction") C h 52 (by decide) 2 (by decide) (n := 10) (by decide) rfl rfl (vp_of a1 (by omega) (by omega)) dX3_isFelt_23 ?_
  obtain ⟨q_20, q_20_e, q_20_l⟩ := g_row52 u_18 (i := p1) a1 (by omega) (by omega)
  rw [q_20_e]
  refine lv_aload_n hx hb dX3_isFelt_24 rfl (lv_at hl 0 rfl) ?_
  refine g_get (ci := 3) (x := .ref (G.2.2 (55))) C h 51 (by decide) rfl rfl hi3 6 (by decide) f35 rfl rfl dX3_isFelt_25 ?_
  refine lv_aload_n hx hb dX3_isFelt_28 rfl (lv_at hl 0 rfl) ?_
  refine g_geti (ci := 3) (x := v 51 3) C h 51 (by decide) rfl rfl hi3 3 (by decide) f25 rfl rfl rfl dX3_isFelt_29 ?_
  refine lv_aload_n hx hb dX3_isFelt_32 rfl (lv_at hl 0 rfl) ?_
  refine g_geti (ci := 3) (x := v 51 4) C h 51 (by decide) rfl rfl hi3 4 (by decide) f28 rfl rfl rfl dX3_isFelt_33 ?_
  refine g_callv C (va_runV (As := [.ref (G.2.2 (55)), .int (v 51 3), .int (v 51 4)]) (rest := []) C.1 (c_X2_change l G v w_14 sg q_20 55 (v 51 3) (A2 := (v 51 3).toInt) rfl (v 51 4) (A3 := (v 51 4).toInt) rfl (by omega) (by decide) (by decide) (by decide) u_16) (cwV 3 hts gX3_isFelt_X2_change rfl rfl rfl (by decide +kernel) ⟨by rw [hR]; exact Nat.le_of_ble_eq_true rfl, by rw [hR]; exact Nat.le_of_ble_eq_true rfl⟩) ⟨gPre_blind, g_recv C h q_20 (by omega) (ci := 2) (g_coe q_20_l) rfl, gS_pre C h _⟩ rfl rfl hl.1 rfl (lv_room (Nat.le_of_ble_eq_true rfl)) dX3_isFelt_36 ⟨Nat.zero_le _, Nat.zero_le _⟩) h (fun v_23 w_24 g_25 H locs p_22 h => ?_)
  obtain ⟨p_22, rfl, rfl⟩ := p_22
  have u_26 : cI v := p_22.1
  have u_27 : fC 51 66 v w v w_24 := fC_tr u_17 (fC_le p_22.2 (by decide))
  have u_28 : cG sg := u_18
  have o_29 := u_26
  obtain ⟨K1, K2, K3, K4, K5, K6, K7, Ks, K9, Ka, Kr, Kz⟩ := o_29
  refine lv_aload_n hx hb dX3_isFelt_39 rfl (lv_at hl 0 rfl) ?_
  refine g_calli C (va_runV (As := []) (rest := []) C.1 (c_X3_differ l G v w_24 sg  u_26) (cwV 0 hts gX3_isFelt_X3_differ rfl rfl rfl (by decide +kernel) ⟨by rw [hR]; exact Nat.le_of_ble_eq_true rfl, by rw [hR]; exact Nat.le_of_ble_eq_true rfl⟩) ⟨gPre_blind, g_recv C h 51 (by decide) (ci := 3) rfl rfl, gS_pre C h _⟩ rfl rfl hl.1 rfl (lv_room (Nat.le_of_ble_eq_true rfl)) dX3_isFelt_40 ⟨Nat.zero_le _, Nat.zero_le _⟩) h (fun r_30 v_32 w_33 g_34 H locs p_31 h => ?_)
  obtain ⟨p_31, rfl, rfl, rfl⟩ := p_31
  rcases p_31 with ⟨rfl, t_35⟩ | ⟨rfl, t_35⟩
  · skip
    exact ret 1 v w_24 sg _ _ _ _ rfl dX3_isFelt_43 h ⟨⟨u_26, u_27⟩, rfl, rfl⟩
  · skip
    exact ret 0 v w_24 sg _ _ _ _ rfl dX3_isFelt_43 h ⟨⟨u_26, u_27⟩, rfl, rfl⟩

set_option maxHeartbeats 4000000 in
set_option maxRecDepth 100000 in
theorem c_X3_isOrderFelt (l : Launch) (G : gG) (v : Nat → Nat → Int32) (w : Nat → Nat → Int64) (sg : Nat → Nat) (p1 : Int32) {A1 : Int} (a1 : p1.toInt = A1) (b1 : 0 ≤ A1 ∧ A1 ≤ 8) (ci : cI v) (cg : cG sg) : Met l yX3_isOrderFelt wsX3_isOrderFelt ({ frames := 5, cells := 0, slots := 0, locals := 112 }) (gPre G v w sg [.ref (G.2.2 (51)), .int (p1)]) (gQi G (fun r v' w' sg' => (cI v ∧ fC 51 66 v w v w') ∧ v = v' ∧ sg = sg')) 0 0 (gA G) := by
  refine gM_ofz (cc := cX3_isOrderFelt) (maxL := 2) (by decide) rfl (Nat.le_of_ble_eq_true rfl) ?_
  intro p e R s m args below meth c Q ls C hR ret h hl
  have hx := C.1.1
  have hb := C.1.2.1
  have hown := C.1.2.2.2.1
  have hts := C.1.2.2.2.2
  have hl : lv_has ls 2 [(0, .ref (G.2.2 (51))), (1, .int (p1))] := hl
  have q1 := i_rng p1; rw [a1] at q1
  have z_0 : (0 : Int32).toInt = 0 := by decide
  have z_1 : (1 : Int32).toInt = 1 := by decide
  have z_2 : (2 : Int32).toInt = 2 := by decide
  have f31 : Cond.fieldLink RX3 31 "WindHall$Corrections" "now" "[J" ∈ wsX3_isOrderFelt := by decide +kernel
  have hi3 : ∀ x ∈ u_ws RX3 TX3 7, x ∈ wsX3_isOrderFelt := fun x q => List.mem_cons_of_mem _ (List.mem_append_left _ (List.mem_append_right _ q))
  have f35 : Cond.fieldLink RX3 35 "WindHall$Corrections" "other" "[J" ∈ wsX3_isOrderFelt := by decide +kernel
  have o_1 := ci
  obtain ⟨K1, K2, K3, K4, K5, K6, K7, Ks, K9, Ka, Kr, Kz⟩ := o_1
  refine lv_aload_n hx hb dX3_isOrderFelt_0 rfl (lv_at hl 0 rfl) ?_
  refine lv_iload_n hx hb dX3_isOrderFelt_1 rfl (lv_at hl 1 rfl) ?_
  refine lv_iconst (v := 2) hx hb dX3_isOrderFelt_2 (by decide) ?_
  refine lv_iadd hx hb dX3_isOrderFelt_3 ?_
  refine lv_topi (fun x_2 e_3 => ?_)
  have i_4 : x_2.toInt = A1 + 2 := ia_add e_3 a1 (by decide) (by omega) (by omega)
  refine lv_aload_n hx hb dX3_isOrderFelt_4 rfl (lv_at hl 0 rfl) ?_
  refine g_get (ci := 3) (x := .ref (G.2.2 (54))) C h 51 (by decide) rfl rfl hi3 5 (by decide) f31 rfl rfl dX3_isOrderFelt_5 ?_
  refine g_callv C (va_runV (As := [.int (x_2), .ref (G.2.2 (54))]) (rest := []) C.1 (c_X3_goThrough l G v w sg x_2 (A1 := (A1 + 2)) i_4 54 (by omega) (by decide) (by decide) (by decide) ci cg) (cwV 2 hts gX3_isOrderFelt_X3_goThrough rfl rfl rfl (by decide +kernel) ⟨by rw [hR]; exact Nat.le_of_ble_eq_true rfl, by rw [hR]; exact Nat.le_of_ble_eq_true rfl⟩) ⟨gPre_blind, g_recv C h 51 (by decide) (ci := 3) rfl rfl, gS_pre C h _⟩ rfl rfl hl.1 rfl (lv_room (Nat.le_of_ble_eq_true rfl)) dX3_isOrderFelt_8 ⟨Nat.zero_le _, Nat.zero_le _⟩) h (fun v_7 w_8 g_9 H locs p_6 h => ?_)
  obtain ⟨p_6, rfl, rfl⟩ := p_6
  have u_10 : cI v := p_6.1
  have u_11 : fC 51 66 v w v w_8 := fC_tr fC_rf (fC_le p_6.2 (by decide))
  have u_12 : cG sg := cg
  have o_13 := u_10
  obtain ⟨K1, K2, K3, K4, K5, K6, K7, Ks, K9, Ka, Kr, Kz⟩ := o_13
  refine lv_aload_n hx hb dX3_isOrderFelt_11 rfl (lv_at hl 0 rfl) ?_
  refine lv_iload_n hx hb dX3_isOrderFelt_12 rfl (lv_at hl 1 rfl) ?_
  refine lv_aload_n hx hb dX3_isOrderFelt_13 rfl (lv_at hl 0 rfl) ?_
  refine g_get (ci := 3) (x := .ref (G.2.2 (55))) C h 51 (by decide) rfl rfl hi3 6 (by decide) f35 rfl rfl dX3_isOrderFelt_14 ?_
  refine g_callv C (va_runV (As := [.int (p1), .ref (G.2.2 (55))]) (rest := []) C.1 (c_X3_goThrough l G v w_8 sg p1 (A1 := A1) a1 55 (by omega) (by decide) (by decide) (by decide) u_10 u_12) (cwV 2 hts gX3_isOrderFelt_X3_goThrough rfl rfl rfl (by decide +kernel) ⟨by rw [hR]; exact Nat.le_of_ble_eq_true rfl, by rw [hR]; exact Nat.le_of_ble_eq_true rfl⟩) ⟨gPre_blind, g_recv C h 51 (by decide) (ci := 3) rfl rfl, gS_pre C h _⟩ rfl rfl hl.1 rfl (lv_room (Nat.le_of_ble_eq_true rfl)) dX3_isOrderFelt_17 ⟨Nat.zero_le _, Nat.zero_le _⟩) h (fun v_16 w_17 g_18 H locs p_15 h => ?_)
  obtain ⟨p_15, rfl, rfl⟩ := p_15
  have u_19 : cI v := p_15.1
  have u_20 : fC 51 66 v w v w_17 := fC_tr u_11 (fC_le p_15.2 (by decide))
  have u_21 : cG sg := u_12
  have o_22 := u_19
  obtain ⟨K1, K2, K3, K4, K5, K6, K7, Ks, K9, Ka, Kr, Kz⟩ := o_22
  refine lv_aload_n hx hb dX3_isOrderFelt_20 rfl (lv_at hl 0 rfl) ?_
  refine lv_iload_n hx hb dX3_isOrderFelt_21 rfl (lv_at hl 1 rfl) ?_
  refine lv_iconst (v := 1) hx hb dX3_isOrderFelt_22 (by decide) ?_
  refine lv_iadd hx hb dX3_isOrderFelt_23 ?_
  refine lv_topi (fun x_23 e_24 => ?_)
  have i_25 : x_23.toInt = A1 + 1 := ia_add e_24 a1 (by decide) (by omega) (by omega)
  refine lv_aload_n hx hb dX3_isOrderFelt_24 rfl (lv_at hl 0 rfl) ?_
  refine g_get (ci := 3) (x := .ref (G.2.2 (55))) C h 51 (by decide) rfl rfl hi3 6 (by decide) f35 rfl rfl dX3_isOrderFelt_25 ?_
  refine g_callv C (va_runV (As := [.int (x_23), .ref (G.2.2 (55))]) (rest := []) C.1 (c_X3_changeIfOn l G v w_17 sg x_23 (A1 := (A1 + 1)) i_25 55 (by omega) (by decide) (by decide) (by decide) u_19 u_21) (cwV 2 hts gX3_isOrderFelt_X3_changeIfOn rfl rfl rfl (by decide +kernel) ⟨by rw [hR]; exact Nat.le_of_ble_eq_true rfl, by rw [hR]; exact Nat.le_of_ble_eq_true rfl⟩) ⟨gPre_blind, g_recv C h 51 (by decide) (ci := 3) rfl rfl, gS_pre C h _⟩ rfl rfl hl.1 rfl (lv_room (Nat.le_of_ble_eq_true rfl)) dX3_isOrderFelt_28 ⟨Nat.zero_le _, Nat.zero_le _⟩) h (fun v_28 w_29 g_30 H locs p_27 h => ?_)
  obtain ⟨p_27, rfl, rfl⟩ := p_27
  have u_31 : cI v := p_27.1
  have u_32 : fC 51 66 v w v w_29 := fC_tr u_20 (fC_le p_27.2 (by decide))
  have u_33 : cG sg := u_21
  have o_34 := u_31
  obtain ⟨K1, K2, K3, K4, K5, K6, K7, Ks, K9, Ka, Kr, Kz⟩ := o_34
  refine lv_aload_n hx hb dX3_isOrderFelt_31 rfl (lv_at hl 0 rfl) ?_
  refine lv_iload_n hx hb dX3_isOrderFelt_32 rfl (lv_at hl 1 rfl) ?_
  refine lv_aload_n hx hb dX3_isOrderFelt_33 rfl (lv_at hl 0 rfl) ?_
  refine g_get (ci := 3) (x := .ref (G.2.2 (55))) C h 51 (by decide) rfl rfl hi3 6 (by decide) f35 rfl rfl dX3_isOrderFelt_34 ?_
  refine g_callv C (va_runV (As := [.int (p1), .ref (G.2.2 (55))]) (rest := []) C.1 (c_X3_changeIfOn l G v w_29 sg p1 (A1 := A1) a1 55 (by omega) (by decide) (by decide) (by decide) u_31 u_33) (cwV 2 hts gX3_isOrderFelt_X3_changeIfOn rfl rfl rfl (by decide +kernel) ⟨by rw [hR]; exact Nat.le_of_ble_eq_true rfl, by rw [hR]; exact Nat.le_of_ble_eq_true rfl⟩) ⟨gPre_blind, g_recv C h 51 (by decide) (ci := 3) rfl rfl, gS_pre C h _⟩ rfl rfl hl.1 rfl (lv_room (Nat.le_of_ble_eq_true rfl)) dX3_isOrderFelt_37 ⟨Nat.zero_le _, Nat.zero_le _⟩) h (fun v_37 w_38 g_39 H locs p_36 h => ?_)
  obtain ⟨p_36, rfl, rfl⟩ := p_36
  have u_40 : cI v := p_36.1
  have u_41 : fC 51 66 v w v w_38 := fC_tr u_32 (fC_le p_36.2 (by decide))
  have u_42 : cG sg := u_33
  have o_43 := u_40
  obtain ⟨K1, K2, K3, K4, K5, K6, K7, Ks, K9, Ka, Kr, Kz⟩ := o_43
  refine lv_aload_n hx hb dX3_isOrderFelt_40 rfl (lv_at hl 0 rfl) ?_
  refine g_calli C (va_runV (As := []) (rest := []) C.1 (c_X3_differ l G v w_38 sg  u_40) (cwV 0 hts gX3_isOrderFelt_X3_differ rfl rfl rfl (by decide +kernel) ⟨by rw [hR]; exact Nat.le_of_ble_eq_true rfl, by rw [hR]; exact Nat.le_of_ble_eq_true rfl⟩) ⟨gPre_blind, g_recv C h 51 (by decide) (ci := 3) rfl rfl, gS_pre C h _⟩ rfl rfl hl.1 rfl (lv_room (Nat.le_of_ble_eq_true rfl)) dX3_isOrderFelt_41 ⟨Nat.zero_le _, Nat.zero_le _⟩) h (fun r_44 v_46 w_47 g_48 H locs p_45 h => ?_)
  obtain ⟨p_45, rfl, rfl, rfl⟩ := p_45
  rcases p_45 with ⟨rfl, t_49⟩ | ⟨rfl, t_49⟩
  · skip
    exact ret 1 v w_38 sg _ _ _ _ rfl dX3_isOrderFelt_44 h ⟨⟨u_40, u_41⟩, rfl, rfl⟩
  · skip
    exact ret 0 v w_38 sg _ _ _ _ rfl dX3_isOrderFelt_44 h ⟨⟨u_40, u_41⟩, rfl, rfl⟩

set_option maxHeartbeats 4000000 in
set_option maxRecDepth 100000 in
theorem c_X9_correct (l : Launch) (G : gG) (v : Nat → Nat → Int32) (w : Nat → Nat → Int64) (sg : Nat → Nat) (p1 : Int32) {A1 : Int} (a1 : p1.toInt = A1) (p2 : Int32) {A2 : Int} (a2 : p2.toInt = A2) (p3 : Int32) {A3 : Int} (a3 : p3.toInt = A3) (p4 : Int32) {A4 : Int} (a4 : p4.toInt = A4) (ci : cI v) (cg : cG sg) : Met l yX9_correct wsX9_correct ({ frames := 2, cells := 0, slots := 0, locals := 48 }) (gPre G v w sg [.ref (G.2.2 (0)), .int (p1), .int (p2), .int (p3), .int (p4)]) (gQi G (fun r v' w' sg' => (cI v' ∧ fC 51 66 v w v' w) ∧ w = w' ∧ sg = sg')) 0 0 (gA G) := by
  refine gM_ofi (cc := cX9_correct) (maxL := 5) (by decide) rfl (Nat.le_of_ble_eq_true rfl) ?_
  intro p e R s m args below meth c Q ls C hR ret h hl
  have hx := C.1.1
  have hb := C.1.2.1
  have hown := C.1.2.2.2.1
  have hts := C.1.2.2.2.2
  have hl : lv_has ls 5 [(0, .ref (G.2.2 (0))), (1, .int (p1)), (2, .int (p2)), (3, .int (p3)), (4, .int (p4))] := hl
  have q1 := i_rng p1; rw [a1] at q1
  have q2 := i_rng p2; rw [a2] at q2
  have q3 := i_rng p3; rw [a3] at q3
  have q4 := i_rng p4; rw [a4] at q4
  have z_m3 : ((-3) : Int32).toInt = (-3) := by decide
  have z_m1 : ((-1) : Int32).toInt = (-1) := by decide
  have z_0 : (0 : Int32).toInt = 0 := by decide
  have z_1 : (1 : Int32).toInt = 1 := by decide
  have z_10 : (10 : Int32).toInt = 10 := by decide
  have f26 : Cond.fieldLink RX9 26 "WindHall" "corrections" "LWindHall$Corrections;" ∈ wsX9_correct := by decide +kernel
  have hi9 : ∀ x ∈ u_ws RX9 TX9 7, x ∈ wsX9_correct := fun x q => List.mem_cons_of_mem _ (List.mem_append_left _ (List.mem_append_left _ (List.mem_append_right _ q)))
  have f128 : Cond.fieldLink RX9 128 "WindHall$Corrections" "count" "I" ∈ wsX9_correct := by decide +kernel
  have hi3 : ∀ x ∈ u_ws RX3 TX3 7, x ∈ wsX9_correct := fun x q => List.mem_cons_of_mem _ (List.mem_append_left _ (List.mem_append_right _ q))
  have o_1 := ci
  obtain ⟨K1, K2, K3, K4, K5, K6, K7, Ks, K9, Ka, Kr, Kz⟩ := o_1
  refine lv_iload_n hx hb dX9_correct_0 rfl (lv_at hl 1 rfl) ?_
  refine lv_iload_n hx hb dX9_correct_1 rfl (lv_at hl 2 rfl) ?_
  refine lv_iload_n hx hb dX9_correct_2 rfl (lv_at hl 3 rfl) ?_
  refine lv_iload hx hb dX9_correct_3 (lv_at hl 4 rfl) ?_
  refine g_calli C (va_runS (As := [.int (p1), .int (p2), .int (p3), .int (p4)]) (rest := []) C.1 (c_X2_isAsTold l G v w sg p1 (A0 := A1) a1 p2 (A1 := A2) a2 p3 (A2 := A3) a3 p4 (A3 := A4) a4 ci) (va_cwS 4 hts gX9_correct_X2_isAsTold rfl rfl rfl (by decide +kernel) ⟨by rw [hR]; exact Nat.le_of_ble_eq_true rfl, by rw [hR]; exact Nat.le_of_ble_eq_true rfl⟩) ⟨gPre_blind, gS_pre C h _⟩ rfl rfl hl.1 rfl (lv_room (Nat.le_of_ble_eq_true rfl)) dX9_correct_5 ⟨Nat.zero_le _, Nat.zero_le _⟩) h (fun r_2 v_4 w_5 g_6 H locs p_3 h => ?_)
  obtain ⟨p_3, rfl, rfl, rfl⟩ := p_3
  rcases p_3 with ⟨rfl, t_7⟩ | ⟨rfl, t_7⟩
  · skip
    refine lv_if_ne (tgt := 13) hx hb dX9_correct_8 (by decide) (fun _ => ?_) (fun c_8 => absurd c_8 (by decide))
    refine lv_aload_n hx hb dX9_correct_13 rfl (lv_at hl 0 rfl) ?_
    refine g_get (ci := 9) (x := .ref (G.2.2 (51))) C h 0 (by decide) rfl rfl hi9 2 (by decide) f26 rfl rfl dX9_correct_14 ?_
    refine g_geti (ci := 3) (x := v 51 1) C h 51 (by decide) rfl rfl hi3 1 (by decide) f128 rfl rfl rfl dX9_correct_17 ?_
    refine lv_bipush (v := 10) hx hb dX9_correct_20 (by decide) ?_
    refine lv_icmp_lt (tgt := 30) hx hb dX9_correct_22 (by decide) (fun c_9 => ?_) (fun c_9 => ?_)
    · have j_10 : (v 51 1).toInt < 10 := (i_lt rfl (by decide)).mp c_9
      refine lv_aload_n hx hb dX9_correct_30 rfl (lv_at hl 0 rfl) ?_
      refine g_get (ci := 9) (x := .ref (G.2.2 (51))) C h 0 (by decide) rfl rfl hi9 2 (by decide) f26 rfl rfl dX9_correct_31 ?_
      refine lv_iload_n hx hb dX9_correct_34 rfl (lv_at hl 1 rfl) ?_
      refine lv_iload_n hx hb dX9_correct_35 rfl (lv_at hl 2 rfl) ?_
      refine lv_iload_n hx hb dX9_correct_36 rfl (lv_at hl 3 rfl) ?_
      refine lv_iload hx hb dX9_correct_37 (lv_at hl 4 rfl) ?_
      refine g_calli C (va_runV (As := [.int (p1), .int (p2), .int (p3), .int (p4)]) (rest := []) C.1 (c_X3_append l G v w sg p1 (A1 := A1) a1 p2 (A2 := A2) a2 p3 (A3 := A3) a3 p4 (A4 := A4) a4 (by omega) ci cg) (cwV 4 hts gX9_correct_X3_append rfl rfl rfl (by decide +kernel) ⟨by rw [hR]; exact Nat.le_of_ble_eq_true rfl, by rw [hR]; exact Nat.le_of_ble_eq_true rfl⟩) ⟨gPre_blind, g_recv C h 51 (by decide) (ci := 3) rfl rfl, gS_pre C h _⟩ rfl rfl hl.1 rfl (lv_room (Nat.le_of_ble_eq_true rfl)) dX9_correct_39 ⟨Nat.zero_le _, Nat.zero_le _⟩) h (fun r_11 v_13 w_14 g_15 H locs p_12 h => ?_)
      obtain ⟨p_12, rfl, rfl⟩ := p_12
      have u_16 : cI v_13 := p_12.1
      have u_17 : fC 51 66 v w v_13 w := fC_tr fC_rf (fC_le p_12.2 (by decide))
      have u_18 : cG sg := cg
      have o_19 := u_16
      obtain ⟨K1, K2, K3, K4, K5, K6, K7, Ks, K9, Ka, Kr, Kz⟩ := o_19
      exact ret r_11 v_13 w sg _ _ _ _ dX9_correct_42 h ⟨⟨u_16, u_17⟩, rfl, rfl⟩
    · have j_10 : ¬ ((v 51 1).toInt < 10) := fun q => c_9 ((i_lt rfl (by decide)).mpr q)
      refine lv_bipush (v := (-3)) hx hb dX9_correct_25 (by decide) ?_
      refine lv_goto (tgt := 42) hx hb dX9_correct_27 (by decide) ?_
      exact ret (-3) v w sg _ _ _ _ dX9_correct_42 h ⟨⟨ci, fC_rf⟩, rfl, rfl⟩
  · skip
    refine lv_if_ne (tgt := 13) hx hb dX9_correct_8 (by decide) (fun c_20 => absurd (by decide) c_20) (fun _ => ?_)
    refine lv_iconst (v := (-1)) hx hb dX9_correct_11 (by decide) ?_
    exact ret (-1) v w sg _ _ _ _ dX9_correct_12 h ⟨⟨ci, fC_rf⟩, rfl, rfl⟩

set_option maxHeartbeats 4000000 in
set_option maxRecDepth 100000 in
theorem c_X9_turn (l : Launch) (G : gG) (v : Nat → Nat → Int32) (w : Nat → Nat → Int64) (sg : Nat → Nat) (p1 : Int32) {A1 : Int} (a1 : p1.toInt = A1) (p2 : Int32) {A2 : Int} (a2 : p2.toInt = A2) (bz : A2 = 0 ∨ A2 = 1) (ci : cI v) (cg : cG sg) : Met l yX9_turn wsX9_turn ({ frames := 1, cells := 0, slots := 0, locals := 21 }) (gPre G v w sg [.ref (G.2.2 (0)), .int (p1), .int (p2)]) (gQi G (fun r v' w' sg' => (cI v' ∧ fC 51 66 v w v' w) ∧ w = w' ∧ sg = sg')) 0 0 (gA G) := by
  refine gM_ofi (cc := cX9_turn) (maxL := 4) (by decide) rfl (Nat.le_of_ble_eq_true rfl) ?_
  intro p e R s m args below meth c Q ls C hR ret h hl
  have hx := C.1.1
  have hb := C.1.2.1
  have hown := C.1.2.2.2.1
  have hts := C.1.2.2.2.2
  have hl : lv_has ls 4 [(0, .ref (G.2.2 (0))), (1, .int (p1)), (2, .int (p2))] := hl
  have q1 := i_rng p1; rw [a1] at q1
  have q2 := i_rng p2; rw [a2] at q2
  have z_m1 : ((-1) : Int32).toInt = (-1) := by decide
  have z_0 : (0 : Int32).toInt = 0 := by decide
  have z_1 : (1 : Int32).toInt = 1 := by decide
  have f26 : Cond.fieldLink RX9 26 "WindHall" "corrections" "LWindHall$Corrections;" ∈ wsX9_turn := by decide +kernel
  have hi9 : ∀ x ∈ u_ws RX9 TX9 7, x ∈ wsX9_turn := fun x q => List.mem_cons_of_mem _ (List.mem_append_left _ (List.mem_append_left _ (List.mem_append_right _ q)))
  have f128 : Cond.fieldLink RX9 128 "WindHall$Corrections" "count" "I" ∈ wsX9_turn := by decide +kernel
  have hi3 : ∀ x ∈ u_ws RX3 TX3 7, x ∈ wsX9_turn := fun x q => List.mem_cons_of_mem _ (List.mem_append_left _ (List.mem_append_right _ q))
  have f132 : Cond.fieldLink RX9 132 "WindHall$Corrections" "row" "[LWindHall$Correction;" ∈ wsX9_turn := by decide +kernel
  have f136 : Cond.fieldLink RX9 136 "WindHall$Correction" "on" "Z" ∈ wsX9_turn := by decide +kernel
  have hi2 : ∀ x ∈ u_ws RX2 TX2 5, x ∈ wsX9_turn := fun x q => List.mem_cons_of_mem _ (List.mem_append_right _ q)
  have o_1 := ci
  obtain ⟨K1, K2, K3, K4, K5, K6, K7, Ks, K9, Ka, Kr, Kz⟩ := o_1
  refine lv_iload_n hx hb dX9_turn_0 rfl (lv_at hl 1 rfl) ?_
  refine lv_aload_n hx hb dX9_turn_1 rfl (lv_at hl 0 rfl) ?_
  refine g_get (ci := 9) (x := .ref (G.2.2 (51))) C h 0 (by decide) rfl rfl hi9 2 (by decide) f26 rfl rfl dX9_turn_2 ?_
  refine g_geti (ci := 3) (x := v 51 1) C h 51 (by decide) rfl rfl hi3 1 (by decide) f128 rfl rfl rfl dX9_turn_5 ?_
  refine g_calli C (va_runS (As := [.int (p1), .int (v 51 1)]) (rest := []) C.1 (c_X9_isIndex l G v w sg p1 (A0 := A1) a1 (v 51 1) (A1 := (v 51 1).toInt) rfl) (va_cwS 2 hts gX9_turn_X9_isIndex rfl rfl rfl (by decide +kernel) ⟨by rw [hR]; exact Nat.le_of_ble_eq_true rfl, by rw [hR]; exact Nat.le_of_ble_eq_true rfl⟩) ⟨gPre_blind, gS_pre C h _⟩ rfl rfl hl.1 rfl (lv_room (Nat.le_of_ble_eq_true rfl)) dX9_turn_8 ⟨Nat.zero_le _, Nat.zero_le _⟩) h (fun r_2 v_4 w_5 g_6 H locs p_3 h => ?_)
  obtain ⟨p_3, rfl, rfl, rfl⟩ := p_3
  rcases p_3 with ⟨rfl, t_7⟩ | ⟨rfl, t_7⟩
  · skip
    refine lv_if_ne (tgt := 16) hx hb dX9_turn_11 (by decide) (fun _ => ?_) (fun c_8 => absurd c_8 (by decide))
    refine lv_aload_n hx hb dX9_turn_16 rfl (lv_at hl 0 rfl) ?_
    refine g_get (ci := 9) (x := .ref (G.2.2 (51))) C h 0 (by decide) rfl rfl hi9 2 (by decide) f26 rfl rfl dX9_turn_17 ?_
    refine g_get (ci := 3) (x := .ref (G.2.2 (52))) C h 51 (by decide) rfl rfl hi3 0 (by decide) f132 rfl rfl dX9_turn_20 ?_
    refine lv_iload_n hx hb dX9_turn_23 rfl (lv_at hl 1 rfl) ?_
    refine g_aald (ty := .object "WindHall$Correction") C h 52 (by decide) 2 (by decide) (n := 10) (by decide) rfl rfl (vp_of a1 (by omega) (by omega)) dX9_turn_24 ?_
    obtain ⟨q_9, q_9_e, q_9_l⟩ := g_row52 cg (i := p1) a1 (by omega) (by omega)
    rw [q_9_e]
    refine g_geti (ci := 2) (x := v q_9 0) C h q_9 (by omega) (g_coe q_9_l) rfl hi2 0 (by decide) f136 rfl rfl rfl dX9_turn_25 ?_
    refine lv_istore_n (lv' := [(3, .int (v q_9 0)), (0, .ref (G.2.2 (0))), (1, .int (p1)), (2, .int (p2))]) hx hb dX9_turn_28 rfl hl (by decide) rfl (fun ls hl => ?_)
    refine lv_aload_n hx hb dX9_turn_29 rfl (lv_at hl 1 rfl) ?_
    refine g_get (ci := 9) (x := .ref (G.2.2 (51))) C h 0 (by decide) rfl rfl hi9 2 (by decide) f26 rfl rfl dX9_turn_30 ?_
    refine g_get (ci := 3) (x := .ref (G.2.2 (52))) C h 51 (by decide) rfl rfl hi3 0 (by decide) f132 rfl rfl dX9_turn_33 ?_
    refine lv_iload_n hx hb dX9_turn_36 rfl (lv_at hl 2 rfl) ?_
    refine g_aald (ty := .object "WindHall$Correction") C h 52 (by decide) 2 (by decide) (n := 10) (by decide) rfl rfl (vp_of a1 (by omega) (by omega)) dX9_turn_37 ?_
    obtain ⟨q_10, q_10_e, q_10_l⟩ := g_row52 cg (i := p1) a1 (by omega) (by omega)
    rw [q_10_e]
    refine lv_iload_n hx hb dX9_turn_38 rfl (lv_at hl 3 rfl) ?_
    refine g_put (ci := 2) (x := p2) (ty := .boolean) C h q_10 (by omega) (g_coe q_10_l) rfl hi2 tyX2 tyX2_ok nmX2 0 (by decide) f136 rfl rfl (by decide +kernel) (nb_of (by omega)) (fb_of (by omega)) (Nat.le_of_ble_eq_true rfl) (g_cos q_10_l (by decide) p2) dX9_turn_39 (fun H locs h => ?_)
    obtain ⟨v_11, hv_11⟩ : ∃ z, z = gu v q_10 0 p2 := ⟨_, rfl⟩
    have h : gS (gA G) G s v_11 w sg H locs := by rw [hv_11]; exact h
    have u_12 : cI v_11 := by rw [hv_11]; exact (cI_o ci (by omega))
    have u_13 : fC 51 66 v w v_11 w := by rw [hv_11]; exact (fC_v fC_rf (by omega))
    refine lv_iload_n hx hb dX9_turn_42 rfl (lv_at hl 0 rfl) ?_
    refine lv_if_eq (tgt := 50) hx hb dX9_turn_43 (by decide) (fun c_14 => ?_) (fun c_14 => ?_)
    · have j_15 : (v q_9 0).toInt = 0 := (i_eq rfl (by decide)).mp c_14
      refine lv_iconst (v := 0) hx hb dX9_turn_50 (by decide) ?_
      exact ret 0 v_11 w sg _ _ _ _ dX9_turn_51 h ⟨⟨u_12, u_13⟩, rfl, rfl⟩
    · have j_15 : ¬ ((v q_9 0).toInt = 0) := fun q => c_14 ((i_eq rfl (by decide)).mpr q)
      refine lv_iconst (v := 1) hx hb dX9_turn_46 (by decide) ?_
      refine lv_goto (tgt := 51) hx hb dX9_turn_47 (by decide) ?_
      exact ret 1 v_11 w sg _ _ _ _ dX9_turn_51 h ⟨⟨u_12, u_13⟩, rfl, rfl⟩
  · skip
    refine lv_if_ne (tgt := 16) hx hb dX9_turn_11 (by decide) (fun c_16 => absurd (by decide) c_16) (fun _ => ?_)
    refine lv_iconst (v := (-1)) hx hb dX9_turn_14 (by decide) ?_
    exact ret (-1) v w sg _ _ _ _ dX9_turn_15 h ⟨⟨ci, fC_rf⟩, rfl, rfl⟩

set_option maxHeartbeats 4000000 in
set_option maxRecDepth 100000 in
theorem c_X9_swap (l : Launch) (G : gG) (v : Nat → Nat → Int32) (w : Nat → Nat → Int64) (sg : Nat → Nat) (p1 : Int32) {A1 : Int} (a1 : p1.toInt = A1) (ci : cI v) (cg : cG sg) : Met l yX9_swap wsX9_swap ({ frames := 1, cells := 0, slots := 0, locals := 21 }) (gPre G v w sg [.ref (G.2.2 (0)), .int (p1)]) (gQi G (fun r v' w' sg' => (cI v ∧ fC 51 66 v w v w ∧ cG sg') ∧ v = v' ∧ w = w')) 0 0 (gA G) := by
  refine gM_ofi (cc := cX9_swap) (maxL := 3) (by decide) rfl (Nat.le_of_ble_eq_true rfl) ?_
  intro p e R s m args below meth c Q ls C hR ret h hl
  have hx := C.1.1
  have hb := C.1.2.1
  have hown := C.1.2.2.2.1
  have hts := C.1.2.2.2.2
  have hl : lv_has ls 3 [(0, .ref (G.2.2 (0))), (1, .int (p1))] := hl
  have q1 := i_rng p1; rw [a1] at q1
  have z_m1 : ((-1) : Int32).toInt = (-1) := by decide
  have z_0 : (0 : Int32).toInt = 0 := by decide
  have z_1 : (1 : Int32).toInt = 1 := by decide
  have f26 : Cond.fieldLink RX9 26 "WindHall" "corrections" "LWindHall$Corrections;" ∈ wsX9_swap := by decide +kernel
  have hi9 : ∀ x ∈ u_ws RX9 TX9 7, x ∈ wsX9_swap := fun x q => List.mem_cons_of_mem _ (List.mem_append_left _ (List.mem_append_right _ q))
  have f128 : Cond.fieldLink RX9 128 "WindHall$Corrections" "count" "I" ∈ wsX9_swap := by decide +kernel
  have hi3 : ∀ x ∈ u_ws RX3 TX3 7, x ∈ wsX9_swap := fun x q => List.mem_cons_of_mem _ (List.mem_append_right _ q)
  have f132 : Cond.fieldLink RX9 132 "WindHall$Corrections" "row" "[LWindHall$Correction;" ∈ wsX9_swap := by decide +kernel
  have o_1 := ci
  obtain ⟨K1, K2, K3, K4, K5, K6, K7, Ks, K9, Ka, Kr, Kz⟩ := o_1
  refine lv_iload_n hx hb dX9_swap_0 rfl (lv_at hl 1 rfl) ?_
  refine lv_aload_n hx hb dX9_swap_1 rfl (lv_at hl 0 rfl) ?_
  refine g_get (ci := 9) (x := .ref (G.2.2 (51))) C h 0 (by decide) rfl rfl hi9 2 (by decide) f26 rfl rfl dX9_swap_2 ?_
  refine g_geti (ci := 3) (x := v 51 1) C h 51 (by decide) rfl rfl hi3 1 (by decide) f128 rfl rfl rfl dX9_swap_5 ?_
  refine lv_iconst (v := 1) hx hb dX9_swap_8 (by decide) ?_
  refine lv_isub hx hb dX9_swap_9 ?_
  refine lv_topi (fun x_2 e_3 => ?_)
  have i_4 : x_2.toInt = (v 51 1).toInt - 1 := ia_sub e_3 rfl (by decide) (by omega) (by omega)
  refine g_calli C (va_runS (As := [.int (p1), .int (x_2)]) (rest := []) C.1 (c_X9_isIndex l G v w sg p1 (A0 := A1) a1 x_2 (A1 := ((v 51 1).toInt - 1)) i_4) (va_cwS 2 hts gX9_swap_X9_isIndex rfl rfl rfl (by decide +kernel) ⟨by rw [hR]; exact Nat.le_of_ble_eq_true rfl, by rw [hR]; exact Nat.le_of_ble_eq_true rfl⟩) ⟨gPre_blind, gS_pre C h _⟩ rfl rfl hl.1 rfl (lv_room (Nat.le_of_ble_eq_true rfl)) dX9_swap_10 ⟨Nat.zero_le _, Nat.zero_le _⟩) h (fun r_5 v_7 w_8 g_9 H locs p_6 h => ?_)
  obtain ⟨p_6, rfl, rfl, rfl⟩ := p_6
  rcases p_6 with ⟨rfl, t_10⟩ | ⟨rfl, t_10⟩
  · skip
    refine lv_if_ne (tgt := 18) hx hb dX9_swap_13 (by decide) (fun _ => ?_) (fun c_11 => absurd c_11 (by decide))
    refine lv_aload_n hx hb dX9_swap_18 rfl (lv_at hl 0 rfl) ?_
    refine g_get (ci := 9) (x := .ref (G.2.2 (51))) C h 0 (by decide) rfl rfl hi9 2 (by decide) f26 rfl rfl dX9_swap_19 ?_
    refine g_get (ci := 3) (x := .ref (G.2.2 (52))) C h 51 (by decide) rfl rfl hi3 0 (by decide) f132 rfl rfl dX9_swap_22 ?_
    refine lv_iload_n hx hb dX9_swap_25 rfl (lv_at hl 1 rfl) ?_
    refine g_aald (ty := .object "WindHall$Correction") C h 52 (by decide) 2 (by decide) (n := 10) (by decide) rfl rfl (vp_of a1 (by omega) (by omega)) dX9_swap_26 ?_
    obtain ⟨q_12, q_12_e, q_12_l⟩ := g_row52 cg (i := p1) a1 (by omega) (by omega)
    rw [q_12_e]
    refine lv_astore_n (lv' := [(2, .ref (G.2.2 (q_12))), (0, .ref (G.2.2 (0))), (1, .int (p1))]) hx hb dX9_swap_27 rfl hl (by decide) rfl (fun ls hl => ?_)
    refine lv_aload_n hx hb dX9_swap_28 rfl (lv_at hl 1 rfl) ?_
    refine g_get (ci := 9) (x := .ref (G.2.2 (51))) C h 0 (by decide) rfl rfl hi9 2 (by decide) f26 rfl rfl dX9_swap_29 ?_
    refine g_get (ci := 3) (x := .ref (G.2.2 (52))) C h 51 (by decide) rfl rfl hi3 0 (by decide) f132 rfl rfl dX9_swap_32 ?_
    refine lv_iload_n hx hb dX9_swap_35 rfl (lv_at hl 2 rfl) ?_
    refine lv_aload_n hx hb dX9_swap_36 rfl (lv_at hl 1 rfl) ?_
    refine g_get (ci := 9) (x := .ref (G.2.2 (51))) C h 0 (by decide) rfl rfl hi9 2 (by decide) f26 rfl rfl dX9_swap_37 ?_
    refine g_get (ci := 3) (x := .ref (G.2.2 (52))) C h 51 (by decide) rfl rfl hi3 0 (by decide) f132 rfl rfl dX9_swap_40 ?_
    refine lv_iload_n hx hb dX9_swap_43 rfl (lv_at hl 2 rfl) ?_
    refine lv_iconst (v := 1) hx hb dX9_swap_44 (by decide) ?_
    refine lv_iadd hx hb dX9_swap_45 ?_
    refine lv_topi (fun x_13 e_14 => ?_)
    have i_15 : x_13.toInt = A1 + 1 := ia_add e_14 a1 (by decide) (by omega) (by omega)
    refine g_aald (ty := .object "WindHall$Correction") C h 52 (by decide) 2 (by decide) (n := 10) (by decide) rfl rfl (vp_of i_15 (by omega) (by omega)) dX9_swap_46 ?_
    obtain ⟨q_16, q_16_e, q_16_l⟩ := g_row52 cg (i := x_13) i_15 (by omega) (by omega)
    rw [q_16_e]
    refine g_aast52 C h (q := q_16) (by omega) (vp_of a1 (by omega) (by omega)) dX9_swap_47 (fun H locs h => ?_)
    obtain ⟨g_17, hg_17⟩ : ∃ z, z = va_up sg (p1 : Int32).toNatClampNeg q_16 := ⟨_, rfl⟩
    have h : gS (gA G) G s v w g_17 H locs := by rw [hg_17]; exact h
    have u_18 : cG g_17 := by rw [hg_17]; exact cG_up cg (by omega)
    refine lv_aload_n hx hb dX9_swap_48 rfl (lv_at hl 1 rfl) ?_
    refine g_get (ci := 9) (x := .ref (G.2.2 (51))) C h 0 (by decide) rfl rfl hi9 2 (by decide) f26 rfl rfl dX9_swap_49 ?_
    refine g_get (ci := 3) (x := .ref (G.2.2 (52))) C h 51 (by decide) rfl rfl hi3 0 (by decide) f132 rfl rfl dX9_swap_52 ?_
    refine lv_iload_n hx hb dX9_swap_55 rfl (lv_at hl 2 rfl) ?_
    refine lv_iconst (v := 1) hx hb dX9_swap_56 (by decide) ?_
    refine lv_iadd hx hb dX9_swap_57 ?_
    refine lv_topi (fun x_19 e_20 => ?_)
    have i_21 : x_19.toInt = A1 + 1 := ia_add e_20 a1 (by decide) (by omega) (by omega)
    refine lv_aload_n hx hb dX9_swap_58 rfl (lv_at hl 0 rfl) ?_
    refine g_aast52 C h (q := q_12) (by omega) (vp_of i_21 (by omega) (by omega)) dX9_swap_59 (fun H locs h => ?_)
    obtain ⟨g_22, hg_22⟩ : ∃ z, z = va_up g_17 (x_19 : Int32).toNatClampNeg q_12 := ⟨_, rfl⟩
    have h : gS (gA G) G s v w g_22 H locs := by rw [hg_22]; exact h
    have u_23 : cG g_22 := by rw [hg_22]; exact cG_up u_18 (by omega)
    refine lv_iconst (v := 1) hx hb dX9_swap_60 (by decide) ?_
    exact ret 1 v w g_22 _ _ _ _ dX9_swap_61 h ⟨⟨ci, fC_rf, u_23⟩, rfl, rfl⟩
  · skip
    refine lv_if_ne (tgt := 18) hx hb dX9_swap_13 (by decide) (fun c_24 => absurd (by decide) c_24) (fun _ => ?_)
    refine lv_iconst (v := (-1)) hx hb dX9_swap_16 (by decide) ?_
    exact ret (-1) v w sg _ _ _ _ dX9_swap_17 h ⟨⟨ci, fC_rf, cg⟩, rfl, rfl⟩

set_option maxHeartbeats 4000000 in
set_option maxRecDepth 100000 in
theorem c_X9_corrected (l : Launch) (G : gG) (v : Nat → Nat → Int32) (w : Nat → Nat → Int64) (sg : Nat → Nat) (p1 : Int32) {A1 : Int} (a1 : p1.toInt = A1) (p2 : Int32) {A2 : Int} (a2 : p2.toInt = A2) (ci : cI v) (cg : cG sg) : Met l yX9_corrected wsX9_corrected ({ frames := 5, cells := 0, slots := 0, locals := 112 }) (gPre G v w sg [.ref (G.2.2 (0)), .int (p1), .int (p2)]) (gQl G (fun r v' w' sg' => (cI v ∧ fC 51 66 v w v w') ∧ v = v' ∧ sg = sg')) 0 0 (gA G) := by
  refine gM_ofl (cc := cX9_corrected) (maxL := 3) (by decide) rfl (Nat.le_of_ble_eq_true rfl) ?_
  intro p e R s m args below meth c Q ls C hR ret h hl
  have hx := C.1.1
  have hb := C.1.2.1
  have hown := C.1.2.2.2.1
  have hts := C.1.2.2.2.2
  have hl : lv_has ls 3 [(0, .ref (G.2.2 (0))), (1, .int (p1)), (2, .int (p2))] := hl
  have q1 := i_rng p1; rw [a1] at q1
  have q2 := i_rng p2; rw [a2] at q2
  have z_0 : (0 : Int32).toInt = 0 := by decide
  have z_1 : (1 : Int32).toInt = 1 := by decide
  have z_3 : (3 : Int32).toInt = 3 := by decide
  have f26 : Cond.fieldLink RX9 26 "WindHall" "corrections" "LWindHall$Corrections;" ∈ wsX9_corrected := by decide +kernel
  have hi9 : ∀ x ∈ u_ws RX9 TX9 7, x ∈ wsX9_corrected := fun x q => List.mem_cons_of_mem _ (List.mem_append_left _ (List.mem_append_left _ (List.mem_append_right _ q)))
  have f128 : Cond.fieldLink RX9 128 "WindHall$Corrections" "count" "I" ∈ wsX9_corrected := by decide +kernel
  have hi3 : ∀ x ∈ u_ws RX3 TX3 7, x ∈ wsX9_corrected := fun x q => List.mem_cons_of_mem _ (List.mem_append_left _ (List.mem_append_right _ q))
  have f148 : Cond.fieldLink RX9 148 "WindHall$Corrections" "now" "[J" ∈ wsX9_corrected := by decide +kernel
  have o_1 := ci
  obtain ⟨K1, K2, K3, K4, K5, K6, K7, Ks, K9, Ka, Kr, Kz⟩ := o_1
  refine lv_iload_n hx hb dX9_corrected_0 rfl (lv_at hl 1 rfl) ?_
  refine lv_iconst (v := 3) hx hb dX9_corrected_1 (by decide) ?_
  refine g_calli C (va_runS (As := [.int (p1), .int (3)]) (rest := []) C.1 (c_X9_isIndex l G v w sg p1 (A0 := A1) a1 (3) (A1 := 3) (by decide)) (va_cwS 2 hts gX9_corrected_X9_isIndex rfl rfl rfl (by decide +kernel) ⟨by rw [hR]; exact Nat.le_of_ble_eq_true rfl, by rw [hR]; exact Nat.le_of_ble_eq_true rfl⟩) ⟨gPre_blind, gS_pre C h _⟩ rfl rfl hl.1 rfl (lv_room (Nat.le_of_ble_eq_true rfl)) dX9_corrected_2 ⟨Nat.zero_le _, Nat.zero_le _⟩) h (fun r_2 v_4 w_5 g_6 H locs p_3 h => ?_)
  obtain ⟨p_3, rfl, rfl, rfl⟩ := p_3
  rcases p_3 with ⟨rfl, t_7⟩ | ⟨rfl, t_7⟩
  · skip
    refine lv_if_eq (tgt := 23) hx hb dX9_corrected_5 (by decide) (fun c_8 => absurd c_8 (by decide)) (fun _ => ?_)
    refine lv_iload_n hx hb dX9_corrected_8 rfl (lv_at hl 2 rfl) ?_
    refine lv_if_lt (tgt := 23) hx hb dX9_corrected_9 (by decide) (fun c_9 => ?_) (fun c_9 => ?_)
    · have j_10 : A2 < 0 := (i_lt a2 (by decide)).mp c_9
      refine lv_lconst (v := 0) hx hb dX9_corrected_23 (by decide) ?_
      exact ret 0 v w sg _ _ _ _ dX9_corrected_24 h ⟨⟨ci, fC_rf⟩, rfl, rfl⟩
    · have j_10 : ¬ (A2 < 0) := fun q => c_9 ((i_lt a2 (by decide)).mpr q)
      refine lv_iload_n hx hb dX9_corrected_12 rfl (lv_at hl 2 rfl) ?_
      refine lv_aload_n hx hb dX9_corrected_13 rfl (lv_at hl 0 rfl) ?_
      refine g_get (ci := 9) (x := .ref (G.2.2 (51))) C h 0 (by decide) rfl rfl hi9 2 (by decide) f26 rfl rfl dX9_corrected_14 ?_
      refine g_geti (ci := 3) (x := v 51 1) C h 51 (by decide) rfl rfl hi3 1 (by decide) f128 rfl rfl rfl dX9_corrected_17 ?_
      refine lv_icmp_le (tgt := 25) hx hb dX9_corrected_20 (by decide) (fun c_11 => ?_) (fun c_11 => ?_)
      · have j_12 : A2 ≤ (v 51 1).toInt := (i_le a2 rfl).mp c_11
        refine lv_aload_n hx hb dX9_corrected_25 rfl (lv_at hl 0 rfl) ?_
        refine g_get (ci := 9) (x := .ref (G.2.2 (51))) C h 0 (by decide) rfl rfl hi9 2 (by decide) f26 rfl rfl dX9_corrected_26 ?_
        refine lv_iload_n hx hb dX9_corrected_29 rfl (lv_at hl 2 rfl) ?_
        refine lv_aload_n hx hb dX9_corrected_30 rfl (lv_at hl 0 rfl) ?_
        refine g_get (ci := 9) (x := .ref (G.2.2 (51))) C h 0 (by decide) rfl rfl hi9 2 (by decide) f26 rfl rfl dX9_corrected_31 ?_
        refine g_get (ci := 3) (x := .ref (G.2.2 (54))) C h 51 (by decide) rfl rfl hi3 5 (by decide) f148 rfl rfl dX9_corrected_34 ?_
        refine g_callv C (va_runV (As := [.int (p2), .ref (G.2.2 (54))]) (rest := []) C.1 (c_X3_goThrough l G v w sg p2 (A1 := A2) a2 54 (by omega) (by decide) (by decide) (by decide) ci cg) (cwV 2 hts gX9_corrected_X3_goThrough rfl rfl rfl (by decide +kernel) ⟨by rw [hR]; exact Nat.le_of_ble_eq_true rfl, by rw [hR]; exact Nat.le_of_ble_eq_true rfl⟩) ⟨gPre_blind, g_recv C h 51 (by decide) (ci := 3) rfl rfl, gS_pre C h _⟩ rfl rfl hl.1 rfl (lv_room (Nat.le_of_ble_eq_true rfl)) dX9_corrected_37 ⟨Nat.zero_le _, Nat.zero_le _⟩) h (fun v_15 w_16 g_17 H locs p_14 h => ?_)
        obtain ⟨p_14, rfl, rfl⟩ := p_14
        have u_18 : cI v := p_14.1
        have u_19 : fC 51 66 v w v w_16 := fC_tr fC_rf (fC_le p_14.2 (by decide))
        have u_20 : cG sg := cg
        have o_21 := u_18
        obtain ⟨K1, K2, K3, K4, K5, K6, K7, Ks, K9, Ka, Kr, Kz⟩ := o_21
        refine lv_aload_n hx hb dX9_corrected_40 rfl (lv_at hl 0 rfl) ?_
        refine g_get (ci := 9) (x := .ref (G.2.2 (51))) C h 0 (by decide) rfl rfl hi9 2 (by decide) f26 rfl rfl dX9_corrected_41 ?_
        refine g_get (ci := 3) (x := .ref (G.2.2 (54))) C h 51 (by decide) rfl rfl hi3 5 (by decide) f148 rfl rfl dX9_corrected_44 ?_
        refine lv_iload_n hx hb dX9_corrected_47 rfl (lv_at hl 1 rfl) ?_
        refine g_lald C h 54 (by decide) (by decide) (n := 3) (by decide) (vp_of a1 (by omega) (by omega)) dX9_corrected_48 ?_
        refine lv_topl (fun x_22 e_23 => ?_)
        exact ret x_22 v w_16 sg _ _ _ _ dX9_corrected_49 h ⟨⟨u_18, u_19⟩, rfl, rfl⟩
      · have j_12 : ¬ (A2 ≤ (v 51 1).toInt) := fun q => c_11 ((i_le a2 rfl).mpr q)
        refine lv_lconst (v := 0) hx hb dX9_corrected_23 (by decide) ?_
        exact ret 0 v w sg _ _ _ _ dX9_corrected_24 h ⟨⟨ci, fC_rf⟩, rfl, rfl⟩
  · skip
    refine lv_if_eq (tgt := 23) hx hb dX9_corrected_5 (by decide) (fun _ => ?_) (fun c_24 => absurd (by decide) c_24)
    refine lv_lconst (v := 0) hx hb dX9_corrected_23 (by decide) ?_
    exact ret 0 v w sg _ _ _ _ dX9_corrected_24 h ⟨⟨ci, fC_rf⟩, rfl, rfl⟩

set_option maxHeartbeats 4000000 in
set_option maxRecDepth 100000 in
theorem c_X9_touches (l : Launch) (G : gG) (v : Nat → Nat → Int32) (w : Nat → Nat → Int64) (sg : Nat → Nat) (p1 : Int32) {A1 : Int} (a1 : p1.toInt = A1) (ci : cI v) (cg : cG sg) : Met l yX9_touches wsX9_touches ({ frames := 6, cells := 0, slots := 0, locals := 133 }) (gPre G v w sg [.ref (G.2.2 (0)), .int (p1)]) (gQi G (fun r v' w' sg' => (cI v ∧ fC 51 66 v w v w') ∧ v = v' ∧ sg = sg')) 0 0 (gA G) := by
  refine gM_ofi (cc := cX9_touches) (maxL := 2) (by decide) rfl (Nat.le_of_ble_eq_true rfl) ?_
  intro p e R s m args below meth c Q ls C hR ret h hl
  have hx := C.1.1
  have hb := C.1.2.1
  have hown := C.1.2.2.2.1
  have hts := C.1.2.2.2.2
  have hl : lv_has ls 2 [(0, .ref (G.2.2 (0))), (1, .int (p1))] := hl
  have q1 := i_rng p1; rw [a1] at q1
  have z_m4 : ((-4) : Int32).toInt = (-4) := by decide
  have z_m1 : ((-1) : Int32).toInt = (-1) := by decide
  have z_0 : (0 : Int32).toInt = 0 := by decide
  have z_1 : (1 : Int32).toInt = 1 := by decide
  have f26 : Cond.fieldLink RX9 26 "WindHall" "corrections" "LWindHall$Corrections;" ∈ wsX9_touches := by decide +kernel
  have hi9 : ∀ x ∈ u_ws RX9 TX9 7, x ∈ wsX9_touches := fun x q => List.mem_cons_of_mem _ (List.mem_append_left _ (List.mem_append_left _ (List.mem_append_right _ q)))
  have f128 : Cond.fieldLink RX9 128 "WindHall$Corrections" "count" "I" ∈ wsX9_touches := by decide +kernel
  have hi3 : ∀ x ∈ u_ws RX3 TX3 7, x ∈ wsX9_touches := fun x q => List.mem_cons_of_mem _ (List.mem_append_left _ (List.mem_append_right _ q))
  have o_1 := ci
  obtain ⟨K1, K2, K3, K4, K5, K6, K7, Ks, K9, Ka, Kr, Kz⟩ := o_1
  refine lv_iload_n hx hb dX9_touches_0 rfl (lv_at hl 1 rfl) ?_
  refine lv_aload_n hx hb dX9_touches_1 rfl (lv_at hl 0 rfl) ?_
  refine g_get (ci := 9) (x := .ref (G.2.2 (51))) C h 0 (by decide) rfl rfl hi9 2 (by decide) f26 rfl rfl dX9_touches_2 ?_
  refine g_geti (ci := 3) (x := v 51 1) C h 51 (by decide) rfl rfl hi3 1 (by decide) f128 rfl rfl rfl dX9_touches_5 ?_
  refine g_calli C (va_runS (As := [.int (p1), .int (v 51 1)]) (rest := []) C.1 (c_X9_isIndex l G v w sg p1 (A0 := A1) a1 (v 51 1) (A1 := (v 51 1).toInt) rfl) (va_cwS 2 hts gX9_touches_X9_isIndex rfl rfl rfl (by decide +kernel) ⟨by rw [hR]; exact Nat.le_of_ble_eq_true rfl, by rw [hR]; exact Nat.le_of_ble_eq_true rfl⟩) ⟨gPre_blind, gS_pre C h _⟩ rfl rfl hl.1 rfl (lv_room (Nat.le_of_ble_eq_true rfl)) dX9_touches_8 ⟨Nat.zero_le _, Nat.zero_le _⟩) h (fun r_2 v_4 w_5 g_6 H locs p_3 h => ?_)
  obtain ⟨p_3, rfl, rfl, rfl⟩ := p_3
  rcases p_3 with ⟨rfl, t_7⟩ | ⟨rfl, t_7⟩
  · skip
    refine lv_if_ne (tgt := 16) hx hb dX9_touches_11 (by decide) (fun _ => ?_) (fun c_8 => absurd c_8 (by decide))
    refine lv_aload_n hx hb dX9_touches_16 rfl (lv_at hl 0 rfl) ?_
    refine g_get (ci := 9) (x := .ref (G.2.2 (51))) C h 0 (by decide) rfl rfl hi9 2 (by decide) f26 rfl rfl dX9_touches_17 ?_
    refine lv_iload_n hx hb dX9_touches_20 rfl (lv_at hl 1 rfl) ?_
    refine g_calli C (va_runV (As := [.int (p1)]) (rest := []) C.1 (c_X3_isFelt l G v w sg p1 (A1 := A1) a1 (by omega) ci cg) (cwV 1 hts gX9_touches_X3_isFelt rfl rfl rfl (by decide +kernel) ⟨by rw [hR]; exact Nat.le_of_ble_eq_true rfl, by rw [hR]; exact Nat.le_of_ble_eq_true rfl⟩) ⟨gPre_blind, g_recv C h 51 (by decide) (ci := 3) rfl rfl, gS_pre C h _⟩ rfl rfl hl.1 rfl (lv_room (Nat.le_of_ble_eq_true rfl)) dX9_touches_21 ⟨Nat.zero_le _, Nat.zero_le _⟩) h (fun r_9 v_11 w_12 g_13 H locs p_10 h => ?_)
    obtain ⟨p_10, rfl, rfl⟩ := p_10
    have u_14 : cI v := p_10.1
    have u_15 : fC 51 66 v w v w_12 := fC_tr fC_rf (fC_le p_10.2 (by decide))
    have u_16 : cG sg := cg
    have o_17 := u_14
    obtain ⟨K1, K2, K3, K4, K5, K6, K7, Ks, K9, Ka, Kr, Kz⟩ := o_17
    refine lv_if_eq (tgt := 33) hx hb dX9_touches_24 (by decide) (fun c_18 => ?_) (fun c_18 => ?_)
    · have j_19 : (r_9).toInt = 0 := (i_eq rfl (by decide)).mp c_18
      refine lv_bipush (v := (-4)) hx hb dX9_touches_33 (by decide) ?_
      exact ret (-4) v w_12 sg _ _ _ _ dX9_touches_35 h ⟨⟨u_14, u_15⟩, rfl, rfl⟩
    · have j_19 : ¬ ((r_9).toInt = 0) := fun q => c_18 ((i_eq rfl (by decide)).mpr q)
      refine lv_iload_n hx hb dX9_touches_27 rfl (lv_at hl 1 rfl) ?_
      refine lv_iconst (v := 1) hx hb dX9_touches_28 (by decide) ?_
      refine lv_iadd hx hb dX9_touches_29 ?_
      refine lv_topi (fun x_20 e_21 => ?_)
      have i_22 : x_20.toInt = A1 + 1 := ia_add e_21 a1 (by decide) (by omega) (by omega)
      refine lv_goto (tgt := 35) hx hb dX9_touches_30 (by decide) ?_
      exact ret x_20 v w_12 sg _ _ _ _ dX9_touches_35 h ⟨⟨u_14, u_15⟩, rfl, rfl⟩
  · skip
    refine lv_if_ne (tgt := 16) hx hb dX9_touches_11 (by decide) (fun c_23 => absurd (by decide) c_23) (fun _ => ?_)
    refine lv_iconst (v := (-1)) hx hb dX9_touches_14 (by decide) ?_
    exact ret (-1) v w sg _ _ _ _ dX9_touches_15 h ⟨⟨ci, fC_rf⟩, rfl, rfl⟩

set_option maxHeartbeats 4000000 in
set_option maxRecDepth 100000 in
theorem c_X9_minds (l : Launch) (G : gG) (v : Nat → Nat → Int32) (w : Nat → Nat → Int64) (sg : Nat → Nat) (p1 : Int32) {A1 : Int} (a1 : p1.toInt = A1) (ci : cI v) (cg : cG sg) : Met l yX9_minds wsX9_minds ({ frames := 6, cells := 0, slots := 0, locals := 133 }) (gPre G v w sg [.ref (G.2.2 (0)), .int (p1)]) (gQi G (fun r v' w' sg' => (cI v ∧ fC 51 66 v w v w') ∧ v = v' ∧ sg = sg')) 0 0 (gA G) := by
  refine gM_ofi (cc := cX9_minds) (maxL := 2) (by decide) rfl (Nat.le_of_ble_eq_true rfl) ?_
  intro p e R s m args below meth c Q ls C hR ret h hl
  have hx := C.1.1
  have hb := C.1.2.1
  have hown := C.1.2.2.2.1
  have hts := C.1.2.2.2.2
  have hl : lv_has ls 2 [(0, .ref (G.2.2 (0))), (1, .int (p1))] := hl
  have q1 := i_rng p1; rw [a1] at q1
  have z_m1 : ((-1) : Int32).toInt = (-1) := by decide
  have z_0 : (0 : Int32).toInt = 0 := by decide
  have z_1 : (1 : Int32).toInt = 1 := by decide
  have f26 : Cond.fieldLink RX9 26 "WindHall" "corrections" "LWindHall$Corrections;" ∈ wsX9_minds := by decide +kernel
  have hi9 : ∀ x ∈ u_ws RX9 TX9 7, x ∈ wsX9_minds := fun x q => List.mem_cons_of_mem _ (List.mem_append_left _ (List.mem_append_left _ (List.mem_append_right _ q)))
  have f128 : Cond.fieldLink RX9 128 "WindHall$Corrections" "count" "I" ∈ wsX9_minds := by decide +kernel
  have hi3 : ∀ x ∈ u_ws RX3 TX3 7, x ∈ wsX9_minds := fun x q => List.mem_cons_of_mem _ (List.mem_append_left _ (List.mem_append_right _ q))
  have o_1 := ci
  obtain ⟨K1, K2, K3, K4, K5, K6, K7, Ks, K9, Ka, Kr, Kz⟩ := o_1
  refine lv_iload_n hx hb dX9_minds_0 rfl (lv_at hl 1 rfl) ?_
  refine lv_aload_n hx hb dX9_minds_1 rfl (lv_at hl 0 rfl) ?_
  refine g_get (ci := 9) (x := .ref (G.2.2 (51))) C h 0 (by decide) rfl rfl hi9 2 (by decide) f26 rfl rfl dX9_minds_2 ?_
  refine g_geti (ci := 3) (x := v 51 1) C h 51 (by decide) rfl rfl hi3 1 (by decide) f128 rfl rfl rfl dX9_minds_5 ?_
  refine lv_iconst (v := 1) hx hb dX9_minds_8 (by decide) ?_
  refine lv_isub hx hb dX9_minds_9 ?_
  refine lv_topi (fun x_2 e_3 => ?_)
  have i_4 : x_2.toInt = (v 51 1).toInt - 1 := ia_sub e_3 rfl (by decide) (by omega) (by omega)
  refine g_calli C (va_runS (As := [.int (p1), .int (x_2)]) (rest := []) C.1 (c_X9_isIndex l G v w sg p1 (A0 := A1) a1 x_2 (A1 := ((v 51 1).toInt - 1)) i_4) (va_cwS 2 hts gX9_minds_X9_isIndex rfl rfl rfl (by decide +kernel) ⟨by rw [hR]; exact Nat.le_of_ble_eq_true rfl, by rw [hR]; exact Nat.le_of_ble_eq_true rfl⟩) ⟨gPre_blind, gS_pre C h _⟩ rfl rfl hl.1 rfl (lv_room (Nat.le_of_ble_eq_true rfl)) dX9_minds_10 ⟨Nat.zero_le _, Nat.zero_le _⟩) h (fun r_5 v_7 w_8 g_9 H locs p_6 h => ?_)
  obtain ⟨p_6, rfl, rfl, rfl⟩ := p_6
  rcases p_6 with ⟨rfl, t_10⟩ | ⟨rfl, t_10⟩
  · skip
    refine lv_if_ne (tgt := 18) hx hb dX9_minds_13 (by decide) (fun _ => ?_) (fun c_11 => absurd c_11 (by decide))
    refine lv_aload_n hx hb dX9_minds_18 rfl (lv_at hl 0 rfl) ?_
    refine g_get (ci := 9) (x := .ref (G.2.2 (51))) C h 0 (by decide) rfl rfl hi9 2 (by decide) f26 rfl rfl dX9_minds_19 ?_
    refine lv_iload_n hx hb dX9_minds_22 rfl (lv_at hl 1 rfl) ?_
    refine g_calli C (va_runV (As := [.int (p1)]) (rest := []) C.1 (c_X3_isOrderFelt l G v w sg p1 (A1 := A1) a1 (by omega) ci cg) (cwV 1 hts gX9_minds_X3_isOrderFelt rfl rfl rfl (by decide +kernel) ⟨by rw [hR]; exact Nat.le_of_ble_eq_true rfl, by rw [hR]; exact Nat.le_of_ble_eq_true rfl⟩) ⟨gPre_blind, g_recv C h 51 (by decide) (ci := 3) rfl rfl, gS_pre C h _⟩ rfl rfl hl.1 rfl (lv_room (Nat.le_of_ble_eq_true rfl)) dX9_minds_23 ⟨Nat.zero_le _, Nat.zero_le _⟩) h (fun r_12 v_14 w_15 g_16 H locs p_13 h => ?_)
    obtain ⟨p_13, rfl, rfl⟩ := p_13
    have u_17 : cI v := p_13.1
    have u_18 : fC 51 66 v w v w_15 := fC_tr fC_rf (fC_le p_13.2 (by decide))
    have u_19 : cG sg := cg
    have o_20 := u_17
    obtain ⟨K1, K2, K3, K4, K5, K6, K7, Ks, K9, Ka, Kr, Kz⟩ := o_20
    refine lv_if_eq (tgt := 33) hx hb dX9_minds_26 (by decide) (fun c_21 => ?_) (fun c_21 => ?_)
    · have j_22 : (r_12).toInt = 0 := (i_eq rfl (by decide)).mp c_21
      refine lv_iconst (v := 0) hx hb dX9_minds_33 (by decide) ?_
      exact ret 0 v w_15 sg _ _ _ _ dX9_minds_34 h ⟨⟨u_17, u_18⟩, rfl, rfl⟩
    · have j_22 : ¬ ((r_12).toInt = 0) := fun q => c_21 ((i_eq rfl (by decide)).mpr q)
      refine lv_iconst (v := 1) hx hb dX9_minds_29 (by decide) ?_
      refine lv_goto (tgt := 34) hx hb dX9_minds_30 (by decide) ?_
      exact ret 1 v w_15 sg _ _ _ _ dX9_minds_34 h ⟨⟨u_17, u_18⟩, rfl, rfl⟩
  · skip
    refine lv_if_ne (tgt := 18) hx hb dX9_minds_13 (by decide) (fun c_23 => absurd (by decide) c_23) (fun _ => ?_)
    refine lv_iconst (v := (-1)) hx hb dX9_minds_16 (by decide) ?_
    exact ret (-1) v w sg _ _ _ _ dX9_minds_17 h ⟨⟨ci, fC_rf⟩, rfl, rfl⟩
