set_option maxHeartbeats 4000000 in
set_option maxRecDepth 100000 in
theorem c_X6_startAnew (l : Launch) (G : gG) (v : Nat → Nat → Int32) (w : Nat → Nat → Int64) (sg : Nat → Nat)  : Met l yX6_startAnew wsX6_startAnew ({ frames := 0, cells := 0, slots := 0, locals := 0 }) (gPre G v w sg [.ref (G.2.2 (83))]) (gQv G (fun v' w' sg' => (v' = gu (gu (gu v 83 4 0) 83 5 0) 83 6 (-4)) ∧ w = w' ∧ sg = sg')) 0 0 (gA G) := by
  refine gM_ofv (cc := cX6_startAnew) (maxL := 1) (by decide) rfl (Nat.le_of_ble_eq_true rfl) ?_
  intro p e R s m args below meth c Q ls C hR ret h hl
  have hx := C.1.1
  have hb := C.1.2.1
  have hown := C.1.2.2.2.1
  have hts := C.1.2.2.2.2
  have hl : lv_has ls 1 [(0, .ref (G.2.2 (83)))] := hl
  have z_m4 : ((-4) : Int32).toInt = (-4) := by decide
  have z_0 : (0 : Int32).toInt = 0 := by decide
  have z_1 : (1 : Int32).toInt = 1 := by decide
  have f25 : Cond.fieldLink RX6 25 "WindHall$Settling" "state" "I" ∈ wsX6_startAnew := by decide +kernel
  have hi6 : ∀ x ∈ u_ws RX6 TX6 8, x ∈ wsX6_startAnew := fun x q => List.mem_cons_of_mem _ (List.mem_append_right _ q)
  have f28 : Cond.fieldLink RX6 28 "WindHall$Settling" "came" "I" ∈ wsX6_startAnew := by decide +kernel
  have f31 : Cond.fieldLink RX6 31 "WindHall$Settling" "beyond" "I" ∈ wsX6_startAnew := by decide +kernel
  refine lv_aload_n hx hb dX6_startAnew_0 rfl (lv_at hl 0 rfl) ?_
  refine lv_iconst (v := 0) hx hb dX6_startAnew_1 (by decide) ?_
  refine g_put (ci := 6) (x := 0) (ty := .int) C h 83 (by decide) rfl rfl hi6 tyX6 tyX6_ok nmX6 4 (by decide) f25 rfl rfl (by decide +kernel) rfl rfl (Nat.le_of_ble_eq_true rfl) rfl dX6_startAnew_2 (fun H locs h => ?_)
  obtain ⟨v_1, hv_1⟩ : ∃ z, z = gu v 83 4 0 := ⟨_, rfl⟩
  have h : gS (gA G) G s v_1 w sg H locs := by rw [hv_1]; exact h
  refine lv_aload_n hx hb dX6_startAnew_5 rfl (lv_at hl 0 rfl) ?_
  refine lv_iconst (v := 0) hx hb dX6_startAnew_6 (by decide) ?_
  refine g_put (ci := 6) (x := 0) (ty := .int) C h 83 (by decide) rfl rfl hi6 tyX6 tyX6_ok nmX6 5 (by decide) f28 rfl rfl (by decide +kernel) rfl rfl (Nat.le_of_ble_eq_true rfl) rfl dX6_startAnew_7 (fun H locs h => ?_)
  obtain ⟨v_2, hv_2⟩ : ∃ z, z = gu v_1 83 5 0 := ⟨_, rfl⟩
  have h : gS (gA G) G s v_2 w sg H locs := by rw [hv_2]; exact h
  refine lv_aload_n hx hb dX6_startAnew_10 rfl (lv_at hl 0 rfl) ?_
  refine lv_bipush (v := (-4)) hx hb dX6_startAnew_11 (by decide) ?_
  refine g_put (ci := 6) (x := (-4)) (ty := .int) C h 83 (by decide) rfl rfl hi6 tyX6 tyX6_ok nmX6 6 (by decide) f31 rfl rfl (by decide +kernel) rfl rfl (Nat.le_of_ble_eq_true rfl) rfl dX6_startAnew_13 (fun H locs h => ?_)
  obtain ⟨v_3, hv_3⟩ : ∃ z, z = gu v_2 83 6 (-4) := ⟨_, rfl⟩
  have h : gS (gA G) G s v_3 w sg H locs := by rw [hv_3]; exact h
  exact ret v_3 w sg _ _ _ _ dX6_startAnew_16 h ⟨(by rw [hv_3, hv_2, hv_1]), rfl, rfl⟩

set_option maxHeartbeats 4000000 in
set_option maxRecDepth 100000 in
theorem c_X6_firstBeyond (l : Launch) (G : gG) (v : Nat → Nat → Int32) (w : Nat → Nat → Int64) (sg : Nat → Nat) (o1 : Nat) (Rk : o1 < 106) (Rd : gkd o1 = 1) (Rn : gln o1 = 3) : Met l yX6_firstBeyond wsX6_firstBeyond ({ frames := 1, cells := 0, slots := 0, locals := 20 }) (gPre G v w sg [.ref (G.2.2 (83)), .ref (G.2.2 (o1))]) (gQi G (fun r v' w' sg' => (fst3 (fun j => far (v 83 3) (v o1 j)) (-4) r.toInt) ∧ v = v' ∧ w = w' ∧ sg = sg')) 0 0 (gA G) := by
  refine gM_ofi (cc := cX6_firstBeyond) (maxL := 3) (by decide) rfl (Nat.le_of_ble_eq_true rfl) ?_
  intro p e R s m args below meth c Q ls C hR ret h hl
  have hx := C.1.1
  have hb := C.1.2.1
  have hown := C.1.2.2.2.1
  have hts := C.1.2.2.2.2
  have hl : lv_has ls 3 [(0, .ref (G.2.2 (83))), (1, .ref (G.2.2 (o1)))] := hl
  have z_m4 : ((-4) : Int32).toInt = (-4) := by decide
  have z_0 : (0 : Int32).toInt = 0 := by decide
  have z_1 : (1 : Int32).toInt = 1 := by decide
  have z_3 : (3 : Int32).toInt = 3 := by decide
  have f22 : Cond.fieldLink RX6 22 "WindHall$Settling" "limit" "I" ∈ wsX6_firstBeyond := by decide +kernel
  have hi6 : ∀ x ∈ u_ws RX6 TX6 8, x ∈ wsX6_firstBeyond := fun x q => List.mem_cons_of_mem _ (List.mem_append_right _ q)
  refine lv_iconst (v := 0) hx hb dX6_firstBeyond_0 (by decide) ?_
  have J2_1 : ∀ (n : Nat) (y_1 : Int32) (H : Heap) (locs : List Loc) (ls : Array Slot), (3 - (y_1).toInt).toNat < n → (0 ≤ (y_1).toInt ∧ (y_1).toInt ≤ 3) → (noF (fun j => far (v 83 3) (v o1 j)) (y_1).toInt) → gS (gA G) G s v w sg H locs → lv_has ls 3 [(0, .ref (G.2.2 (83))), (1, .ref (G.2.2 (o1))), (2, .int (y_1))] → W p l e R s m args below meth c H locs 0 0 Q (F0 m 2 ls []) := by
    intro n
    induction n with
    | zero => intro y_1 H locs ls hm; exact absurd hm (Nat.not_lt_zero _)
    | succ n ih2 =>
      intro y_1 H locs ls hm f_2 f_3 h hl
      refine lv_iload_n hx hb dX6_firstBeyond_2 rfl (lv_at hl 2 rfl) ?_
      refine lv_iconst (v := 3) hx hb dX6_firstBeyond_3 (by decide) ?_
      refine lv_icmp_ge (tgt := 28) hx hb dX6_firstBeyond_4 (by decide) (fun c_4 => ?_) (fun c_4 => ?_)
      · have j_5 : 3 ≤ (y_1).toInt := (i_le (by decide) rfl).mp c_4
        refine lv_bipush (v := (-4)) hx hb dX6_firstBeyond_28 (by decide) ?_
        exact ret (-4) v w sg _ _ _ _ dX6_firstBeyond_30 h ⟨(fst3_n f_3 (by omega)), rfl, rfl, rfl⟩
      · have j_5 : ¬ (3 ≤ (y_1).toInt) := fun q => c_4 ((i_le (by decide) rfl).mpr q)
        refine lv_aload_n hx hb dX6_firstBeyond_7 rfl (lv_at hl 1 rfl) ?_
        refine lv_iload_n hx hb dX6_firstBeyond_8 rfl (lv_at hl 2 rfl) ?_
        refine g_iald C h o1 (by omega) Rd (n := 3) Rn (vp_of rfl (by omega) (by omega)) dX6_firstBeyond_9 ?_
        refine lv_topi (fun x_6 e_7 => ?_)
        have hx9 : x_6 = v o1 (y_1 : Int32).toInt.toNat := e_7
        refine va_mabs hx hb (C.1.2.2.1.trans hl.1.symm) hown (hts (.methodLink RX6 51 Lib.Math.abs.name) (by decide +kernel)) (hts (.static Lib.Math.abs.name) (by decide +kernel)) (hts (.initialized "java/lang/Math") (by decide +kernel)) (hts (.code Lib.Math.abs.name Lib.Math.abs.code 1 (some .int)) (by decide +kernel)) (by rw [hR]; exact Nat.le_of_ble_eq_true rfl) (by rw [hR]; exact Nat.le_of_ble_eq_true rfl) (Nat.zero_le _) (Nat.zero_le _) dX6_firstBeyond_10 ?_
        refine lv_topi (fun x_8 e_9 => ?_)
        refine lv_aload_n hx hb dX6_firstBeyond_13 rfl (lv_at hl 0 rfl) ?_
        refine g_geti (ci := 6) (x := v 83 3) C h 83 (by decide) rfl rfl hi6 3 (by decide) f22 rfl rfl rfl dX6_firstBeyond_14 ?_
        have hab : (x_8 : Int32) = jabs (v o1 (y_1 : Int32).toInt.toNat) := by rw [e_9, hx9]; rfl
        have hai : (x_8 : Int32).toInt = (jabs (v o1 (y_1 : Int32).toInt.toNat)).toInt := by rw [hab]
        refine lv_icmp_le (tgt := 22) hx hb dX6_firstBeyond_17 (by decide) (fun c_10 => ?_) (fun c_10 => ?_)
        · have j_11 : (x_8).toInt ≤ (v 83 3).toInt := (i_le rfl rfl).mp c_10
          obtain ⟨x_12, e_13⟩ : ∃ y : Int32, y = y_1 + 1 := ⟨_, rfl⟩
          have i_14 : x_12.toInt = (y_1).toInt + 1 := ia_add e_13 rfl (by decide) (by omega) (by omega)
          refine lv_iinc (v := x_12) (lv' := [(2, .int (x_12)), (0, .ref (G.2.2 (83))), (1, .ref (G.2.2 (o1)))]) hx hb dX6_firstBeyond_22 hl (k := 2) rfl (by rw [e_13]; rfl) (by decide) rfl (fun ls hl => ?_)
          refine lv_goto (tgt := 2) hx hb dX6_firstBeyond_25 (by decide) ?_
          exact ih2 x_12 _ _ _ (by omega) (by omega) (f_3.st (by omega) (by omega) (by show ¬ far _ _; unfold far; omega)) h (lv_sub hl [1, 2, 0] rfl)
        · have j_11 : ¬ ((x_8).toInt ≤ (v 83 3).toInt) := fun q => c_10 ((i_le rfl rfl).mpr q)
          refine lv_iload_n hx hb dX6_firstBeyond_20 rfl (lv_at hl 2 rfl) ?_
          exact ret y_1 v w sg _ _ _ _ dX6_firstBeyond_21 h ⟨(fst3_i f_3 (by omega) (by omega) (by show far _ _; unfold far; omega)), rfl, rfl, rfl⟩
  refine lv_istore_n (lv' := [(2, .int (0)), (0, .ref (G.2.2 (83))), (1, .ref (G.2.2 (o1)))]) hx hb dX6_firstBeyond_1 rfl hl (by decide) rfl (fun ls hl => ?_)
  exact J2_1 _ 0 _ _ _ (Nat.lt_succ_self _) (by omega) noF_0 h (lv_sub hl [1, 2, 0] rfl)

set_option maxHeartbeats 4000000 in
set_option maxRecDepth 100000 in
theorem c_X6_readingAgo (l : Launch) (G : gG) (v : Nat → Nat → Int32) (w : Nat → Nat → Int64) (sg : Nat → Nat) (p1 : Int32) {A1 : Int} (a1 : p1.toInt = A1) (p2 : Int32) {A2 : Int} (a2 : p2.toInt = A2) (c1 : 1 ≤ (v 83 0).toInt ∧ (v 83 0).toInt ≤ 8) (c2 : 0 ≤ (v 83 5).toInt ∧ (v 83 5).toInt ≤ 101) (b1 : 1 ≤ A1 ∧ A1 ≤ 8) (b2 : 0 ≤ A2 ∧ A2 ≤ 2) : Met l yX6_readingAgo wsX6_readingAgo ({ frames := 1, cells := 0, slots := 0, locals := 22 }) (gPre G v w sg [.ref (G.2.2 (83)), .int (p1), .int (p2)]) (gQi G (fun r v' w' sg' => (r = rgC v A1 A2.toNat) ∧ v = v' ∧ w = w' ∧ sg = sg')) 0 0 (gA G) := by
  refine gM_ofi (cc := cX6_readingAgo) (maxL := 3) (by decide) rfl (Nat.le_of_ble_eq_true rfl) ?_
  intro p e R s m args below meth c Q ls C hR ret h hl
  have hx := C.1.1
  have hb := C.1.2.1
  have hown := C.1.2.2.2.1
  have hts := C.1.2.2.2.2
  have hl : lv_has ls 3 [(0, .ref (G.2.2 (83))), (1, .int (p1)), (2, .int (p2))] := hl
  have q1 := i_rng p1; rw [a1] at q1
  have q2 := i_rng p2; rw [a2] at q2
  have z_0 : (0 : Int32).toInt = 0 := by decide
  have z_1 : (1 : Int32).toInt = 1 := by decide
  have z_8 : (8 : Int32).toInt = 8 := by decide
  have f36 : Cond.fieldLink RX6 36 "WindHall$Settling" "latest" "[[I" ∈ wsX6_readingAgo := by decide +kernel
  have hi6 : ∀ x ∈ u_ws RX6 TX6 8, x ∈ wsX6_readingAgo := fun x q => List.mem_cons_of_mem _ (List.mem_append_right _ q)
  have f28 : Cond.fieldLink RX6 28 "WindHall$Settling" "came" "I" ∈ wsX6_readingAgo := by decide +kernel
  refine lv_aload_n hx hb dX6_readingAgo_0 rfl (lv_at hl 0 rfl) ?_
  refine g_get (ci := 6) (x := .ref (G.2.2 (84))) C h 83 (by decide) rfl rfl hi6 7 (by decide) f36 rfl rfl dX6_readingAgo_1 ?_
  refine lv_aload_n hx hb dX6_readingAgo_4 rfl (lv_at hl 0 rfl) ?_
  refine g_geti (ci := 6) (x := v 83 5) C h 83 (by decide) rfl rfl hi6 5 (by decide) f28 rfl rfl rfl dX6_readingAgo_5 ?_
  refine lv_iload_n hx hb dX6_readingAgo_8 rfl (lv_at hl 1 rfl) ?_
  refine lv_isub hx hb dX6_readingAgo_9 ?_
  refine lv_topi (fun x_1 e_2 => ?_)
  have i_3 : x_1.toInt = (v 83 5).toInt - A1 := ia_sub e_2 rfl a1 (by omega) (by omega)
  refine lv_bipush (v := 8) hx hb dX6_readingAgo_10 (by decide) ?_
  refine g_calli C (va_runS (As := [.int (x_1), .int (8)]) (rest := [.ref (G.2.2 (84))]) C.1 (c_J9_floorMod_7cf53 l G v w sg x_1 (A0 := ((v 83 5).toInt - A1)) i_3 (8) (A1 := 8) (by decide) (by omega)) (va_cwS 2 hts gX6_readingAgo_J9_floorMod_7cf53 rfl rfl rfl (by decide +kernel) ⟨by rw [hR]; exact Nat.le_of_ble_eq_true rfl, by rw [hR]; exact Nat.le_of_ble_eq_true rfl⟩) ⟨gPre_blind, gS_pre C h _⟩ rfl rfl hl.1 rfl (lv_room (Nat.le_of_ble_eq_true rfl)) dX6_readingAgo_12 ⟨Nat.zero_le _, Nat.zero_le _⟩) h (fun r_4 v_6 w_7 g_8 H locs p_5 h => ?_)
  obtain ⟨p_5, rfl, rfl, rfl⟩ := p_5
  have hfm := p_5.1
  refine g_aald (ty := .array .int) C h 84 (by decide) 0 (by decide) (n := 8) (by decide) rfl rfl (vp_of rfl (by omega) (by omega)) dX6_readingAgo_15 ?_
  obtain ⟨q_9, q_9_e, q_9_i, q_9_l⟩ := g_row sg (b := 84) (n := 8) (i := r_4) (by decide) (by decide) rfl (by omega) (by omega)
  rw [q_9_e]
  refine lv_iload_n hx hb dX6_readingAgo_16 rfl (lv_at hl 2 rfl) ?_
  refine g_iald C h q_9 (by omega) (g_kd 85 8 1 rfl q_9_l) (n := 3) (g_ln 85 8 3 rfl q_9_l) (vp_of a2 (by omega) (by omega)) dX6_readingAgo_17 ?_
  refine lv_topi (fun x_10 e_11 => ?_)
  exact ret x_10 v w sg _ _ _ _ dX6_readingAgo_18 h ⟨(by rw [e_11, cl_nat a2, show q_9 = 85 + (((v 83 5).toInt - A1) % 8).toNat by omega]; rfl), rfl, rfl, rfl⟩

set_option maxHeartbeats 4000000 in
set_option maxRecDepth 100000 in
theorem c_X6_spreadOfLatest (l : Launch) (G : gG) (v : Nat → Nat → Int32) (w : Nat → Nat → Int64) (sg : Nat → Nat) (p1 : Int32) {A1 : Int} (a1 : p1.toInt = A1) (c1 : 1 ≤ (v 83 0).toInt ∧ (v 83 0).toInt ≤ 8) (c2 : 0 ≤ (v 83 5).toInt ∧ (v 83 5).toInt ≤ 101) (b1 : 0 ≤ A1 ∧ A1 ≤ 2) : Met l yX6_spreadOfLatest wsX6_spreadOfLatest ({ frames := 2, cells := 0, slots := 0, locals := 44 }) (gPre G v w sg [.ref (G.2.2 (83)), .int (p1)]) (gQi G (fun r v' w' sg' => (r = spC v A1.toNat) ∧ v = v' ∧ w = w' ∧ sg = sg')) 0 0 (gA G) := by
  refine gM_ofi (cc := cX6_spreadOfLatest) (maxL := 6) (by decide) rfl (Nat.le_of_ble_eq_true rfl) ?_
  intro p e R s m args below meth c Q ls C hR ret h hl
  have hx := C.1.1
  have hb := C.1.2.1
  have hown := C.1.2.2.2.1
  have hts := C.1.2.2.2.2
  have hl : lv_has ls 6 [(0, .ref (G.2.2 (83))), (1, .int (p1))] := hl
  have q1 := i_rng p1; rw [a1] at q1
  have z_m2000000 : ((-2000000) : Int32).toInt = (-2000000) := by decide
  have z_0 : (0 : Int32).toInt = 0 := by decide
  have z_1 : (1 : Int32).toInt = 1 := by decide
  have z_2000000 : (2000000 : Int32).toInt = 2000000 := by decide
  have k60 : (Cond.constant RX6 60 (2000000)).before args s = true := hts _ (by decide +kernel)
  have k61 : (Cond.constant RX6 61 (-2000000)).before args s = true := hts _ (by decide +kernel)
  have f9 : Cond.fieldLink RX6 9 "WindHall$Settling" "n" "I" ∈ wsX6_spreadOfLatest := by decide +kernel
  have hi6 : ∀ x ∈ u_ws RX6 TX6 8, x ∈ wsX6_spreadOfLatest := fun x q => List.mem_cons_of_mem _ (List.mem_append_right _ q)
  refine lv_ldc hx hb hown k60 dX6_spreadOfLatest_0 ?_
  refine lv_istore_n (lv' := [(2, .int (2000000)), (0, .ref (G.2.2 (83))), (1, .int (p1))]) hx hb dX6_spreadOfLatest_2 rfl hl (by decide) rfl (fun ls hl => ?_)
  refine lv_ldc hx hb hown k61 dX6_spreadOfLatest_3 ?_
  refine lv_istore_n (lv' := [(3, .int ((-2000000))), (2, .int (2000000)), (0, .ref (G.2.2 (83))), (1, .int (p1))]) hx hb dX6_spreadOfLatest_5 rfl hl (by decide) rfl (fun ls hl => ?_)
  refine lv_iconst (v := 1) hx hb dX6_spreadOfLatest_6 (by decide) ?_
  have J9_3 : ∀ (n : Nat) (y_1 : Int32) (y_2 : Int32) (y_3 : Int32) (H : Heap) (locs : List Loc) (ls : Array Slot), ((v 83 0).toInt + 1 - (y_3).toInt).toNat < n → (1 ≤ (y_3).toInt ∧ (y_3).toInt ≤ (v 83 0).toInt + 1) → (y_1 = loN (agC v A1.toNat) ((y_3).toInt - 1).toNat) → (y_2 = hiN (agC v A1.toNat) ((y_3).toInt - 1).toNat) → gS (gA G) G s v w sg H locs → lv_has ls 6 [(0, .ref (G.2.2 (83))), (1, .int (p1)), (2, .int (y_1)), (3, .int (y_2)), (4, .int (y_3))] → W p l e R s m args below meth c H locs 0 0 Q (F0 m 9 ls []) := by
    intro n
    induction n with
    | zero => intro y_1 y_2 y_3 H locs ls hm; exact absurd hm (Nat.not_lt_zero _)
    | succ n ih9 =>
      intro y_1 y_2 y_3 H locs ls hm f_4 f_5 f_6 h hl
      refine lv_iload hx hb dX6_spreadOfLatest_9 (lv_at hl 4 rfl) ?_
      refine lv_aload_n hx hb dX6_spreadOfLatest_11 rfl (lv_at hl 0 rfl) ?_
      refine g_geti (ci := 6) (x := v 83 0) C h 83 (by decide) rfl rfl hi6 0 (by decide) f9 rfl rfl rfl dX6_spreadOfLatest_12 ?_
      refine lv_icmp_gt (tgt := 47) hx hb dX6_spreadOfLatest_15 (by decide) (fun c_7 => ?_) (fun c_7 => ?_)
      · have j_8 : (v 83 0).toInt < (y_3).toInt := (i_lt rfl rfl).mp c_7
        refine lv_iload_n hx hb dX6_spreadOfLatest_47 rfl (lv_at hl 3 rfl) ?_
        refine lv_iload_n hx hb dX6_spreadOfLatest_48 rfl (lv_at hl 2 rfl) ?_
        refine lv_isub hx hb dX6_spreadOfLatest_49 ?_
        refine lv_topi (fun x_9 e_10 => ?_)
        exact ret x_9 v w sg _ _ _ _ dX6_spreadOfLatest_50 h ⟨(by rw [e_10, f_5, f_6, show (y_3).toInt - 1 = (v 83 0).toInt by omega]; rfl), rfl, rfl, rfl⟩
      · have j_8 : ¬ ((v 83 0).toInt < (y_3).toInt) := fun q => c_7 ((i_lt rfl rfl).mpr q)
        refine lv_aload_n hx hb dX6_spreadOfLatest_18 rfl (lv_at hl 0 rfl) ?_
        refine lv_iload hx hb dX6_spreadOfLatest_19 (lv_at hl 4 rfl) ?_
        refine lv_iload_n hx hb dX6_spreadOfLatest_21 rfl (lv_at hl 1 rfl) ?_
        refine g_calli C (va_runV (As := [.int (y_3), .int (p1)]) (rest := []) C.1 (c_X6_readingAgo l G v w sg y_3 (A1 := (y_3).toInt) rfl p1 (A2 := A1) a1 (by omega) (by omega) (by omega) (by omega)) (cwV 2 hts gX6_spreadOfLatest_X6_readingAgo rfl rfl rfl (by decide +kernel) ⟨by rw [hR]; exact Nat.le_of_ble_eq_true rfl, by rw [hR]; exact Nat.le_of_ble_eq_true rfl⟩) ⟨gPre_blind, g_recv C h 83 (by decide) (ci := 6) rfl rfl, gS_pre C h _⟩ rfl rfl hl.1 rfl (lv_room (Nat.le_of_ble_eq_true rfl)) dX6_spreadOfLatest_22 ⟨Nat.zero_le _, Nat.zero_le _⟩) h (fun r_11 v_13 w_14 g_15 H locs p_12 h => ?_)
        obtain ⟨p_12, rfl, rfl, rfl⟩ := p_12
        have hag := ag_of p_12 (by omega)
        refine lv_istore (lv' := [(5, .int (r_11)), (0, .ref (G.2.2 (83))), (1, .int (p1)), (2, .int (y_1)), (3, .int (y_2)), (4, .int (y_3))]) hx hb dX6_spreadOfLatest_25 hl (by decide) rfl (fun ls hl => ?_)
        refine lv_iload_n hx hb dX6_spreadOfLatest_27 rfl (lv_at hl 3 rfl) ?_
        refine lv_iload hx hb dX6_spreadOfLatest_28 (lv_at hl 0 rfl) ?_
        refine va_mmin hx hb (C.1.2.2.1.trans hl.1.symm) hown (hts (.methodLink RX6 66 Lib.Math.min.name) (by decide +kernel)) (hts (.static Lib.Math.min.name) (by decide +kernel)) (hts (.initialized "java/lang/Math") (by decide +kernel)) (hts (.code Lib.Math.min.name Lib.Math.min.code 2 (some .int)) (by decide +kernel)) (by rw [hR]; exact Nat.le_of_ble_eq_true rfl) (by rw [hR]; exact Nat.le_of_ble_eq_true rfl) (Nat.zero_le _) (Nat.zero_le _) dX6_spreadOfLatest_30 ?_
        refine lv_topi (fun x_16 e_17 => ?_)
        refine lv_istore_n (lv' := [(2, .int (x_16)), (5, .int (r_11)), (0, .ref (G.2.2 (83))), (1, .int (p1)), (3, .int (y_2)), (4, .int (y_3))]) hx hb dX6_spreadOfLatest_33 rfl hl (by decide) rfl (fun ls hl => ?_)
        refine lv_iload_n hx hb dX6_spreadOfLatest_34 rfl (lv_at hl 4 rfl) ?_
        refine lv_iload hx hb dX6_spreadOfLatest_35 (lv_at hl 1 rfl) ?_
        refine va_mmax hx hb (C.1.2.2.1.trans hl.1.symm) hown (hts (.methodLink RX6 69 Lib.Math.max.name) (by decide +kernel)) (hts (.static Lib.Math.max.name) (by decide +kernel)) (hts (.initialized "java/lang/Math") (by decide +kernel)) (hts (.code Lib.Math.max.name Lib.Math.max.code 2 (some .int)) (by decide +kernel)) (by rw [hR]; exact Nat.le_of_ble_eq_true rfl) (by rw [hR]; exact Nat.le_of_ble_eq_true rfl) (Nat.zero_le _) (Nat.zero_le _) dX6_spreadOfLatest_37 ?_
        refine lv_topi (fun x_18 e_19 => ?_)
        refine lv_istore_n (lv' := [(3, .int (x_18)), (2, .int (x_16)), (5, .int (r_11)), (0, .ref (G.2.2 (83))), (1, .int (p1)), (4, .int (y_3))]) hx hb dX6_spreadOfLatest_40 rfl hl (by decide) rfl (fun ls hl => ?_)
        obtain ⟨x_20, e_21⟩ : ∃ y : Int32, y = y_3 + 1 := ⟨_, rfl⟩
        have i_22 : x_20.toInt = (y_3).toInt + 1 := ia_add e_21 rfl (by decide) (by omega) (by omega)
        refine lv_iinc (v := x_20) (lv' := [(4, .int (x_20)), (3, .int (x_18)), (2, .int (x_16)), (5, .int (r_11)), (0, .ref (G.2.2 (83))), (1, .int (p1))]) hx hb dX6_spreadOfLatest_41 hl (k := 5) rfl (by rw [e_21]; rfl) (by decide) rfl (fun ls hl => ?_)
        refine lv_goto (tgt := 9) hx hb dX6_spreadOfLatest_44 (by decide) ?_
        exact ih9 x_16 x_18 x_20 _ _ _ (by omega) (by omega) (lo_st f_5 (by omega) (by omega) e_17 hag) (hi_st f_6 (by omega) (by omega) e_19 hag) h (lv_sub hl [4, 5, 2, 1, 0] rfl)
  refine lv_istore (lv' := [(4, .int (1)), (3, .int ((-2000000))), (2, .int (2000000)), (0, .ref (G.2.2 (83))), (1, .int (p1))]) hx hb dX6_spreadOfLatest_7 hl (by decide) rfl (fun ls hl => ?_)
  exact J9_3 _ 2000000 (-2000000) 1 _ _ _ (Nat.lt_succ_self _) (by omega) rfl rfl h (lv_sub hl [3, 4, 2, 1, 0] rfl)

set_option maxHeartbeats 4000000 in
set_option maxRecDepth 100000 in
theorem c_X6_sumOfLatest (l : Launch) (G : gG) (v : Nat → Nat → Int32) (w : Nat → Nat → Int64) (sg : Nat → Nat) (p1 : Int32) {A1 : Int} (a1 : p1.toInt = A1) (c1 : 1 ≤ (v 83 0).toInt ∧ (v 83 0).toInt ≤ 8) (c2 : 0 ≤ (v 83 5).toInt ∧ (v 83 5).toInt ≤ 101) (b1 : 0 ≤ A1 ∧ A1 ≤ 2) : Met l yX6_sumOfLatest wsX6_sumOfLatest ({ frames := 2, cells := 0, slots := 0, locals := 44 }) (gPre G v w sg [.ref (G.2.2 (83)), .int (p1)]) (gQi G (fun r v' w' sg' => (r = sumN (fun k => agC v A1.toNat (k + 1)) (v 83 0).toInt.toNat) ∧ v = v' ∧ w = w' ∧ sg = sg')) 0 0 (gA G) := by
  refine gM_ofi (cc := cX6_sumOfLatest) (maxL := 4) (by decide) rfl (Nat.le_of_ble_eq_true rfl) ?_
  intro p e R s m args below meth c Q ls C hR ret h hl
  have hx := C.1.1
  have hb := C.1.2.1
  have hown := C.1.2.2.2.1
  have hts := C.1.2.2.2.2
  have hl : lv_has ls 4 [(0, .ref (G.2.2 (83))), (1, .int (p1))] := hl
  have q1 := i_rng p1; rw [a1] at q1
  have z_0 : (0 : Int32).toInt = 0 := by decide
  have z_1 : (1 : Int32).toInt = 1 := by decide
  have f9 : Cond.fieldLink RX6 9 "WindHall$Settling" "n" "I" ∈ wsX6_sumOfLatest := by decide +kernel
  have hi6 : ∀ x ∈ u_ws RX6 TX6 8, x ∈ wsX6_sumOfLatest := fun x q => List.mem_cons_of_mem _ (List.mem_append_right _ q)
  refine lv_iconst (v := 0) hx hb dX6_sumOfLatest_0 (by decide) ?_
  refine lv_istore_n (lv' := [(2, .int (0)), (0, .ref (G.2.2 (83))), (1, .int (p1))]) hx hb dX6_sumOfLatest_1 rfl hl (by decide) rfl (fun ls hl => ?_)
  refine lv_iconst (v := 1) hx hb dX6_sumOfLatest_2 (by decide) ?_
  have J4_2 : ∀ (n : Nat) (y_1 : Int32) (y_2 : Int32) (H : Heap) (locs : List Loc) (ls : Array Slot), ((v 83 0).toInt + 1 - (y_2).toInt).toNat < n → (1 ≤ (y_2).toInt ∧ (y_2).toInt ≤ (v 83 0).toInt + 1) → (y_1 = sumN (fun k => agC v A1.toNat (k + 1)) ((y_2).toInt - 1).toNat) → gS (gA G) G s v w sg H locs → lv_has ls 4 [(0, .ref (G.2.2 (83))), (1, .int (p1)), (2, .int (y_1)), (3, .int (y_2))] → W p l e R s m args below meth c H locs 0 0 Q (F0 m 4 ls []) := by
    intro n
    induction n with
    | zero => intro y_1 y_2 H locs ls hm; exact absurd hm (Nat.not_lt_zero _)
    | succ n ih4 =>
      intro y_1 y_2 H locs ls hm f_3 f_4 h hl
      refine lv_iload_n hx hb dX6_sumOfLatest_4 rfl (lv_at hl 3 rfl) ?_
      refine lv_aload_n hx hb dX6_sumOfLatest_5 rfl (lv_at hl 0 rfl) ?_
      refine g_geti (ci := 6) (x := v 83 0) C h 83 (by decide) rfl rfl hi6 0 (by decide) f9 rfl rfl rfl dX6_sumOfLatest_6 ?_
      refine lv_icmp_gt (tgt := 27) hx hb dX6_sumOfLatest_9 (by decide) (fun c_5 => ?_) (fun c_5 => ?_)
      · have j_6 : (v 83 0).toInt < (y_2).toInt := (i_lt rfl rfl).mp c_5
        refine lv_iload_n hx hb dX6_sumOfLatest_27 rfl (lv_at hl 2 rfl) ?_
        exact ret y_1 v w sg _ _ _ _ dX6_sumOfLatest_28 h ⟨(by rw [f_4, show (y_2).toInt - 1 = (v 83 0).toInt by omega]), rfl, rfl, rfl⟩
      · have j_6 : ¬ ((v 83 0).toInt < (y_2).toInt) := fun q => c_5 ((i_lt rfl rfl).mpr q)
        refine lv_iload_n hx hb dX6_sumOfLatest_12 rfl (lv_at hl 2 rfl) ?_
        refine lv_aload_n hx hb dX6_sumOfLatest_13 rfl (lv_at hl 0 rfl) ?_
        refine lv_iload_n hx hb dX6_sumOfLatest_14 rfl (lv_at hl 3 rfl) ?_
        refine lv_iload_n hx hb dX6_sumOfLatest_15 rfl (lv_at hl 1 rfl) ?_
        refine g_calli C (va_runV (As := [.int (y_2), .int (p1)]) (rest := [.int (y_1)]) C.1 (c_X6_readingAgo l G v w sg y_2 (A1 := (y_2).toInt) rfl p1 (A2 := A1) a1 (by omega) (by omega) (by omega) (by omega)) (cwV 2 hts gX6_sumOfLatest_X6_readingAgo rfl rfl rfl (by decide +kernel) ⟨by rw [hR]; exact Nat.le_of_ble_eq_true rfl, by rw [hR]; exact Nat.le_of_ble_eq_true rfl⟩) ⟨gPre_blind, g_recv C h 83 (by decide) (ci := 6) rfl rfl, gS_pre C h _⟩ rfl rfl hl.1 rfl (lv_room (Nat.le_of_ble_eq_true rfl)) dX6_sumOfLatest_16 ⟨Nat.zero_le _, Nat.zero_le _⟩) h (fun r_7 v_9 w_10 g_11 H locs p_8 h => ?_)
        obtain ⟨p_8, rfl, rfl, rfl⟩ := p_8
        have hag := ag_of p_8 (by omega)
        refine lv_iadd hx hb dX6_sumOfLatest_19 ?_
        refine lv_topi (fun x_12 e_13 => ?_)
        refine lv_istore_n (lv' := [(2, .int (x_12)), (0, .ref (G.2.2 (83))), (1, .int (p1)), (3, .int (y_2))]) hx hb dX6_sumOfLatest_20 rfl hl (by decide) rfl (fun ls hl => ?_)
        obtain ⟨x_14, e_15⟩ : ∃ y : Int32, y = y_2 + 1 := ⟨_, rfl⟩
        have i_16 : x_14.toInt = (y_2).toInt + 1 := ia_add e_15 rfl (by decide) (by omega) (by omega)
        refine lv_iinc (v := x_14) (lv' := [(3, .int (x_14)), (2, .int (x_12)), (0, .ref (G.2.2 (83))), (1, .int (p1))]) hx hb dX6_sumOfLatest_21 hl (k := 3) rfl (by rw [e_15]; rfl) (by decide) rfl (fun ls hl => ?_)
        refine lv_goto (tgt := 4) hx hb dX6_sumOfLatest_24 (by decide) ?_
        exact ih4 x_12 x_14 _ _ _ (by omega) (by omega) (sm_st f_4 (by omega) (by omega) e_13 hag) h (lv_sub hl [2, 3, 1, 0] rfl)
  refine lv_istore_n (lv' := [(3, .int (1)), (2, .int (0)), (0, .ref (G.2.2 (83))), (1, .int (p1))]) hx hb dX6_sumOfLatest_3 rfl hl (by decide) rfl (fun ls hl => ?_)
  exact J4_2 _ 0 1 _ _ _ (Nat.lt_succ_self _) (by omega) rfl h (lv_sub hl [2, 3, 1, 0] rfl)

set_option maxHeartbeats 4000000 in
set_option maxRecDepth 100000 in
theorem c_X6_isSettled (l : Launch) (G : gG) (v : Nat → Nat → Int32) (w : Nat → Nat → Int64) (sg : Nat → Nat) (c1 : 1 ≤ (v 83 0).toInt ∧ (v 83 0).toInt ≤ 8) (c2 : 0 ≤ (v 83 5).toInt ∧ (v 83 5).toInt ≤ 101) : Met l yX6_isSettled wsX6_isSettled ({ frames := 3, cells := 0, slots := 0, locals := 69 }) (gPre G v w sg [.ref (G.2.2 (83))]) (gQi G (fun r v' w' sg' => ((r = 1 ∧ stC v) ∨ (r = 0 ∧ ¬ stC v)) ∧ v = v' ∧ w = w' ∧ sg = sg')) 0 0 (gA G) := by
  refine gM_ofz (cc := cX6_isSettled) (maxL := 2) (by decide) rfl (Nat.le_of_ble_eq_true rfl) ?_
  intro p e R s m args below meth c Q ls C hR ret h hl
  have hx := C.1.1
  have hb := C.1.2.1
  have hown := C.1.2.2.2.1
  have hts := C.1.2.2.2.2
  have hl : lv_has ls 2 [(0, .ref (G.2.2 (83)))] := hl
  have z_0 : (0 : Int32).toInt = 0 := by decide
  have z_1 : (1 : Int32).toInt = 1 := by decide
  have z_3 : (3 : Int32).toInt = 3 := by decide
  have f28 : Cond.fieldLink RX6 28 "WindHall$Settling" "came" "I" ∈ wsX6_isSettled := by decide +kernel
  have hi6 : ∀ x ∈ u_ws RX6 TX6 8, x ∈ wsX6_isSettled := fun x q => List.mem_cons_of_mem _ (List.mem_append_right _ q)
  have f9 : Cond.fieldLink RX6 9 "WindHall$Settling" "n" "I" ∈ wsX6_isSettled := by decide +kernel
  have f15 : Cond.fieldLink RX6 15 "WindHall$Settling" "d" "I" ∈ wsX6_isSettled := by decide +kernel
  refine lv_aload_n hx hb dX6_isSettled_0 rfl (lv_at hl 0 rfl) ?_
  refine g_geti (ci := 6) (x := v 83 5) C h 83 (by decide) rfl rfl hi6 5 (by decide) f28 rfl rfl rfl dX6_isSettled_1 ?_
  refine lv_aload_n hx hb dX6_isSettled_4 rfl (lv_at hl 0 rfl) ?_
  refine g_geti (ci := 6) (x := v 83 0) C h 83 (by decide) rfl rfl hi6 0 (by decide) f9 rfl rfl rfl dX6_isSettled_5 ?_
  refine lv_icmp_ge (tgt := 13) hx hb dX6_isSettled_8 (by decide) (fun c_1 => ?_) (fun c_1 => ?_)
  · have j_2 : (v 83 0).toInt ≤ (v 83 5).toInt := (i_le rfl rfl).mp c_1
    refine lv_iconst (v := 0) hx hb dX6_isSettled_13 (by decide) ?_
    have J15_3 : ∀ (n : Nat) (y_3 : Int32) (H : Heap) (locs : List Loc) (ls : Array Slot), (3 - (y_3).toInt).toNat < n → (0 ≤ (y_3).toInt ∧ (y_3).toInt ≤ 3) → (stP v (y_3).toInt) → gS (gA G) G s v w sg H locs → lv_has ls 2 [(0, .ref (G.2.2 (83))), (1, .int (y_3))] → W p l e R s m args below meth c H locs 0 0 Q (F0 m 15 ls []) := by
      intro n
      induction n with
      | zero => intro y_3 H locs ls hm; exact absurd hm (Nat.not_lt_zero _)
      | succ n ih15 =>
        intro y_3 H locs ls hm f_4 f_5 h hl
        refine lv_iload_n hx hb dX6_isSettled_15 rfl (lv_at hl 1 rfl) ?_
        refine lv_iconst (v := 3) hx hb dX6_isSettled_16 (by decide) ?_
        refine lv_icmp_ge (tgt := 40) hx hb dX6_isSettled_17 (by decide) (fun c_6 => ?_) (fun c_6 => ?_)
        · have j_7 : 3 ≤ (y_3).toInt := (i_le (by decide) rfl).mp c_6
          refine lv_iconst (v := 1) hx hb dX6_isSettled_40 (by decide) ?_
          exact ret 1 v w sg _ _ _ _ rfl dX6_isSettled_41 h ⟨Or.inl ⟨rfl, by omega, (show (y_3).toInt = 3 by omega) ▸ f_5⟩, rfl, rfl, rfl⟩
        · have j_7 : ¬ (3 ≤ (y_3).toInt) := fun q => c_6 ((i_le (by decide) rfl).mpr q)
          refine lv_aload_n hx hb dX6_isSettled_20 rfl (lv_at hl 0 rfl) ?_
          refine lv_iload_n hx hb dX6_isSettled_21 rfl (lv_at hl 1 rfl) ?_
          refine g_calli C (va_runV (As := [.int (y_3)]) (rest := []) C.1 (c_X6_spreadOfLatest l G v w sg y_3 (A1 := (y_3).toInt) rfl (by omega) (by omega) (by omega)) (cwV 1 hts gX6_isSettled_X6_spreadOfLatest rfl rfl rfl (by decide +kernel) ⟨by rw [hR]; exact Nat.le_of_ble_eq_true rfl, by rw [hR]; exact Nat.le_of_ble_eq_true rfl⟩) ⟨gPre_blind, g_recv C h 83 (by decide) (ci := 6) rfl rfl, gS_pre C h _⟩ rfl rfl hl.1 rfl (lv_room (Nat.le_of_ble_eq_true rfl)) dX6_isSettled_22 ⟨Nat.zero_le _, Nat.zero_le _⟩) h (fun r_8 v_10 w_11 g_12 H locs p_9 h => ?_)
          obtain ⟨p_9, rfl, rfl, rfl⟩ := p_9
          have hsp : (r_8).toInt = (spC v (y_3 : Int32).toInt.toNat).toInt := by rw [p_9]
          refine lv_aload_n hx hb dX6_isSettled_25 rfl (lv_at hl 0 rfl) ?_
          refine g_geti (ci := 6) (x := v 83 1) C h 83 (by decide) rfl rfl hi6 1 (by decide) f15 rfl rfl rfl dX6_isSettled_26 ?_
          refine lv_icmp_le (tgt := 34) hx hb dX6_isSettled_29 (by decide) (fun c_13 => ?_) (fun c_13 => ?_)
          · have j_14 : (r_8).toInt ≤ (v 83 1).toInt := (i_le rfl rfl).mp c_13
            obtain ⟨x_15, e_16⟩ : ∃ y : Int32, y = y_3 + 1 := ⟨_, rfl⟩
            have i_17 : x_15.toInt = (y_3).toInt + 1 := ia_add e_16 rfl (by decide) (by omega) (by omega)
            refine lv_iinc (v := x_15) (lv' := [(1, .int (x_15)), (0, .ref (G.2.2 (83)))]) hx hb dX6_isSettled_34 hl (k := 1) rfl (by rw [e_16]; rfl) (by decide) rfl (fun ls hl => ?_)
            refine lv_goto (tgt := 15) hx hb dX6_isSettled_37 (by decide) ?_
            exact ih15 x_15 _ _ _ (by omega) (by omega) (f_5.st (by omega) (by omega) (by omega)) h (lv_sub hl [1, 0] rfl)
          · have j_14 : ¬ ((r_8).toInt ≤ (v 83 1).toInt) := fun q => c_13 ((i_le rfl rfl).mpr q)
            refine lv_iconst (v := 0) hx hb dX6_isSettled_32 (by decide) ?_
            exact ret 0 v w sg _ _ _ _ rfl dX6_isSettled_33 h ⟨Or.inr ⟨rfl, fun q => by have := q.2 (y_3 : Int32).toInt.toNat (by omega); omega⟩, rfl, rfl, rfl⟩
    refine lv_istore_n (lv' := [(1, .int (0)), (0, .ref (G.2.2 (83)))]) hx hb dX6_isSettled_14 rfl hl (by decide) rfl (fun ls hl => ?_)
    exact J15_3 _ 0 _ _ _ (Nat.lt_succ_self _) (by omega) stP_0 h (lv_sub hl [1, 0] rfl)
  · have j_2 : ¬ ((v 83 0).toInt ≤ (v 83 5).toInt) := fun q => c_1 ((i_le rfl rfl).mpr q)
    refine lv_iconst (v := 0) hx hb dX6_isSettled_11 (by decide) ?_
    exact ret 0 v w sg _ _ _ _ rfl dX6_isSettled_12 h ⟨Or.inr ⟨rfl, fun q => by have := q.1; omega⟩, rfl, rfl, rfl⟩

set_option maxHeartbeats 4000000 in
set_option maxRecDepth 100000 in
theorem c_X6_take (l : Launch) (G : gG) (v : Nat → Nat → Int32) (w : Nat → Nat → Int64) (sg : Nat → Nat) (p1 : Int32) {A1 : Int} (a1 : p1.toInt = A1) (p2 : Int32) {A2 : Int} (a2 : p2.toInt = A2) (p3 : Int32) {A3 : Int} (a3 : p3.toInt = A3) (b0 : (v 83 4).toInt = 0) (ci : cI v) : Met l yX6_take wsX6_take ({ frames := 4, cells := 0, slots := 0, locals := 90 }) (gPre G v w sg [.ref (G.2.2 (83)), .int (p1), .int (p2), .int (p3)]) (gQi G (fun r v' w' sg' => (cI v' ∧ fC 83 93 v w v' w ∧ ∃ (v3 : Nat → Nat → Int32) (b s : Int32), v3 = gu (gu (tk3 v (85 + ((v 83 5).toInt % 8).toNat) p1 p2 p3) 83 5 (v 83 5 + 1)) 83 6 b ∧ fst3 (fun j => far (v 83 3) (sel3 j p1 p2 p3)) (-4) b.toInt ∧ stS b s (stC v3) (v3 83 5).toInt (v3 83 2).toInt ∧ r = s ∧ v' = gu v3 83 4 s) ∧ w = w' ∧ sg = sg')) 0 0 (gA G) := by
  refine gM_ofi (cc := cX6_take) (maxL := 5) (by decide) rfl (Nat.le_of_ble_eq_true rfl) ?_
  intro p e R s m args below meth c Q ls C hR ret h hl
  have hx := C.1.1
  have hb := C.1.2.1
  have hown := C.1.2.2.2.1
  have hts := C.1.2.2.2.2
  have hl : lv_has ls 5 [(0, .ref (G.2.2 (83))), (1, .int (p1)), (2, .int (p2)), (3, .int (p3))] := hl
  have q1 := i_rng p1; rw [a1] at q1
  have q2 := i_rng p2; rw [a2] at q2
  have q3 := i_rng p3; rw [a3] at q3
  have z_m4 : ((-4) : Int32).toInt = (-4) := by decide
  have z_0 : (0 : Int32).toInt = 0 := by decide
  have z_1 : (1 : Int32).toInt = 1 := by decide
  have z_2 : (2 : Int32).toInt = 2 := by decide
  have z_3 : (3 : Int32).toInt = 3 := by decide
  have z_8 : (8 : Int32).toInt = 8 := by decide
  have f36 : Cond.fieldLink RX6 36 "WindHall$Settling" "latest" "[[I" ∈ wsX6_take := by decide +kernel
  have hi6 : ∀ x ∈ u_ws RX6 TX6 8, x ∈ wsX6_take := fun x q => List.mem_cons_of_mem _ (List.mem_append_right _ q)
  have f28 : Cond.fieldLink RX6 28 "WindHall$Settling" "came" "I" ∈ wsX6_take := by decide +kernel
  have f31 : Cond.fieldLink RX6 31 "WindHall$Settling" "beyond" "I" ∈ wsX6_take := by decide +kernel
  have f25 : Cond.fieldLink RX6 25 "WindHall$Settling" "state" "I" ∈ wsX6_take := by decide +kernel
  have f18 : Cond.fieldLink RX6 18 "WindHall$Settling" "most" "I" ∈ wsX6_take := by decide +kernel
  have o_1 := ci
  obtain ⟨K1, K2, K3, K4, K5, K6, K7, Ks, K9, Ka, Kr, Kz⟩ := o_1
  refine lv_aload_n hx hb dX6_take_0 rfl (lv_at hl 0 rfl) ?_
  refine g_get (ci := 6) (x := .ref (G.2.2 (84))) C h 83 (by decide) rfl rfl hi6 7 (by decide) f36 rfl rfl dX6_take_1 ?_
  refine lv_aload_n hx hb dX6_take_4 rfl (lv_at hl 0 rfl) ?_
  refine g_geti (ci := 6) (x := v 83 5) C h 83 (by decide) rfl rfl hi6 5 (by decide) f28 rfl rfl rfl dX6_take_5 ?_
  refine lv_bipush (v := 8) hx hb dX6_take_8 (by decide) ?_
  refine lv_irem hx hb dX6_take_10 (by decide) ?_
  refine lv_topi (fun x_2 e_3 => ?_)
  have i_4 : x_2.toInt = (v 83 5).toInt % 8 := ia_rem e_3 rfl (by decide) (by omega) (by omega)
  refine g_aald (ty := .array .int) C h 84 (by decide) 0 (by decide) (n := 8) (by decide) rfl rfl (vp_of i_4 (by omega) (by omega)) dX6_take_11 ?_
  obtain ⟨q_5, q_5_e, q_5_i, q_5_l⟩ := g_row sg (b := 84) (n := 8) (i := x_2) (by decide) (by decide) i_4 (by omega) (by omega)
  rw [q_5_e]
  refine lv_astore (lv' := [(4, .ref (G.2.2 (q_5))), (0, .ref (G.2.2 (83))), (1, .int (p1)), (2, .int (p2)), (3, .int (p3))]) hx hb dX6_take_12 hl (by decide) rfl (fun ls hl => ?_)
  refine lv_aload hx hb dX6_take_14 (lv_at hl 0 rfl) ?_
  refine lv_iload_n hx hb dX6_take_16 rfl (lv_at hl 2 rfl) ?_
  refine lv_iload_n hx hb dX6_take_17 rfl (lv_at hl 3 rfl) ?_
  refine lv_iload_n hx hb dX6_take_18 rfl (lv_at hl 4 rfl) ?_
  refine g_callv C (va_runSN (As := [.ref (G.2.2 (q_5)), .int (p1), .int (p2), .int (p3)]) (rest := []) C.1 (c_X9_setRow l G v w sg q_5 p1 (A1 := A1) a1 p2 (A2 := A2) a2 p3 (A3 := A3) a3 (by omega) (g_kd 85 8 1 rfl q_5_l) (g_ln 85 8 3 rfl q_5_l)) ⟨va_cnB 4 hts ggX6_take_X9_setRow rfl rfl rfl C.2.1.2.2.2.1 (hts (.initialized RX9) (by decide +kernel)) (by decide +kernel) ⟨by rw [hR]; exact Nat.le_of_ble_eq_true rfl, by rw [hR]; exact Nat.le_of_ble_eq_true rfl⟩, (hts (.static yX9_setRow) (by decide +kernel)), trivial⟩ ⟨gPre_blind, gS_pre C h _⟩ rfl rfl hl.1 rfl (lv_room (Nat.le_of_ble_eq_true rfl)) dX6_take_19 ⟨Nat.zero_le _, Nat.zero_le _⟩) h (fun v_8 w_9 g_10 H locs p_7 h => ?_)
  obtain ⟨p_7, rfl, rfl⟩ := p_7
  obtain ⟨v_11, hv_11⟩ : ∃ z, z = gu v q_5 0 p1 := ⟨_, rfl⟩
  have u_12 : cI v_11 := by rw [hv_11]; exact (cI_o ci (by omega))
  have u_13 : fC 83 93 v w v_11 w := by rw [hv_11]; exact (fC_v fC_rf (by omega))
  obtain ⟨v_14, hv_14⟩ : ∃ z, z = gu v_11 q_5 1 p2 := ⟨_, rfl⟩
  have u_15 : cI v_14 := by rw [hv_14]; exact (cI_o u_12 (by omega))
  have u_16 : fC 83 93 v w v_14 w := by rw [hv_14]; exact (fC_v u_13 (by omega))
  have hv_8 : v_8 = gu v_14 q_5 2 p3 := by rw [hv_14, hv_11]; exact p_7
  have u_17 : cI v_8 := by rw [hv_8]; exact (cI_o u_15 (by omega))
  have u_18 : fC 83 93 v w v_8 w := by rw [hv_8]; exact (fC_v u_16 (by omega))
  have eb83 : v_8 83 = v 83 := by rw [hv_8, gu_o (show 83 ≠ q_5 by omega), hv_14, gu_o (show 83 ≠ q_5 by omega), hv_11, gu_o (show 83 ≠ q_5 by omega)]
  have o_19 := u_17
  obtain ⟨K1, K2, K3, K4, K5, K6, K7, Ks, K9, Ka, Kr, Kz⟩ := o_19
  have b00 := b0
  have b0 : (v_8 83 4).toInt = 0 := by rw [eb83]; exact b0
  have hs0 := cS_0 Ks b0
  have htk : v_8 = tk3 v (85 + ((v 83 5).toInt % 8).toNat) p1 p2 p3 := by rw [p_7, show q_5 = 85 + ((v 83 5).toInt % 8).toNat by omega]; rfl
  refine lv_aload_n hx hb dX6_take_22 rfl (lv_at hl 1 rfl) ?_
  refine lv_dup hx hb dX6_take_23 rfl ?_
  refine g_geti (ci := 6) (x := v_8 83 5) C h 83 (by decide) rfl rfl hi6 5 (by decide) f28 rfl rfl rfl dX6_take_24 ?_
  refine lv_iconst (v := 1) hx hb dX6_take_27 (by decide) ?_
  refine lv_iadd hx hb dX6_take_28 ?_
  refine lv_topi (fun x_20 e_21 => ?_)
  have i_22 : x_20.toInt = (v_8 83 5).toInt + 1 := ia_add e_21 rfl (by decide) (by omega) (by omega)
  refine g_put (ci := 6) (x := x_20) (ty := .int) C h 83 (by decide) rfl rfl hi6 tyX6 tyX6_ok nmX6 5 (by decide) f28 rfl rfl (by decide +kernel) rfl rfl (Nat.le_of_ble_eq_true rfl) rfl dX6_take_29 (fun H locs h => ?_)
  obtain ⟨v_23, hv_23⟩ : ∃ z, z = gu v_8 83 5 x_20 := ⟨_, rfl⟩
  have h : gS (gA G) G s v_23 w sg H locs := by rw [hv_23]; exact h
  have u_24 : fC 83 93 v w v_23 w := by rw [hv_23]; exact (fC_v u_18 (by decide))
  refine lv_aload_n hx hb dX6_take_32 rfl (lv_at hl 1 rfl) ?_
  refine lv_aload_n hx hb dX6_take_33 rfl (lv_at hl 1 rfl) ?_
  refine lv_aload hx hb dX6_take_34 (lv_at hl 0 rfl) ?_
  refine g_calli C (va_runV (As := [.ref (G.2.2 (q_5))]) (rest := [.ref (G.2.2 (83))]) C.1 (c_X6_firstBeyond l G v_23 w sg q_5 (by omega) (g_kd 85 8 1 rfl q_5_l) (g_ln 85 8 3 rfl q_5_l)) (cwV 1 hts gX6_take_X6_firstBeyond rfl rfl rfl (by decide +kernel) ⟨by rw [hR]; exact Nat.le_of_ble_eq_true rfl, by rw [hR]; exact Nat.le_of_ble_eq_true rfl⟩) ⟨gPre_blind, g_recv C h 83 (by decide) (ci := 6) rfl rfl, gS_pre C h _⟩ rfl rfl hl.1 rfl (lv_room (Nat.le_of_ble_eq_true rfl)) dX6_take_36 ⟨Nat.zero_le _, Nat.zero_le _⟩) h (fun r_25 v_27 w_28 g_29 H locs p_26 h => ?_)
  obtain ⟨p_26, rfl, rfl, rfl⟩ := p_26
  have hfb : fst3 (fun j => far (v 83 3) (sel3 j p1 p2 p3)) (-4) (r_25).toInt := fst3_cg p_26 (fun j hj => by show far (v_23 83 3) (v_23 q_5 j) ↔ far (v 83 3) (sel3 j p1 p2 p3); rw [show v_23 83 3 = v 83 3 by rw [hv_23, gu_n (by decide), eb83], show v_23 q_5 j = sel3 j p1 p2 p3 by rw [hv_23, gu_n (by omega), htk, show q_5 = 85 + ((v 83 5).toInt % 8).toNat by omega, tk3_in hj]])
  refine g_put (ci := 6) (x := r_25) (ty := .int) C h 83 (by decide) rfl rfl hi6 tyX6 tyX6_ok nmX6 6 (by decide) f31 rfl rfl (by decide +kernel) rfl rfl (Nat.le_of_ble_eq_true rfl) rfl dX6_take_39 (fun H locs h => ?_)
  obtain ⟨v_30, hv_30⟩ : ∃ z, z = gu v_23 83 6 r_25 := ⟨_, rfl⟩
  have h : gS (gA G) G s v_30 w sg H locs := by rw [hv_30]; exact h
  have u_31 : fC 83 93 v w v_30 w := by rw [hv_30]; exact (fC_v u_24 (by decide))
  have hc5 : (v_30 83 5).toInt = (x_20 : Int32).toInt := by rw [hv_30, hv_23]; rfl
  have hc2 : (v_30 83 2).toInt = ((v_8 83 2) : Int32).toInt := by rw [hv_30, hv_23]; rfl
  have hz4 : (v_8 83 4) = 0 := i_ext (b0.trans (by decide))
  have hr0 := hz4
  refine lv_aload_n hx hb dX6_take_42 rfl (lv_at hl 1 rfl) ?_
  refine g_geti (ci := 6) (x := r_25) C h 83 (by decide) rfl rfl hi6 6 (by decide) f31 rfl rfl (by rw [hv_30] <;> rfl) dX6_take_43 ?_
  refine lv_bipush (v := (-4)) hx hb dX6_take_46 (by decide) ?_
  refine lv_icmp_eq (tgt := 59) hx hb dX6_take_48 (by decide) (fun c_32 => ?_) (fun c_32 => ?_)
  · have j_33 : (r_25).toInt = (-4) := (i_eq rfl (by decide)).mp c_32
    refine lv_aload_n hx hb dX6_take_59 rfl (lv_at hl 1 rfl) ?_
    refine g_calli C (va_runV (As := []) (rest := []) C.1 (c_X6_isSettled l G v_30 w sg  (by rw [hv_30, hv_23] <;> exact (show 1 ≤ ((v_8 83 0) : Int32).toInt ∧ ((v_8 83 0) : Int32).toInt ≤ 8 by omega)) (by rw [hv_30, hv_23] <;> exact (show 0 ≤ (x_20 : Int32).toInt ∧ (x_20 : Int32).toInt ≤ 101 by omega))) (cwV 0 hts gX6_take_X6_isSettled rfl rfl rfl (by decide +kernel) ⟨by rw [hR]; exact Nat.le_of_ble_eq_true rfl, by rw [hR]; exact Nat.le_of_ble_eq_true rfl⟩) ⟨gPre_blind, g_recv C h 83 (by decide) (ci := 6) rfl rfl, gS_pre C h _⟩ rfl rfl hl.1 rfl (lv_room (Nat.le_of_ble_eq_true rfl)) dX6_take_60 ⟨Nat.zero_le _, Nat.zero_le _⟩) h (fun r_34 v_36 w_37 g_38 H locs p_35 h => ?_)
    obtain ⟨p_35, rfl, rfl, rfl⟩ := p_35
    rcases p_35 with ⟨rfl, t_39⟩ | ⟨rfl, t_39⟩
    · skip
      refine lv_if_eq (tgt := 74) hx hb dX6_take_63 (by decide) (fun c_40 => absurd c_40 (by decide)) (fun _ => ?_)
      refine lv_aload_n hx hb dX6_take_66 rfl (lv_at hl 1 rfl) ?_
      refine lv_iconst (v := 1) hx hb dX6_take_67 (by decide) ?_
      refine g_put (ci := 6) (x := 1) (ty := .int) C h 83 (by decide) rfl rfl hi6 tyX6 tyX6_ok nmX6 4 (by decide) f25 rfl rfl (by decide +kernel) rfl rfl (Nat.le_of_ble_eq_true rfl) rfl dX6_take_68 (fun H locs h => ?_)
      obtain ⟨v_41, hv_41⟩ : ∃ z, z = gu v_30 83 4 1 := ⟨_, rfl⟩
      have h : gS (gA G) G s v_41 w sg H locs := by rw [hv_41]; exact h
      have u_42 : fC 83 93 v w v_41 w := by rw [hv_41]; exact (fC_v u_31 (by decide))
      refine lv_goto (tgt := 90) hx hb dX6_take_71 (by decide) ?_
      refine lv_aload_n hx hb dX6_take_90 rfl (lv_at hl 1 rfl) ?_
      refine g_geti (ci := 6) (x := 1) C h 83 (by decide) rfl rfl hi6 4 (by decide) f25 rfl rfl (by rw [hv_41] <;> rfl) dX6_take_91 ?_
      exact ret 1 v_41 w sg _ _ _ _ dX6_take_94 h ⟨⟨(cI_83m u_17 (fun a ha => by rw [hv_41, gu_o ha, hv_30, gu_o ha, hv_23, gu_o ha]) (by rw [hv_41, hv_30, hv_23]; exact (show 1 ≤ ((v_8 83 0) : Int32).toInt ∧ ((v_8 83 0) : Int32).toInt ≤ 8 by omega)) (by rw [hv_41, hv_30, hv_23]; exact (show 1 ≤ ((v_8 83 2) : Int32).toInt ∧ ((v_8 83 2) : Int32).toInt ≤ 100 by omega)) (by rw [hv_41, hv_30, hv_23]; exact (show 0 ≤ (x_20 : Int32).toInt ∧ (x_20 : Int32).toInt ≤ 100 by omega)) (by unfold cS; rw [hv_41, hv_30, hv_23]; exact (show ((1 : Int32).toInt = 0 → (x_20 : Int32).toInt < ((v_8 83 2) : Int32).toInt) by omega))), u_42, ⟨v_30, r_25, 1, (by rw [hv_30, hv_23, e_21, eb83, htk]), hfb, Or.inr (Or.inl ⟨by omega, by assumption, rfl⟩), rfl, hv_41⟩⟩, rfl, rfl⟩
    · skip
      refine lv_if_eq (tgt := 74) hx hb dX6_take_63 (by decide) (fun _ => ?_) (fun c_43 => absurd (by decide) c_43)
      refine lv_aload_n hx hb dX6_take_74 rfl (lv_at hl 1 rfl) ?_
      refine g_geti (ci := 6) (x := x_20) C h 83 (by decide) rfl rfl hi6 5 (by decide) f28 rfl rfl (by rw [hv_30, hv_23] <;> rfl) dX6_take_75 ?_
      refine lv_aload_n hx hb dX6_take_78 rfl (lv_at hl 1 rfl) ?_
      refine g_geti (ci := 6) (x := v_8 83 2) C h 83 (by decide) rfl rfl hi6 2 (by decide) f18 rfl rfl (by rw [hv_30, hv_23] <;> rfl) dX6_take_79 ?_
      refine lv_icmp_lt (tgt := 90) hx hb dX6_take_82 (by decide) (fun c_44 => ?_) (fun c_44 => ?_)
      · have j_45 : (x_20).toInt < (v_8 83 2).toInt := (i_lt rfl rfl).mp c_44
        refine lv_aload_n hx hb dX6_take_90 rfl (lv_at hl 1 rfl) ?_
        refine g_geti (ci := 6) (x := v_8 83 4) C h 83 (by decide) rfl rfl hi6 4 (by decide) f25 rfl rfl (by rw [hv_30, hv_23] <;> rfl) dX6_take_91 ?_
        exact ret (v_8 83 4) v_30 w sg _ _ _ _ dX6_take_94 h ⟨⟨(cI_83m u_17 (fun a ha => by rw [hv_30, gu_o ha, hv_23, gu_o ha]) (by rw [hv_30, hv_23]; exact (show 1 ≤ ((v_8 83 0) : Int32).toInt ∧ ((v_8 83 0) : Int32).toInt ≤ 8 by omega)) (by rw [hv_30, hv_23]; exact (show 1 ≤ ((v_8 83 2) : Int32).toInt ∧ ((v_8 83 2) : Int32).toInt ≤ 100 by omega)) (by rw [hv_30, hv_23]; exact (show 0 ≤ (x_20 : Int32).toInt ∧ (x_20 : Int32).toInt ≤ 100 by omega)) (by unfold cS; rw [hv_30, hv_23]; exact (show (((v_8 83 4) : Int32).toInt = 0 → (x_20 : Int32).toInt < ((v_8 83 2) : Int32).toInt) by omega))), u_31, ⟨v_30, r_25, 0, (by rw [hv_30, hv_23, e_21, eb83, htk]), hfb, Or.inr (Or.inr (Or.inr ⟨by omega, by assumption, by rw [hc5, hc2]; omega, rfl⟩)), hr0, (gu_id (by rw [hv_30, hv_23]; exact hz4))⟩⟩, rfl, rfl⟩
      · have j_45 : ¬ ((x_20).toInt < (v_8 83 2).toInt) := fun q => c_44 ((i_lt rfl rfl).mpr q)
        refine lv_aload_n hx hb dX6_take_85 rfl (lv_at hl 1 rfl) ?_
        refine lv_iconst (v := 3) hx hb dX6_take_86 (by decide) ?_
        refine g_put (ci := 6) (x := 3) (ty := .int) C h 83 (by decide) rfl rfl hi6 tyX6 tyX6_ok nmX6 4 (by decide) f25 rfl rfl (by decide +kernel) rfl rfl (Nat.le_of_ble_eq_true rfl) rfl dX6_take_87 (fun H locs h => ?_)
        obtain ⟨v_46, hv_46⟩ : ∃ z, z = gu v_30 83 4 3 := ⟨_, rfl⟩
        have h : gS (gA G) G s v_46 w sg H locs := by rw [hv_46]; exact h
        have u_47 : fC 83 93 v w v_46 w := by rw [hv_46]; exact (fC_v u_31 (by decide))
        refine lv_aload_n hx hb dX6_take_90 rfl (lv_at hl 1 rfl) ?_
        refine g_geti (ci := 6) (x := 3) C h 83 (by decide) rfl rfl hi6 4 (by decide) f25 rfl rfl (by rw [hv_46] <;> rfl) dX6_take_91 ?_
        exact ret 3 v_46 w sg _ _ _ _ dX6_take_94 h ⟨⟨(cI_83m u_17 (fun a ha => by rw [hv_46, gu_o ha, hv_30, gu_o ha, hv_23, gu_o ha]) (by rw [hv_46, hv_30, hv_23]; exact (show 1 ≤ ((v_8 83 0) : Int32).toInt ∧ ((v_8 83 0) : Int32).toInt ≤ 8 by omega)) (by rw [hv_46, hv_30, hv_23]; exact (show 1 ≤ ((v_8 83 2) : Int32).toInt ∧ ((v_8 83 2) : Int32).toInt ≤ 100 by omega)) (by rw [hv_46, hv_30, hv_23]; exact (show 0 ≤ (x_20 : Int32).toInt ∧ (x_20 : Int32).toInt ≤ 100 by omega)) (by unfold cS; rw [hv_46, hv_30, hv_23]; exact (show ((3 : Int32).toInt = 0 → (x_20 : Int32).toInt < ((v_8 83 2) : Int32).toInt) by omega))), u_47, ⟨v_30, r_25, 3, (by rw [hv_30, hv_23, e_21, eb83, htk]), hfb, Or.inr (Or.inr (Or.inl ⟨by omega, by assumption, by rw [hc5, hc2]; omega, rfl⟩)), rfl, hv_46⟩⟩, rfl, rfl⟩
  · have j_33 : ¬ ((r_25).toInt = (-4)) := fun q => c_32 ((i_eq rfl (by decide)).mpr q)
    refine lv_aload_n hx hb dX6_take_51 rfl (lv_at hl 1 rfl) ?_
    refine lv_iconst (v := 2) hx hb dX6_take_52 (by decide) ?_
    refine g_put (ci := 6) (x := 2) (ty := .int) C h 83 (by decide) rfl rfl hi6 tyX6 tyX6_ok nmX6 4 (by decide) f25 rfl rfl (by decide +kernel) rfl rfl (Nat.le_of_ble_eq_true rfl) rfl dX6_take_53 (fun H locs h => ?_)
    obtain ⟨v_48, hv_48⟩ : ∃ z, z = gu v_30 83 4 2 := ⟨_, rfl⟩
    have h : gS (gA G) G s v_48 w sg H locs := by rw [hv_48]; exact h
    have u_49 : fC 83 93 v w v_48 w := by rw [hv_48]; exact (fC_v u_31 (by decide))
    refine lv_goto (tgt := 90) hx hb dX6_take_56 (by decide) ?_
    refine lv_aload_n hx hb dX6_take_90 rfl (lv_at hl 1 rfl) ?_
    refine g_geti (ci := 6) (x := 2) C h 83 (by decide) rfl rfl hi6 4 (by decide) f25 rfl rfl (by rw [hv_48] <;> rfl) dX6_take_91 ?_
    exact ret 2 v_48 w sg _ _ _ _ dX6_take_94 h ⟨⟨(cI_83m u_17 (fun a ha => by rw [hv_48, gu_o ha, hv_30, gu_o ha, hv_23, gu_o ha]) (by rw [hv_48, hv_30, hv_23]; exact (show 1 ≤ ((v_8 83 0) : Int32).toInt ∧ ((v_8 83 0) : Int32).toInt ≤ 8 by omega)) (by rw [hv_48, hv_30, hv_23]; exact (show 1 ≤ ((v_8 83 2) : Int32).toInt ∧ ((v_8 83 2) : Int32).toInt ≤ 100 by omega)) (by rw [hv_48, hv_30, hv_23]; exact (show 0 ≤ (x_20 : Int32).toInt ∧ (x_20 : Int32).toInt ≤ 100 by omega)) (by unfold cS; rw [hv_48, hv_30, hv_23]; exact (show ((2 : Int32).toInt = 0 → (x_20 : Int32).toInt < ((v_8 83 2) : Int32).toInt) by omega))), u_49, ⟨v_30, r_25, 2, (by rw [hv_30, hv_23, e_21, eb83, htk]), hfb, Or.inl ⟨by omega, rfl⟩, rfl, hv_48⟩⟩, rfl, rfl⟩

set_option maxHeartbeats 4000000 in
set_option maxRecDepth 100000 in
theorem c_X9_rule (l : Launch) (G : gG) (v : Nat → Nat → Int32) (w : Nat → Nat → Int64) (sg : Nat → Nat) (p1 : Int32) {A1 : Int} (a1 : p1.toInt = A1) (p2 : Int32) {A2 : Int} (a2 : p2.toInt = A2) (p3 : Int32) {A3 : Int} (a3 : p3.toInt = A3) (p4 : Int32) {A4 : Int} (a4 : p4.toInt = A4) (ci : cI v) : Met l yX9_rule wsX9_rule ({ frames := 1, cells := 0, slots := 0, locals := 20 }) (gPre G v w sg [.ref (G.2.2 (0)), .int (p1), .int (p2), .int (p3), .int (p4)]) (gQi G (fun r v' w' sg' => (cI v' ∧ fC 83 93 v w v' w ∧ ((¬ rF24 A1 A2 A3 A4 ∧ r = -1 ∧ v' = v) ∨ (rF24 A1 A2 A3 A4 ∧ r = 1 ∧ v' = (gu (gu (gu (gu (gu (gu (gu v 83 0 p1) 83 1 p2) 83 2 p3) 83 3 p4) 83 4 0) 83 5 0) 83 6 (-4))))) ∧ w = w' ∧ sg = sg')) 0 0 (gA G) := by
  refine gM_ofi (cc := cX9_rule) (maxL := 6) (by decide) rfl (Nat.le_of_ble_eq_true rfl) ?_
  intro p e R s m args below meth c Q ls C hR ret h hl
  have hx := C.1.1
  have hb := C.1.2.1
  have hown := C.1.2.2.2.1
  have hts := C.1.2.2.2.2
  have hl : lv_has ls 6 [(0, .ref (G.2.2 (0))), (1, .int (p1)), (2, .int (p2)), (3, .int (p3)), (4, .int (p4))] := hl
  have q1 := i_rng p1; rw [a1] at q1
  have q2 := i_rng p2; rw [a2] at q2
  have q3 := i_rng p3; rw [a3] at q3
  have q4 := i_rng p4; rw [a4] at q4
  have z_m1 : ((-1) : Int32).toInt = (-1) := by decide
  have z_0 : (0 : Int32).toInt = 0 := by decide
  have z_1 : (1 : Int32).toInt = 1 := by decide
  have z_8 : (8 : Int32).toInt = 8 := by decide
  have z_100 : (100 : Int32).toInt = 100 := by decide
  have z_100000 : (100000 : Int32).toInt = 100000 := by decide
  have z_2000000 : (2000000 : Int32).toInt = 2000000 := by decide
  have f40 : Cond.fieldLink RX9 40 "WindHall" "settling" "LWindHall$Settling;" ∈ wsX9_rule := by decide +kernel
  have hi9 : ∀ x ∈ u_ws RX9 TX9 7, x ∈ wsX9_rule := fun x q => List.mem_cons_of_mem _ (List.mem_append_left _ (List.mem_append_right _ q))
  have f190 : Cond.fieldLink RX9 190 "WindHall$Settling" "n" "I" ∈ wsX9_rule := by decide +kernel
  have hi6 : ∀ x ∈ u_ws RX6 TX6 8, x ∈ wsX9_rule := fun x q => List.mem_cons_of_mem _ (List.mem_append_right _ q)
  have f193 : Cond.fieldLink RX9 193 "WindHall$Settling" "d" "I" ∈ wsX9_rule := by decide +kernel
  have f196 : Cond.fieldLink RX9 196 "WindHall$Settling" "most" "I" ∈ wsX9_rule := by decide +kernel
  have f199 : Cond.fieldLink RX9 199 "WindHall$Settling" "limit" "I" ∈ wsX9_rule := by decide +kernel
  have k188 : (Cond.constant RX9 188 (100000)).before args s = true := hts _ (by decide +kernel)
  have k189 : (Cond.constant RX9 189 (2000000)).before args s = true := hts _ (by decide +kernel)
  have o_1 := ci
  obtain ⟨K1, K2, K3, K4, K5, K6, K7, Ks, K9, Ka, Kr, Kz⟩ := o_1
  refine lv_iload_n hx hb dX9_rule_0 rfl (lv_at hl 1 rfl) ?_
  refine lv_iconst (v := 1) hx hb dX9_rule_1 (by decide) ?_
  have J50_2 : ∀ (y_2 : Int32) (H : Heap) (locs : List Loc) (ls : Array Slot), (((y_2).toInt = 0 ∧ ¬ rF24 A1 A2 A3 A4) ∨ ((y_2).toInt = 1 ∧ rF24 A1 A2 A3 A4)) → gS (gA G) G s v w sg H locs → lv_has ls 6 [(0, .ref (G.2.2 (0))), (1, .int (p1)), (2, .int (p2)), (3, .int (p3)), (4, .int (p4))] → W p l e R s m args below meth c H locs 0 0 Q (F0 m 50 ls [.int (y_2)]) := by
    intro y_2 H locs ls f_3 h hl
    refine lv_istore (lv' := [(5, .int (y_2)), (0, .ref (G.2.2 (0))), (1, .int (p1)), (2, .int (p2)), (3, .int (p3)), (4, .int (p4))]) hx hb dX9_rule_50 hl (by decide) rfl (fun ls hl => ?_)
    refine lv_iload hx hb dX9_rule_52 (lv_at hl 0 rfl) ?_
    refine lv_if_ne (tgt := 59) hx hb dX9_rule_54 (by decide) (fun c_4 => ?_) (fun c_4 => ?_)
    · have j_5 : ¬ ((y_2).toInt = 0) := fun q => c_4 ((i_eq rfl (by decide)).mpr q)
      have hrr : rF24 A1 A2 A3 A4 := f_3.elim (fun q => absurd q.1 (by omega)) (fun q => q.2)
      have hru := hrr
      unfold rF24 at hru
      refine lv_aload_n hx hb dX9_rule_59 rfl (lv_at hl 1 rfl) ?_
      refine g_get (ci := 9) (x := .ref (G.2.2 (83))) C h 0 (by decide) rfl rfl hi9 4 (by decide) f40 rfl rfl dX9_rule_60 ?_
      refine lv_iload_n hx hb dX9_rule_63 rfl (lv_at hl 2 rfl) ?_
      refine g_put (ci := 6) (x := p1) (ty := .int) C h 83 (by decide) rfl rfl hi6 tyX6 tyX6_ok nmX6 0 (by decide) f190 rfl rfl (by decide +kernel) rfl rfl (Nat.le_of_ble_eq_true rfl) rfl dX9_rule_64 (fun H locs h => ?_)
      obtain ⟨v_6, hv_6⟩ : ∃ z, z = gu v 83 0 p1 := ⟨_, rfl⟩
      have h : gS (gA G) G s v_6 w sg H locs := by rw [hv_6]; exact h
      have u_7 : fC 83 93 v w v_6 w := by rw [hv_6]; exact (fC_v fC_rf (by decide))
      refine lv_aload_n hx hb dX9_rule_67 rfl (lv_at hl 1 rfl) ?_
      refine g_get (ci := 9) (x := .ref (G.2.2 (83))) C h 0 (by decide) rfl rfl hi9 4 (by decide) f40 rfl rfl dX9_rule_68 ?_
      refine lv_iload_n hx hb dX9_rule_71 rfl (lv_at hl 3 rfl) ?_
      refine g_put (ci := 6) (x := p2) (ty := .int) C h 83 (by decide) rfl rfl hi6 tyX6 tyX6_ok nmX6 1 (by decide) f193 rfl rfl (by decide +kernel) rfl rfl (Nat.le_of_ble_eq_true rfl) rfl dX9_rule_72 (fun H locs h => ?_)
      obtain ⟨v_8, hv_8⟩ : ∃ z, z = gu v_6 83 1 p2 := ⟨_, rfl⟩
      have h : gS (gA G) G s v_8 w sg H locs := by rw [hv_8]; exact h
      have u_9 : fC 83 93 v w v_8 w := by rw [hv_8]; exact (fC_v u_7 (by decide))
      refine lv_aload_n hx hb dX9_rule_75 rfl (lv_at hl 1 rfl) ?_
      refine g_get (ci := 9) (x := .ref (G.2.2 (83))) C h 0 (by decide) rfl rfl hi9 4 (by decide) f40 rfl rfl dX9_rule_76 ?_
      refine lv_iload_n hx hb dX9_rule_79 rfl (lv_at hl 4 rfl) ?_
      refine g_put (ci := 6) (x := p3) (ty := .int) C h 83 (by decide) rfl rfl hi6 tyX6 tyX6_ok nmX6 2 (by decide) f196 rfl rfl (by decide +kernel) rfl rfl (Nat.le_of_ble_eq_true rfl) rfl dX9_rule_80 (fun H locs h => ?_)
      obtain ⟨v_10, hv_10⟩ : ∃ z, z = gu v_8 83 2 p3 := ⟨_, rfl⟩
      have h : gS (gA G) G s v_10 w sg H locs := by rw [hv_10]; exact h
      have u_11 : fC 83 93 v w v_10 w := by rw [hv_10]; exact (fC_v u_9 (by decide))
      refine lv_aload_n hx hb dX9_rule_83 rfl (lv_at hl 1 rfl) ?_
      refine g_get (ci := 9) (x := .ref (G.2.2 (83))) C h 0 (by decide) rfl rfl hi9 4 (by decide) f40 rfl rfl dX9_rule_84 ?_
      refine lv_iload hx hb dX9_rule_87 (lv_at hl 5 rfl) ?_
      refine g_put (ci := 6) (x := p4) (ty := .int) C h 83 (by decide) rfl rfl hi6 tyX6 tyX6_ok nmX6 3 (by decide) f199 rfl rfl (by decide +kernel) rfl rfl (Nat.le_of_ble_eq_true rfl) rfl dX9_rule_89 (fun H locs h => ?_)
      obtain ⟨v_12, hv_12⟩ : ∃ z, z = gu v_10 83 3 p4 := ⟨_, rfl⟩
      have h : gS (gA G) G s v_12 w sg H locs := by rw [hv_12]; exact h
      have u_13 : fC 83 93 v w v_12 w := by rw [hv_12]; exact (fC_v u_11 (by decide))
      refine lv_aload_n hx hb dX9_rule_92 rfl (lv_at hl 1 rfl) ?_
      refine g_get (ci := 9) (x := .ref (G.2.2 (83))) C h 0 (by decide) rfl rfl hi9 4 (by decide) f40 rfl rfl dX9_rule_93 ?_
      refine g_callv C (va_runV (As := []) (rest := []) C.1 (c_X6_startAnew l G v_12 w sg ) (cwV 0 hts gX9_rule_X6_startAnew rfl rfl rfl (by decide +kernel) ⟨by rw [hR]; exact Nat.le_of_ble_eq_true rfl, by rw [hR]; exact Nat.le_of_ble_eq_true rfl⟩) ⟨gPre_blind, g_recv C h 83 (by decide) (ci := 6) rfl rfl, gS_pre C h _⟩ rfl rfl hl.1 rfl (lv_room (Nat.le_of_ble_eq_true rfl)) dX9_rule_96 ⟨Nat.zero_le _, Nat.zero_le _⟩) h (fun v_16 w_17 g_18 H locs p_15 h => ?_)
      obtain ⟨p_15, rfl, rfl⟩ := p_15
      obtain ⟨v_19, hv_19⟩ : ∃ z, z = gu v_12 83 4 0 := ⟨_, rfl⟩
      have u_20 : fC 83 93 v w v_19 w := by rw [hv_19]; exact (fC_v u_13 (by decide))
      obtain ⟨v_21, hv_21⟩ : ∃ z, z = gu v_19 83 5 0 := ⟨_, rfl⟩
      have u_22 : fC 83 93 v w v_21 w := by rw [hv_21]; exact (fC_v u_20 (by decide))
      have hv_16 : v_16 = gu v_21 83 6 (-4) := by rw [hv_21, hv_19]; exact p_15
      have u_23 : fC 83 93 v w v_16 w := by rw [hv_16]; exact (fC_v u_22 (by decide))
      refine lv_iconst (v := 1) hx hb dX9_rule_99 (by decide) ?_
      exact ret 1 v_16 w sg _ _ _ _ dX9_rule_100 h ⟨⟨(cI_83m ci (fun a ha => by rw [hv_16, gu_o ha, hv_21, gu_o ha, hv_19, gu_o ha, hv_12, gu_o ha, hv_10, gu_o ha, hv_8, gu_o ha, hv_6, gu_o ha]) (by rw [hv_16, hv_21, hv_19, hv_12, hv_10, hv_8, hv_6]; exact (show 1 ≤ (p1 : Int32).toInt ∧ (p1 : Int32).toInt ≤ 8 by omega)) (by rw [hv_16, hv_21, hv_19, hv_12, hv_10, hv_8, hv_6]; exact (show 1 ≤ (p3 : Int32).toInt ∧ (p3 : Int32).toInt ≤ 100 by omega)) (by rw [hv_16, hv_21, hv_19, hv_12, hv_10, hv_8, hv_6]; exact (show 0 ≤ (0 : Int32).toInt ∧ (0 : Int32).toInt ≤ 100 by omega)) (by unfold cS; rw [hv_16, hv_21, hv_19, hv_12, hv_10, hv_8, hv_6]; exact (show ((0 : Int32).toInt = 0 → (0 : Int32).toInt < (p3 : Int32).toInt) by omega))), u_23, Or.inr (⟨hrr, rfl, (by rw [hv_16, hv_21, hv_19, hv_12, hv_10, hv_8, hv_6] <;> exact (gu_cg (gu_cg (gu_cg (gu_cg (gu_cg (gu_cg (gu_cg rfl rfl rfl rfl) rfl rfl rfl) rfl rfl rfl) rfl rfl rfl) rfl rfl rfl) rfl rfl rfl) rfl rfl rfl))⟩)⟩, rfl, rfl⟩
    · have j_5 : (y_2).toInt = 0 := (i_eq rfl (by decide)).mp c_4
      have hnr : ¬ rF24 A1 A2 A3 A4 := f_3.elim (fun q => q.2) (fun q => absurd q.1 (by omega))
      refine lv_iconst (v := (-1)) hx hb dX9_rule_57 (by decide) ?_
      exact ret (-1) v w sg _ _ _ _ dX9_rule_58 h ⟨⟨ci, fC_rf, Or.inl ⟨hnr, rfl, rfl⟩⟩, rfl, rfl⟩
  have J49_23 : ∀ (H : Heap) (locs : List Loc) (ls : Array Slot), (¬ rF24 A1 A2 A3 A4) → gS (gA G) G s v w sg H locs → lv_has ls 6 [(0, .ref (G.2.2 (0))), (1, .int (p1)), (2, .int (p2)), (3, .int (p3)), (4, .int (p4))] → W p l e R s m args below meth c H locs 0 0 Q (F0 m 49 ls []) := by
    intro  H locs ls f_24 h hl
    refine lv_iconst (v := 0) hx hb dX9_rule_49 (by decide) ?_
    exact J50_2 0 _ _ _ (by first | exact Or.inl ⟨by decide, f_24⟩ | exact Or.inr ⟨by decide, by unfold rF24; omega⟩) h (lv_sub hl [0, 1, 2, 3, 4] rfl)
  refine lv_icmp_lt (tgt := 49) hx hb dX9_rule_2 (by decide) (fun c_25 => ?_) (fun c_25 => ?_)
  · have j_26 : A1 < 1 := (i_lt a1 (by decide)).mp c_25
    exact J49_23  _ _ _ (by unfold rF24; omega) h (lv_sub hl [0, 1, 2, 3, 4] rfl)
  · have j_26 : ¬ (A1 < 1) := fun q => c_25 ((i_lt a1 (by decide)).mpr q)
    refine lv_iload_n hx hb dX9_rule_5 rfl (lv_at hl 1 rfl) ?_
    refine lv_bipush (v := 8) hx hb dX9_rule_6 (by decide) ?_
    refine lv_icmp_gt (tgt := 49) hx hb dX9_rule_8 (by decide) (fun c_27 => ?_) (fun c_27 => ?_)
    · have j_28 : 8 < A1 := (i_lt (by decide) a1).mp c_27
      exact J49_23  _ _ _ (by unfold rF24; omega) h (lv_sub hl [0, 1, 2, 3, 4] rfl)
    · have j_28 : ¬ (8 < A1) := fun q => c_27 ((i_lt (by decide) a1).mpr q)
      refine lv_iload_n hx hb dX9_rule_11 rfl (lv_at hl 2 rfl) ?_
      refine lv_if_lt (tgt := 49) hx hb dX9_rule_12 (by decide) (fun c_29 => ?_) (fun c_29 => ?_)
      · have j_30 : A2 < 0 := (i_lt a2 (by decide)).mp c_29
        exact J49_23  _ _ _ (by unfold rF24; omega) h (lv_sub hl [0, 1, 2, 3, 4] rfl)
      · have j_30 : ¬ (A2 < 0) := fun q => c_29 ((i_lt a2 (by decide)).mpr q)
        refine lv_iload_n hx hb dX9_rule_15 rfl (lv_at hl 2 rfl) ?_
        refine lv_ldc hx hb hown k188 dX9_rule_16 ?_
        refine lv_icmp_gt (tgt := 49) hx hb dX9_rule_18 (by decide) (fun c_31 => ?_) (fun c_31 => ?_)
        · have j_32 : 100000 < A2 := (i_lt (by decide) a2).mp c_31
          exact J49_23  _ _ _ (by unfold rF24; omega) h (lv_sub hl [0, 1, 2, 3, 4] rfl)
        · have j_32 : ¬ (100000 < A2) := fun q => c_31 ((i_lt (by decide) a2).mpr q)
          refine lv_iload_n hx hb dX9_rule_21 rfl (lv_at hl 3 rfl) ?_
          refine lv_iconst (v := 1) hx hb dX9_rule_22 (by decide) ?_
          refine lv_icmp_lt (tgt := 49) hx hb dX9_rule_23 (by decide) (fun c_33 => ?_) (fun c_33 => ?_)
          · have j_34 : A3 < 1 := (i_lt a3 (by decide)).mp c_33
            exact J49_23  _ _ _ (by unfold rF24; omega) h (lv_sub hl [0, 1, 2, 3, 4] rfl)
          · have j_34 : ¬ (A3 < 1) := fun q => c_33 ((i_lt a3 (by decide)).mpr q)
            refine lv_iload_n hx hb dX9_rule_26 rfl (lv_at hl 3 rfl) ?_
            refine lv_bipush (v := 100) hx hb dX9_rule_27 (by decide) ?_
            refine lv_icmp_gt (tgt := 49) hx hb dX9_rule_29 (by decide) (fun c_35 => ?_) (fun c_35 => ?_)
            · have j_36 : 100 < A3 := (i_lt (by decide) a3).mp c_35
              exact J49_23  _ _ _ (by unfold rF24; omega) h (lv_sub hl [0, 1, 2, 3, 4] rfl)
            · have j_36 : ¬ (100 < A3) := fun q => c_35 ((i_lt (by decide) a3).mpr q)
              refine lv_iload hx hb dX9_rule_32 (lv_at hl 4 rfl) ?_
              refine lv_iconst (v := 1) hx hb dX9_rule_34 (by decide) ?_
              refine lv_icmp_lt (tgt := 49) hx hb dX9_rule_35 (by decide) (fun c_37 => ?_) (fun c_37 => ?_)
              · have j_38 : A4 < 1 := (i_lt a4 (by decide)).mp c_37
                exact J49_23  _ _ _ (by unfold rF24; omega) h (lv_sub hl [0, 1, 2, 3, 4] rfl)
              · have j_38 : ¬ (A4 < 1) := fun q => c_37 ((i_lt a4 (by decide)).mpr q)
                refine lv_iload hx hb dX9_rule_38 (lv_at hl 4 rfl) ?_
                refine lv_ldc hx hb hown k189 dX9_rule_40 ?_
                refine lv_icmp_gt (tgt := 49) hx hb dX9_rule_42 (by decide) (fun c_39 => ?_) (fun c_39 => ?_)
                · have j_40 : 2000000 < A4 := (i_lt (by decide) a4).mp c_39
                  exact J49_23  _ _ _ (by unfold rF24; omega) h (lv_sub hl [0, 1, 2, 3, 4] rfl)
                · have j_40 : ¬ (2000000 < A4) := fun q => c_39 ((i_lt (by decide) a4).mpr q)
                  refine lv_iconst (v := 1) hx hb dX9_rule_45 (by decide) ?_
                  refine lv_goto (tgt := 50) hx hb dX9_rule_46 (by decide) ?_
                  exact J50_2 1 _ _ _ (by first | exact Or.inl ⟨by decide, {F49_0}⟩ | exact Or.inr ⟨by decide, by unfold rF24; omega⟩) h (lv_sub hl [0, 1, 2, 3, 4] rfl)

set_option maxHeartbeats 4000000 in
set_option maxRecDepth 100000 in
theorem c_X9_anew (l : Launch) (G : gG) (v : Nat → Nat → Int32) (w : Nat → Nat → Int64) (sg : Nat → Nat) (ci : cI v) : Met l yX9_anew wsX9_anew ({ frames := 1, cells := 0, slots := 0, locals := 20 }) (gPre G v w sg [.ref (G.2.2 (0))]) (gQi G (fun r v' w' sg' => (cI v' ∧ fC 83 93 v w v' w ∧ r = v 83 5 ∧ v' = (gu (gu (gu v 83 4 0) 83 5 0) 83 6 (-4))) ∧ w = w' ∧ sg = sg')) 0 0 (gA G) := by
  refine gM_ofi (cc := cX9_anew) (maxL := 2) (by decide) rfl (Nat.le_of_ble_eq_true rfl) ?_
  intro p e R s m args below meth c Q ls C hR ret h hl
  have hx := C.1.1
  have hb := C.1.2.1
  have hown := C.1.2.2.2.1
  have hts := C.1.2.2.2.2
  have hl : lv_has ls 2 [(0, .ref (G.2.2 (0)))] := hl
  have z_0 : (0 : Int32).toInt = 0 := by decide
  have z_1 : (1 : Int32).toInt = 1 := by decide
  have f40 : Cond.fieldLink RX9 40 "WindHall" "settling" "LWindHall$Settling;" ∈ wsX9_anew := by decide +kernel
  have hi9 : ∀ x ∈ u_ws RX9 TX9 7, x ∈ wsX9_anew := fun x q => List.mem_cons_of_mem _ (List.mem_append_left _ (List.mem_append_right _ q))
  have f212 : Cond.fieldLink RX9 212 "WindHall$Settling" "came" "I" ∈ wsX9_anew := by decide +kernel
  have hi6 : ∀ x ∈ u_ws RX6 TX6 8, x ∈ wsX9_anew := fun x q => List.mem_cons_of_mem _ (List.mem_append_right _ q)
  have o_1 := ci
  obtain ⟨K1, K2, K3, K4, K5, K6, K7, Ks, K9, Ka, Kr, Kz⟩ := o_1
  refine lv_aload_n hx hb dX9_anew_0 rfl (lv_at hl 0 rfl) ?_
  refine g_get (ci := 9) (x := .ref (G.2.2 (83))) C h 0 (by decide) rfl rfl hi9 4 (by decide) f40 rfl rfl dX9_anew_1 ?_
  refine g_geti (ci := 6) (x := v 83 5) C h 83 (by decide) rfl rfl hi6 5 (by decide) f212 rfl rfl rfl dX9_anew_4 ?_
  refine lv_istore_n (lv' := [(1, .int (v 83 5)), (0, .ref (G.2.2 (0)))]) hx hb dX9_anew_7 rfl hl (by decide) rfl (fun ls hl => ?_)
  refine lv_aload_n hx hb dX9_anew_8 rfl (lv_at hl 1 rfl) ?_
  refine g_get (ci := 9) (x := .ref (G.2.2 (83))) C h 0 (by decide) rfl rfl hi9 4 (by decide) f40 rfl rfl dX9_anew_9 ?_
  refine g_callv C (va_runV (As := []) (rest := []) C.1 (c_X6_startAnew l G v w sg ) (cwV 0 hts gX9_anew_X6_startAnew rfl rfl rfl (by decide +kernel) ⟨by rw [hR]; exact Nat.le_of_ble_eq_true rfl, by rw [hR]; exact Nat.le_of_ble_eq_true rfl⟩) ⟨gPre_blind, g_recv C h 83 (by decide) (ci := 6) rfl rfl, gS_pre C h _⟩ rfl rfl hl.1 rfl (lv_room (Nat.le_of_ble_eq_true rfl)) dX9_anew_12 ⟨Nat.zero_le _, Nat.zero_le _⟩) h (fun v_4 w_5 g_6 H locs p_3 h => ?_)
  obtain ⟨p_3, rfl, rfl⟩ := p_3
  obtain ⟨v_7, hv_7⟩ : ∃ z, z = gu v 83 4 0 := ⟨_, rfl⟩
  have u_8 : fC 83 93 v w v_7 w := by rw [hv_7]; exact (fC_v fC_rf (by decide))
  obtain ⟨v_9, hv_9⟩ : ∃ z, z = gu v_7 83 5 0 := ⟨_, rfl⟩
  have u_10 : fC 83 93 v w v_9 w := by rw [hv_9]; exact (fC_v u_8 (by decide))
  have hv_4 : v_4 = gu v_9 83 6 (-4) := by rw [hv_9, hv_7]; exact p_3
  have u_11 : fC 83 93 v w v_4 w := by rw [hv_4]; exact (fC_v u_10 (by decide))
  refine lv_iload_n hx hb dX9_anew_15 rfl (lv_at hl 0 rfl) ?_
  exact ret (v 83 5) v_4 w sg _ _ _ _ dX9_anew_16 h ⟨⟨(cI_83m ci (fun a ha => by rw [hv_4, gu_o ha, hv_9, gu_o ha, hv_7, gu_o ha]) (by rw [hv_4, hv_9, hv_7]; exact (show 1 ≤ ((v 83 0) : Int32).toInt ∧ ((v 83 0) : Int32).toInt ≤ 8 by omega)) (by rw [hv_4, hv_9, hv_7]; exact (show 1 ≤ ((v 83 2) : Int32).toInt ∧ ((v 83 2) : Int32).toInt ≤ 100 by omega)) (by rw [hv_4, hv_9, hv_7]; exact (show 0 ≤ (0 : Int32).toInt ∧ (0 : Int32).toInt ≤ 100 by omega)) (by unfold cS; rw [hv_4, hv_9, hv_7]; exact (show ((0 : Int32).toInt = 0 → (0 : Int32).toInt < ((v 83 2) : Int32).toInt) by omega))), u_11, ⟨rfl, (by rw [hv_4, hv_9, hv_7] <;> exact (gu_cg (gu_cg (gu_cg rfl rfl rfl rfl) rfl rfl rfl) rfl rfl rfl))⟩⟩, rfl, rfl⟩

set_option maxHeartbeats 4000000 in
set_option maxRecDepth 100000 in
theorem c_X9_come (l : Launch) (G : gG) (v : Nat → Nat → Int32) (w : Nat → Nat → Int64) (sg : Nat → Nat) (p1 : Int32) {A1 : Int} (a1 : p1.toInt = A1) (p2 : Int32) {A2 : Int} (a2 : p2.toInt = A2) (p3 : Int32) {A3 : Int} (a3 : p3.toInt = A3) (ci : cI v) : Met l yX9_come wsX9_come ({ frames := 5, cells := 0, slots := 0, locals := 114 }) (gPre G v w sg [.ref (G.2.2 (0)), .int (p1), .int (p2), .int (p3)]) (gQi G (fun r v' w' sg' => (cI v' ∧ fC 83 93 v w v' w ∧ ((¬ rF25 A1 A2 A3 ∧ r = -1 ∧ v' = v) ∨ (rF25 A1 A2 A3 ∧ (v 83 4).toInt ≠ 0 ∧ r = -2 ∧ v' = v) ∨ (rF25 A1 A2 A3 ∧ (v 83 4).toInt = 0 ∧ ∃ (v3 : Nat → Nat → Int32) (b s : Int32), v3 = gu (gu (tk3 v (85 + ((v 83 5).toInt % 8).toNat) p1 p2 p3) 83 5 (v 83 5 + 1)) 83 6 b ∧ fst3 (fun j => far (v 83 3) (sel3 j p1 p2 p3)) (-4) b.toInt ∧ stS b s (stC v3) (v3 83 5).toInt (v3 83 2).toInt ∧ r = s ∧ v' = gu v3 83 4 s))) ∧ w = w' ∧ sg = sg')) 0 0 (gA G) := by
  refine gM_ofi (cc := cX9_come) (maxL := 4) (by decide) rfl (Nat.le_of_ble_eq_true rfl) ?_
  intro p e R s m args below meth c Q ls C hR ret h hl
  have hx := C.1.1
  have hb := C.1.2.1
  have hown := C.1.2.2.2.1
  have hts := C.1.2.2.2.2
  have hl : lv_has ls 4 [(0, .ref (G.2.2 (0))), (1, .int (p1)), (2, .int (p2)), (3, .int (p3))] := hl
  have q1 := i_rng p1; rw [a1] at q1
  have q2 := i_rng p2; rw [a2] at q2
  have q3 := i_rng p3; rw [a3] at q3
  have z_m2 : ((-2) : Int32).toInt = (-2) := by decide
  have z_m1 : ((-1) : Int32).toInt = (-1) := by decide
  have z_0 : (0 : Int32).toInt = 0 := by decide
  have z_1 : (1 : Int32).toInt = 1 := by decide
  have f40 : Cond.fieldLink RX9 40 "WindHall" "settling" "LWindHall$Settling;" ∈ wsX9_come := by decide +kernel
  have hi9 : ∀ x ∈ u_ws RX9 TX9 7, x ∈ wsX9_come := fun x q => List.mem_cons_of_mem _ (List.mem_append_left _ (List.mem_append_right _ q))
  have f205 : Cond.fieldLink RX9 205 "WindHall$Settling" "state" "I" ∈ wsX9_come := by decide +kernel
  have hi6 : ∀ x ∈ u_ws RX6 TX6 8, x ∈ wsX9_come := fun x q => List.mem_cons_of_mem _ (List.mem_append_right _ q)
  have o_1 := ci
  obtain ⟨K1, K2, K3, K4, K5, K6, K7, Ks, K9, Ka, Kr, Kz⟩ := o_1
  refine lv_iload_n hx hb dX9_come_0 rfl (lv_at hl 1 rfl) ?_
  refine lv_iload_n hx hb dX9_come_1 rfl (lv_at hl 2 rfl) ?_
  refine lv_iload_n hx hb dX9_come_2 rfl (lv_at hl 3 rfl) ?_
  refine g_calli C (va_runS (As := [.int (p1), .int (p2), .int (p3)]) (rest := []) C.1 (c_X9_areReadings l G v w sg p1 (A0 := A1) a1 p2 (A1 := A2) a2 p3 (A2 := A3) a3) (va_cwS 3 hts gX9_come_X9_areReadings rfl rfl rfl (by decide +kernel) ⟨by rw [hR]; exact Nat.le_of_ble_eq_true rfl, by rw [hR]; exact Nat.le_of_ble_eq_true rfl⟩) ⟨gPre_blind, gS_pre C h _⟩ rfl rfl hl.1 rfl (lv_room (Nat.le_of_ble_eq_true rfl)) dX9_come_3 ⟨Nat.zero_le _, Nat.zero_le _⟩) h (fun r_2 v_4 w_5 g_6 H locs p_3 h => ?_)
  obtain ⟨p_3, rfl, rfl, rfl⟩ := p_3
  rcases p_3 with ⟨rfl, t_7⟩ | ⟨rfl, t_7⟩
  · skip
    refine lv_if_ne (tgt := 11) hx hb dX9_come_6 (by decide) (fun _ => ?_) (fun c_8 => absurd c_8 (by decide))
    refine lv_aload_n hx hb dX9_come_11 rfl (lv_at hl 0 rfl) ?_
    refine g_get (ci := 9) (x := .ref (G.2.2 (83))) C h 0 (by decide) rfl rfl hi9 4 (by decide) f40 rfl rfl dX9_come_12 ?_
    refine g_geti (ci := 6) (x := v 83 4) C h 83 (by decide) rfl rfl hi6 4 (by decide) f205 rfl rfl rfl dX9_come_15 ?_
    refine lv_if_ne (tgt := 34) hx hb dX9_come_18 (by decide) (fun c_9 => ?_) (fun c_9 => ?_)
    · have j_10 : ¬ ((v 83 4).toInt = 0) := fun q => c_9 ((i_eq rfl (by decide)).mpr q)
      refine lv_bipush (v := (-2)) hx hb dX9_come_34 (by decide) ?_
      exact ret (-2) v w sg _ _ _ _ dX9_come_36 h ⟨⟨ci, fC_rf, Or.inr (Or.inl ⟨by unfold rF25; omega, by omega, rfl, rfl⟩)⟩, rfl, rfl⟩
    · have j_10 : (v 83 4).toInt = 0 := (i_eq rfl (by decide)).mp c_9
      refine lv_aload_n hx hb dX9_come_21 rfl (lv_at hl 0 rfl) ?_
      refine g_get (ci := 9) (x := .ref (G.2.2 (83))) C h 0 (by decide) rfl rfl hi9 4 (by decide) f40 rfl rfl dX9_come_22 ?_
      refine lv_iload_n hx hb dX9_come_25 rfl (lv_at hl 1 rfl) ?_
      refine lv_iload_n hx hb dX9_come_26 rfl (lv_at hl 2 rfl) ?_
      refine lv_iload_n hx hb dX9_come_27 rfl (lv_at hl 3 rfl) ?_
      refine g_calli C (va_runV (As := [.int (p1), .int (p2), .int (p3)]) (rest := []) C.1 (c_X6_take l G v w sg p1 (A1 := A1) a1 p2 (A2 := A2) a2 p3 (A3 := A3) a3 (by omega) ci) (cwV 3 hts gX9_come_X6_take rfl rfl rfl (by decide +kernel) ⟨by rw [hR]; exact Nat.le_of_ble_eq_true rfl, by rw [hR]; exact Nat.le_of_ble_eq_true rfl⟩) ⟨gPre_blind, g_recv C h 83 (by decide) (ci := 6) rfl rfl, gS_pre C h _⟩ rfl rfl hl.1 rfl (lv_room (Nat.le_of_ble_eq_true rfl)) dX9_come_28 ⟨Nat.zero_le _, Nat.zero_le _⟩) h (fun r_11 v_13 w_14 g_15 H locs p_12 h => ?_)
      obtain ⟨p_12, rfl, rfl⟩ := p_12
      have u_16 : cI v_13 := p_12.1
      have u_17 : fC 83 93 v w v_13 w := fC_tr fC_rf (fC_le p_12.2.1 (by decide))
      have o_18 := u_16
      obtain ⟨K1, K2, K3, K4, K5, K6, K7, Ks, K9, Ka, Kr, Kz⟩ := o_18
      refine lv_goto (tgt := 36) hx hb dX9_come_31 (by decide) ?_
      exact ret r_11 v_13 w sg _ _ _ _ dX9_come_36 h ⟨⟨u_16, u_17, Or.inr (Or.inr ⟨by unfold rF25; omega, by omega, p_12.2.2⟩)⟩, rfl, rfl⟩
  · skip
    refine lv_if_ne (tgt := 11) hx hb dX9_come_6 (by decide) (fun c_19 => absurd (by decide) c_19) (fun _ => ?_)
    refine lv_iconst (v := (-1)) hx hb dX9_come_9 (by decide) ?_
    exact ret (-1) v w sg _ _ _ _ dX9_come_10 h ⟨⟨ci, fC_rf, Or.inl ⟨by unfold rF25; omega, rfl, rfl⟩⟩, rfl, rfl⟩

set_option maxHeartbeats 4000000 in
set_option maxRecDepth 100000 in
theorem c_X9_settled (l : Launch) (G : gG) (v : Nat → Nat → Int32) (w : Nat → Nat → Int64) (sg : Nat → Nat) (p1 : Int32) {A1 : Int} (a1 : p1.toInt = A1) (ci : cI v) : Met l yX9_settled wsX9_settled ({ frames := 3, cells := 0, slots := 0, locals := 67 }) (gPre G v w sg [.ref (G.2.2 (0)), .int (p1)]) (gQi G (fun r v' w' sg' => ((3 ≤ A1 ∧ A1 ≤ 5 ∧ (v 83 4).toInt = 1 ∧ r = sumN (fun k => agC v (A1 - 3).toNat (k + 1)) (v 83 0).toInt.toNat) ∨ (3 ≤ A1 ∧ A1 ≤ 5 ∧ (v 83 4).toInt ≠ 1 ∧ r = 0) ∨ (A1 = 0 ∧ r = v 83 4) ∨ (A1 = 1 ∧ r = v 83 5) ∨ (A1 = 2 ∧ r = v 83 6) ∨ ((A1 < 0 ∨ 5 < A1) ∧ r = -1)) ∧ v = v' ∧ w = w' ∧ sg = sg')) 0 0 (gA G) := by
  refine gM_ofi (cc := cX9_settled) (maxL := 2) (by decide) rfl (Nat.le_of_ble_eq_true rfl) ?_
  intro p e R s m args below meth c Q ls C hR ret h hl
  have hx := C.1.1
  have hb := C.1.2.1
  have hown := C.1.2.2.2.1
  have hts := C.1.2.2.2.2
  have hl : lv_has ls 2 [(0, .ref (G.2.2 (0))), (1, .int (p1))] := hl
  have q1 := i_rng p1; rw [a1] at q1
  have z_m1 : ((-1) : Int32).toInt = (-1) := by decide
  have z_0 : (0 : Int32).toInt = 0 := by decide
  have z_1 : (1 : Int32).toInt = 1 := by decide
  have z_3 : (3 : Int32).toInt = 3 := by decide
  have f40 : Cond.fieldLink RX9 40 "WindHall" "settling" "LWindHall$Settling;" ∈ wsX9_settled := by decide +kernel
  have hi9 : ∀ x ∈ u_ws RX9 TX9 7, x ∈ wsX9_settled := fun x q => List.mem_cons_of_mem _ (List.mem_append_left _ (List.mem_append_right _ q))
  have f205 : Cond.fieldLink RX9 205 "WindHall$Settling" "state" "I" ∈ wsX9_settled := by decide +kernel
  have hi6 : ∀ x ∈ u_ws RX6 TX6 8, x ∈ wsX9_settled := fun x q => List.mem_cons_of_mem _ (List.mem_append_right _ q)
  have f212 : Cond.fieldLink RX9 212 "WindHall$Settling" "came" "I" ∈ wsX9_settled := by decide +kernel
  have f215 : Cond.fieldLink RX9 215 "WindHall$Settling" "beyond" "I" ∈ wsX9_settled := by decide +kernel
  have o_1 := ci
  obtain ⟨K1, K2, K3, K4, K5, K6, K7, Ks, K9, Ka, Kr, Kz⟩ := o_1
  refine lv_iload_n hx hb dX9_settled_0 rfl (lv_at hl 1 rfl) ?_
  have s_2 : A1 = 0 ∨ A1 = 1 ∨ A1 = 2 ∨ A1 = 3 ∨ A1 = 4 ∨ A1 = 5 ∨ (A1 < 0 ∨ 5 < A1) := by omega
  rcases s_2 with s_2 | s_2 | s_2 | s_2 | s_2 | s_2 | s_2
  · have hq : (p1 : Int32).toInt = 0 := (a1).trans s_2
    refine lv_tableIn (off := 39) (tgt := 40) hx hb dX9_settled_1 (by rw [hq]; decide) (by rw [hq]; decide) (by rw [hq]; rfl) (by decide) ?_
    refine lv_aload_n hx hb dX9_settled_40 rfl (lv_at hl 0 rfl) ?_
    refine g_get (ci := 9) (x := .ref (G.2.2 (83))) C h 0 (by decide) rfl rfl hi9 4 (by decide) f40 rfl rfl dX9_settled_41 ?_
    refine g_geti (ci := 6) (x := v 83 4) C h 83 (by decide) rfl rfl hi6 4 (by decide) f205 rfl rfl rfl dX9_settled_44 ?_
    exact ret (v 83 4) v w sg _ _ _ _ dX9_settled_47 h ⟨Or.inr (Or.inr (Or.inl ⟨by omega, rfl⟩)), rfl, rfl, rfl⟩
  · have hq : (p1 : Int32).toInt = 1 := (a1).trans s_2
    refine lv_tableIn (off := 47) (tgt := 48) hx hb dX9_settled_1 (by rw [hq]; decide) (by rw [hq]; decide) (by rw [hq]; rfl) (by decide) ?_
    refine lv_aload_n hx hb dX9_settled_48 rfl (lv_at hl 0 rfl) ?_
    refine g_get (ci := 9) (x := .ref (G.2.2 (83))) C h 0 (by decide) rfl rfl hi9 4 (by decide) f40 rfl rfl dX9_settled_49 ?_
    refine g_geti (ci := 6) (x := v 83 5) C h 83 (by decide) rfl rfl hi6 5 (by decide) f212 rfl rfl rfl dX9_settled_52 ?_
    exact ret (v 83 5) v w sg _ _ _ _ dX9_settled_55 h ⟨Or.inr (Or.inr (Or.inr (Or.inl ⟨by omega, rfl⟩))), rfl, rfl, rfl⟩
  · have hq : (p1 : Int32).toInt = 2 := (a1).trans s_2
    refine lv_tableIn (off := 55) (tgt := 56) hx hb dX9_settled_1 (by rw [hq]; decide) (by rw [hq]; decide) (by rw [hq]; rfl) (by decide) ?_
    refine lv_aload_n hx hb dX9_settled_56 rfl (lv_at hl 0 rfl) ?_
    refine g_get (ci := 9) (x := .ref (G.2.2 (83))) C h 0 (by decide) rfl rfl hi9 4 (by decide) f40 rfl rfl dX9_settled_57 ?_
    refine g_geti (ci := 6) (x := v 83 6) C h 83 (by decide) rfl rfl hi6 6 (by decide) f215 rfl rfl rfl dX9_settled_60 ?_
    exact ret (v 83 6) v w sg _ _ _ _ dX9_settled_63 h ⟨Or.inr (Or.inr (Or.inr (Or.inr (Or.inl ⟨by omega, rfl⟩)))), rfl, rfl, rfl⟩
  · have hq : (p1 : Int32).toInt = 3 := (a1).trans s_2
    refine lv_tableIn (off := 63) (tgt := 64) hx hb dX9_settled_1 (by rw [hq]; decide) (by rw [hq]; decide) (by rw [hq]; rfl) (by decide) ?_
    refine lv_aload_n hx hb dX9_settled_64 rfl (lv_at hl 0 rfl) ?_
    refine g_get (ci := 9) (x := .ref (G.2.2 (83))) C h 0 (by decide) rfl rfl hi9 4 (by decide) f40 rfl rfl dX9_settled_65 ?_
    refine g_geti (ci := 6) (x := v 83 4) C h 83 (by decide) rfl rfl hi6 4 (by decide) f205 rfl rfl rfl dX9_settled_68 ?_
    refine lv_iconst (v := 1) hx hb dX9_settled_71 (by decide) ?_
    refine lv_icmp_ne (tgt := 88) hx hb dX9_settled_72 (by decide) (fun c_3 => ?_) (fun c_3 => ?_)
    · have j_4 : ¬ ((v 83 4).toInt = 1) := fun q => c_3 ((i_eq rfl (by decide)).mpr q)
      refine lv_iconst (v := 0) hx hb dX9_settled_88 (by decide) ?_
      exact ret 0 v w sg _ _ _ _ dX9_settled_89 h ⟨Or.inr (Or.inl ⟨by omega, by omega, by omega, rfl⟩), rfl, rfl, rfl⟩
    · have j_4 : (v 83 4).toInt = 1 := (i_eq rfl (by decide)).mp c_3
      refine lv_aload_n hx hb dX9_settled_75 rfl (lv_at hl 0 rfl) ?_
      refine g_get (ci := 9) (x := .ref (G.2.2 (83))) C h 0 (by decide) rfl rfl hi9 4 (by decide) f40 rfl rfl dX9_settled_76 ?_
      refine lv_iload_n hx hb dX9_settled_79 rfl (lv_at hl 1 rfl) ?_
      refine lv_iconst (v := 3) hx hb dX9_settled_80 (by decide) ?_
      refine lv_isub hx hb dX9_settled_81 ?_
      refine lv_topi (fun x_5 e_6 => ?_)
      have i_7 : x_5.toInt = A1 - 3 := ia_sub e_6 a1 (by decide) (by omega) (by omega)
      refine g_calli C (va_runV (As := [.int (x_5)]) (rest := []) C.1 (c_X6_sumOfLatest l G v w sg x_5 (A1 := (A1 - 3)) i_7 (by omega) (by omega) (by omega)) (cwV 1 hts gX9_settled_X6_sumOfLatest rfl rfl rfl (by decide +kernel) ⟨by rw [hR]; exact Nat.le_of_ble_eq_true rfl, by rw [hR]; exact Nat.le_of_ble_eq_true rfl⟩) ⟨gPre_blind, g_recv C h 83 (by decide) (ci := 6) rfl rfl, gS_pre C h _⟩ rfl rfl hl.1 rfl (lv_room (Nat.le_of_ble_eq_true rfl)) dX9_settled_82 ⟨Nat.zero_le _, Nat.zero_le _⟩) h (fun r_8 v_10 w_11 g_12 H locs p_9 h => ?_)
      obtain ⟨p_9, rfl, rfl, rfl⟩ := p_9
      refine lv_goto (tgt := 89) hx hb dX9_settled_85 (by decide) ?_
      exact ret r_8 v w sg _ _ _ _ dX9_settled_89 h ⟨Or.inl ⟨by omega, by omega, by omega, p_9⟩, rfl, rfl, rfl⟩
  · have hq : (p1 : Int32).toInt = 4 := (a1).trans s_2
    refine lv_tableIn (off := 63) (tgt := 64) hx hb dX9_settled_1 (by rw [hq]; decide) (by rw [hq]; decide) (by rw [hq]; rfl) (by decide) ?_
    refine lv_aload_n hx hb dX9_settled_64 rfl (lv_at hl 0 rfl) ?_
    refine g_get (ci := 9) (x := .ref (G.2.2 (83))) C h 0 (by decide) rfl rfl hi9 4 (by decide) f40 rfl rfl dX9_settled_65 ?_
    refine g_geti (ci := 6) (x := v 83 4) C h 83 (by decide) rfl rfl hi6 4 (by decide) f205 rfl rfl rfl dX9_settled_68 ?_
    refine lv_iconst (v := 1) hx hb dX9_settled_71 (by decide) ?_
    refine lv_icmp_ne (tgt := 88) hx hb dX9_settled_72 (by decide) (fun c_13 => ?_) (fun c_13 => ?_)
    · have j_14 : ¬ ((v 83 4).toInt = 1) := fun q => c_13 ((i_eq rfl (by decide)).mpr q)
      refine lv_iconst (v := 0) hx hb dX9_settled_88 (by decide) ?_
      exact ret 0 v w sg _ _ _ _ dX9_settled_89 h ⟨Or.inr (Or.inl ⟨by omega, by omega, by omega, rfl⟩), rfl, rfl, rfl⟩
    · have j_14 : (v 83 4).toInt = 1 := (i_eq rfl (by decide)).mp c_13
      refine lv_aload_n hx hb dX9_settled_75 rfl (lv_at hl 0 rfl) ?_
      refine g_get (ci := 9) (x := .ref (G.2.2 (83))) C h 0 (by decide) rfl rfl hi9 4 (by decide) f40 rfl rfl dX9_settled_76 ?_
      refine lv_iload_n hx hb dX9_settled_79 rfl (lv_at hl 1 rfl) ?_
      refine lv_iconst (v := 3) hx hb dX9_settled_80 (by decide) ?_
      refine lv_isub hx hb dX9_settled_81 ?_
      refine lv_topi (fun x_15 e_16 => ?_)
      have i_17 : x_15.toInt = A1 - 3 := ia_sub e_16 a1 (by decide) (by omega) (by omega)
      refine g_calli C (va_runV (As := [.int (x_15)]) (rest := []) C.1 (c_X6_sumOfLatest l G v w sg x_15 (A1 := (A1 - 3)) i_17 (by omega) (by omega) (by omega)) (cwV 1 hts gX9_settled_X6_sumOfLatest rfl rfl rfl (by decide +kernel) ⟨by rw [hR]; exact Nat.le_of_ble_eq_true rfl, by rw [hR]; exact Nat.le_of_ble_eq_true rfl⟩) ⟨gPre_blind, g_recv C h 83 (by decide) (ci := 6) rfl rfl, gS_pre C h _⟩ rfl rfl hl.1 rfl (lv_room (Nat.le_of_ble_eq_true rfl)) dX9_settled_82 ⟨Nat.zero_le _, Nat.zero_le _⟩) h (fun r_18 v_20 w_21 g_22 H locs p_19 h => ?_)
      obtain ⟨p_19, rfl, rfl, rfl⟩ := p_19
      refine lv_goto (tgt := 89) hx hb dX9_settled_85 (by decide) ?_
      exact ret r_18 v w sg _ _ _ _ dX9_settled_89 h ⟨Or.inl ⟨by omega, by omega, by omega, p_19⟩, rfl, rfl, rfl⟩
  · have hq : (p1 : Int32).toInt = 5 := (a1).trans s_2
    refine lv_tableIn (off := 63) (tgt := 64) hx hb dX9_settled_1 (by rw [hq]; decide) (by rw [hq]; decide) (by rw [hq]; rfl) (by decide) ?_
    refine lv_aload_n hx hb dX9_settled_64 rfl (lv_at hl 0 rfl) ?_
    refine g_get (ci := 9) (x := .ref (G.2.2 (83))) C h 0 (by decide) rfl rfl hi9 4 (by decide) f40 rfl rfl dX9_settled_65 ?_
    refine g_geti (ci := 6) (x := v 83 4) C h 83 (by decide) rfl rfl hi6 4 (by decide) f205 rfl rfl rfl dX9_settled_68 ?_
    refine lv_iconst (v := 1) hx hb dX9_settled_71 (by decide) ?_
    refine lv_icmp_ne (tgt := 88) hx hb dX9_settled_72 (by decide) (fun c_23 => ?_) (fun c_23 => ?_)
    · have j_24 : ¬ ((v 83 4).toInt = 1) := fun q => c_23 ((i_eq rfl (by decide)).mpr q)
      refine lv_iconst (v := 0) hx hb dX9_settled_88 (by decide) ?_
      exact ret 0 v w sg _ _ _ _ dX9_settled_89 h ⟨Or.inr (Or.inl ⟨by omega, by omega, by omega, rfl⟩), rfl, rfl, rfl⟩
    · have j_24 : (v 83 4).toInt = 1 := (i_eq rfl (by decide)).mp c_23
      refine lv_aload_n hx hb dX9_settled_75 rfl (lv_at hl 0 rfl) ?_
      refine g_get (ci := 9) (x := .ref (G.2.2 (83))) C h 0 (by decide) rfl rfl hi9 4 (by decide) f40 rfl rfl dX9_settled_76 ?_
      refine lv_iload_n hx hb dX9_settled_79 rfl (lv_at hl 1 rfl) ?_
      refine lv_iconst (v := 3) hx hb dX9_settled_80 (by decide) ?_
      refine lv_isub hx hb dX9_settled_81 ?_
      refine lv_topi (fun x_25 e_26 => ?_)
      have i_27 : x_25.toInt = A1 - 3 := ia_sub e_26 a1 (by decide) (by omega) (by omega)
      refine g_calli C (va_runV (As := [.int (x_25)]) (rest := []) C.1 (c_X6_sumOfLatest l G v w sg x_25 (A1 := (A1 - 3)) i_27 (by omega) (by omega) (by omega)) (cwV 1 hts gX9_settled_X6_sumOfLatest rfl rfl rfl (by decide +kernel) ⟨by rw [hR]; exact Nat.le_of_ble_eq_true rfl, by rw [hR]; exact Nat.le_of_ble_eq_true rfl⟩) ⟨gPre_blind, g_recv C h 83 (by decide) (ci := 6) rfl rfl, gS_pre C h _⟩ rfl rfl hl.1 rfl (lv_room (Nat.le_of_ble_eq_true rfl)) dX9_settled_82 ⟨Nat.zero_le _, Nat.zero_le _⟩) h (fun r_28 v_30 w_31 g_32 H locs p_29 h => ?_)
      obtain ⟨p_29, rfl, rfl, rfl⟩ := p_29
      refine lv_goto (tgt := 89) hx hb dX9_settled_85 (by decide) ?_
      exact ret r_28 v w sg _ _ _ _ dX9_settled_89 h ⟨Or.inl ⟨by omega, by omega, by omega, p_29⟩, rfl, rfl, rfl⟩
  · refine lv_tableOut (tgt := 90) hx hb dX9_settled_1 (by rw [show (p1 : Int32).toInt = A1 from a1]; exact s_2) (by decide) ?_
    refine lv_iconst (v := (-1)) hx hb dX9_settled_90 (by decide) ?_
    exact ret (-1) v w sg _ _ _ _ dX9_settled_91 h ⟨Or.inr (Or.inr (Or.inr (Or.inr (Or.inr ⟨by omega, rfl⟩)))), rfl, rfl, rfl⟩
