set_option maxHeartbeats 4000000 in
set_option maxRecDepth 100000 in
theorem c_X10_order (l : Launch) (G : gG) (v : Nat → Nat → Int32) (w : Nat → Nat → Int64) (sg : Nat → Nat) (p1 : Int32) {A1 : Int} (a1 : p1.toInt = A1) (mi : mI v) : Met l yX10_order wsX10_order ({ frames := 4, cells := 0, slots := 0, locals := 95 }) (gPre G v w sg [.ref (G.2.2 (106)), .int (p1)]) (gQi G (fun r v' w' sg' => (mI v' ∧ fM 126 127 0 0 v w v' w ∧ ((A1 < 0 ∧ r = -1) ∨ (0 ≤ A1 ∧ gTb (cM v') (v 106 22).toInt.toNat (opN (v 125) (v 106 22).toInt.toNat) (lsI v') ∧ grX (cM v') (v 106 22).toInt.toNat (opN (v 125) (v 106 22).toInt.toNat) (lsI v') A1.toNat r.toInt))) ∧ w = w' ∧ sg = sg')) 0 0 (gA G) := by
  refine gM_ofi (cc := cX10_order) (maxL := 7) (by decide) rfl (Nat.le_of_ble_eq_true rfl) ?_
  intro p e R s m args below meth c Q ls C hR ret h hl
  have hx := C.1.1
  have hb := C.1.2.1
  have hown := C.1.2.2.2.1
  have hts := C.1.2.2.2.2
  have hl : lv_has ls 7 [(0, .ref (G.2.2 (106))), (1, .int (p1))] := hl
  have q1 := i_rng p1; rw [a1] at q1
  have z_m4 : ((-4) : Int32).toInt = (-4) := by decide
  have z_m1 : ((-1) : Int32).toInt = (-1) := by decide
  have z_0 : (0 : Int32).toInt = 0 := by decide
  have z_1 : (1 : Int32).toInt = 1 := by decide
  have o_1 := mi
  obtain ⟨I7, I10, I18, I22, I27, I29, I32, Is, I35, Ia, Iar, Isz, Ian⟩ := o_1
  refine lv_iload_n hx hb dX10_order_0 rfl (lv_at hl 1 rfl) ?_
  refine lv_if_ge (tgt := 6) hx hb dX10_order_1 (by decide) (fun c_2 => ?_) (fun c_2 => ?_)
  · have j_3 : 0 ≤ A1 := (i_le (by decide) a1).mp c_2
    refine lv_aload_n hx hb dX10_order_6 rfl (lv_at hl 0 rfl) ?_
    refine g_calli C (va_runV (As := []) (rest := []) C.1 (c_X10_findAll l G v w sg  mi) (cwV 0 hts gX10_order_X10_findAll rfl rfl rfl (by decide +kernel) ⟨by rw [hR]; exact Nat.le_of_ble_eq_true rfl, by rw [hR]; exact Nat.le_of_ble_eq_true rfl⟩) ⟨gPre_blind, g_recv C h 106 (by decide) (ci := 10) rfl rfl, gS_pre C h _⟩ rfl rfl hl.1 rfl (lv_room (Nat.le_of_ble_eq_true rfl)) dX10_order_7 ⟨Nat.zero_le _, Nat.zero_le _⟩) h (fun r_4 v_6 w_7 g_8 H locs p_5 h => ?_)
    obtain ⟨p_5, rfl, rfl⟩ := p_5
    have u_9 : mI v_6 := p_5.1
    have u_10 : fM 126 127 0 0 v w v_6 w := fM_tr fM_rf (fM_le p_5.2.1 (by decide))
    have o_11 := u_9
    obtain ⟨I7, I10, I18, I22, I27, I29, I32, Is, I35, Ia, Iar, Isz, Ian⟩ := o_11
    have hfa := p_5.2.2
    have hpp := pw2_b (n := (v_6 106 22).toInt) (by omega)
    have e22 : v_6 106 22 = v 106 22 := hfa.2.2.1
    have hop := hfa.2.2.2.1
    have htm := hfa.2.2.2.2
    rw [← e22] at hop htm
    have hf1 := hfa.1
    have hgT := gT_m (A := (opN (v 125) ((v_6 106 22).toInt).toNat)) htm (by omega) (by omega)
    refine lv_istore_n (lv' := [(2, .int (r_4)), (0, .ref (G.2.2 (106))), (1, .int (p1))]) hx hb dX10_order_10 rfl hl (by decide) rfl (fun ls hl => ?_)
    refine lv_bipush (v := (-4)) hx hb dX10_order_11 (by decide) ?_
    refine lv_istore_n (lv' := [(3, .int ((-4))), (2, .int (r_4)), (0, .ref (G.2.2 (106))), (1, .int (p1))]) hx hb dX10_order_13 rfl hl (by decide) rfl (fun ls hl => ?_)
    refine lv_iconst (v := 0) hx hb dX10_order_14 (by decide) ?_
    have J17_14 : ∀ (n : Nat) (y_12 : Int32) (y_13 : Int32) (y_14 : Int32) (H : Heap) (locs : List Loc) (ls : Array Slot), ((y_12).toInt).toNat < n → (0 ≤ (y_12).toInt ∧ (y_12).toInt < pw2 (v_6 106 22).toInt) → ((y_13).toInt = -4 ∨ (0 ≤ (y_13).toInt ∧ (y_13).toInt < (v_6 106 22).toInt)) → (0 ≤ (y_14).toInt ∧ (y_14).toInt ≤ A1) → (grE (cM v_6) ((v_6 106 22).toInt).toNat (opN (v 125) ((v_6 106 22).toInt).toNat) (lsI v_6) ((y_14).toInt).toNat ((y_12).toInt).toNat (lsF (y_13).toInt)) → gS (gA G) G s v_6 w sg H locs → lv_has ls 7 [(0, .ref (G.2.2 (106))), (1, .int (p1)), (2, .int (y_12)), (3, .int (y_13)), (4, .int (y_14))] → W p l e R s m args below meth c H locs 0 0 Q (F0 m 17 ls []) := by
      intro n
      induction n with
      | zero => intro y_12 y_13 y_14 H locs ls hm; exact absurd hm (Nat.not_lt_zero _)
      | succ n ih17 =>
        intro y_12 y_13 y_14 H locs ls hm f_15 f_16 f_17 f_18 h hl
        refine lv_iload_n hx hb dX10_order_17 rfl (lv_at hl 2 rfl) ?_
        refine lv_if_eq (tgt := 97) hx hb dX10_order_18 (by decide) (fun c_19 => ?_) (fun c_19 => ?_)
        · have j_20 : (y_12).toInt = 0 := (i_eq rfl (by decide)).mp c_19
          refine lv_bipush (v := (-4)) hx hb dX10_order_97 (by decide) ?_
          exact ret (-4) v_6 w sg _ _ _ _ dX10_order_99 h ⟨⟨u_9, u_10, (by rw [← e22]; exact Or.inr ⟨by omega, hgT, grX_n f_18 (by omega) (by omega) (by decide)⟩)⟩, rfl, rfl⟩
        · have j_20 : ¬ ((y_12).toInt = 0) := fun q => c_19 ((i_eq rfl (by decide)).mpr q)
          refine lv_aload_n hx hb dX10_order_21 rfl (lv_at hl 0 rfl) ?_
          refine lv_iload_n hx hb dX10_order_22 rfl (lv_at hl 2 rfl) ?_
          refine lv_iload_n hx hb dX10_order_23 rfl (lv_at hl 3 rfl) ?_
          refine g_calli C (va_runV (As := [.int (y_12), .int (y_13)]) (rest := []) C.1 (c_X10_best l G v_6 w sg y_12 (A1 := (y_12).toInt) rfl y_13 (A2 := (y_13).toInt) rfl (by omega) f_16 (hfa.2.1.le (by omega) (by decide)) u_9) (cwV 2 hts gX10_order_X10_best rfl rfl rfl (by decide +kernel) ⟨by rw [hR]; exact Nat.le_of_ble_eq_true rfl, by rw [hR]; exact Nat.le_of_ble_eq_true rfl⟩) ⟨gPre_blind, g_recv C h 106 (by decide) (ci := 10) rfl rfl, gS_pre C h _⟩ rfl rfl hl.1 rfl (lv_room (Nat.le_of_ble_eq_true rfl)) dX10_order_24 ⟨Nat.zero_le _, Nat.zero_le _⟩) h (fun r_21 v_23 w_24 g_25 H locs p_22 h => ?_)
          obtain ⟨p_22, rfl, rfl, rfl⟩ := p_22
          have hbst := p_22.2
          refine lv_istore (lv' := [(5, .int (r_21)), (0, .ref (G.2.2 (106))), (1, .int (p1)), (2, .int (y_12)), (3, .int (y_13)), (4, .int (y_14))]) hx hb dX10_order_27 hl (by decide) rfl (fun ls hl => ?_)
          have hex := exB_of (S := (y_12).toInt) (by omega) (by omega) hbst
          obtain ⟨⟨k0, hk0, hk1, hk2⟩, hkm⟩ := id hex
          refine lv_iconst (v := 0) hx hb dX10_order_29 (by decide) ?_
          have J32_26 : ∀ (n : Nat) (y_26 : Int32) (H : Heap) (locs : List Loc) (ls : Array Slot), ((k0 : Int) - (y_26).toInt).toNat < n → (0 ≤ (y_26).toInt ∧ (y_26).toInt ≤ (k0 : Int)) → (ltP v_6 ((y_12).toInt).toNat (y_13).toInt (r_21).toInt (y_26).toInt) → gS (gA G) G s v_6 w sg H locs → lv_has ls 7 [(0, .ref (G.2.2 (106))), (1, .int (p1)), (2, .int (y_12)), (3, .int (y_13)), (4, .int (y_14)), (5, .int (r_21)), (6, .int (y_26))] → W p l e R s m args below meth c H locs 0 0 Q (F0 m 32 ls []) := by
            intro n
            induction n with
            | zero => intro y_26 H locs ls hm; exact absurd hm (Nat.not_lt_zero _)
            | succ n ih32 =>
              intro y_26 H locs ls hm f_27 f_28 h hl
              refine lv_iload_n hx hb dX10_order_32 rfl (lv_at hl 2 rfl) ?_
              refine lv_iload hx hb dX10_order_33 (lv_at hl 6 rfl) ?_
              refine lv_ishr hx hb dX10_order_35 ?_
              refine lv_topi (fun x_29 e_30 => ?_)
              refine lv_iconst (v := 1) hx hb dX10_order_36 (by decide) ?_
              refine lv_iand hx hb dX10_order_37 ?_
              refine lv_topi (fun x_31 e_32 => ?_)
              have hbit := bit_of e_30 e_32 rfl rfl (by omega) (by omega)
              have J66_32 : ∀ (H : Heap) (locs : List Loc) (ls : Array Slot), ((y_26).toInt + 1 ≤ (k0 : Int)) → (ltP v_6 ((y_12).toInt).toNat (y_13).toInt (r_21).toInt ((y_26).toInt + 1)) → gS (gA G) G s v_6 w sg H locs → lv_has ls 7 [(0, .ref (G.2.2 (106))), (1, .int (p1)), (2, .int (y_12)), (3, .int (y_13)), (4, .int (y_14)), (5, .int (r_21)), (6, .int (y_26))] → W p l e R s m args below meth c H locs 0 0 Q (F0 m 66 ls []) := by
                intro  H locs ls f_33 f_34 h hl
                obtain ⟨x_35, e_36⟩ : ∃ y : Int32, y = y_26 + 1 := ⟨_, rfl⟩
                have i_37 : x_35.toInt = (y_26).toInt + 1 := ia_add e_36 rfl (by decide) (by omega) (by omega)
                refine lv_iinc (v := x_35) (lv' := [(6, .int (x_35)), (0, .ref (G.2.2 (106))), (1, .int (p1)), (2, .int (y_12)), (3, .int (y_13)), (4, .int (y_14)), (5, .int (r_21))]) hx hb dX10_order_66 hl (k := 6) rfl (by rw [e_36]; rfl) (by decide) rfl (fun ls hl => ?_)
                refine lv_goto (tgt := 32) hx hb dX10_order_69 (by decide) ?_
                exact ih32 x_35 _ _ _ (by omega) (by omega) (by rw [show (x_35 : Int32).toInt = (y_26 : Int32).toInt + 1 by omega]; exact f_34) h (lv_sub hl [1, 2, 3, 4, 5, 6, 0] rfl)
              refine lv_if_eq (tgt := 66) hx hb dX10_order_38 (by decide) (fun c_38 => ?_) (fun c_38 => ?_)
              · have j_39 : (x_31).toInt = 0 := (i_eq rfl (by decide)).mp c_38
                exact J66_32  _ _ _ (by first | exact bit_ne f_27 (bit_f0 hbit (by omega)) hk1 | exact val_ne (f := FMo v_6 ((y_12).toInt).toNat (y_13).toInt) hsum hk2 f_27 (by omega)) (by first | exact f_28.no (by omega) rfl (bit_f0 hbit (by omega)) | exact f_28.ne hex (by omega) rfl (by omega) hsum (by omega)) h (lv_sub hl [0, 1, 2, 3, 4, 5, 6] rfl)
              · have j_39 : ¬ ((x_31).toInt = 0) := fun q => c_38 ((i_eq rfl (by decide)).mpr q)
                have hbt := bit_t0 hbit (by omega)
                have hle := bit_le (by omega) hbt
                have hpb := pw2_b8 (n := (y_26).toInt) (by omega)
                refine lv_aload_n hx hb dX10_order_41 rfl (lv_at hl 0 rfl) ?_
                refine lv_iload_n hx hb dX10_order_42 rfl (lv_at hl 3 rfl) ?_
                refine lv_iload hx hb dX10_order_43 (lv_at hl 6 rfl) ?_
                refine g_calli C (va_runV (As := [.int (y_13), .int (y_26)]) (rest := []) C.1 (c_X10_cost l G v_6 w sg y_13 (A1 := (y_13).toInt) rfl y_26 (A2 := (y_26).toInt) rfl f_16 (by omega) u_9) (cwV 2 hts gX10_order_X10_cost rfl rfl rfl (by decide +kernel) ⟨by rw [hR]; exact Nat.le_of_ble_eq_true rfl, by rw [hR]; exact Nat.le_of_ble_eq_true rfl⟩) ⟨gPre_blind, g_recv C h 106 (by decide) (ci := 10) rfl rfl, gS_pre C h _⟩ rfl rfl hl.1 rfl (lv_room (Nat.le_of_ble_eq_true rfl)) dX10_order_45 ⟨Nat.zero_le _, Nat.zero_le _⟩) h (fun r_40 v_42 w_43 g_44 H locs p_41 h => ?_)
                obtain ⟨p_41, rfl, rfl, rfl⟩ := p_41
                have hcs := p_41.1
                have hcb := p_41.2
                refine lv_aload_n hx hb dX10_order_48 rfl (lv_at hl 0 rfl) ?_
                refine lv_iload_n hx hb dX10_order_49 rfl (lv_at hl 2 rfl) ?_
                refine lv_iconst (v := 1) hx hb dX10_order_50 (by decide) ?_
                refine lv_iload hx hb dX10_order_51 (lv_at hl 6 rfl) ?_
                refine lv_ishl hx hb dX10_order_53 ?_
                refine lv_topi (fun x_45 e_46 => ?_)
                have hsh := pow_of e_46 rfl (by omega)
                refine lv_isub hx hb dX10_order_54 ?_
                refine lv_topi (fun x_47 e_48 => ?_)
                have i_49 : x_47.toInt = (y_12).toInt - (x_45).toInt := ia_sub e_48 rfl rfl (by omega) (by omega)
                refine lv_iload hx hb dX10_order_55 (lv_at hl 6 rfl) ?_
                refine g_calli C (va_runV (As := [.int (x_47), .int (y_26)]) (rest := [.int (r_40)]) C.1 (c_X10_behind l G v_6 w sg x_47 (A1 := ((y_12).toInt - (x_45).toInt)) i_49 y_26 (A2 := (y_26).toInt) rfl (by omega) (by omega) u_9) (cwV 2 hts gX10_order_X10_behind rfl rfl rfl (by decide +kernel) ⟨by rw [hR]; exact Nat.le_of_ble_eq_true rfl, by rw [hR]; exact Nat.le_of_ble_eq_true rfl⟩) ⟨gPre_blind, g_recv C h 106 (by decide) (ci := 10) rfl rfl, gS_pre C h _⟩ rfl rfl hl.1 rfl (lv_room (Nat.le_of_ble_eq_true rfl)) dX10_order_57 ⟨Nat.zero_le _, Nat.zero_le _⟩) h (fun r_50 v_52 w_53 g_54 H locs p_51 h => ?_)
                obtain ⟨p_51, rfl, rfl, rfl⟩ := p_51
                have hls : (r_50).toInt = lsI v_6 (((y_12).toInt).toNat - 2 ^ ((y_26).toInt).toNat) ((y_26).toInt).toNat := p_51.trans (ls_cast hsh hle (by omega))
                have hlb := lsI_b hfa.2.1 (s := ((y_12).toInt - pw2 (y_26).toInt).toNat) (l := ((y_26).toInt).toNat) (by omega) (by omega)
                rw [ls_cast rfl hle (by omega), ← hls] at hlb
                refine lv_iadd hx hb dX10_order_60 ?_
                refine lv_topi (fun x_55 e_56 => ?_)
                have i_57 : x_55.toInt = (r_40).toInt + (r_50).toInt := ia_add e_56 rfl rfl (by omega) (by omega)
                have hsum : ((r_40).toInt + (r_50).toInt) = FMo v_6 ((y_12).toInt).toNat (y_13).toInt ((y_26).toInt).toNat := by rw [hcs, hls]; rfl
                refine lv_iload hx hb dX10_order_61 (lv_at hl 5 rfl) ?_
                refine lv_icmp_eq (tgt := 72) hx hb dX10_order_63 (by decide) (fun c_58 => ?_) (fun c_58 => ?_)
                · have j_59 : ((r_40).toInt + (r_50).toInt) = (r_21).toInt := (i_eq i_57 rfl).mp c_58
                  have hF := isF_m f_28 hex (by omega) hbt hsum (by omega) (lsF_e (by omega))
                  refine lv_iload hx hb dX10_order_72 (lv_at hl 4 rfl) ?_
                  refine lv_iload_n hx hb dX10_order_74 rfl (lv_at hl 1 rfl) ?_
                  refine lv_icmp_ne (tgt := 81) hx hb dX10_order_75 (by decide) (fun c_60 => ?_) (fun c_60 => ?_)
                  · have j_61 : ¬ ((y_14).toInt = A1) := fun q => c_60 ((i_eq rfl a1).mpr q)
                    refine lv_iload_n hx hb dX10_order_81 rfl (lv_at hl 2 rfl) ?_
                    refine lv_iconst (v := 1) hx hb dX10_order_82 (by decide) ?_
                    refine lv_iload hx hb dX10_order_83 (lv_at hl 6 rfl) ?_
                    refine lv_ishl hx hb dX10_order_85 ?_
                    refine lv_topi (fun x_62 e_63 => ?_)
                    have hsh2 := pow_of e_63 rfl (by omega)
                    refine lv_isub hx hb dX10_order_86 ?_
                    refine lv_topi (fun x_64 e_65 => ?_)
                    have i_66 : x_64.toInt = (y_12).toInt - (x_62).toInt := ia_sub e_65 rfl rfl (by omega) (by omega)
                    refine lv_istore_n (lv' := [(2, .int (x_64)), (0, .ref (G.2.2 (106))), (1, .int (p1)), (3, .int (y_13)), (4, .int (y_14)), (5, .int (r_21)), (6, .int (y_26))]) hx hb dX10_order_87 rfl hl (by decide) rfl (fun ls hl => ?_)
                    refine lv_iload hx hb dX10_order_88 (lv_at hl 6 rfl) ?_
                    refine lv_istore_n (lv' := [(3, .int (y_26)), (2, .int (x_64)), (0, .ref (G.2.2 (106))), (1, .int (p1)), (4, .int (y_14)), (5, .int (r_21)), (6, .int (y_26))]) hx hb dX10_order_90 rfl hl (by decide) rfl (fun ls hl => ?_)
                    obtain ⟨x_67, e_68⟩ : ∃ y : Int32, y = y_14 + 1 := ⟨_, rfl⟩
                    have i_69 : x_67.toInt = (y_14).toInt + 1 := ia_add e_68 rfl (by decide) (by omega) (by omega)
                    refine lv_iinc (v := x_67) (lv' := [(4, .int (x_67)), (3, .int (y_26)), (2, .int (x_64)), (0, .ref (G.2.2 (106))), (1, .int (p1)), (5, .int (r_21)), (6, .int (y_26))]) hx hb dX10_order_91 hl (k := 4) rfl (by rw [e_68]; rfl) (by decide) rfl (fun ls hl => ?_)
                    refine lv_goto (tgt := 17) hx hb dX10_order_94 (by decide) ?_
                    exact ih17 x_64 y_26 x_67 _ _ _ (by omega) (by omega) (Or.inr (by omega)) (by omega) (by rw [lsF_n (by omega)]; exact grE_st f_18 hF (by omega) (by unfold pw2 at hsh2 hle; omega)) h (lv_sub hl [3, 4, 2, 1, 0] rfl)
                  · have j_61 : (y_14).toInt = A1 := (i_eq rfl a1).mp c_60
                    refine lv_iload hx hb dX10_order_78 (lv_at hl 6 rfl) ?_
                    exact ret y_26 v_6 w sg _ _ _ _ dX10_order_80 h ⟨⟨u_9, u_10, (by rw [← e22]; exact Or.inr ⟨by omega, hgT, grX_i f_18 hF (by omega) (by omega)⟩)⟩, rfl, rfl⟩
                · have j_59 : ¬ (((r_40).toInt + (r_50).toInt) = (r_21).toInt) := fun q => c_58 ((i_eq i_57 rfl).mpr q)
                  exact J66_32  _ _ _ (by first | exact bit_ne f_27 (bit_f0 hbit (by omega)) hk1 | exact val_ne (f := FMo v_6 ((y_12).toInt).toNat (y_13).toInt) hsum hk2 f_27 (by omega)) (by first | exact f_28.no (by omega) rfl (bit_f0 hbit (by omega)) | exact f_28.ne hex (by omega) rfl (by omega) hsum (by omega)) h (lv_sub hl [0, 1, 2, 3, 4, 5, 6] rfl)
          refine lv_istore (lv' := [(6, .int (0)), (5, .int (r_21)), (0, .ref (G.2.2 (106))), (1, .int (p1)), (2, .int (y_12)), (3, .int (y_13)), (4, .int (y_14))]) hx hb dX10_order_30 hl (by decide) rfl (fun ls hl => ?_)
          exact J32_26 _ 0 _ _ _ (Nat.lt_succ_self _) (by omega) ltP_0 h (lv_sub hl [2, 3, 4, 5, 6, 1, 0] rfl)
    refine lv_istore (lv' := [(4, .int (0)), (3, .int ((-4))), (2, .int (r_4)), (0, .ref (G.2.2 (106))), (1, .int (p1))]) hx hb dX10_order_15 hl (by decide) rfl (fun ls hl => ?_)
    exact J17_14 _ r_4 (-4) 0 _ _ _ (Nat.lt_succ_self _) (by omega) (Or.inl (by decide)) (by omega) (grE_0 (by decide) (by omega) (lsF_4 (by decide))) h (lv_sub hl [3, 4, 2, 1, 0] rfl)
  · have j_3 : ¬ (0 ≤ A1) := fun q => c_2 ((i_le (by decide) a1).mpr q)
    refine lv_iconst (v := (-1)) hx hb dX10_order_4 (by decide) ?_
    exact ret (-1) v w sg _ _ _ _ dX10_order_5 h ⟨⟨mi, fM_rf, Or.inl ⟨by omega, rfl⟩⟩, rfl, rfl⟩
