set_option maxHeartbeats 4000000 in
set_option maxRecDepth 100000 in
theorem c_X10_order (l : Launch) (G : gG) (v : Nat → Nat → Int32) (w : Nat → Nat → Int64) (sg : Nat → Nat) (p1 : Int32) {A1 : Int} (a1 : p1.toInt = A1) (mi : mI v) : Met l yX10_order wsX10_order ({ frames := 4, cells := 0, slots := 0, locals := 95 }) (gPre G v w sg [.ref (G.2.2 (106)), .int (p1)]) (gQi G (fun r v' w' sg' => (mI v' ∧ fM 126 127 0 0 v w v' w) ∧ w = w' ∧ sg = sg')) 0 0 (gA G) := by
  refine gM_ofi (cc := cX10_order) (maxL := 7) (by decide) rfl (Nat.le_of_ble_eq_true rfl) ?_
  intro p e R s m args below meth c Q ls C hR ret h hl
  have hx := C.1.1
  have hb := C.1.2.1
  have hown := C.1.2.2.2.1
  have hts := C.1.2.2.2.2
  have hl : lv_has ls 7 [(0, .ref (G.2.2 (106))), (1, .int (p1))] := hl
  have q1 := i_rng p1; rw [a1] at q1
  have z_m4 : ((-4) : Int32).toInt = (-4) := by decide
  have z_m1 : ((-1) : Int32).toInt = (-1) := by decide
  have z_0 : (0 : Int32).toInt = 0 := by decide
  have z_1 : (1 : Int32).toInt = 1 := by decide
  have o_1 := mi
  obtain ⟨I7, I10, I18, I22, I27, I29, I32, Is, I35, Ia, Iar, Isz, Ian⟩ := o_1
  refine lv_iload_n hx hb dX10_order_0 rfl (lv_at hl 1 rfl) ?_
  refine lv_if_ge (tgt := 6) hx hb dX10_order_1 (by decide) (fun c_2 => ?_) (fun c_2 => ?_)
  · have j_3 : 0 ≤ A1 := (i_le (by decide) a1).mp c_2
    refine lv_aload_n hx hb dX10_order_6 rfl (lv_at hl 0 rfl) ?_
    refine g_calli C (va_runV (As := []) (rest := []) C.1 (c_X10_findAll l G v w sg  mi) (cwV 0 hts gX10_order_X10_findAll rfl rfl rfl (by decide +kernel) ⟨by rw [hR]; exact Nat.le_of_ble_eq_true rfl, by rw [hR]; exact Nat.le_of_ble_eq_true rfl⟩) ⟨gPre_blind, g_recv C h 106 (by decide) (ci := 10) rfl rfl, gS_pre C h _⟩ rfl rfl hl.1 rfl (lv_room (Nat.le_of_ble_eq_true rfl)) dX10_order_7 ⟨Nat.zero_le _, Nat.zero_le _⟩) h (fun r_4 v_6 w_7 g_8 H locs p_5 h => ?_)
    obtain ⟨p_5, rfl, rfl⟩ := p_5
    have u_9 : mI v_6 := p_5.1
    have u_10 : fM 126 127 0 0 v w v_6 w := fM_tr fM_rf (fM_le p_5.2.1 (by decide))
    have o_11 := u_9
    obtain ⟨I7, I10, I18, I22, I27, I29, I32, Is, I35, Ia, Iar, Isz, Ian⟩ := o_11
    have hfa := p_5.2.2
    have hpp := pw2_b (n := (v_6 106 22).toInt) (by omega)
    refine lv_istore_n (lv' := [(2, .int (r_4)), (0, .ref (G.2.2 (106))), (1, .int (p1))]) hx hb dX10_order_10 rfl hl (by decide) rfl (fun ls hl => ?_)
    refine lv_bipush (v := (-4)) hx hb dX10_order_11 (by decide) ?_
    refine lv_istore_n (lv' := [(3, .int ((-4))), (2, .int (r_4)), (0, .ref (G.2.2 (106))), (1, .int (p1))]) hx hb dX10_order_13 rfl hl (by decide) rfl (fun ls hl => ?_)
    refine lv_iconst (v := 0) hx hb dX10_order_14 (by decide) ?_
    have J17_14 : ∀ (n : Nat) (y_12 : Int32) (y_13 : Int32) (y_14 : Int32) (H : Heap) (locs : List Loc) (ls : Array Slot), ((y_12).toInt).toNat < n → (0 ≤ (y_12).toInt ∧ (y_12).toInt < pw2 (v_6 106 22).toInt) → ((y_13).toInt = -4 ∨ (0 ≤ (y_13).toInt ∧ (y_13).toInt < (v_6 106 22).toInt)) → gS (gA G) G s v_6 w sg H locs → lv_has ls 7 [(0, .ref (G.2.2 (106))), (1, .int (p1)), (2, .int (y_12)), (3, .int (y_13)), (4, .int (y_14))] → W p l e R s m args below meth c H locs 0 0 Q (F0 m 17 ls []) := by
      intro n
      induction n with
      | zero => intro y_12 y_13 y_14 H locs ls hm; exact absurd hm (Nat.not_lt_zero _)
      | succ n ih17 =>
        intro y_12 y_13 y_14 H locs ls hm f_15 f_16 h hl
        refine lv_iload_n hx hb dX10_order_17 rfl (lv_at hl 2 rfl) ?_
        refine lv_if_eq (tgt := 97) hx hb dX10_order_18 (by decide) (fun c_17 => ?_) (fun c_17 => ?_)
        · have j_18 : (y_12).toInt = 0 := (i_eq rfl (by decide)).mp c_17
          refine lv_bipush (v := (-4)) hx hb dX10_order_97 (by decide) ?_
          exact ret (-4) v_6 w sg _ _ _ _ dX10_order_99 h ⟨⟨u_9, u_10⟩, rfl, rfl⟩
        · have j_18 : ¬ ((y_12).toInt = 0) := fun q => c_17 ((i_eq rfl (by decide)).mpr q)
          refine lv_aload_n hx hb dX10_order_21 rfl (lv_at hl 0 rfl) ?_
          refine lv_iload_n hx hb dX10_order_22 rfl (lv_at hl 2 rfl) ?_
          refine lv_iload_n hx hb dX10_order_23 rfl (lv_at hl 3 rfl) ?_
          refine g_calli C (va_runV (As := [.int (y_12), .int (y_13)]) (rest := []) C.1 (c_X10_best l G v_6 w sg y_12 (A1 := (y_12).toInt) rfl y_13 (A2 := (y_13).toInt) rfl (by omega) f_16 (hfa.2.1.le (by omega) (by decide)) u_9) (cwV 2 hts gX10_order_X10_best rfl rfl rfl (by decide +kernel) ⟨by rw [hR]; exact Nat.le_of_ble_eq_true rfl, by rw [hR]; exact Nat.le_of_ble_eq_true rfl⟩) ⟨gPre_blind, g_recv C h 106 (by decide) (ci := 10) rfl rfl, gS_pre C h _⟩ rfl rfl hl.1 rfl (lv_room (Nat.le_of_ble_eq_true rfl)) dX10_order_24 ⟨Nat.zero_le _, Nat.zero_le _⟩) h (fun r_19 v_21 w_22 g_23 H locs p_20 h => ?_)
          obtain ⟨p_20, rfl, rfl, rfl⟩ := p_20
          have hbst := p_20.2
          refine lv_istore (lv' := [(5, .int (r_19)), (0, .ref (G.2.2 (106))), (1, .int (p1)), (2, .int (y_12)), (3, .int (y_13)), (4, .int (y_14))]) hx hb dX10_order_27 hl (by decide) rfl (fun ls hl => ?_)
          obtain ⟨k0, hk0, hk1, hk2⟩ : exB v_6 ((y_12).toInt).toNat (y_13).toInt (v_6 106 22).toInt (r_19).toInt := hbst.elim (fun q => (noB_not (by omega) (by omega) q).elim) id
          refine lv_iconst (v := 0) hx hb dX10_order_29 (by decide) ?_
          have J32_24 : ∀ (n : Nat) (y_24 : Int32) (H : Heap) (locs : List Loc) (ls : Array Slot), ((k0 : Int) - (y_24).toInt).toNat < n → (0 ≤ (y_24).toInt ∧ (y_24).toInt ≤ (k0 : Int)) → gS (gA G) G s v_6 w sg H locs → lv_has ls 7 [(0, .ref (G.2.2 (106))), (1, .int (p1)), (2, .int (y_12)), (3, .int (y_13)), (4, .int (y_14)), (5, .int (r_19)), (6, .int (y_24))] → W p l e R s m args below meth c H locs 0 0 Q (F0 m 32 ls []) := by
            intro n
            induction n with
            | zero => intro y_24 H locs ls hm; exact absurd hm (Nat.not_lt_zero _)
            | succ n ih32 =>
              intro y_24 H locs ls hm f_25 h hl
              refine lv_iload_n hx hb dX10_order_32 rfl (lv_at hl 2 rfl) ?_
              refine lv_iload hx hb dX10_order_33 (lv_at hl 6 rfl) ?_
              refine lv_ishr hx hb dX10_order_35 ?_
              refine lv_topi (fun x_26 e_27 => ?_)
              refine lv_iconst (v := 1) hx hb dX10_order_36 (by decide) ?_
              refine lv_iand hx hb dX10_order_37 ?_
              refine lv_topi (fun x_28 e_29 => ?_)
              have hbit := bit_of e_27 e_29 rfl rfl (by omega) (by omega)
              have J66_29 : ∀ (H : Heap) (locs : List Loc) (ls : Array Slot), ((y_24).toInt + 1 ≤ (k0 : Int)) → gS (gA G) G s v_6 w sg H locs → lv_has ls 7 [(0, .ref (G.2.2 (106))), (1, .int (p1)), (2, .int (y_12)), (3, .int (y_13)), (4, .int (y_14)), (5, .int (r_19)), (6, .int (y_24))] → W p l e R s m args below meth c H locs 0 0 Q (F0 m 66 ls []) := by
                intro  H locs ls f_30 h hl
                obtain ⟨x_31, e_32⟩ : ∃ y : Int32, y = y_24 + 1 := ⟨_, rfl⟩
                have i_33 : x_31.toInt = (y_24).toInt + 1 := ia_add e_32 rfl (by decide) (by omega) (by omega)
                refine lv_iinc (v := x_31) (lv' := [(6, .int (x_31)), (0, .ref (G.2.2 (106))), (1, .int (p1)), (2, .int (y_12)), (3, .int (y_13)), (4, .int (y_14)), (5, .int (r_19))]) hx hb dX10_order_66 hl (k := 6) rfl (by rw [e_32]; rfl) (by decide) rfl (fun ls hl => ?_)
                refine lv_goto (tgt := 32) hx hb dX10_order_69 (by decide) ?_
                exact ih32 x_31 _ _ _ (by omega) (by omega) h (lv_sub hl [1, 2, 3, 4, 5, 6, 0] rfl)
              refine lv_if_eq (tgt := 66) hx hb dX10_order_38 (by decide) (fun c_34 => ?_) (fun c_34 => ?_)
              · have j_35 : (x_28).toInt = 0 := (i_eq rfl (by decide)).mp c_34
                exact J66_29  _ _ _ (by first | exact bit_ne f_25 (bit_f0 hbit (by omega)) hk1 | exact val_ne (f := fun k => csI v_6 (y_13).toInt k + lsI v_6 (((y_12).toInt).toNat - 2 ^ k) k) hsum hk2 f_25 (by omega)) h (lv_sub hl [0, 1, 2, 3, 4, 5, 6] rfl)
              · have j_35 : ¬ ((x_28).toInt = 0) := fun q => c_34 ((i_eq rfl (by decide)).mpr q)
                have hbt := bit_t0 hbit (by omega)
                have hle := bit_le (by omega) hbt
                have hpb := pw2_b8 (n := (y_24).toInt) (by omega)
                refine lv_aload_n hx hb dX10_order_41 rfl (lv_at hl 0 rfl) ?_
                refine lv_iload_n hx hb dX10_order_42 rfl (lv_at hl 3 rfl) ?_
                refine lv_iload hx hb dX10_order_43 (lv_at hl 6 rfl) ?_
                refine g_calli C (va_runV (As := [.int (y_13), .int (y_24)]) (rest := []) C.1 (c_X10_cost l G v_6 w sg y_13 (A1 := (y_13).toInt) rfl y_24 (A2 := (y_24).toInt) rfl f_16 (by omega) u_9) (cwV 2 hts gX10_order_X10_cost rfl rfl rfl (by decide +kernel) ⟨by rw [hR]; exact Nat.le_of_ble_eq_true rfl, by rw [hR]; exact Nat.le_of_ble_eq_true rfl⟩) ⟨gPre_blind, g_recv C h 106 (by decide) (ci := 10) rfl rfl, gS_pre C h _⟩ rfl rfl hl.1 rfl (lv_room (Nat.le_of_ble_eq_true rfl)) dX10_order_45 ⟨Nat.zero_le _, Nat.zero_le _⟩) h (fun r_36 v_38 w_39 g_40 H locs p_37 h => ?_)
                obtain ⟨p_37, rfl, rfl, rfl⟩ := p_37
                have hcs := p_37.1
                have hcb := p_37.2
                refine lv_aload_n hx hb dX10_order_48 rfl (lv_at hl 0 rfl) ?_
                refine lv_iload_n hx hb dX10_order_49 rfl (lv_at hl 2 rfl) ?_
                refine lv_iconst (v := 1) hx hb dX10_order_50 (by decide) ?_
                refine lv_iload hx hb dX10_order_51 (lv_at hl 6 rfl) ?_
                refine lv_ishl hx hb dX10_order_53 ?_
                refine lv_topi (fun x_41 e_42 => ?_)
                have hsh := pow_of e_42 rfl (by omega)
                refine lv_isub hx hb dX10_order_54 ?_
                refine lv_topi (fun x_43 e_44 => ?_)
                have i_45 : x_43.toInt = (y_12).toInt - (x_41).toInt := ia_sub e_44 rfl rfl (by omega) (by omega)
                refine lv_iload hx hb dX10_order_55 (lv_at hl 6 rfl) ?_
                refine g_calli C (va_runV (As := [.int (x_43), .int (y_24)]) (rest := [.int (r_36)]) C.1 (c_X10_behind l G v_6 w sg x_43 (A1 := ((y_12).toInt - (x_41).toInt)) i_45 y_24 (A2 := (y_24).toInt) rfl (by omega) (by omega) u_9) (cwV 2 hts gX10_order_X10_behind rfl rfl rfl (by decide +kernel) ⟨by rw [hR]; exact Nat.le_of_ble_eq_true rfl, by rw [hR]; exact Nat.le_of_ble_eq_true rfl⟩) ⟨gPre_blind, g_recv C h 106 (by decide) (ci := 10) rfl rfl, gS_pre C h _⟩ rfl rfl hl.1 rfl (lv_room (Nat.le_of_ble_eq_true rfl)) dX10_order_57 ⟨Nat.zero_le _, Nat.zero_le _⟩) h (fun r_46 v_48 w_49 g_50 H locs p_47 h => ?_)
                obtain ⟨p_47, rfl, rfl, rfl⟩ := p_47
                have hls : (r_46).toInt = lsI v_6 (((y_12).toInt).toNat - 2 ^ ((y_24).toInt).toNat) ((y_24).toInt).toNat := p_47.trans (ls_cast hsh hle (by omega))
                have hlb := lsI_b hfa.2.1 (s := ((y_12).toInt - pw2 (y_24).toInt).toNat) (l := ((y_24).toInt).toNat) (by omega) (by omega)
                rw [ls_cast rfl hle (by omega), ← hls] at hlb
                refine lv_iadd hx hb dX10_order_60 ?_
                refine lv_topi (fun x_51 e_52 => ?_)
                have i_53 : x_51.toInt = (r_36).toInt + (r_46).toInt := ia_add e_52 rfl rfl (by omega) (by omega)
                have hsum : ((r_36).toInt + (r_46).toInt) = csI v_6 (y_13).toInt ((y_24).toInt).toNat + lsI v_6 (((y_12).toInt).toNat - 2 ^ ((y_24).toInt).toNat) ((y_24).toInt).toNat := by rw [hcs, hls]
                refine lv_iload hx hb dX10_order_61 (lv_at hl 5 rfl) ?_
                refine lv_icmp_eq (tgt := 72) hx hb dX10_order_63 (by decide) (fun c_54 => ?_) (fun c_54 => ?_)
                · have j_55 : ((r_36).toInt + (r_46).toInt) = (r_19).toInt := (i_eq i_53 rfl).mp c_54
                  refine lv_iload hx hb dX10_order_72 (lv_at hl 4 rfl) ?_
                  refine lv_iload_n hx hb dX10_order_74 rfl (lv_at hl 1 rfl) ?_
                  refine lv_icmp_ne (tgt := 81) hx hb dX10_order_75 (by decide) (fun c_56 => ?_) (fun c_56 => ?_)
                  · have j_57 : ¬ ((y_14).toInt = A1) := fun q => c_56 ((i_eq rfl a1).mpr q)
                    refine lv_iload_n hx hb dX10_order_81 rfl (lv_at hl 2 rfl) ?_
                    refine lv_iconst (v := 1) hx hb dX10_order_82 (by decide) ?_
                    refine lv_iload hx hb dX10_order_83 (lv_at hl 6 rfl) ?_
                    refine lv_ishl hx hb dX10_order_85 ?_
                    refine lv_topi (fun x_58 e_59 => ?_)
                    have hsh2 := pow_of e_59 rfl (by omega)
                    refine lv_isub hx hb dX10_order_86 ?_
                    refine lv_topi (fun x_60 e_61 => ?_)
                    have i_62 : x_60.toInt = (y_12).toInt - (x_58).toInt := ia_sub e_61 rfl rfl (by omega) (by omega)
                    refine lv_istore_n (lv' := [(2, .int (x_60)), (0, .ref (G.2.2 (106))), (1, .int (p1)), (3, .int (y_13)), (4, .int (y_14)), (5, .int (r_19)), (6, .int (y_24))]) hx hb dX10_order_87 rfl hl (by decide) rfl (fun ls hl => ?_)
                    refine lv_iload hx hb dX10_order_88 (lv_at hl 6 rfl) ?_
                    refine lv_istore_n (lv' := [(3, .int (y_24)), (2, .int (x_60)), (0, .ref (G.2.2 (106))), (1, .int (p1)), (4, .int (y_14)), (5, .int (r_19)), (6, .int (y_24))]) hx hb dX10_order_90 rfl hl (by decide) rfl (fun ls hl => ?_)
                    obtain ⟨x_63, e_64⟩ : ∃ y : Int32, y = y_14 + 1 := ⟨_, rfl⟩
                    refine lv_iinc (v := x_63) (lv' := [(4, .int (x_63)), (3, .int (y_24)), (2, .int (x_60)), (0, .ref (G.2.2 (106))), (1, .int (p1)), (5, .int (r_19)), (6, .int (y_24))]) hx hb dX10_order_91 hl (k := 4) rfl (by rw [e_64]; rfl) (by decide) rfl (fun ls hl => ?_)
                    refine lv_goto (tgt := 17) hx hb dX10_order_94 (by decide) ?_
                    exact ih17 x_60 y_24 x_63 _ _ _ (by omega) (by omega) (Or.inr (by omega)) h (lv_sub hl [3, 4, 2, 1, 0] rfl)
                  · have j_57 : (y_14).toInt = A1 := (i_eq rfl a1).mp c_56
                    refine lv_iload hx hb dX10_order_78 (lv_at hl 6 rfl) ?_
                    exact ret y_24 v_6 w sg _ _ _ _ dX10_order_80 h ⟨⟨u_9, u_10⟩, rfl, rfl⟩
                · have j_55 : ¬ (((r_36).toInt + (r_46).toInt) = (r_19).toInt) := fun q => c_54 ((i_eq i_53 rfl).mpr q)
                  exact J66_29  _ _ _ (by first | exact bit_ne f_25 (bit_f0 hbit (by omega)) hk1 | exact val_ne (f := fun k => csI v_6 (y_13).toInt k + lsI v_6 (((y_12).toInt).toNat - 2 ^ k) k) hsum hk2 f_25 (by omega)) h (lv_sub hl [0, 1, 2, 3, 4, 5, 6] rfl)
          refine lv_istore (lv' := [(6, .int (0)), (5, .int (r_19)), (0, .ref (G.2.2 (106))), (1, .int (p1)), (2, .int (y_12)), (3, .int (y_13)), (4, .int (y_14))]) hx hb dX10_order_30 hl (by decide) rfl (fun ls hl => ?_)
          exact J32_24 _ 0 _ _ _ (Nat.lt_succ_self _) (by omega) h (lv_sub hl [2, 3, 4, 5, 6, 1, 0] rfl)
    refine lv_istore (lv' := [(4, .int (0)), (3, .int ((-4))), (2, .int (r_4)), (0, .ref (G.2.2 (106))), (1, .int (p1))]) hx hb dX10_order_15 hl (by decide) rfl (fun ls hl => ?_)
    exact J17_14 _ r_4 (-4) 0 _ _ _ (Nat.lt_succ_self _) (by omega) (Or.inl (by decide)) h (lv_sub hl [3, 4, 2, 1, 0] rfl)
  · have j_3 : ¬ (0 ≤ A1) := fun q => c_2 ((i_le (by decide) a1).mpr q)
    refine lv_iconst (v := (-1)) hx hb dX10_order_4 (by decide) ?_
    exact ret (-1) v w sg _ _ _ _ dX10_order_5 h ⟨⟨mi, fM_rf⟩, rfl, rfl⟩
