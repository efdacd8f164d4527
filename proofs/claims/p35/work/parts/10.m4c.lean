set_option maxHeartbeats 4000000 in
set_option maxRecDepth 100000 in
theorem c_X10_does (l : Launch) (G : gG) (v : Nat → Nat → Int32) (w : Nat → Nat → Int64) (sg : Nat → Nat) (p1 : Int32) {A1 : Int} (a1 : p1.toInt = A1) (b1 : 0 ≤ A1 ∧ A1 ≤ 9) (mi : mI v) : Met l yX10_does wsX10_does ({ frames := 2, cells := 0, slots := 0, locals := 43 }) (gPre G v w sg [.ref (G.2.2 (106)), .int (p1)]) (gQv G (fun v' w' sg' => (mI v ∧ fM 114 123 10 19 v w v w') ∧ v = v' ∧ sg = sg')) 0 0 (gA G) := by
  refine gM_ofv (cc := cX10_does) (maxL := 11) (by decide) rfl (Nat.le_of_ble_eq_true rfl) ?_
  intro p e R s m args below meth c Q ls C hR ret h hl
  have hx := C.1.1
  have hb := C.1.2.1
  have hown := C.1.2.2.2.1
  have hts := C.1.2.2.2.2
  have hl : lv_has ls 11 [(0, .ref (G.2.2 (106))), (1, .int (p1))] := hl
  have q1 := i_rng p1; rw [a1] at q1
  have z_0 : (0 : Int32).toInt = 0 := by decide
  have z_1 : (1 : Int32).toInt = 1 := by decide
  have z_2 : (2 : Int32).toInt = 2 := by decide
  have z_3 : (3 : Int32).toInt = 3 := by decide
  have z_4 : (4 : Int32).toInt = 4 := by decide
  have f35 : Cond.fieldLink RX10 35 "WindHallModel" "cU" "[I" ∈ wsX10_does := by decide +kernel
  have hi10 : ∀ x ∈ u_ws RX10 TX10 42, x ∈ wsX10_does := fun x q => List.mem_cons_of_mem _ (List.mem_append_right _ q)
  have f38 : Cond.fieldLink RX10 38 "WindHallModel" "cV" "[I" ∈ wsX10_does := by decide +kernel
  have f41 : Cond.fieldLink RX10 41 "WindHallModel" "cW" "[I" ∈ wsX10_does := by decide +kernel
  have f32 : Cond.fieldLink RX10 32 "WindHallModel" "cKind" "[I" ∈ wsX10_does := by decide +kernel
  have f54 : Cond.fieldLink RX10 54 "WindHallModel" "now" "[J" ∈ wsX10_does := by decide +kernel
  have f198 : Cond.fieldLink RX10 198 "WindHallModel" "time" "I" ∈ wsX10_does := by decide +kernel
  have k194 : (Cond.constantLong RX10 194 (1000)).before args s = true := hts _ (by decide +kernel)
  have k122 : (Cond.constantLong RX10 122 (2)).before args s = true := hts _ (by decide +kernel)
  have f201 : Cond.fieldLink RX10 201 "WindHallModel" "angle" "I" ∈ wsX10_does := by decide +kernel
  have k126 : (Cond.constantLong RX10 126 (100)).before args s = true := hts _ (by decide +kernel)
  have o_1 := mi
  obtain ⟨I7, I10, I18, I22, I27, I29, I32, Is, I35, Ia, Iar, Isz, Ian⟩ := o_1
  refine lv_aload_n hx hb dX10_does_0 rfl (lv_at hl 0 rfl) ?_
  refine g_get (ci := 10) (x := .ref (G.2.2 (115))) C h 106 (by decide) rfl rfl hi10 12 (by decide) f35 rfl rfl dX10_does_1 ?_
  refine lv_iload_n hx hb dX10_does_4 rfl (lv_at hl 1 rfl) ?_
  refine g_iald C h 115 (by decide) (by decide) (n := 10) (by decide) (vp_of a1 (by omega) (by omega)) dX10_does_5 ?_
  refine lv_topi (fun x_2 e_3 => ?_)
  have q_4 := i_rng x_2
  refine lv_i2l (v := (x_2 : Int32).toInt64) hx hb dX10_does_6 rfl ?_
  refine lv_lstore_n (lv' := [(2, .long ((x_2 : Int32).toInt64)), (0, .ref (G.2.2 (106))), (1, .int (p1))]) hx hb dX10_does_7 rfl hl (by decide) rfl (fun ls hl => ?_)
  refine lv_aload_n hx hb dX10_does_8 rfl (lv_at hl 1 rfl) ?_
  refine g_get (ci := 10) (x := .ref (G.2.2 (116))) C h 106 (by decide) rfl rfl hi10 13 (by decide) f38 rfl rfl dX10_does_9 ?_
  refine lv_iload_n hx hb dX10_does_12 rfl (lv_at hl 2 rfl) ?_
  refine g_iald C h 116 (by decide) (by decide) (n := 10) (by decide) (vp_of a1 (by omega) (by omega)) dX10_does_13 ?_
  refine lv_topi (fun x_5 e_6 => ?_)
  have q_7 := i_rng x_5
  refine lv_i2l (v := (x_5 : Int32).toInt64) hx hb dX10_does_14 rfl ?_
  refine lv_lstore (lv' := [(4, .long ((x_5 : Int32).toInt64)), (2, .long ((x_2 : Int32).toInt64)), (0, .ref (G.2.2 (106))), (1, .int (p1))]) hx hb dX10_does_15 hl (by decide) rfl (fun ls hl => ?_)
  refine lv_aload_n hx hb dX10_does_17 rfl (lv_at hl 2 rfl) ?_
  refine g_get (ci := 10) (x := .ref (G.2.2 (117))) C h 106 (by decide) rfl rfl hi10 14 (by decide) f41 rfl rfl dX10_does_18 ?_
  refine lv_iload_n hx hb dX10_does_21 rfl (lv_at hl 3 rfl) ?_
  refine g_iald C h 117 (by decide) (by decide) (n := 10) (by decide) (vp_of a1 (by omega) (by omega)) dX10_does_22 ?_
  refine lv_topi (fun x_8 e_9 => ?_)
  have q_10 := i_rng x_8
  refine lv_i2l (v := (x_8 : Int32).toInt64) hx hb dX10_does_23 rfl ?_
  refine lv_lstore (lv' := [(6, .long ((x_8 : Int32).toInt64)), (4, .long ((x_5 : Int32).toInt64)), (2, .long ((x_2 : Int32).toInt64)), (0, .ref (G.2.2 (106))), (1, .int (p1))]) hx hb dX10_does_24 hl (by decide) rfl (fun ls hl => ?_)
  refine lv_aload_n hx hb dX10_does_26 rfl (lv_at hl 3 rfl) ?_
  refine g_get (ci := 10) (x := .ref (G.2.2 (114))) C h 106 (by decide) rfl rfl hi10 11 (by decide) f32 rfl rfl dX10_does_27 ?_
  refine lv_iload_n hx hb dX10_does_30 rfl (lv_at hl 4 rfl) ?_
  refine g_iald C h 114 (by decide) (by decide) (n := 10) (by decide) (vp_of a1 (by omega) (by omega)) dX10_does_31 ?_
  refine lv_topi (fun x_11 e_12 => ?_)
  refine lv_iconst (v := 3) hx hb dX10_does_32 (by decide) ?_
  refine lv_icmp_ne (tgt := 76) hx hb dX10_does_33 (by decide) (fun c_13 => ?_) (fun c_13 => ?_)
  · have j_14 : ¬ ((x_11).toInt = 3) := fun q => c_13 ((i_eq rfl (by decide)).mpr q)
    refine lv_aload_n hx hb dX10_does_76 rfl (lv_at hl 3 rfl) ?_
    refine g_get (ci := 10) (x := .ref (G.2.2 (114))) C h 106 (by decide) rfl rfl hi10 11 (by decide) f32 rfl rfl dX10_does_77 ?_
    refine lv_iload_n hx hb dX10_does_80 rfl (lv_at hl 4 rfl) ?_
    refine g_iald C h 114 (by decide) (by decide) (n := 10) (by decide) (vp_of a1 (by omega) (by omega)) dX10_does_81 ?_
    refine lv_topi (fun x_15 e_16 => ?_)
    refine lv_iconst (v := 4) hx hb dX10_does_82 (by decide) ?_
    refine lv_icmp_ne (tgt := 152) hx hb dX10_does_83 (by decide) (fun c_17 => ?_) (fun c_17 => ?_)
    · have j_18 : ¬ ((x_15).toInt = 4) := fun q => c_17 ((i_eq rfl (by decide)).mpr q)
      refine lv_iconst (v := 0) hx hb dX10_does_152 (by decide) ?_
      have J155_20 : ∀ (n : Nat) (y_19 : Int32) (w_20 : Nat → Nat → Int64) (H : Heap) (locs : List Loc) (ls : Array Slot), (3 - (y_19).toInt).toNat < n → (mI v) → (fM 114 123 10 19 v w v w_20) → (0 ≤ (y_19).toInt ∧ (y_19).toInt ≤ 3) → gS (gA G) G s v w_20 sg H locs → lv_has ls 11 [(0, .ref (G.2.2 (106))), (1, .int (p1)), (2, .long ((x_2 : Int32).toInt64)), (4, .long ((x_5 : Int32).toInt64)), (6, .long ((x_8 : Int32).toInt64)), (8, .int (y_19))] → W p l e R s m args below meth c H locs 0 0 Q (F0 m 155 ls []) := by
        intro n
        induction n with
        | zero => intro y_19 w_20 H locs ls hm; exact absurd hm (Nat.not_lt_zero _)
        | succ n ih155 =>
          intro y_19 w_20 H locs ls hm u_21 u_22 f_23 h hl
          have o_24 := u_21
          obtain ⟨I7, I10, I18, I22, I27, I29, I32, Is, I35, Ia, Iar, Isz, Ian⟩ := o_24
          refine lv_iload hx hb dX10_does_155 (lv_at hl 5 rfl) ?_
          refine lv_iconst (v := 3) hx hb dX10_does_157 (by decide) ?_
          refine lv_icmp_ge (tgt := 252) hx hb dX10_does_158 (by decide) (fun c_25 => ?_) (fun c_25 => ?_)
          · have j_26 : 3 ≤ (y_19).toInt := (i_le (by decide) rfl).mp c_25
            exact ret v w_20 sg _ _ _ _ dX10_does_252 h ⟨⟨u_21, u_22⟩, rfl, rfl⟩
          · have j_26 : ¬ (3 ≤ (y_19).toInt) := fun q => c_25 ((i_le (by decide) rfl).mpr q)
            refine lv_iload hx hb dX10_does_161 (lv_at hl 5 rfl) ?_
            have J183_27 : ∀ (y_27 : Int64) (H : Heap) (locs : List Loc) (ls : Array Slot), gS (gA G) G s v w_20 sg H locs → lv_has ls 11 [(0, .ref (G.2.2 (106))), (1, .int (p1)), (2, .long ((x_2 : Int32).toInt64)), (4, .long ((x_5 : Int32).toInt64)), (6, .long ((x_8 : Int32).toInt64)), (8, .int (y_19))] → W p l e R s m args below meth c H locs 0 0 Q (F0 m 183 ls [.long (y_27)]) := by
              intro y_27 H locs ls  h hl
              refine lv_lstore (lv' := [(9, .long (y_27)), (0, .ref (G.2.2 (106))), (1, .int (p1)), (2, .long ((x_2 : Int32).toInt64)), (4, .long ((x_5 : Int32).toInt64)), (6, .long ((x_8 : Int32).toInt64)), (8, .int (y_19))]) hx hb dX10_does_183 hl (by decide) rfl (fun ls hl => ?_)
              refine lv_aload_n hx hb dX10_does_185 rfl (lv_at hl 1 rfl) ?_
              refine g_get (ci := 10) (x := .ref (G.2.2 (121))) C h 106 (by decide) rfl rfl hi10 20 (by decide) f54 rfl rfl dX10_does_186 ?_
              refine lv_iload hx hb dX10_does_189 (lv_at hl 6 rfl) ?_
              refine lv_dup2_11 hx hb dX10_does_191 rfl rfl ?_
              refine g_lald C h 121 (by decide) (by decide) (n := 3) (by decide) (vp_of rfl (by omega) (by omega)) dX10_does_192 ?_
              refine lv_topl (fun x_28 e_29 => ?_)
              refine lv_aload_n hx hb dX10_does_193 rfl (lv_at hl 1 rfl) ?_
              refine g_get (ci := 10) (x := .ref (G.2.2 (114))) C h 106 (by decide) rfl rfl hi10 11 (by decide) f32 rfl rfl dX10_does_194 ?_
              refine lv_iload_n hx hb dX10_does_197 rfl (lv_at hl 2 rfl) ?_
              refine g_iald C h 114 (by decide) (by decide) (n := 10) (by decide) (vp_of a1 (by omega) (by omega)) dX10_does_198 ?_
              refine lv_topi (fun x_30 e_31 => ?_)
              refine lv_iconst (v := 2) hx hb dX10_does_199 (by decide) ?_
              have J244_32 : ∀ (y_32 : Int64) (H : Heap) (locs : List Loc) (ls : Array Slot), gS (gA G) G s v w_20 sg H locs → lv_has ls 11 [(0, .ref (G.2.2 (106))), (1, .int (p1)), (2, .long ((x_2 : Int32).toInt64)), (4, .long ((x_5 : Int32).toInt64)), (6, .long ((x_8 : Int32).toInt64)), (8, .int (y_19)), (9, .long (y_27))] → W p l e R s m args below meth c H locs 0 0 Q (F0 m 244 ls [.long (y_32), .long (x_28), .int (y_19), .ref (G.2.2 (121))]) := by
                intro y_32 H locs ls  h hl
                refine lv_lsub hx hb dX10_does_244 ?_
                refine lv_topl (fun x_33 e_34 => ?_)
                refine g_last C h 121 (by decide) (by decide) (n := 3) (by decide) (vp_of rfl (by omega) (by omega)) dX10_does_245 (fun H locs h => ?_)
                obtain ⟨w_35, hw_35⟩ : ∃ z, z = gul w_20 121 ((y_19 : Int32).toNatClampNeg) x_33 := ⟨_, rfl⟩
                have h : gS (gA G) G s v w_35 sg H locs := by rw [hw_35]; exact h
                have u_36 : fM 114 123 10 19 v w v w_35 := by rw [hw_35]; exact (fM_w u_22 (by decide))
                obtain ⟨x_37, e_38⟩ : ∃ y : Int32, y = y_19 + 1 := ⟨_, rfl⟩
                have i_39 : x_37.toInt = (y_19).toInt + 1 := ia_add e_38 rfl (by decide) (by omega) (by omega)
                refine lv_iinc (v := x_37) (lv' := [(8, .int (x_37)), (0, .ref (G.2.2 (106))), (1, .int (p1)), (2, .long ((x_2 : Int32).toInt64)), (4, .long ((x_5 : Int32).toInt64)), (6, .long ((x_8 : Int32).toInt64)), (9, .long (y_27))]) hx hb dX10_does_246 hl (k := 5) rfl (by rw [e_38]; rfl) (by decide) rfl (fun ls hl => ?_)
                refine lv_goto (tgt := 155) hx hb dX10_does_249 (by decide) ?_
                exact ih155 x_37 w_35 _ _ _ (by omega) u_21 u_36 (by omega) h (lv_sub hl [1, 2, 3, 4, 5, 0] rfl)
              refine lv_icmp_ne (tgt := 212) hx hb dX10_does_200 (by decide) (fun c_40 => ?_) (fun c_40 => ?_)
              · have j_41 : ¬ ((x_30).toInt = 2) := fun q => c_40 ((i_eq rfl (by decide)).mpr q)
                refine lv_aload_n hx hb dX10_does_212 rfl (lv_at hl 1 rfl) ?_
                refine g_get (ci := 10) (x := .ref (G.2.2 (114))) C h 106 (by decide) rfl rfl hi10 11 (by decide) f32 rfl rfl dX10_does_213 ?_
                refine lv_iload_n hx hb dX10_does_216 rfl (lv_at hl 2 rfl) ?_
                refine g_iald C h 114 (by decide) (by decide) (n := 10) (by decide) (vp_of a1 (by omega) (by omega)) dX10_does_217 ?_
                refine lv_topi (fun x_42 e_43 => ?_)
                refine lv_iconst (v := 1) hx hb dX10_does_218 (by decide) ?_
                refine lv_icmp_ne (tgt := 242) hx hb dX10_does_219 (by decide) (fun c_44 => ?_) (fun c_44 => ?_)
                · have j_45 : ¬ ((x_42).toInt = 1) := fun q => c_44 ((i_eq rfl (by decide)).mpr q)
                  refine lv_lload hx hb dX10_does_242 (lv_at hl 0 rfl) ?_
                  exact J244_32 y_27 _ _ _  h (lv_sub hl [1, 2, 3, 4, 5, 6, 0] rfl)
                · have j_45 : (x_42).toInt = 1 := (i_eq rfl (by decide)).mp c_44
                  refine lv_lload hx hb dX10_does_222 (lv_at hl 0 rfl) ?_
                  refine lv_lload hx hb dX10_does_224 (lv_at hl 0 rfl) ?_
                  refine lv_aload_n hx hb dX10_does_226 rfl (lv_at hl 1 rfl) ?_
                  refine g_geti (ci := 10) (x := v 106 17) C h 106 (by decide) rfl rfl hi10 17 (by decide) f198 rfl rfl rfl dX10_does_227 ?_
                  have q_46 := i_rng (v 106 17)
                  refine lv_i2l (v := (v 106 17 : Int32).toInt64) hx hb dX10_does_230 rfl ?_
                  refine lv_lmul hx hb dX10_does_231 ?_
                  refine lv_topl (fun x_47 e_48 => ?_)
                  refine lv_ldc2 hx hb hown k194 dX10_does_232 ?_
                  refine g_calll C (va_runS (As := [.long (x_47), .long (1000)]) (rest := [.long (y_27), .long (x_28), .int (y_19), .ref (G.2.2 (121))]) C.1 (c_X10_down l G v w_20 sg x_47 (A0 := (x_47).toInt) rfl (1000) (A2 := 1000) (by decide) (by omega)) (va_cwS 2 hts gX10_does_X10_down rfl rfl rfl (by decide +kernel) ⟨by rw [hR]; exact Nat.le_of_ble_eq_true rfl, by rw [hR]; exact Nat.le_of_ble_eq_true rfl⟩) ⟨gPre_blind, gS_pre C h _⟩ rfl rfl hl.1 rfl (lv_room (Nat.le_of_ble_eq_true rfl)) dX10_does_235 ⟨Nat.zero_le _, Nat.zero_le _⟩) h (fun r_49 v_51 w_52 g_53 H locs p_50 h => ?_)
                  obtain ⟨p_50, rfl, rfl, rfl⟩ := p_50
                  refine lv_ladd hx hb dX10_does_238 ?_
                  refine lv_topl (fun x_54 e_55 => ?_)
                  refine lv_goto (tgt := 244) hx hb dX10_does_239 (by decide) ?_
                  exact J244_32 x_54 _ _ _  h (lv_sub hl [1, 2, 3, 4, 5, 6, 0] rfl)
              · have j_41 : (x_30).toInt = 2 := (i_eq rfl (by decide)).mp c_40
                refine lv_ldc2 hx hb hown k122 dX10_does_203 ?_
                refine lv_lload hx hb dX10_does_206 (lv_at hl 0 rfl) ?_
                refine lv_lmul hx hb dX10_does_208 ?_
                refine lv_topl (fun x_56 e_57 => ?_)
                refine lv_goto (tgt := 244) hx hb dX10_does_209 (by decide) ?_
                exact J244_32 x_56 _ _ _  h (lv_sub hl [1, 2, 3, 4, 5, 6, 0] rfl)
            refine lv_if_ne (tgt := 170) hx hb dX10_does_163 (by decide) (fun c_58 => ?_) (fun c_58 => ?_)
            · have j_59 : ¬ ((y_19).toInt = 0) := fun q => c_58 ((i_eq rfl (by decide)).mpr q)
              refine lv_iload hx hb dX10_does_170 (lv_at hl 5 rfl) ?_
              refine lv_iconst (v := 1) hx hb dX10_does_172 (by decide) ?_
              refine lv_icmp_ne (tgt := 181) hx hb dX10_does_173 (by decide) (fun c_60 => ?_) (fun c_60 => ?_)
              · have j_61 : ¬ ((y_19).toInt = 1) := fun q => c_60 ((i_eq rfl (by decide)).mpr q)
                refine lv_lload hx hb dX10_does_181 (lv_at hl 4 rfl) ?_
                exact J183_27 ((x_8 : Int32).toInt64) _ _ _  h (lv_sub hl [0, 1, 2, 3, 4, 5] rfl)
              · have j_61 : (y_19).toInt = 1 := (i_eq rfl (by decide)).mp c_60
                refine lv_lload hx hb dX10_does_176 (lv_at hl 3 rfl) ?_
                refine lv_goto (tgt := 183) hx hb dX10_does_178 (by decide) ?_
                exact J183_27 ((x_5 : Int32).toInt64) _ _ _  h (lv_sub hl [0, 1, 2, 3, 4, 5] rfl)
            · have j_59 : (y_19).toInt = 0 := (i_eq rfl (by decide)).mp c_58
              refine lv_lload_n hx hb dX10_does_166 rfl (lv_at hl 2 rfl) ?_
              refine lv_goto (tgt := 183) hx hb dX10_does_167 (by decide) ?_
              exact J183_27 ((x_2 : Int32).toInt64) _ _ _  h (lv_sub hl [0, 1, 2, 3, 4, 5] rfl)
      refine lv_istore (lv' := [(8, .int (0)), (6, .long ((x_8 : Int32).toInt64)), (4, .long ((x_5 : Int32).toInt64)), (2, .long ((x_2 : Int32).toInt64)), (0, .ref (G.2.2 (106))), (1, .int (p1))]) hx hb dX10_does_153 hl (by decide) rfl (fun ls hl => ?_)
      exact J155_20 _ 0 w _ _ _ (Nat.lt_succ_self _) mi fM_rf (by omega) h (lv_sub hl [4, 5, 3, 2, 1, 0] rfl)
    · have j_18 : (x_15).toInt = 4 := (i_eq rfl (by decide)).mp c_17
      refine lv_aload_n hx hb dX10_does_86 rfl (lv_at hl 3 rfl) ?_
      refine g_get (ci := 10) (x := .ref (G.2.2 (121))) C h 106 (by decide) rfl rfl hi10 20 (by decide) f54 rfl rfl dX10_does_87 ?_
      refine lv_iconst (v := 0) hx hb dX10_does_90 (by decide) ?_
      refine lv_dup2_11 hx hb dX10_does_91 rfl rfl ?_
      refine g_lald C h 121 (by decide) (by decide) (n := 3) (by decide) (vp_of (I := 0) (by decide) (by decide) (by decide)) dX10_does_92 ?_
      refine lv_topl (fun x_62 e_63 => ?_)
      refine lv_lload_n hx hb dX10_does_93 rfl (lv_at hl 2 rfl) ?_
      refine lv_aload_n hx hb dX10_does_94 rfl (lv_at hl 3 rfl) ?_
      refine lv_aload_n hx hb dX10_does_95 rfl (lv_at hl 3 rfl) ?_
      refine g_geti (ci := 10) (x := v 106 18) C h 106 (by decide) rfl rfl hi10 18 (by decide) f201 rfl rfl rfl dX10_does_96 ?_
      refine g_calli C (va_runV (As := [.int (v 106 18)]) (rest := [.long ((x_2 : Int32).toInt64), .long (x_62), .int (0), .ref (G.2.2 (121))]) C.1 (c_X10_cosine l G v w sg (v 106 18) (A1 := (v 106 18).toInt) rfl (by omega) mi) (cwV 1 hts gX10_does_X10_cosine rfl rfl rfl (by decide +kernel) ⟨by rw [hR]; exact Nat.le_of_ble_eq_true rfl, by rw [hR]; exact Nat.le_of_ble_eq_true rfl⟩) ⟨gPre_blind, g_recv C h 106 (by decide) (ci := 10) rfl rfl, gS_pre C h _⟩ rfl rfl hl.1 rfl (lv_room (Nat.le_of_ble_eq_true rfl)) dX10_does_99 ⟨Nat.zero_le _, Nat.zero_le _⟩) h (fun r_64 v_66 w_67 g_68 H locs p_65 h => ?_)
      obtain ⟨p_65, rfl, rfl, rfl⟩ := p_65
      have q_69 := i_rng r_64
      refine lv_i2l (v := (r_64 : Int32).toInt64) hx hb dX10_does_102 rfl ?_
      refine lv_lmul hx hb dX10_does_103 ?_
      refine lv_topl (fun x_70 e_71 => ?_)
      refine lv_ldc2 hx hb hown k194 dX10_does_104 ?_
      refine g_calll C (va_runS (As := [.long (x_70), .long (1000)]) (rest := [.long (x_62), .int (0), .ref (G.2.2 (121))]) C.1 (c_X10_down l G v w sg x_70 (A0 := (x_70).toInt) rfl (1000) (A2 := 1000) (by decide) (by omega)) (va_cwS 2 hts gX10_does_X10_down rfl rfl rfl (by decide +kernel) ⟨by rw [hR]; exact Nat.le_of_ble_eq_true rfl, by rw [hR]; exact Nat.le_of_ble_eq_true rfl⟩) ⟨gPre_blind, gS_pre C h _⟩ rfl rfl hl.1 rfl (lv_room (Nat.le_of_ble_eq_true rfl)) dX10_does_107 ⟨Nat.zero_le _, Nat.zero_le _⟩) h (fun r_72 v_74 w_75 g_76 H locs p_73 h => ?_)
      obtain ⟨p_73, rfl, rfl, rfl⟩ := p_73
      refine lv_lsub hx hb dX10_does_110 ?_
      refine lv_topl (fun x_77 e_78 => ?_)
      refine g_last C h 121 (by decide) (by decide) (n := 3) (by decide) (vp_of (I := 0) (by decide) (by decide) (by decide)) dX10_does_111 (fun H locs h => ?_)
      obtain ⟨w_79, hw_79⟩ : ∃ z, z = gul w 121 0 x_77 := ⟨_, rfl⟩
      have h : gS (gA G) G s v w_79 sg H locs := by rw [hw_79]; exact h
      have u_80 : fM 114 123 10 19 v w v w_79 := by rw [hw_79]; exact (fM_w fM_rf (by decide))
      refine lv_aload_n hx hb dX10_does_112 rfl (lv_at hl 3 rfl) ?_
      refine g_get (ci := 10) (x := .ref (G.2.2 (121))) C h 106 (by decide) rfl rfl hi10 20 (by decide) f54 rfl rfl dX10_does_113 ?_
      refine lv_iconst (v := 1) hx hb dX10_does_116 (by decide) ?_
      refine lv_dup2_11 hx hb dX10_does_117 rfl rfl ?_
      refine g_lald C h 121 (by decide) (by decide) (n := 3) (by decide) (vp_of (I := 1) (by decide) (by decide) (by decide)) dX10_does_118 ?_
      refine lv_topl (fun x_81 e_82 => ?_)
      refine lv_lload_n hx hb dX10_does_119 rfl (lv_at hl 2 rfl) ?_
      refine lv_aload_n hx hb dX10_does_120 rfl (lv_at hl 3 rfl) ?_
      refine lv_aload_n hx hb dX10_does_121 rfl (lv_at hl 3 rfl) ?_
      refine g_geti (ci := 10) (x := v 106 18) C h 106 (by decide) rfl rfl hi10 18 (by decide) f201 rfl rfl rfl dX10_does_122 ?_
      refine g_calli C (va_runV (As := [.int (v 106 18)]) (rest := [.long ((x_2 : Int32).toInt64), .long (x_81), .int (1), .ref (G.2.2 (121))]) C.1 (c_X10_sine l G v w_79 sg (v 106 18) (A1 := (v 106 18).toInt) rfl (by omega) mi) (cwV 1 hts gX10_does_X10_sine rfl rfl rfl (by decide +kernel) ⟨by rw [hR]; exact Nat.le_of_ble_eq_true rfl, by rw [hR]; exact Nat.le_of_ble_eq_true rfl⟩) ⟨gPre_blind, g_recv C h 106 (by decide) (ci := 10) rfl rfl, gS_pre C h _⟩ rfl rfl hl.1 rfl (lv_room (Nat.le_of_ble_eq_true rfl)) dX10_does_125 ⟨Nat.zero_le _, Nat.zero_le _⟩) h (fun r_83 v_85 w_86 g_87 H locs p_84 h => ?_)
      obtain ⟨p_84, rfl, rfl, rfl⟩ := p_84
      have q_88 := i_rng r_83
      refine lv_i2l (v := (r_83 : Int32).toInt64) hx hb dX10_does_128 rfl ?_
      refine lv_lmul hx hb dX10_does_129 ?_
      refine lv_topl (fun x_89 e_90 => ?_)
      refine lv_ldc2 hx hb hown k194 dX10_does_130 ?_
      refine g_calll C (va_runS (As := [.long (x_89), .long (1000)]) (rest := [.long (x_81), .int (1), .ref (G.2.2 (121))]) C.1 (c_X10_down l G v w_79 sg x_89 (A0 := (x_89).toInt) rfl (1000) (A2 := 1000) (by decide) (by omega)) (va_cwS 2 hts gX10_does_X10_down rfl rfl rfl (by decide +kernel) ⟨by rw [hR]; exact Nat.le_of_ble_eq_true rfl, by rw [hR]; exact Nat.le_of_ble_eq_true rfl⟩) ⟨gPre_blind, gS_pre C h _⟩ rfl rfl hl.1 rfl (lv_room (Nat.le_of_ble_eq_true rfl)) dX10_does_133 ⟨Nat.zero_le _, Nat.zero_le _⟩) h (fun r_91 v_93 w_94 g_95 H locs p_92 h => ?_)
      obtain ⟨p_92, rfl, rfl, rfl⟩ := p_92
      refine lv_lsub hx hb dX10_does_136 ?_
      refine lv_topl (fun x_96 e_97 => ?_)
      refine g_last C h 121 (by decide) (by decide) (n := 3) (by decide) (vp_of (I := 1) (by decide) (by decide) (by decide)) dX10_does_137 (fun H locs h => ?_)
      obtain ⟨w_98, hw_98⟩ : ∃ z, z = gul w_79 121 1 x_96 := ⟨_, rfl⟩
      have h : gS (gA G) G s v w_98 sg H locs := by rw [hw_98]; exact h
      have u_99 : fM 114 123 10 19 v w v w_98 := by rw [hw_98]; exact (fM_w u_80 (by decide))
      refine lv_aload_n hx hb dX10_does_138 rfl (lv_at hl 3 rfl) ?_
      refine g_get (ci := 10) (x := .ref (G.2.2 (121))) C h 106 (by decide) rfl rfl hi10 20 (by decide) f54 rfl rfl dX10_does_139 ?_
      refine lv_iconst (v := 2) hx hb dX10_does_142 (by decide) ?_
      refine lv_dup2_11 hx hb dX10_does_143 rfl rfl ?_
      refine g_lald C h 121 (by decide) (by decide) (n := 3) (by decide) (vp_of (I := 2) (by decide) (by decide) (by decide)) dX10_does_144 ?_
      refine lv_topl (fun x_100 e_101 => ?_)
      refine lv_lload hx hb dX10_does_145 (lv_at hl 1 rfl) ?_
      refine lv_lsub hx hb dX10_does_147 ?_
      refine lv_topl (fun x_102 e_103 => ?_)
      refine g_last C h 121 (by decide) (by decide) (n := 3) (by decide) (vp_of (I := 2) (by decide) (by decide) (by decide)) dX10_does_148 (fun H locs h => ?_)
      obtain ⟨w_104, hw_104⟩ : ∃ z, z = gul w_98 121 2 x_102 := ⟨_, rfl⟩
      have h : gS (gA G) G s v w_104 sg H locs := by rw [hw_104]; exact h
      have u_105 : fM 114 123 10 19 v w v w_104 := by rw [hw_104]; exact (fM_w u_99 (by decide))
      refine lv_goto (tgt := 252) hx hb dX10_does_149 (by decide) ?_
      exact ret v w_104 sg _ _ _ _ dX10_does_252 h ⟨⟨mi, u_105⟩, rfl, rfl⟩
  · have j_14 : (x_11).toInt = 3 := (i_eq rfl (by decide)).mp c_13
    refine lv_iconst (v := 0) hx hb dX10_does_36 (by decide) ?_
    have J39_107 : ∀ (n : Nat) (y_106 : Int32) (w_107 : Nat → Nat → Int64) (H : Heap) (locs : List Loc) (ls : Array Slot), (3 - (y_106).toInt).toNat < n → (mI v) → (fM 114 123 10 19 v w v w_107) → (0 ≤ (y_106).toInt ∧ (y_106).toInt ≤ 3) → gS (gA G) G s v w_107 sg H locs → lv_has ls 11 [(0, .ref (G.2.2 (106))), (1, .int (p1)), (2, .long ((x_2 : Int32).toInt64)), (4, .long ((x_5 : Int32).toInt64)), (6, .long ((x_8 : Int32).toInt64)), (8, .int (y_106))] → W p l e R s m args below meth c H locs 0 0 Q (F0 m 39 ls []) := by
      intro n
      induction n with
      | zero => intro y_106 w_107 H locs ls hm; exact absurd hm (Nat.not_lt_zero _)
      | succ n ih39 =>
        intro y_106 w_107 H locs ls hm u_108 u_109 f_110 h hl
        have o_111 := u_108
        obtain ⟨I7, I10, I18, I22, I27, I29, I32, Is, I35, Ia, Iar, Isz, Ian⟩ := o_111
        refine lv_iload hx hb dX10_does_39 (lv_at hl 5 rfl) ?_
        refine lv_iconst (v := 3) hx hb dX10_does_41 (by decide) ?_
        refine lv_icmp_ge (tgt := 73) hx hb dX10_does_42 (by decide) (fun c_112 => ?_) (fun c_112 => ?_)
        · have j_113 : 3 ≤ (y_106).toInt := (i_le (by decide) rfl).mp c_112
          refine lv_goto (tgt := 252) hx hb dX10_does_73 (by decide) ?_
          exact ret v w_107 sg _ _ _ _ dX10_does_252 h ⟨⟨u_108, u_109⟩, rfl, rfl⟩
        · have j_113 : ¬ (3 ≤ (y_106).toInt) := fun q => c_112 ((i_le (by decide) rfl).mpr q)
          refine lv_aload_n hx hb dX10_does_45 rfl (lv_at hl 0 rfl) ?_
          refine g_get (ci := 10) (x := .ref (G.2.2 (121))) C h 106 (by decide) rfl rfl hi10 20 (by decide) f54 rfl rfl dX10_does_46 ?_
          refine lv_iload hx hb dX10_does_49 (lv_at hl 5 rfl) ?_
          refine lv_aload_n hx hb dX10_does_51 rfl (lv_at hl 0 rfl) ?_
          refine g_get (ci := 10) (x := .ref (G.2.2 (121))) C h 106 (by decide) rfl rfl hi10 20 (by decide) f54 rfl rfl dX10_does_52 ?_
          refine lv_iload hx hb dX10_does_55 (lv_at hl 5 rfl) ?_
          refine g_lald C h 121 (by decide) (by decide) (n := 3) (by decide) (vp_of rfl (by omega) (by omega)) dX10_does_57 ?_
          refine lv_topl (fun x_114 e_115 => ?_)
          refine lv_lload_n hx hb dX10_does_58 rfl (lv_at hl 2 rfl) ?_
          refine lv_lmul hx hb dX10_does_59 ?_
          refine lv_topl (fun x_116 e_117 => ?_)
          refine lv_ldc2 hx hb hown k126 dX10_does_60 ?_
          refine g_calll C (va_runS (As := [.long (x_116), .long (100)]) (rest := [.int (y_106), .ref (G.2.2 (121))]) C.1 (c_X10_down l G v w_107 sg x_116 (A0 := (x_116).toInt) rfl (100) (A2 := 100) (by decide) (by omega)) (va_cwS 2 hts gX10_does_X10_down rfl rfl rfl (by decide +kernel) ⟨by rw [hR]; exact Nat.le_of_ble_eq_true rfl, by rw [hR]; exact Nat.le_of_ble_eq_true rfl⟩) ⟨gPre_blind, gS_pre C h _⟩ rfl rfl hl.1 rfl (lv_room (Nat.le_of_ble_eq_true rfl)) dX10_does_63 ⟨Nat.zero_le _, Nat.zero_le _⟩) h (fun r_118 v_120 w_121 g_122 H locs p_119 h => ?_)
          obtain ⟨p_119, rfl, rfl, rfl⟩ := p_119
          refine g_last C h 121 (by decide) (by decide) (n := 3) (by decide) (vp_of rfl (by omega) (by omega)) dX10_does_66 (fun H locs h => ?_)
          obtain ⟨w_123, hw_123⟩ : ∃ z, z = gul w_107 121 ((y_106 : Int32).toNatClampNeg) r_118 := ⟨_, rfl⟩
          have h : gS (gA G) G s v w_123 sg H locs := by rw [hw_123]; exact h
          have u_124 : fM 114 123 10 19 v w v w_123 := by rw [hw_123]; exact (fM_w u_109 (by decide))
          obtain ⟨x_125, e_126⟩ : ∃ y : Int32, y = y_106 + 1 := ⟨_, rfl⟩
          have i_127 : x_125.toInt = (y_106).toInt + 1 := ia_add e_126 rfl (by decide) (by omega) (by omega)
          refine lv_iinc (v := x_125) (lv' := [(8, .int (x_125)), (0, .ref (G.2.2 (106))), (1, .int (p1)), (2, .long ((x_2 : Int32).toInt64)), (4, .long ((x_5 : Int32).toInt64)), (6, .long ((x_8 : Int32).toInt64))]) hx hb dX10_does_67 hl (k := 5) rfl (by rw [e_126]; rfl) (by decide) rfl (fun ls hl => ?_)
          refine lv_goto (tgt := 39) hx hb dX10_does_70 (by decide) ?_
          exact ih39 x_125 w_123 _ _ _ (by omega) u_108 u_124 (by omega) h (lv_sub hl [1, 2, 3, 4, 5, 0] rfl)
    refine lv_istore (lv' := [(8, .int (0)), (6, .long ((x_8 : Int32).toInt64)), (4, .long ((x_5 : Int32).toInt64)), (2, .long ((x_2 : Int32).toInt64)), (0, .ref (G.2.2 (106))), (1, .int (p1))]) hx hb dX10_does_37 hl (by decide) rfl (fun ls hl => ?_)
    exact J39_107 _ 0 w _ _ _ (Nat.lt_succ_self _) mi fM_rf (by omega) h (lv_sub hl [4, 5, 3, 2, 1, 0] rfl)

set_option maxHeartbeats 4000000 in
set_option maxRecDepth 100000 in
theorem c_X10_corrected (l : Launch) (G : gG) (v : Nat → Nat → Int32) (w : Nat → Nat → Int64) (sg : Nat → Nat) (p1 : Int32) {A1 : Int} (a1 : p1.toInt = A1) (p2 : Int32) {A2 : Int} (a2 : p2.toInt = A2) (mi : mI v) : Met l yX10_corrected wsX10_corrected ({ frames := 3, cells := 0, slots := 0, locals := 73 }) (gPre G v w sg [.ref (G.2.2 (106)), .int (p1), .int (p2)]) (gQl G (fun r v' w' sg' => (mI v ∧ fM 114 123 10 19 v w v w') ∧ v = v' ∧ sg = sg')) 0 0 (gA G) := by
  refine gM_ofl (cc := cX10_corrected) (maxL := 4) (by decide) rfl (Nat.le_of_ble_eq_true rfl) ?_
  intro p e R s m args below meth c Q ls C hR ret h hl
  have hx := C.1.1
  have hb := C.1.2.1
  have hown := C.1.2.2.2.1
  have hts := C.1.2.2.2.2
  have hl : lv_has ls 4 [(0, .ref (G.2.2 (106))), (1, .int (p1)), (2, .int (p2))] := hl
  have q1 := i_rng p1; rw [a1] at q1
  have q2 := i_rng p2; rw [a2] at q2
  have z_0 : (0 : Int32).toInt = 0 := by decide
  have z_1 : (1 : Int32).toInt = 1 := by decide
  have k122 : (Cond.constantLong RX10 122 (2)).before args s = true := hts _ (by decide +kernel)
  have f178 : Cond.fieldLink RX10 178 "WindHallModel" "corrections" "I" ∈ wsX10_corrected := by decide +kernel
  have hi10 : ∀ x ∈ u_ws RX10 TX10 42, x ∈ wsX10_corrected := fun x q => List.mem_cons_of_mem _ (List.mem_append_right _ q)
  have f54 : Cond.fieldLink RX10 54 "WindHallModel" "now" "[J" ∈ wsX10_corrected := by decide +kernel
  have f44 : Cond.fieldLink RX10 44 "WindHallModel" "cOn" "[Z" ∈ wsX10_corrected := by decide +kernel
  have o_1 := mi
  obtain ⟨I7, I10, I18, I22, I27, I29, I32, Is, I35, Ia, Iar, Isz, Ian⟩ := o_1
  refine lv_iload_n hx hb dX10_corrected_0 rfl (lv_at hl 1 rfl) ?_
  refine lv_i2l (v := (p1 : Int32).toInt64) hx hb dX10_corrected_1 rfl ?_
  refine lv_lconst (v := 0) hx hb dX10_corrected_2 (by decide) ?_
  refine lv_ldc2 hx hb hown k122 dX10_corrected_3 ?_
  refine g_calli C (va_runS (As := [.long ((p1 : Int32).toInt64), .long (0), .long (2)]) (rest := []) C.1 (c_X10_in l G v w sg ((p1 : Int32).toInt64) (A0 := A1) (il_of a1) (0) (A2 := 0) (by decide) (2) (A4 := 2) (by decide)) (va_cwS 3 hts gX10_corrected_X10_in rfl rfl rfl (by decide +kernel) ⟨by rw [hR]; exact Nat.le_of_ble_eq_true rfl, by rw [hR]; exact Nat.le_of_ble_eq_true rfl⟩) ⟨gPre_blind, gS_pre C h _⟩ rfl rfl hl.1 rfl (lv_room (Nat.le_of_ble_eq_true rfl)) dX10_corrected_6 ⟨Nat.zero_le _, Nat.zero_le _⟩) h (fun r_2 v_4 w_5 g_6 H locs p_3 h => ?_)
  obtain ⟨p_3, rfl, rfl, rfl⟩ := p_3
  rcases p_3 with ⟨rfl, t_7⟩ | ⟨rfl, t_7⟩
  · skip
    refine lv_if_eq (tgt := 26) hx hb dX10_corrected_9 (by decide) (fun c_8 => absurd c_8 (by decide)) (fun _ => ?_)
    refine lv_iload_n hx hb dX10_corrected_12 rfl (lv_at hl 2 rfl) ?_
    refine lv_i2l (v := (p2 : Int32).toInt64) hx hb dX10_corrected_13 rfl ?_
    refine lv_lconst (v := 0) hx hb dX10_corrected_14 (by decide) ?_
    refine lv_aload_n hx hb dX10_corrected_15 rfl (lv_at hl 0 rfl) ?_
    refine g_geti (ci := 10) (x := v 106 10) C h 106 (by decide) rfl rfl hi10 10 (by decide) f178 rfl rfl rfl dX10_corrected_16 ?_
    refine lv_i2l (v := (v 106 10 : Int32).toInt64) hx hb dX10_corrected_19 rfl ?_
    refine g_calli C (va_runS (As := [.long ((p2 : Int32).toInt64), .long (0), .long ((v 106 10 : Int32).toInt64)]) (rest := []) C.1 (c_X10_in l G v w sg ((p2 : Int32).toInt64) (A0 := A2) (il_of a2) (0) (A2 := 0) (by decide) ((v 106 10 : Int32).toInt64) (A4 := (v 106 10).toInt) (il_of rfl)) (va_cwS 3 hts gX10_corrected_X10_in rfl rfl rfl (by decide +kernel) ⟨by rw [hR]; exact Nat.le_of_ble_eq_true rfl, by rw [hR]; exact Nat.le_of_ble_eq_true rfl⟩) ⟨gPre_blind, gS_pre C h _⟩ rfl rfl hl.1 rfl (lv_room (Nat.le_of_ble_eq_true rfl)) dX10_corrected_20 ⟨Nat.zero_le _, Nat.zero_le _⟩) h (fun r_9 v_11 w_12 g_13 H locs p_10 h => ?_)
    obtain ⟨p_10, rfl, rfl, rfl⟩ := p_10
    rcases p_10 with ⟨rfl, t_14⟩ | ⟨rfl, t_14⟩
    · skip
      refine lv_if_ne (tgt := 28) hx hb dX10_corrected_23 (by decide) (fun _ => ?_) (fun c_15 => absurd c_15 (by decide))
      refine lv_aload_n hx hb dX10_corrected_28 rfl (lv_at hl 0 rfl) ?_
      refine g_callv C (va_runV (As := []) (rest := []) C.1 (c_X10_begins l G v w sg  mi) (cwV 0 hts gX10_corrected_X10_begins rfl rfl rfl (by decide +kernel) ⟨by rw [hR]; exact Nat.le_of_ble_eq_true rfl, by rw [hR]; exact Nat.le_of_ble_eq_true rfl⟩) ⟨gPre_blind, g_recv C h 106 (by decide) (ci := 10) rfl rfl, gS_pre C h _⟩ rfl rfl hl.1 rfl (lv_room (Nat.le_of_ble_eq_true rfl)) dX10_corrected_29 ⟨Nat.zero_le _, Nat.zero_le _⟩) h (fun v_18 w_19 g_20 H locs p_17 h => ?_)
      obtain ⟨p_17, rfl, rfl⟩ := p_17
      have u_21 : mI v := p_17.1
      have u_22 : fM 114 123 10 19 v w v w_19 := fM_tr fM_rf (fM_le p_17.2 (by decide))
      have o_23 := u_21
      obtain ⟨I7, I10, I18, I22, I27, I29, I32, Is, I35, Ia, Iar, Isz, Ian⟩ := o_23
      refine lv_iconst (v := 0) hx hb dX10_corrected_32 (by decide) ?_
      have J34_25 : ∀ (n : Nat) (y_24 : Int32) (w_25 : Nat → Nat → Int64) (H : Heap) (locs : List Loc) (ls : Array Slot), (A2 - (y_24).toInt).toNat < n → (mI v) → (fM 114 123 10 19 v w v w_25) → (0 ≤ (y_24).toInt ∧ (y_24).toInt ≤ A2) → gS (gA G) G s v w_25 sg H locs → lv_has ls 4 [(0, .ref (G.2.2 (106))), (1, .int (p1)), (2, .int (p2)), (3, .int (y_24))] → W p l e R s m args below meth c H locs 0 0 Q (F0 m 34 ls []) := by
        intro n
        induction n with
        | zero => intro y_24 w_25 H locs ls hm; exact absurd hm (Nat.not_lt_zero _)
        | succ n ih34 =>
          intro y_24 w_25 H locs ls hm u_26 u_27 f_28 h hl
          have o_29 := u_26
          obtain ⟨I7, I10, I18, I22, I27, I29, I32, Is, I35, Ia, Iar, Isz, Ian⟩ := o_29
          refine lv_iload_n hx hb dX10_corrected_34 rfl (lv_at hl 3 rfl) ?_
          refine lv_iload_n hx hb dX10_corrected_35 rfl (lv_at hl 2 rfl) ?_
          refine lv_icmp_ge (tgt := 59) hx hb dX10_corrected_36 (by decide) (fun c_30 => ?_) (fun c_30 => ?_)
          · have j_31 : A2 ≤ (y_24).toInt := (i_le a2 rfl).mp c_30
            refine lv_aload_n hx hb dX10_corrected_59 rfl (lv_at hl 0 rfl) ?_
            refine g_get (ci := 10) (x := .ref (G.2.2 (121))) C h 106 (by decide) rfl rfl hi10 20 (by decide) f54 rfl rfl dX10_corrected_60 ?_
            refine lv_iload_n hx hb dX10_corrected_63 rfl (lv_at hl 1 rfl) ?_
            refine g_lald C h 121 (by decide) (by decide) (n := 3) (by decide) (vp_of a1 (by omega) (by omega)) dX10_corrected_64 ?_
            refine lv_topl (fun x_32 e_33 => ?_)
            exact ret x_32 v w_25 sg _ _ _ _ dX10_corrected_65 h ⟨⟨u_26, u_27⟩, rfl, rfl⟩
          · have j_31 : ¬ (A2 ≤ (y_24).toInt) := fun q => c_30 ((i_le a2 rfl).mpr q)
            refine lv_aload_n hx hb dX10_corrected_39 rfl (lv_at hl 0 rfl) ?_
            refine g_get (ci := 10) (x := .ref (G.2.2 (118))) C h 106 (by decide) rfl rfl hi10 15 (by decide) f44 rfl rfl dX10_corrected_40 ?_
            refine lv_iload_n hx hb dX10_corrected_43 rfl (lv_at hl 3 rfl) ?_
            refine g_zald C h 118 (by decide) (by decide) (n := 10) (by decide) (vp_of rfl (by omega) (by omega)) dX10_corrected_44 ?_
            refine lv_topi (fun x_34 e_35 => ?_)
            have J53_36 : ∀ (w_36 : Nat → Nat → Int64) (H : Heap) (locs : List Loc) (ls : Array Slot), (mI v) → (fM 114 123 10 19 v w v w_36) → gS (gA G) G s v w_36 sg H locs → lv_has ls 4 [(0, .ref (G.2.2 (106))), (1, .int (p1)), (2, .int (p2)), (3, .int (y_24))] → W p l e R s m args below meth c H locs 0 0 Q (F0 m 53 ls []) := by
              intro w_36 H locs ls u_37 u_38 h hl
              have o_39 := u_37
              obtain ⟨I7, I10, I18, I22, I27, I29, I32, Is, I35, Ia, Iar, Isz, Ian⟩ := o_39
              obtain ⟨x_40, e_41⟩ : ∃ y : Int32, y = y_24 + 1 := ⟨_, rfl⟩
              have i_42 : x_40.toInt = (y_24).toInt + 1 := ia_add e_41 rfl (by decide) (by omega) (by omega)
              refine lv_iinc (v := x_40) (lv' := [(3, .int (x_40)), (0, .ref (G.2.2 (106))), (1, .int (p1)), (2, .int (p2))]) hx hb dX10_corrected_53 hl (k := 3) rfl (by rw [e_41]; rfl) (by decide) rfl (fun ls hl => ?_)
              refine lv_goto (tgt := 34) hx hb dX10_corrected_56 (by decide) ?_
              exact ih34 x_40 w_36 _ _ _ (by omega) u_37 u_38 (by omega) h (lv_sub hl [1, 2, 3, 0] rfl)
            refine lv_if_eq (tgt := 53) hx hb dX10_corrected_45 (by decide) (fun c_43 => ?_) (fun c_43 => ?_)
            · have j_44 : (x_34).toInt = 0 := (i_eq rfl (by decide)).mp c_43
              exact J53_36 w_25 _ _ _ u_26 u_27 h (lv_sub hl [0, 1, 2, 3] rfl)
            · have j_44 : ¬ ((x_34).toInt = 0) := fun q => c_43 ((i_eq rfl (by decide)).mpr q)
              refine lv_aload_n hx hb dX10_corrected_48 rfl (lv_at hl 0 rfl) ?_
              refine lv_iload_n hx hb dX10_corrected_49 rfl (lv_at hl 3 rfl) ?_
              refine g_callv C (va_runV (As := [.int (y_24)]) (rest := []) C.1 (c_X10_does l G v w_25 sg y_24 (A1 := (y_24).toInt) rfl (by omega) u_26) (cwV 1 hts gX10_corrected_X10_does rfl rfl rfl (by decide +kernel) ⟨by rw [hR]; exact Nat.le_of_ble_eq_true rfl, by rw [hR]; exact Nat.le_of_ble_eq_true rfl⟩) ⟨gPre_blind, g_recv C h 106 (by decide) (ci := 10) rfl rfl, gS_pre C h _⟩ rfl rfl hl.1 rfl (lv_room (Nat.le_of_ble_eq_true rfl)) dX10_corrected_50 ⟨Nat.zero_le _, Nat.zero_le _⟩) h (fun v_47 w_48 g_49 H locs p_46 h => ?_)
              obtain ⟨p_46, rfl, rfl⟩ := p_46
              have u_50 : mI v := p_46.1
              have u_51 : fM 114 123 10 19 v w v w_48 := fM_tr u_27 (fM_le p_46.2 (by decide))
              have o_52 := u_50
              obtain ⟨I7, I10, I18, I22, I27, I29, I32, Is, I35, Ia, Iar, Isz, Ian⟩ := o_52
              exact J53_36 w_48 _ _ _ u_50 u_51 h (lv_sub hl [0, 1, 2, 3] rfl)
      refine lv_istore_n (lv' := [(3, .int (0)), (0, .ref (G.2.2 (106))), (1, .int (p1)), (2, .int (p2))]) hx hb dX10_corrected_33 rfl hl (by decide) rfl (fun ls hl => ?_)
      exact J34_25 _ 0 w_19 _ _ _ (Nat.lt_succ_self _) u_21 u_22 (by omega) h (lv_sub hl [1, 2, 3, 0] rfl)
    · skip
      refine lv_if_ne (tgt := 28) hx hb dX10_corrected_23 (by decide) (fun c_53 => absurd (by decide) c_53) (fun _ => ?_)
      refine lv_lconst (v := 0) hx hb dX10_corrected_26 (by decide) ?_
      exact ret 0 v w sg _ _ _ _ dX10_corrected_27 h ⟨⟨mi, fM_rf⟩, rfl, rfl⟩
  · skip
    refine lv_if_eq (tgt := 26) hx hb dX10_corrected_9 (by decide) (fun _ => ?_) (fun c_54 => absurd (by decide) c_54)
    refine lv_lconst (v := 0) hx hb dX10_corrected_26 (by decide) ?_
    exact ret 0 v w sg _ _ _ _ dX10_corrected_27 h ⟨⟨mi, fM_rf⟩, rfl, rfl⟩

set_option maxHeartbeats 4000000 in
set_option maxRecDepth 100000 in
theorem c_X10_tells (l : Launch) (G : gG) (v : Nat → Nat → Int32) (w : Nat → Nat → Int64) (sg : Nat → Nat) (mi : mI v) : Met l yX10_tells wsX10_tells ({ frames := 4, cells := 0, slots := 0, locals := 96 }) (gPre G v w sg [.ref (G.2.2 (106))]) (gQv G (fun v' w' sg' => (mI v ∧ fM 114 123 10 19 v w v w') ∧ v = v' ∧ sg = sg')) 0 0 (gA G) := by
  refine gM_ofv (cc := cX10_tells) (maxL := 3) (by decide) rfl (Nat.le_of_ble_eq_true rfl) ?_
  intro p e R s m args below meth c Q ls C hR ret h hl
  have hx := C.1.1
  have hb := C.1.2.1
  have hown := C.1.2.2.2.1
  have hts := C.1.2.2.2.2
  have hl : lv_has ls 3 [(0, .ref (G.2.2 (106)))] := hl
  have z_0 : (0 : Int32).toInt = 0 := by decide
  have z_1 : (1 : Int32).toInt = 1 := by decide
  have z_3 : (3 : Int32).toInt = 3 := by decide
  have f178 : Cond.fieldLink RX10 178 "WindHallModel" "corrections" "I" ∈ wsX10_tells := by decide +kernel
  have hi10 : ∀ x ∈ u_ws RX10 TX10 42, x ∈ wsX10_tells := fun x q => List.mem_cons_of_mem _ (List.mem_append_right _ q)
  have f57 : Cond.fieldLink RX10 57 "WindHallModel" "told" "[J" ∈ wsX10_tells := by decide +kernel
  have o_1 := mi
  obtain ⟨I7, I10, I18, I22, I27, I29, I32, Is, I35, Ia, Iar, Isz, Ian⟩ := o_1
  refine lv_iconst (v := 0) hx hb dX10_tells_0 (by decide) ?_
  have J2_3 : ∀ (n : Nat) (y_2 : Int32) (w_3 : Nat → Nat → Int64) (H : Heap) (locs : List Loc) (ls : Array Slot), (((v 106 10) : Int32).toInt + 1 - (y_2).toInt).toNat < n → (mI v) → (fM 114 123 10 19 v w v w_3) → (0 ≤ (y_2).toInt ∧ (y_2).toInt ≤ ((v 106 10) : Int32).toInt + 1) → gS (gA G) G s v w_3 sg H locs → lv_has ls 3 [(0, .ref (G.2.2 (106))), (1, .int (y_2))] → W p l e R s m args below meth c H locs 0 0 Q (F0 m 2 ls []) := by
    intro n
    induction n with
    | zero => intro y_2 w_3 H locs ls hm; exact absurd hm (Nat.not_lt_zero _)
    | succ n ih2 =>
      intro y_2 w_3 H locs ls hm u_4 u_5 f_6 h hl
      have o_7 := u_4
      obtain ⟨I7, I10, I18, I22, I27, I29, I32, Is, I35, Ia, Iar, Isz, Ian⟩ := o_7
      refine lv_iload_n hx hb dX10_tells_2 rfl (lv_at hl 1 rfl) ?_
      refine lv_aload_n hx hb dX10_tells_3 rfl (lv_at hl 0 rfl) ?_
      refine g_geti (ci := 10) (x := v 106 10) C h 106 (by decide) rfl rfl hi10 10 (by decide) f178 rfl rfl rfl dX10_tells_4 ?_
      refine lv_icmp_gt (tgt := 45) hx hb dX10_tells_7 (by decide) (fun c_8 => ?_) (fun c_8 => ?_)
      · have j_9 : (v 106 10).toInt < (y_2).toInt := (i_lt rfl rfl).mp c_8
        exact ret v w_3 sg _ _ _ _ dX10_tells_45 h ⟨⟨u_4, u_5⟩, rfl, rfl⟩
      · have j_9 : ¬ ((v 106 10).toInt < (y_2).toInt) := fun q => c_8 ((i_lt rfl rfl).mpr q)
        refine lv_iconst (v := 0) hx hb dX10_tells_10 (by decide) ?_
        have J12_11 : ∀ (n : Nat) (y_10 : Int32) (w_11 : Nat → Nat → Int64) (H : Heap) (locs : List Loc) (ls : Array Slot), (3 - (y_10).toInt).toNat < n → (mI v) → (fM 114 123 10 19 v w v w_11) → (0 ≤ (y_10).toInt ∧ (y_10).toInt ≤ 3) → gS (gA G) G s v w_11 sg H locs → lv_has ls 3 [(0, .ref (G.2.2 (106))), (1, .int (y_2)), (2, .int (y_10))] → W p l e R s m args below meth c H locs 0 0 Q (F0 m 12 ls []) := by
          intro n
          induction n with
          | zero => intro y_10 w_11 H locs ls hm; exact absurd hm (Nat.not_lt_zero _)
          | succ n ih12 =>
            intro y_10 w_11 H locs ls hm u_12 u_13 f_14 h hl
            have o_15 := u_12
            obtain ⟨I7, I10, I18, I22, I27, I29, I32, Is, I35, Ia, Iar, Isz, Ian⟩ := o_15
            refine lv_iload_n hx hb dX10_tells_12 rfl (lv_at hl 2 rfl) ?_
            refine lv_iconst (v := 3) hx hb dX10_tells_13 (by decide) ?_
            refine lv_icmp_ge (tgt := 39) hx hb dX10_tells_14 (by decide) (fun c_16 => ?_) (fun c_16 => ?_)
            · have j_17 : 3 ≤ (y_10).toInt := (i_le (by decide) rfl).mp c_16
              obtain ⟨x_18, e_19⟩ : ∃ y : Int32, y = y_2 + 1 := ⟨_, rfl⟩
              have i_20 : x_18.toInt = (y_2).toInt + 1 := ia_add e_19 rfl (by decide) (by omega) (by omega)
              refine lv_iinc (v := x_18) (lv' := [(1, .int (x_18)), (0, .ref (G.2.2 (106))), (2, .int (y_10))]) hx hb dX10_tells_39 hl (k := 1) rfl (by rw [e_19]; rfl) (by decide) rfl (fun ls hl => ?_)
              refine lv_goto (tgt := 2) hx hb dX10_tells_42 (by decide) ?_
              exact ih2 x_18 w_11 _ _ _ (by omega) u_12 u_13 (by omega) h (lv_sub hl [1, 0] rfl)
            · have j_17 : ¬ (3 ≤ (y_10).toInt) := fun q => c_16 ((i_le (by decide) rfl).mpr q)
              refine lv_aload_n hx hb dX10_tells_17 rfl (lv_at hl 0 rfl) ?_
              refine g_get (ci := 10) (x := .ref (G.2.2 (122))) C h 106 (by decide) rfl rfl hi10 21 (by decide) f57 rfl rfl dX10_tells_18 ?_
              refine lv_iconst (v := 3) hx hb dX10_tells_21 (by decide) ?_
              refine lv_iload_n hx hb dX10_tells_22 rfl (lv_at hl 1 rfl) ?_
              refine lv_imul hx hb dX10_tells_23 ?_
              refine lv_topi (fun x_21 e_22 => ?_)
              have i_23 : x_21.toInt = 3 * (y_2).toInt := ia_mul e_22 (by decide) rfl (by omega) (by omega)
              refine lv_iload_n hx hb dX10_tells_24 rfl (lv_at hl 2 rfl) ?_
              refine lv_iadd hx hb dX10_tells_25 ?_
              refine lv_topi (fun x_24 e_25 => ?_)
              have i_26 : x_24.toInt = (3 * (y_2).toInt) + (y_10).toInt := ia_add e_25 i_23 rfl (by omega) (by omega)
              refine lv_aload_n hx hb dX10_tells_26 rfl (lv_at hl 0 rfl) ?_
              refine lv_iload_n hx hb dX10_tells_27 rfl (lv_at hl 2 rfl) ?_
              refine lv_iload_n hx hb dX10_tells_28 rfl (lv_at hl 1 rfl) ?_
              refine g_calll C (va_runV (As := [.int (y_10), .int (y_2)]) (rest := [.int (x_24), .ref (G.2.2 (122))]) C.1 (c_X10_corrected l G v w_11 sg y_10 (A1 := (y_10).toInt) rfl y_2 (A2 := (y_2).toInt) rfl u_12) (cwV 2 hts gX10_tells_X10_corrected rfl rfl rfl (by decide +kernel) ⟨by rw [hR]; exact Nat.le_of_ble_eq_true rfl, by rw [hR]; exact Nat.le_of_ble_eq_true rfl⟩) ⟨gPre_blind, g_recv C h 106 (by decide) (ci := 10) rfl rfl, gS_pre C h _⟩ rfl rfl hl.1 rfl (lv_room (Nat.le_of_ble_eq_true rfl)) dX10_tells_29 ⟨Nat.zero_le _, Nat.zero_le _⟩) h (fun r_27 v_29 w_30 g_31 H locs p_28 h => ?_)
              obtain ⟨p_28, rfl, rfl⟩ := p_28
              have u_32 : mI v := p_28.1
              have u_33 : fM 114 123 10 19 v w v w_30 := fM_tr u_13 (fM_le p_28.2 (by decide))
              have o_34 := u_32
              obtain ⟨I7, I10, I18, I22, I27, I29, I32, Is, I35, Ia, Iar, Isz, Ian⟩ := o_34
              refine g_last C h 122 (by decide) (by decide) (n := 33) (by decide) (vp_of i_26 (by omega) (by omega)) dX10_tells_32 (fun H locs h => ?_)
              obtain ⟨w_35, hw_35⟩ : ∃ z, z = gul w_30 122 ((x_24 : Int32).toNatClampNeg) r_27 := ⟨_, rfl⟩
              have h : gS (gA G) G s v w_35 sg H locs := by rw [hw_35]; exact h
              have u_36 : fM 114 123 10 19 v w v w_35 := by rw [hw_35]; exact (fM_w u_33 (by decide))
              obtain ⟨x_37, e_38⟩ : ∃ y : Int32, y = y_10 + 1 := ⟨_, rfl⟩
              have i_39 : x_37.toInt = (y_10).toInt + 1 := ia_add e_38 rfl (by decide) (by omega) (by omega)
              refine lv_iinc (v := x_37) (lv' := [(2, .int (x_37)), (0, .ref (G.2.2 (106))), (1, .int (y_2))]) hx hb dX10_tells_33 hl (k := 2) rfl (by rw [e_38]; rfl) (by decide) rfl (fun ls hl => ?_)
              refine lv_goto (tgt := 12) hx hb dX10_tells_36 (by decide) ?_
              exact ih12 x_37 w_35 _ _ _ (by omega) u_32 u_36 (by omega) h (lv_sub hl [1, 2, 0] rfl)
        refine lv_istore_n (lv' := [(2, .int (0)), (0, .ref (G.2.2 (106))), (1, .int (y_2))]) hx hb dX10_tells_11 rfl hl (by decide) rfl (fun ls hl => ?_)
        exact J12_11 _ 0 w_3 _ _ _ (Nat.lt_succ_self _) u_4 u_5 (by omega) h (lv_sub hl [1, 2, 0] rfl)
  refine lv_istore_n (lv' := [(1, .int (0)), (0, .ref (G.2.2 (106)))]) hx hb dX10_tells_1 rfl hl (by decide) rfl (fun ls hl => ?_)
  exact J2_3 _ 0 w _ _ _ (Nat.lt_succ_self _) mi fM_rf (by omega) h (lv_sub hl [1, 0] rfl)

set_option maxHeartbeats 4000000 in
set_option maxRecDepth 100000 in
theorem c_X10_touches (l : Launch) (G : gG) (v : Nat → Nat → Int32) (w : Nat → Nat → Int64) (sg : Nat → Nat) (p1 : Int32) {A1 : Int} (a1 : p1.toInt = A1) (mi : mI v) : Met l yX10_touches wsX10_touches ({ frames := 5, cells := 0, slots := 0, locals := 118 }) (gPre G v w sg [.ref (G.2.2 (106)), .int (p1)]) (gQi G (fun r v' w' sg' => (mI v' ∧ fM 114 123 10 19 v w v' w') ∧ sg = sg')) 0 0 (gA G) := by
  refine gM_ofi (cc := cX10_touches) (maxL := 5) (by decide) rfl (Nat.le_of_ble_eq_true rfl) ?_
  intro p e R s m args below meth c Q ls C hR ret h hl
  have hx := C.1.1
  have hb := C.1.2.1
  have hown := C.1.2.2.2.1
  have hts := C.1.2.2.2.2
  have hl : lv_has ls 5 [(0, .ref (G.2.2 (106))), (1, .int (p1))] := hl
  have q1 := i_rng p1; rw [a1] at q1
  have z_m4 : ((-4) : Int32).toInt = (-4) := by decide
  have z_m1 : ((-1) : Int32).toInt = (-1) := by decide
  have z_0 : (0 : Int32).toInt = 0 := by decide
  have z_1 : (1 : Int32).toInt = 1 := by decide
  have z_3 : (3 : Int32).toInt = 3 := by decide
  have f44 : Cond.fieldLink RX10 44 "WindHallModel" "cOn" "[Z" ∈ wsX10_touches := by decide +kernel
  have hi10 : ∀ x ∈ u_ws RX10 TX10 42, x ∈ wsX10_touches := fun x q => List.mem_cons_of_mem _ (List.mem_append_right _ q)
  have f178 : Cond.fieldLink RX10 178 "WindHallModel" "corrections" "I" ∈ wsX10_touches := by decide +kernel
  have f57 : Cond.fieldLink RX10 57 "WindHallModel" "told" "[J" ∈ wsX10_touches := by decide +kernel
  have o_1 := mi
  obtain ⟨I7, I10, I18, I22, I27, I29, I32, Is, I35, Ia, Iar, Isz, Ian⟩ := o_1
  refine lv_aload_n hx hb dX10_touches_0 rfl (lv_at hl 0 rfl) ?_
  refine lv_iload_n hx hb dX10_touches_1 rfl (lv_at hl 1 rfl) ?_
  refine g_calli C (va_runV (As := [.int (p1)]) (rest := []) C.1 (c_X10_isCorrection l G v w sg p1 (A1 := A1) a1 mi) (cwV 1 hts gX10_touches_X10_isCorrection rfl rfl rfl (by decide +kernel) ⟨by rw [hR]; exact Nat.le_of_ble_eq_true rfl, by rw [hR]; exact Nat.le_of_ble_eq_true rfl⟩) ⟨gPre_blind, g_recv C h 106 (by decide) (ci := 10) rfl rfl, gS_pre C h _⟩ rfl rfl hl.1 rfl (lv_room (Nat.le_of_ble_eq_true rfl)) dX10_touches_2 ⟨Nat.zero_le _, Nat.zero_le _⟩) h (fun r_2 v_4 w_5 g_6 H locs p_3 h => ?_)
  obtain ⟨p_3, rfl, rfl, rfl⟩ := p_3
  rcases p_3 with ⟨rfl, t_7⟩ | ⟨rfl, t_7⟩
  · skip
    refine lv_if_ne (tgt := 10) hx hb dX10_touches_5 (by decide) (fun _ => ?_) (fun c_8 => absurd c_8 (by decide))
    refine lv_aload_n hx hb dX10_touches_10 rfl (lv_at hl 0 rfl) ?_
    refine g_callv C (va_runV (As := []) (rest := []) C.1 (c_X10_tells l G v w sg  mi) (cwV 0 hts gX10_touches_X10_tells rfl rfl rfl (by decide +kernel) ⟨by rw [hR]; exact Nat.le_of_ble_eq_true rfl, by rw [hR]; exact Nat.le_of_ble_eq_true rfl⟩) ⟨gPre_blind, g_recv C h 106 (by decide) (ci := 10) rfl rfl, gS_pre C h _⟩ rfl rfl hl.1 rfl (lv_room (Nat.le_of_ble_eq_true rfl)) dX10_touches_11 ⟨Nat.zero_le _, Nat.zero_le _⟩) h (fun v_11 w_12 g_13 H locs p_10 h => ?_)
    obtain ⟨p_10, rfl, rfl⟩ := p_10
    have u_14 : mI v := p_10.1
    have u_15 : fM 114 123 10 19 v w v w_12 := fM_tr fM_rf (fM_le p_10.2 (by decide))
    have o_16 := u_14
    obtain ⟨I7, I10, I18, I22, I27, I29, I32, Is, I35, Ia, Iar, Isz, Ian⟩ := o_16
    refine lv_aload_n hx hb dX10_touches_14 rfl (lv_at hl 0 rfl) ?_
    refine g_get (ci := 10) (x := .ref (G.2.2 (118))) C h 106 (by decide) rfl rfl hi10 15 (by decide) f44 rfl rfl dX10_touches_15 ?_
    refine lv_iload_n hx hb dX10_touches_18 rfl (lv_at hl 1 rfl) ?_
    refine lv_aload_n hx hb dX10_touches_19 rfl (lv_at hl 0 rfl) ?_
    refine g_get (ci := 10) (x := .ref (G.2.2 (118))) C h 106 (by decide) rfl rfl hi10 15 (by decide) f44 rfl rfl dX10_touches_20 ?_
    refine lv_iload_n hx hb dX10_touches_23 rfl (lv_at hl 1 rfl) ?_
    refine g_zald C h 118 (by decide) (by decide) (n := 10) (by decide) (vp_of a1 (by omega) (by omega)) dX10_touches_24 ?_
    refine lv_topi (fun x_17 e_18 => ?_)
    have J33_19 : ∀ (y_19 : Int32) (H : Heap) (locs : List Loc) (ls : Array Slot), gS (gA G) G s v w_12 sg H locs → lv_has ls 5 [(0, .ref (G.2.2 (106))), (1, .int (p1))] → W p l e R s m args below meth c H locs 0 0 Q (F0 m 33 ls [.int (y_19), .int (p1), .ref (G.2.2 (118))]) := by
      intro y_19 H locs ls  h hl
      refine g_zast C h 118 (by decide) (by decide) (n := 10) (by decide) (vp_of a1 (by omega) (by omega)) dX10_touches_33 (fun H locs h => ?_)
      obtain ⟨v_20, hv_20⟩ : ∃ z, z = gu v 118 ((p1 : Int32).toNatClampNeg) (vp_nar .boolean y_19) := ⟨_, rfl⟩
      have h : gS (gA G) G s v_20 w_12 sg H locs := by rw [hv_20]; exact h
      have u_21 : mI v_20 := by rw [hv_20]; exact u_14
      have u_22 : fM 114 123 10 19 v w v_20 w_12 := by rw [hv_20]; exact (fM_v u_15 (by decide))
      refine lv_bipush (v := (-4)) hx hb dX10_touches_34 (by decide) ?_
      refine lv_istore_n (lv' := [(2, .int ((-4))), (0, .ref (G.2.2 (106))), (1, .int (p1))]) hx hb dX10_touches_36 rfl hl (by decide) rfl (fun ls hl => ?_)
      refine lv_aload_n hx hb dX10_touches_37 rfl (lv_at hl 1 rfl) ?_
      refine g_geti (ci := 10) (x := v 106 10) C h 106 (by decide) rfl rfl hi10 10 (by decide) f178 rfl rfl (by rw [hv_20] <;> rfl) dX10_touches_38 ?_
      have J42_25 : ∀ (n : Nat) (y_23 : Int32) (y_24 : Int32) (w_25 : Nat → Nat → Int64) (H : Heap) (locs : List Loc) (ls : Array Slot), ((y_24).toInt).toNat < n → (mI v_20) → (fM 114 123 10 19 v w v_20 w_25) → (0 ≤ (y_24).toInt ∧ (y_24).toInt ≤ ((v 106 10) : Int32).toInt) → gS (gA G) G s v_20 w_25 sg H locs → lv_has ls 5 [(0, .ref (G.2.2 (106))), (1, .int (p1)), (2, .int (y_23)), (3, .int (y_24))] → W p l e R s m args below meth c H locs 0 0 Q (F0 m 42 ls []) := by
        intro n
        induction n with
        | zero => intro y_23 y_24 w_25 H locs ls hm; exact absurd hm (Nat.not_lt_zero _)
        | succ n ih42 =>
          intro y_23 y_24 w_25 H locs ls hm u_26 u_27 f_28 h hl
          have o_29 := u_26
          obtain ⟨I7, I10, I18, I22, I27, I29, I32, Is, I35, Ia, Iar, Isz, Ian⟩ := o_29
          refine lv_iload_n hx hb dX10_touches_42 rfl (lv_at hl 3 rfl) ?_
          refine lv_if_le (tgt := 95) hx hb dX10_touches_43 (by decide) (fun c_30 => ?_) (fun c_30 => ?_)
          · have j_31 : (y_24).toInt ≤ 0 := (i_le rfl (by decide)).mp c_30
            refine lv_aload_n hx hb dX10_touches_95 rfl (lv_at hl 0 rfl) ?_
            refine g_get (ci := 10) (x := .ref (G.2.2 (118))) C h 106 (by decide) rfl rfl hi10 15 (by decide) f44 rfl rfl dX10_touches_96 ?_
            refine lv_iload_n hx hb dX10_touches_99 rfl (lv_at hl 1 rfl) ?_
            refine lv_aload_n hx hb dX10_touches_100 rfl (lv_at hl 0 rfl) ?_
            refine g_get (ci := 10) (x := .ref (G.2.2 (118))) C h 106 (by decide) rfl rfl hi10 15 (by decide) f44 rfl rfl dX10_touches_101 ?_
            refine lv_iload_n hx hb dX10_touches_104 rfl (lv_at hl 1 rfl) ?_
            refine g_zald C h 118 (by decide) (by decide) (n := 10) (by decide) (vp_of a1 (by omega) (by omega)) dX10_touches_105 ?_
            refine lv_topi (fun x_32 e_33 => ?_)
            have J114_34 : ∀ (y_34 : Int32) (H : Heap) (locs : List Loc) (ls : Array Slot), gS (gA G) G s v_20 w_25 sg H locs → lv_has ls 5 [(0, .ref (G.2.2 (106))), (1, .int (p1)), (2, .int (y_23)), (3, .int (y_24))] → W p l e R s m args below meth c H locs 0 0 Q (F0 m 114 ls [.int (y_34), .int (p1), .ref (G.2.2 (118))]) := by
              intro y_34 H locs ls  h hl
              refine g_zast C h 118 (by decide) (by decide) (n := 10) (by decide) (vp_of a1 (by omega) (by omega)) dX10_touches_114 (fun H locs h => ?_)
              obtain ⟨v_35, hv_35⟩ : ∃ z, z = gu v_20 118 ((p1 : Int32).toNatClampNeg) (vp_nar .boolean y_34) := ⟨_, rfl⟩
              have h : gS (gA G) G s v_35 w_25 sg H locs := by rw [hv_35]; exact h
              have u_36 : mI v_35 := by rw [hv_35]; exact u_26
              have u_37 : fM 114 123 10 19 v w v_35 w_25 := by rw [hv_35]; exact (fM_v u_27 (by decide))
              refine lv_iload_n hx hb dX10_touches_115 rfl (lv_at hl 2 rfl) ?_
              exact ret y_23 v_35 w_25 sg _ _ _ _ dX10_touches_116 h ⟨⟨u_36, u_37⟩, rfl⟩
            refine lv_if_ne (tgt := 113) hx hb dX10_touches_106 (by decide) (fun c_38 => ?_) (fun c_38 => ?_)
            · have j_39 : ¬ ((x_32).toInt = 0) := fun q => c_38 ((i_eq rfl (by decide)).mpr q)
              refine lv_iconst (v := 0) hx hb dX10_touches_113 (by decide) ?_
              exact J114_34 0 _ _ _  h (lv_sub hl [0, 1, 2, 3] rfl)
            · have j_39 : (x_32).toInt = 0 := (i_eq rfl (by decide)).mp c_38
              refine lv_iconst (v := 1) hx hb dX10_touches_109 (by decide) ?_
              refine lv_goto (tgt := 114) hx hb dX10_touches_110 (by decide) ?_
              exact J114_34 1 _ _ _  h (lv_sub hl [0, 1, 2, 3] rfl)
          · have j_31 : ¬ ((y_24).toInt ≤ 0) := fun q => c_30 ((i_le rfl (by decide)).mpr q)
            refine lv_iconst (v := 0) hx hb dX10_touches_46 (by decide) ?_
            have J49_42 : ∀ (n : Nat) (y_40 : Int32) (y_41 : Int32) (w_42 : Nat → Nat → Int64) (H : Heap) (locs : List Loc) (ls : Array Slot), (3 - (y_41).toInt).toNat < n → (mI v_20) → (fM 114 123 10 19 v w v_20 w_42) → (0 ≤ (y_41).toInt ∧ (y_41).toInt ≤ 3) → gS (gA G) G s v_20 w_42 sg H locs → lv_has ls 5 [(0, .ref (G.2.2 (106))), (1, .int (p1)), (2, .int (y_40)), (3, .int (y_24)), (4, .int (y_41))] → W p l e R s m args below meth c H locs 0 0 Q (F0 m 49 ls []) := by
              intro n
              induction n with
              | zero => intro y_40 y_41 w_42 H locs ls hm; exact absurd hm (Nat.not_lt_zero _)
              | succ n ih49 =>
                intro y_40 y_41 w_42 H locs ls hm u_43 u_44 f_45 h hl
                have o_46 := u_43
                obtain ⟨I7, I10, I18, I22, I27, I29, I32, Is, I35, Ia, Iar, Isz, Ian⟩ := o_46
                refine lv_iload hx hb dX10_touches_49 (lv_at hl 4 rfl) ?_
                refine lv_iconst (v := 3) hx hb dX10_touches_51 (by decide) ?_
                refine lv_icmp_ge (tgt := 89) hx hb dX10_touches_52 (by decide) (fun c_47 => ?_) (fun c_47 => ?_)
                · have j_48 : 3 ≤ (y_41).toInt := (i_le (by decide) rfl).mp c_47
                  obtain ⟨x_49, e_50⟩ : ∃ y : Int32, y = y_24 + (-1) := ⟨_, rfl⟩
                  have i_51 : x_49.toInt = (y_24).toInt + (-1) := ia_add e_50 rfl (by decide) (by omega) (by omega)
                  refine lv_iinc (v := x_49) (lv' := [(3, .int (x_49)), (0, .ref (G.2.2 (106))), (1, .int (p1)), (2, .int (y_40)), (4, .int (y_41))]) hx hb dX10_touches_89 hl (k := 3) rfl (by rw [e_50]; rfl) (by decide) rfl (fun ls hl => ?_)
                  refine lv_goto (tgt := 42) hx hb dX10_touches_92 (by decide) ?_
                  exact ih42 y_40 x_49 w_42 _ _ _ (by omega) u_43 u_44 (by omega) h (lv_sub hl [1, 2, 3, 0] rfl)
                · have j_48 : ¬ (3 ≤ (y_41).toInt) := fun q => c_47 ((i_le (by decide) rfl).mpr q)
                  refine lv_aload_n hx hb dX10_touches_55 rfl (lv_at hl 0 rfl) ?_
                  refine lv_iload hx hb dX10_touches_56 (lv_at hl 4 rfl) ?_
                  refine lv_iload_n hx hb dX10_touches_58 rfl (lv_at hl 3 rfl) ?_
                  refine g_calll C (va_runV (As := [.int (y_41), .int (y_24)]) (rest := []) C.1 (c_X10_corrected l G v_20 w_42 sg y_41 (A1 := (y_41).toInt) rfl y_24 (A2 := (y_24).toInt) rfl u_43) (cwV 2 hts gX10_touches_X10_corrected rfl rfl rfl (by decide +kernel) ⟨by rw [hR]; exact Nat.le_of_ble_eq_true rfl, by rw [hR]; exact Nat.le_of_ble_eq_true rfl⟩) ⟨gPre_blind, g_recv C h 106 (by decide) (ci := 10) rfl rfl, gS_pre C h _⟩ rfl rfl hl.1 rfl (lv_room (Nat.le_of_ble_eq_true rfl)) dX10_touches_59 ⟨Nat.zero_le _, Nat.zero_le _⟩) h (fun r_52 v_54 w_55 g_56 H locs p_53 h => ?_)
                  obtain ⟨p_53, rfl, rfl⟩ := p_53
                  have u_57 : mI v_20 := p_53.1
                  have u_58 : fM 114 123 10 19 v w v_20 w_55 := fM_tr u_44 (fM_le p_53.2 (by decide))
                  have o_59 := u_57
                  obtain ⟨I7, I10, I18, I22, I27, I29, I32, Is, I35, Ia, Iar, Isz, Ian⟩ := o_59
                  refine lv_aload_n hx hb dX10_touches_62 rfl (lv_at hl 0 rfl) ?_
                  refine g_get (ci := 10) (x := .ref (G.2.2 (122))) C h 106 (by decide) rfl rfl hi10 21 (by decide) f57 rfl rfl dX10_touches_63 ?_
                  refine lv_iconst (v := 3) hx hb dX10_touches_66 (by decide) ?_
                  refine lv_iload_n hx hb dX10_touches_67 rfl (lv_at hl 3 rfl) ?_
                  refine lv_imul hx hb dX10_touches_68 ?_
                  refine lv_topi (fun x_60 e_61 => ?_)
                  have i_62 : x_60.toInt = 3 * (y_24).toInt := ia_mul e_61 (by decide) rfl (by omega) (by omega)
                  refine lv_iload hx hb dX10_touches_69 (lv_at hl 4 rfl) ?_
                  refine lv_iadd hx hb dX10_touches_71 ?_
                  refine lv_topi (fun x_63 e_64 => ?_)
                  have i_65 : x_63.toInt = (3 * (y_24).toInt) + (y_41).toInt := ia_add e_64 i_62 rfl (by omega) (by omega)
                  refine g_lald C h 122 (by decide) (by decide) (n := 33) (by decide) (vp_of i_65 (by omega) (by omega)) dX10_touches_72 ?_
                  refine lv_topl (fun x_66 e_67 => ?_)
                  refine W.lcmp hx hb dX10_touches_73 ?_
                  have J82_68 : ∀ (y_68 : Int32) (H : Heap) (locs : List Loc) (ls : Array Slot), gS (gA G) G s v_20 w_55 sg H locs → lv_has ls 5 [(0, .ref (G.2.2 (106))), (1, .int (p1)), (2, .int (y_40)), (3, .int (y_24)), (4, .int (y_41))] → W p l e R s m args below meth c H locs 0 0 Q (F0 m 82 ls [.int (y_68)]) := by
                    intro y_68 H locs ls  h hl
                    refine lv_istore_n (lv' := [(2, .int (y_68)), (0, .ref (G.2.2 (106))), (1, .int (p1)), (3, .int (y_24)), (4, .int (y_41))]) hx hb dX10_touches_82 rfl hl (by decide) rfl (fun ls hl => ?_)
                    obtain ⟨x_69, e_70⟩ : ∃ y : Int32, y = y_41 + 1 := ⟨_, rfl⟩
                    have i_71 : x_69.toInt = (y_41).toInt + 1 := ia_add e_70 rfl (by decide) (by omega) (by omega)
                    refine lv_iinc (v := x_69) (lv' := [(4, .int (x_69)), (2, .int (y_68)), (0, .ref (G.2.2 (106))), (1, .int (p1)), (3, .int (y_24))]) hx hb dX10_touches_83 hl (k := 4) rfl (by rw [e_70]; rfl) (by decide) rfl (fun ls hl => ?_)
                    refine lv_goto (tgt := 49) hx hb dX10_touches_86 (by decide) ?_
                    exact ih49 y_68 x_69 w_55 _ _ _ (by omega) u_57 u_58 (by omega) h (lv_sub hl [2, 3, 1, 4, 0] rfl)
                  refine lv_if_eq (tgt := 81) hx hb dX10_touches_74 (by decide) (fun c_72 => ?_) (fun c_72 => ?_)
                  · have j_73 : (r_52).toInt = (x_66).toInt := (l_eq0 rfl rfl).mp c_72
                    refine lv_iload_n hx hb dX10_touches_81 rfl (lv_at hl 2 rfl) ?_
                    exact J82_68 y_40 _ _ _  h (lv_sub hl [0, 1, 2, 3, 4] rfl)
                  · have j_73 : ¬ ((r_52).toInt = (x_66).toInt) := fun q => c_72 ((l_eq0 rfl rfl).mpr q)
                    refine lv_iload_n hx hb dX10_touches_77 rfl (lv_at hl 3 rfl) ?_
                    refine lv_goto (tgt := 82) hx hb dX10_touches_78 (by decide) ?_
                    exact J82_68 y_24 _ _ _  h (lv_sub hl [0, 1, 2, 3, 4] rfl)
            refine lv_istore (lv' := [(4, .int (0)), (0, .ref (G.2.2 (106))), (1, .int (p1)), (2, .int (y_23)), (3, .int (y_24))]) hx hb dX10_touches_47 hl (by decide) rfl (fun ls hl => ?_)
            exact J49_42 _ y_23 0 w_25 _ _ _ (Nat.lt_succ_self _) u_26 u_27 (by omega) h (lv_sub hl [1, 2, 3, 4, 0] rfl)
      refine lv_istore_n (lv' := [(3, .int (v 106 10)), (2, .int ((-4))), (0, .ref (G.2.2 (106))), (1, .int (p1))]) hx hb dX10_touches_41 rfl hl (by decide) rfl (fun ls hl => ?_)
      exact J42_25 _ (-4) (v 106 10) w_12 _ _ _ (Nat.lt_succ_self _) u_21 u_22 (by omega) h (lv_sub hl [2, 3, 1, 0] rfl)
    refine lv_if_ne (tgt := 32) hx hb dX10_touches_25 (by decide) (fun c_74 => ?_) (fun c_74 => ?_)
    · have j_75 : ¬ ((x_17).toInt = 0) := fun q => c_74 ((i_eq rfl (by decide)).mpr q)
      refine lv_iconst (v := 0) hx hb dX10_touches_32 (by decide) ?_
      exact J33_19 0 _ _ _  h (lv_sub hl [0, 1] rfl)
    · have j_75 : (x_17).toInt = 0 := (i_eq rfl (by decide)).mp c_74
      refine lv_iconst (v := 1) hx hb dX10_touches_28 (by decide) ?_
      refine lv_goto (tgt := 33) hx hb dX10_touches_29 (by decide) ?_
      exact J33_19 1 _ _ _  h (lv_sub hl [0, 1] rfl)
  · skip
    refine lv_if_ne (tgt := 10) hx hb dX10_touches_5 (by decide) (fun c_76 => absurd (by decide) c_76) (fun _ => ?_)
    refine lv_iconst (v := (-1)) hx hb dX10_touches_8 (by decide) ?_
    exact ret (-1) v w sg _ _ _ _ dX10_touches_9 h ⟨⟨mi, fM_rf⟩, rfl⟩

set_option maxHeartbeats 4000000 in
set_option maxRecDepth 100000 in
theorem c_X10_minds (l : Launch) (G : gG) (v : Nat → Nat → Int32) (w : Nat → Nat → Int64) (sg : Nat → Nat) (p1 : Int32) {A1 : Int} (a1 : p1.toInt = A1) (mi : mI v) : Met l yX10_minds wsX10_minds ({ frames := 5, cells := 0, slots := 0, locals := 118 }) (gPre G v w sg [.ref (G.2.2 (106)), .int (p1)]) (gQi G (fun r v' w' sg' => (mI v' ∧ fM 114 123 10 19 v w v' w') ∧ sg = sg')) 0 0 (gA G) := by
  refine gM_ofi (cc := cX10_minds) (maxL := 4) (by decide) rfl (Nat.le_of_ble_eq_true rfl) ?_
  intro p e R s m args below meth c Q ls C hR ret h hl
  have hx := C.1.1
  have hb := C.1.2.1
  have hown := C.1.2.2.2.1
  have hts := C.1.2.2.2.2
  have hl : lv_has ls 4 [(0, .ref (G.2.2 (106))), (1, .int (p1))] := hl
  have q1 := i_rng p1; rw [a1] at q1
  have z_m1 : ((-1) : Int32).toInt = (-1) := by decide
  have z_0 : (0 : Int32).toInt = 0 := by decide
  have z_1 : (1 : Int32).toInt = 1 := by decide
  have z_2 : (2 : Int32).toInt = 2 := by decide
  have z_3 : (3 : Int32).toInt = 3 := by decide
  have z_6 : (6 : Int32).toInt = 6 := by decide
  have f57 : Cond.fieldLink RX10 57 "WindHallModel" "told" "[J" ∈ wsX10_minds := by decide +kernel
  have hi10 : ∀ x ∈ u_ws RX10 TX10 42, x ∈ wsX10_minds := fun x q => List.mem_cons_of_mem _ (List.mem_append_right _ q)
  have o_1 := mi
  obtain ⟨I7, I10, I18, I22, I27, I29, I32, Is, I35, Ia, Iar, Isz, Ian⟩ := o_1
  refine lv_aload_n hx hb dX10_minds_0 rfl (lv_at hl 0 rfl) ?_
  refine lv_iload_n hx hb dX10_minds_1 rfl (lv_at hl 1 rfl) ?_
  refine g_calli C (va_runV (As := [.int (p1)]) (rest := []) C.1 (c_X10_isCorrection l G v w sg p1 (A1 := A1) a1 mi) (cwV 1 hts gX10_minds_X10_isCorrection rfl rfl rfl (by decide +kernel) ⟨by rw [hR]; exact Nat.le_of_ble_eq_true rfl, by rw [hR]; exact Nat.le_of_ble_eq_true rfl⟩) ⟨gPre_blind, g_recv C h 106 (by decide) (ci := 10) rfl rfl, gS_pre C h _⟩ rfl rfl hl.1 rfl (lv_room (Nat.le_of_ble_eq_true rfl)) dX10_minds_2 ⟨Nat.zero_le _, Nat.zero_le _⟩) h (fun r_2 v_4 w_5 g_6 H locs p_3 h => ?_)
  obtain ⟨p_3, rfl, rfl, rfl⟩ := p_3
  rcases p_3 with ⟨rfl, t_7⟩ | ⟨rfl, t_7⟩
  · skip
    refine lv_if_eq (tgt := 18) hx hb dX10_minds_5 (by decide) (fun c_8 => absurd c_8 (by decide)) (fun _ => ?_)
    refine lv_aload_n hx hb dX10_minds_8 rfl (lv_at hl 0 rfl) ?_
    refine lv_iload_n hx hb dX10_minds_9 rfl (lv_at hl 1 rfl) ?_
    refine lv_iconst (v := 1) hx hb dX10_minds_10 (by decide) ?_
    refine lv_iadd hx hb dX10_minds_11 ?_
    refine lv_topi (fun x_9 e_10 => ?_)
    have i_11 : x_9.toInt = A1 + 1 := ia_add e_10 a1 (by decide) (by omega) (by omega)
    refine g_calli C (va_runV (As := [.int (x_9)]) (rest := []) C.1 (c_X10_isCorrection l G v w sg x_9 (A1 := (A1 + 1)) i_11 mi) (cwV 1 hts gX10_minds_X10_isCorrection rfl rfl rfl (by decide +kernel) ⟨by rw [hR]; exact Nat.le_of_ble_eq_true rfl, by rw [hR]; exact Nat.le_of_ble_eq_true rfl⟩) ⟨gPre_blind, g_recv C h 106 (by decide) (ci := 10) rfl rfl, gS_pre C h _⟩ rfl rfl hl.1 rfl (lv_room (Nat.le_of_ble_eq_true rfl)) dX10_minds_12 ⟨Nat.zero_le _, Nat.zero_le _⟩) h (fun r_12 v_14 w_15 g_16 H locs p_13 h => ?_)
    obtain ⟨p_13, rfl, rfl, rfl⟩ := p_13
    rcases p_13 with ⟨rfl, t_17⟩ | ⟨rfl, t_17⟩
    · skip
      refine lv_if_ne (tgt := 20) hx hb dX10_minds_15 (by decide) (fun _ => ?_) (fun c_18 => absurd c_18 (by decide))
      refine lv_aload_n hx hb dX10_minds_20 rfl (lv_at hl 0 rfl) ?_
      refine g_callv C (va_runV (As := []) (rest := []) C.1 (c_X10_tells l G v w sg  mi) (cwV 0 hts gX10_minds_X10_tells rfl rfl rfl (by decide +kernel) ⟨by rw [hR]; exact Nat.le_of_ble_eq_true rfl, by rw [hR]; exact Nat.le_of_ble_eq_true rfl⟩) ⟨gPre_blind, g_recv C h 106 (by decide) (ci := 10) rfl rfl, gS_pre C h _⟩ rfl rfl hl.1 rfl (lv_room (Nat.le_of_ble_eq_true rfl)) dX10_minds_21 ⟨Nat.zero_le _, Nat.zero_le _⟩) h (fun v_21 w_22 g_23 H locs p_20 h => ?_)
      obtain ⟨p_20, rfl, rfl⟩ := p_20
      have u_24 : mI v := p_20.1
      have u_25 : fM 114 123 10 19 v w v w_22 := fM_tr fM_rf (fM_le p_20.2 (by decide))
      have o_26 := u_24
      obtain ⟨I7, I10, I18, I22, I27, I29, I32, Is, I35, Ia, Iar, Isz, Ian⟩ := o_26
      refine lv_aload_n hx hb dX10_minds_24 rfl (lv_at hl 0 rfl) ?_
      refine lv_iload_n hx hb dX10_minds_25 rfl (lv_at hl 1 rfl) ?_
      refine g_calli C (va_runV (As := [.int (p1)]) (rest := []) C.1 (c_X10_swap l G v w_22 sg p1 (A1 := A1) a1 u_24) (cwV 1 hts gX10_minds_X10_swap rfl rfl rfl (by decide +kernel) ⟨by rw [hR]; exact Nat.le_of_ble_eq_true rfl, by rw [hR]; exact Nat.le_of_ble_eq_true rfl⟩) ⟨gPre_blind, g_recv C h 106 (by decide) (ci := 10) rfl rfl, gS_pre C h _⟩ rfl rfl hl.1 rfl (lv_room (Nat.le_of_ble_eq_true rfl)) dX10_minds_26 ⟨Nat.zero_le _, Nat.zero_le _⟩) h (fun r_27 v_29 w_30 g_31 H locs p_28 h => ?_)
      obtain ⟨p_28, rfl, rfl⟩ := p_28
      have u_32 : mI v_29 := p_28.1
      have u_33 : fM 114 123 10 19 v w v_29 w_22 := fM_tr u_25 (fM_le p_28.2 (by decide))
      have o_34 := u_32
      obtain ⟨I7, I10, I18, I22, I27, I29, I32, Is, I35, Ia, Iar, Isz, Ian⟩ := o_34
      refine lv_pop hx hb dX10_minds_29 rfl ?_
      refine lv_iconst (v := 0) hx hb dX10_minds_30 (by decide) ?_
      refine lv_istore_n (lv' := [(2, .int (0)), (0, .ref (G.2.2 (106))), (1, .int (p1))]) hx hb dX10_minds_31 rfl hl (by decide) rfl (fun ls hl => ?_)
      refine lv_iconst (v := 0) hx hb dX10_minds_32 (by decide) ?_
      have J34_37 : ∀ (n : Nat) (y_35 : Int32) (y_36 : Int32) (w_37 : Nat → Nat → Int64) (H : Heap) (locs : List Loc) (ls : Array Slot), (3 - (y_36).toInt).toNat < n → (mI v_29) → (fM 114 123 10 19 v w v_29 w_37) → (0 ≤ (y_36).toInt ∧ (y_36).toInt ≤ 3) → gS (gA G) G s v_29 w_37 sg H locs → lv_has ls 4 [(0, .ref (G.2.2 (106))), (1, .int (p1)), (2, .int (y_35)), (3, .int (y_36))] → W p l e R s m args below meth c H locs 0 0 Q (F0 m 34 ls []) := by
        intro n
        induction n with
        | zero => intro y_35 y_36 w_37 H locs ls hm; exact absurd hm (Nat.not_lt_zero _)
        | succ n ih34 =>
          intro y_35 y_36 w_37 H locs ls hm u_38 u_39 f_40 h hl
          have o_41 := u_38
          obtain ⟨I7, I10, I18, I22, I27, I29, I32, Is, I35, Ia, Iar, Isz, Ian⟩ := o_41
          refine lv_iload_n hx hb dX10_minds_34 rfl (lv_at hl 3 rfl) ?_
          refine lv_iconst (v := 3) hx hb dX10_minds_35 (by decide) ?_
          refine lv_icmp_ge (tgt := 80) hx hb dX10_minds_36 (by decide) (fun c_42 => ?_) (fun c_42 => ?_)
          · have j_43 : 3 ≤ (y_36).toInt := (i_le (by decide) rfl).mp c_42
            refine lv_aload_n hx hb dX10_minds_80 rfl (lv_at hl 0 rfl) ?_
            refine lv_iload_n hx hb dX10_minds_81 rfl (lv_at hl 1 rfl) ?_
            refine g_calli C (va_runV (As := [.int (p1)]) (rest := []) C.1 (c_X10_swap l G v_29 w_37 sg p1 (A1 := A1) a1 u_38) (cwV 1 hts gX10_minds_X10_swap rfl rfl rfl (by decide +kernel) ⟨by rw [hR]; exact Nat.le_of_ble_eq_true rfl, by rw [hR]; exact Nat.le_of_ble_eq_true rfl⟩) ⟨gPre_blind, g_recv C h 106 (by decide) (ci := 10) rfl rfl, gS_pre C h _⟩ rfl rfl hl.1 rfl (lv_room (Nat.le_of_ble_eq_true rfl)) dX10_minds_82 ⟨Nat.zero_le _, Nat.zero_le _⟩) h (fun r_44 v_46 w_47 g_48 H locs p_45 h => ?_)
            obtain ⟨p_45, rfl, rfl⟩ := p_45
            have u_49 : mI v_46 := p_45.1
            have u_50 : fM 114 123 10 19 v w v_46 w_37 := fM_tr u_39 (fM_le p_45.2 (by decide))
            have o_51 := u_49
            obtain ⟨I7, I10, I18, I22, I27, I29, I32, Is, I35, Ia, Iar, Isz, Ian⟩ := o_51
            refine lv_pop hx hb dX10_minds_85 rfl ?_
            refine lv_iload_n hx hb dX10_minds_86 rfl (lv_at hl 2 rfl) ?_
            refine lv_if_eq (tgt := 94) hx hb dX10_minds_87 (by decide) (fun c_52 => ?_) (fun c_52 => ?_)
            · have j_53 : (y_35).toInt = 0 := (i_eq rfl (by decide)).mp c_52
              refine lv_iconst (v := 0) hx hb dX10_minds_94 (by decide) ?_
              exact ret 0 v_46 w_37 sg _ _ _ _ dX10_minds_95 h ⟨⟨u_49, u_50⟩, rfl⟩
            · have j_53 : ¬ ((y_35).toInt = 0) := fun q => c_52 ((i_eq rfl (by decide)).mpr q)
              refine lv_iconst (v := 1) hx hb dX10_minds_90 (by decide) ?_
              refine lv_goto (tgt := 95) hx hb dX10_minds_91 (by decide) ?_
              exact ret 1 v_46 w_37 sg _ _ _ _ dX10_minds_95 h ⟨⟨u_49, u_50⟩, rfl⟩
          · have j_43 : ¬ (3 ≤ (y_36).toInt) := fun q => c_42 ((i_le (by decide) rfl).mpr q)
            refine lv_iload_n hx hb dX10_minds_39 rfl (lv_at hl 2 rfl) ?_
            have J73_55 : ∀ (y_54 : Int32) (w_55 : Nat → Nat → Int64) (H : Heap) (locs : List Loc) (ls : Array Slot), (mI v_29) → (fM 114 123 10 19 v w v_29 w_55) → gS (gA G) G s v_29 w_55 sg H locs → lv_has ls 4 [(0, .ref (G.2.2 (106))), (1, .int (p1)), (2, .int (y_35)), (3, .int (y_36))] → W p l e R s m args below meth c H locs 0 0 Q (F0 m 73 ls [.int (y_54)]) := by
              intro y_54 w_55 H locs ls u_56 u_57 h hl
              have o_58 := u_56
              obtain ⟨I7, I10, I18, I22, I27, I29, I32, Is, I35, Ia, Iar, Isz, Ian⟩ := o_58
              refine lv_istore_n (lv' := [(2, .int (y_54)), (0, .ref (G.2.2 (106))), (1, .int (p1)), (3, .int (y_36))]) hx hb dX10_minds_73 rfl hl (by decide) rfl (fun ls hl => ?_)
              obtain ⟨x_59, e_60⟩ : ∃ y : Int32, y = y_36 + 1 := ⟨_, rfl⟩
              have i_61 : x_59.toInt = (y_36).toInt + 1 := ia_add e_60 rfl (by decide) (by omega) (by omega)
              refine lv_iinc (v := x_59) (lv' := [(3, .int (x_59)), (2, .int (y_54)), (0, .ref (G.2.2 (106))), (1, .int (p1))]) hx hb dX10_minds_74 hl (k := 3) rfl (by rw [e_60]; rfl) (by decide) rfl (fun ls hl => ?_)
              refine lv_goto (tgt := 34) hx hb dX10_minds_77 (by decide) ?_
              exact ih34 y_54 x_59 w_55 _ _ _ (by omega) u_56 u_57 (by omega) h (lv_sub hl [2, 3, 1, 0] rfl)
            have J68_62 : ∀ (w_62 : Nat → Nat → Int64) (H : Heap) (locs : List Loc) (ls : Array Slot), (mI v_29) → (fM 114 123 10 19 v w v_29 w_62) → gS (gA G) G s v_29 w_62 sg H locs → lv_has ls 4 [(0, .ref (G.2.2 (106))), (1, .int (p1)), (2, .int (y_35)), (3, .int (y_36))] → W p l e R s m args below meth c H locs 0 0 Q (F0 m 68 ls []) := by
              intro w_62 H locs ls u_63 u_64 h hl
              have o_65 := u_63
              obtain ⟨I7, I10, I18, I22, I27, I29, I32, Is, I35, Ia, Iar, Isz, Ian⟩ := o_65
              refine lv_iconst (v := 1) hx hb dX10_minds_68 (by decide) ?_
              refine lv_goto (tgt := 73) hx hb dX10_minds_69 (by decide) ?_
              exact J73_55 1 w_62 _ _ _ u_63 u_64 h (lv_sub hl [0, 1, 2, 3] rfl)
            refine lv_if_ne (tgt := 68) hx hb dX10_minds_40 (by decide) (fun c_66 => ?_) (fun c_66 => ?_)
            · have j_67 : ¬ ((y_35).toInt = 0) := fun q => c_66 ((i_eq rfl (by decide)).mpr q)
              exact J68_62 w_37 _ _ _ u_38 u_39 h (lv_sub hl [0, 1, 2, 3] rfl)
            · have j_67 : (y_35).toInt = 0 := (i_eq rfl (by decide)).mp c_66
              refine lv_aload_n hx hb dX10_minds_43 rfl (lv_at hl 0 rfl) ?_
              refine lv_iload_n hx hb dX10_minds_44 rfl (lv_at hl 3 rfl) ?_
              refine lv_iload_n hx hb dX10_minds_45 rfl (lv_at hl 1 rfl) ?_
              refine lv_iconst (v := 2) hx hb dX10_minds_46 (by decide) ?_
              refine lv_iadd hx hb dX10_minds_47 ?_
              refine lv_topi (fun x_68 e_69 => ?_)
              have i_70 : x_68.toInt = A1 + 2 := ia_add e_69 a1 (by decide) (by omega) (by omega)
              refine g_calll C (va_runV (As := [.int (y_36), .int (x_68)]) (rest := []) C.1 (c_X10_corrected l G v_29 w_37 sg y_36 (A1 := (y_36).toInt) rfl x_68 (A2 := (A1 + 2)) i_70 u_38) (cwV 2 hts gX10_minds_X10_corrected rfl rfl rfl (by decide +kernel) ⟨by rw [hR]; exact Nat.le_of_ble_eq_true rfl, by rw [hR]; exact Nat.le_of_ble_eq_true rfl⟩) ⟨gPre_blind, g_recv C h 106 (by decide) (ci := 10) rfl rfl, gS_pre C h _⟩ rfl rfl hl.1 rfl (lv_room (Nat.le_of_ble_eq_true rfl)) dX10_minds_48 ⟨Nat.zero_le _, Nat.zero_le _⟩) h (fun r_71 v_73 w_74 g_75 H locs p_72 h => ?_)
              obtain ⟨p_72, rfl, rfl⟩ := p_72
              have u_76 : mI v_29 := p_72.1
              have u_77 : fM 114 123 10 19 v w v_29 w_74 := fM_tr u_39 (fM_le p_72.2 (by decide))
              have o_78 := u_76
              obtain ⟨I7, I10, I18, I22, I27, I29, I32, Is, I35, Ia, Iar, Isz, Ian⟩ := o_78
              refine lv_aload_n hx hb dX10_minds_51 rfl (lv_at hl 0 rfl) ?_
              refine g_get (ci := 10) (x := .ref (G.2.2 (122))) C h 106 (by decide) rfl rfl hi10 21 (by decide) f57 rfl rfl dX10_minds_52 ?_
              refine lv_iconst (v := 3) hx hb dX10_minds_55 (by decide) ?_
              refine lv_iload_n hx hb dX10_minds_56 rfl (lv_at hl 1 rfl) ?_
              refine lv_imul hx hb dX10_minds_57 ?_
              refine lv_topi (fun x_79 e_80 => ?_)
              have i_81 : x_79.toInt = 3 * A1 := ia_mul e_80 (by decide) a1 (by omega) (by omega)
              refine lv_bipush (v := 6) hx hb dX10_minds_58 (by decide) ?_
              refine lv_iadd hx hb dX10_minds_60 ?_
              refine lv_topi (fun x_82 e_83 => ?_)
              have i_84 : x_82.toInt = (3 * A1) + 6 := ia_add e_83 i_81 (by decide) (by omega) (by omega)
              refine lv_iload_n hx hb dX10_minds_61 rfl (lv_at hl 3 rfl) ?_
              refine lv_iadd hx hb dX10_minds_62 ?_
              refine lv_topi (fun x_85 e_86 => ?_)
              have i_87 : x_85.toInt = ((3 * A1) + 6) + (y_36).toInt := ia_add e_86 i_84 rfl (by omega) (by omega)
              refine g_lald C h 122 (by decide) (by decide) (n := 33) (by decide) (vp_of i_87 (by omega) (by omega)) dX10_minds_63 ?_
              refine lv_topl (fun x_88 e_89 => ?_)
              refine W.lcmp hx hb dX10_minds_64 ?_
              refine lv_if_eq (tgt := 72) hx hb dX10_minds_65 (by decide) (fun c_90 => ?_) (fun c_90 => ?_)
              · have j_91 : (r_71).toInt = (x_88).toInt := (l_eq0 rfl rfl).mp c_90
                refine lv_iconst (v := 0) hx hb dX10_minds_72 (by decide) ?_
                exact J73_55 0 w_74 _ _ _ u_76 u_77 h (lv_sub hl [0, 1, 2, 3] rfl)
              · have j_91 : ¬ ((r_71).toInt = (x_88).toInt) := fun q => c_90 ((l_eq0 rfl rfl).mpr q)
                exact J68_62 w_74 _ _ _ u_76 u_77 h (lv_sub hl [0, 1, 2, 3] rfl)
      refine lv_istore_n (lv' := [(3, .int (0)), (2, .int (0)), (0, .ref (G.2.2 (106))), (1, .int (p1))]) hx hb dX10_minds_33 rfl hl (by decide) rfl (fun ls hl => ?_)
      exact J34_37 _ 0 0 w_22 _ _ _ (Nat.lt_succ_self _) u_32 u_33 (by omega) h (lv_sub hl [2, 3, 1, 0] rfl)
    · skip
      refine lv_if_ne (tgt := 20) hx hb dX10_minds_15 (by decide) (fun c_92 => absurd (by decide) c_92) (fun _ => ?_)
      refine lv_iconst (v := (-1)) hx hb dX10_minds_18 (by decide) ?_
      exact ret (-1) v w sg _ _ _ _ dX10_minds_19 h ⟨⟨mi, fM_rf⟩, rfl⟩
  · skip
    refine lv_if_eq (tgt := 18) hx hb dX10_minds_5 (by decide) (fun _ => ?_) (fun c_93 => absurd (by decide) c_93)
    refine lv_iconst (v := (-1)) hx hb dX10_minds_18 (by decide) ?_
    exact ret (-1) v w sg _ _ _ _ dX10_minds_19 h ⟨⟨mi, fM_rf⟩, rfl⟩
