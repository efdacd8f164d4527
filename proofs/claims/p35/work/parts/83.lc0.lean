set_option maxHeartbeats 4000000 in
set_option maxRecDepth 100000 in
theorem lc_0 {p : Program} {l : Launch} {e : Env} {R : Room} {s : State} {m : MethodId} {args : Array Value} {below : List Frame} {meth : Method} {c : Code} {H : Heap} {locs : List Loc} {cells slots : Nat} {Q : State → Prop} {ls : Array Slot} {A : Nat → Prop} {G : gG} {v : Nat → Nat → Int32} {w : Nat → Nat → Int64} {sg : Nat → Nat} {b L : Nat} {xs : Nat → Int32} {x3 : Int32}
    (C : gC p s m c code 4 args wsL_law RL A G) (hR : R = room_1) (hcs : cells ≤ R.cells ∧ slots ≤ R.slots) (hX : va_X b L xs s s.heap) (hbl : b < s.heap.size) (hbA : ¬ A b) (hi3 : 0 ≤ x3.toInt ∧ x3.toInt + 7 ≤ (L : Int)) (hL : L ≤ 3584) (ci : cI v) (cg : cG sg) (mi : mI v) (rl : Rl v) (h : gS A G s v w sg H locs) (hl : lv_has ls 4 [(0, .ref b), (1, .ref (G.2.2 (0))), (2, .ref (G.2.2 (106))), (3, .int (x3))])
    (K : ∀ (v : Nat → Nat → Int32) (w : Nat → Nat → Int64) (sg : Nat → Nat) (H : Heap) (locs : List Loc) (ls : Array Slot), cI v → cG sg → mI v → Rl v → gS A G s v w sg H locs → lv_has ls 4 [(0, .ref b), (1, .ref (G.2.2 (0))), (2, .ref (G.2.2 (106))), (3, .int (x3))] → W p l e R s m args below meth c H locs cells slots Q (F0 m 1423 ls [])) : W p l e R s m args below meth c H locs cells slots Q (F0 m 188 ls []) := by
  have hx := C.1.1
  have hb := C.1.2.1
  have hown := C.1.2.2.2.1
  have hts := C.1.2.2.2.2
  have z_0 : (0 : Int32).toInt = 0 := by decide
  have z_1 : (1 : Int32).toInt = 1 := by decide
  have z_2 : (2 : Int32).toInt = 2 := by decide
  have z_3 : (3 : Int32).toInt = 3 := by decide
  refine lv_aload_n hx hb dL_law_188 rfl (lv_at hl 1 rfl) ?_
  refine lv_aload_n hx hb dL_law_189 rfl (lv_at hl 0 rfl) ?_
  refine lv_iload_n hx hb dL_law_190 rfl (lv_at hl 3 rfl) ?_
  refine lv_iconst (v := 1) hx hb dL_law_191 (by decide) ?_
  refine lv_iadd hx hb dL_law_192 ?_
  refine lv_topi (fun x_1 e_2 => ?_)
  have i_3 : x_1.toInt = (x3).toInt + 1 := ia_add e_2 rfl (by decide) (by omega) (by omega)
  refine va_sld hx hb hX hbl hbA h.2 (vp_of i_3 (by omega) (by omega)) dL_law_193 ?_
  refine lv_topi (fun x_4 e_5 => ?_)
  refine lv_aload_n hx hb dL_law_194 rfl (lv_at hl 0 rfl) ?_
  refine lv_iload_n hx hb dL_law_195 rfl (lv_at hl 3 rfl) ?_
  refine lv_iconst (v := 2) hx hb dL_law_196 (by decide) ?_
  refine lv_iadd hx hb dL_law_197 ?_
  refine lv_topi (fun x_6 e_7 => ?_)
  have i_8 : x_6.toInt = (x3).toInt + 2 := ia_add e_7 rfl (by decide) (by omega) (by omega)
  refine va_sld hx hb hX hbl hbA h.2 (vp_of i_8 (by omega) (by omega)) dL_law_198 ?_
  refine lv_topi (fun x_9 e_10 => ?_)
  refine lv_aload_n hx hb dL_law_199 rfl (lv_at hl 0 rfl) ?_
  refine lv_iload_n hx hb dL_law_200 rfl (lv_at hl 3 rfl) ?_
  refine lv_iconst (v := 3) hx hb dL_law_201 (by decide) ?_
  refine lv_iadd hx hb dL_law_202 ?_
  refine lv_topi (fun x_11 e_12 => ?_)
  have i_13 : x_11.toInt = (x3).toInt + 3 := ia_add e_12 rfl (by decide) (by omega) (by omega)
  refine va_sld hx hb hX hbl hbA h.2 (vp_of i_13 (by omega) (by omega)) dL_law_203 ?_
  refine lv_topi (fun x_14 e_15 => ?_)
  refine g_calli C (va_runV (As := [.int (x_4), .int (x_9), .int (x_14)]) (rest := []) C.1 (c_X9_first l G v w sg x_4 (A1 := (x_4).toInt) rfl x_9 (A2 := (x_9).toInt) rfl x_14 (A3 := (x_14).toInt) rfl ci) (cwV 3 hts gL_law_X9_first rfl rfl rfl (by decide +kernel) ⟨by rw [hR]; exact Nat.le_of_ble_eq_true rfl, by rw [hR]; exact Nat.le_of_ble_eq_true rfl⟩) ⟨gPre_blind, g_recv C h 0 (by decide) (ci := 9) rfl rfl, gS_pre C h _⟩ rfl rfl hl.1 rfl (lv_room (Nat.le_of_ble_eq_true rfl)) dL_law_204 hcs) h (fun r_16 v_18 w_19 g_20 H locs p_17 h => ?_)
  obtain ⟨p_17, rfl, rfl⟩ := p_17
  have u_21 := p_17.1
  have u_22 := cg
  have u_23 := mI_fC mi p_17.2.1 (by decide)
  refine lv_pop hx hb dL_law_207 rfl ?_
  refine lv_aload_n hx hb dL_law_208 rfl (lv_at hl 2 rfl) ?_
  refine lv_aload_n hx hb dL_law_209 rfl (lv_at hl 0 rfl) ?_
  refine lv_iload_n hx hb dL_law_210 rfl (lv_at hl 3 rfl) ?_
  refine lv_iconst (v := 1) hx hb dL_law_211 (by decide) ?_
  refine lv_iadd hx hb dL_law_212 ?_
  refine lv_topi (fun x_24 e_25 => ?_)
  have i_26 : x_24.toInt = (x3).toInt + 1 := ia_add e_25 rfl (by decide) (by omega) (by omega)
  refine va_sld hx hb hX hbl hbA h.2 (vp_of i_26 (by omega) (by omega)) dL_law_213 ?_
  refine lv_topi (fun x_27 e_28 => ?_)
  have s_29 : x_4 = x_27 := by rw [e_5, e_28, show x_1 = x_24 from (fa_eq _ _).mpr ((i_3).trans (i_26).symm)]
  subst s_29
  refine lv_aload_n hx hb dL_law_214 rfl (lv_at hl 0 rfl) ?_
  refine lv_iload_n hx hb dL_law_215 rfl (lv_at hl 3 rfl) ?_
  refine lv_iconst (v := 2) hx hb dL_law_216 (by decide) ?_
  refine lv_iadd hx hb dL_law_217 ?_
  refine lv_topi (fun x_30 e_31 => ?_)
  have i_32 : x_30.toInt = (x3).toInt + 2 := ia_add e_31 rfl (by decide) (by omega) (by omega)
  refine va_sld hx hb hX hbl hbA h.2 (vp_of i_32 (by omega) (by omega)) dL_law_218 ?_
  refine lv_topi (fun x_33 e_34 => ?_)
  have s_35 : x_9 = x_33 := by rw [e_10, e_34, show x_6 = x_30 from (fa_eq _ _).mpr ((i_8).trans (i_32).symm)]
  subst s_35
  refine lv_aload_n hx hb dL_law_219 rfl (lv_at hl 0 rfl) ?_
  refine lv_iload_n hx hb dL_law_220 rfl (lv_at hl 3 rfl) ?_
  refine lv_iconst (v := 3) hx hb dL_law_221 (by decide) ?_
  refine lv_iadd hx hb dL_law_222 ?_
  refine lv_topi (fun x_36 e_37 => ?_)
  have i_38 : x_36.toInt = (x3).toInt + 3 := ia_add e_37 rfl (by decide) (by omega) (by omega)
  refine va_sld hx hb hX hbl hbA h.2 (vp_of i_38 (by omega) (by omega)) dL_law_223 ?_
  refine lv_topi (fun x_39 e_40 => ?_)
  have s_41 : x_14 = x_39 := by rw [e_15, e_40, show x_11 = x_36 from (fa_eq _ _).mpr ((i_13).trans (i_38).symm)]
  subst s_41
  refine g_calli C (va_runV (As := [.int (x_4), .int (x_9), .int (x_14)]) (rest := []) C.1 (c_X10_first l G v_18 w sg x_4 (A1 := (x_4).toInt) rfl x_9 (A2 := (x_9).toInt) rfl x_14 (A3 := (x_14).toInt) rfl u_23) (cwV 3 hts gL_law_X10_first rfl rfl rfl (by decide +kernel) ⟨by rw [hR]; exact Nat.le_of_ble_eq_true rfl, by rw [hR]; exact Nat.le_of_ble_eq_true rfl⟩) ⟨gPre_blind, g_recv C h 106 (by decide) (ci := 10) rfl rfl, gS_pre C h _⟩ rfl rfl hl.1 rfl (lv_room (Nat.le_of_ble_eq_true rfl)) dL_law_224 hcs) h (fun r_42 v_44 w_45 g_46 H locs p_43 h => ?_)
  obtain ⟨p_43, rfl, rfl⟩ := p_43
  have u_47 := cI_fM u_21 p_43.2.1 (by decide)
  have u_48 := u_22
  have u_49 := p_43.1
  have hrl_50 := pr_first rfl rfl rfl rl ci mi p_17 p_43
  refine lv_pop hx hb dL_law_227 rfl ?_
  refine lv_goto (tgt := 1423) hx hb dL_law_228 (by decide) ?_
  exact K v_44 w sg _ _ _ u_47 u_48 u_49 hrl_50.2 h (lv_sub hl [0, 1, 2, 3] rfl)

set_option maxHeartbeats 4000000 in
set_option maxRecDepth 100000 in
theorem lc_1 {p : Program} {l : Launch} {e : Env} {R : Room} {s : State} {m : MethodId} {args : Array Value} {below : List Frame} {meth : Method} {c : Code} {H : Heap} {locs : List Loc} {cells slots : Nat} {Q : State → Prop} {ls : Array Slot} {A : Nat → Prop} {G : gG} {v : Nat → Nat → Int32} {w : Nat → Nat → Int64} {sg : Nat → Nat} {b L : Nat} {xs : Nat → Int32} {x3 : Int32}
    (C : gC p s m c code 4 args wsL_law RL A G) (hR : R = room_1) (hcs : cells ≤ R.cells ∧ slots ≤ R.slots) (hX : va_X b L xs s s.heap) (hbl : b < s.heap.size) (hbA : ¬ A b) (hi3 : 0 ≤ x3.toInt ∧ x3.toInt + 7 ≤ (L : Int)) (hL : L ≤ 3584) (ci : cI v) (cg : cG sg) (mi : mI v) (rl : Rl v) (h : gS A G s v w sg H locs) (hl : lv_has ls 4 [(0, .ref b), (1, .ref (G.2.2 (0))), (2, .ref (G.2.2 (106))), (3, .int (x3))])
    (K : ∀ (v : Nat → Nat → Int32) (w : Nat → Nat → Int64) (sg : Nat → Nat) (H : Heap) (locs : List Loc) (ls : Array Slot), cI v → cG sg → mI v → Rl v → gS A G s v w sg H locs → lv_has ls 4 [(0, .ref b), (1, .ref (G.2.2 (0))), (2, .ref (G.2.2 (106))), (3, .int (x3))] → W p l e R s m args below meth c H locs cells slots Q (F0 m 1423 ls [])) : W p l e R s m args below meth c H locs cells slots Q (F0 m 231 ls []) := by
  have hx := C.1.1
  have hb := C.1.2.1
  have hown := C.1.2.2.2.1
  have hts := C.1.2.2.2.2
  have z_0 : (0 : Int32).toInt = 0 := by decide
  have z_1 : (1 : Int32).toInt = 1 := by decide
  have z_2 : (2 : Int32).toInt = 2 := by decide
  have z_3 : (3 : Int32).toInt = 3 := by decide
  refine lv_aload_n hx hb dL_law_231 rfl (lv_at hl 1 rfl) ?_
  refine lv_aload_n hx hb dL_law_232 rfl (lv_at hl 0 rfl) ?_
  refine lv_iload_n hx hb dL_law_233 rfl (lv_at hl 3 rfl) ?_
  refine lv_iconst (v := 1) hx hb dL_law_234 (by decide) ?_
  refine lv_iadd hx hb dL_law_235 ?_
  refine lv_topi (fun x_1 e_2 => ?_)
  have i_3 : x_1.toInt = (x3).toInt + 1 := ia_add e_2 rfl (by decide) (by omega) (by omega)
  refine va_sld hx hb hX hbl hbA h.2 (vp_of i_3 (by omega) (by omega)) dL_law_236 ?_
  refine lv_topi (fun x_4 e_5 => ?_)
  refine lv_aload_n hx hb dL_law_237 rfl (lv_at hl 0 rfl) ?_
  refine lv_iload_n hx hb dL_law_238 rfl (lv_at hl 3 rfl) ?_
  refine lv_iconst (v := 2) hx hb dL_law_239 (by decide) ?_
  refine lv_iadd hx hb dL_law_240 ?_
  refine lv_topi (fun x_6 e_7 => ?_)
  have i_8 : x_6.toInt = (x3).toInt + 2 := ia_add e_7 rfl (by decide) (by omega) (by omega)
  refine va_sld hx hb hX hbl hbA h.2 (vp_of i_8 (by omega) (by omega)) dL_law_241 ?_
  refine lv_topi (fun x_9 e_10 => ?_)
  refine lv_aload_n hx hb dL_law_242 rfl (lv_at hl 0 rfl) ?_
  refine lv_iload_n hx hb dL_law_243 rfl (lv_at hl 3 rfl) ?_
  refine lv_iconst (v := 3) hx hb dL_law_244 (by decide) ?_
  refine lv_iadd hx hb dL_law_245 ?_
  refine lv_topi (fun x_11 e_12 => ?_)
  have i_13 : x_11.toInt = (x3).toInt + 3 := ia_add e_12 rfl (by decide) (by omega) (by omega)
  refine va_sld hx hb hX hbl hbA h.2 (vp_of i_13 (by omega) (by omega)) dL_law_246 ?_
  refine lv_topi (fun x_14 e_15 => ?_)
  refine g_calli C (va_runV (As := [.int (x_4), .int (x_9), .int (x_14)]) (rest := []) C.1 (c_X9_second l G v w sg x_4 (A1 := (x_4).toInt) rfl x_9 (A2 := (x_9).toInt) rfl x_14 (A3 := (x_14).toInt) rfl ci) (cwV 3 hts gL_law_X9_second rfl rfl rfl (by decide +kernel) ⟨by rw [hR]; exact Nat.le_of_ble_eq_true rfl, by rw [hR]; exact Nat.le_of_ble_eq_true rfl⟩) ⟨gPre_blind, g_recv C h 0 (by decide) (ci := 9) rfl rfl, gS_pre C h _⟩ rfl rfl hl.1 rfl (lv_room (Nat.le_of_ble_eq_true rfl)) dL_law_247 hcs) h (fun r_16 v_18 w_19 g_20 H locs p_17 h => ?_)
  obtain ⟨p_17, rfl, rfl⟩ := p_17
  have u_21 := p_17.1
  have u_22 := cg
  have u_23 := mI_fC mi p_17.2.1 (by decide)
  refine lv_pop hx hb dL_law_250 rfl ?_
  refine lv_aload_n hx hb dL_law_251 rfl (lv_at hl 2 rfl) ?_
  refine lv_aload_n hx hb dL_law_252 rfl (lv_at hl 0 rfl) ?_
  refine lv_iload_n hx hb dL_law_253 rfl (lv_at hl 3 rfl) ?_
  refine lv_iconst (v := 1) hx hb dL_law_254 (by decide) ?_
  refine lv_iadd hx hb dL_law_255 ?_
  refine lv_topi (fun x_24 e_25 => ?_)
  have i_26 : x_24.toInt = (x3).toInt + 1 := ia_add e_25 rfl (by decide) (by omega) (by omega)
  refine va_sld hx hb hX hbl hbA h.2 (vp_of i_26 (by omega) (by omega)) dL_law_256 ?_
  refine lv_topi (fun x_27 e_28 => ?_)
  have s_29 : x_4 = x_27 := by rw [e_5, e_28, show x_1 = x_24 from (fa_eq _ _).mpr ((i_3).trans (i_26).symm)]
  subst s_29
  refine lv_aload_n hx hb dL_law_257 rfl (lv_at hl 0 rfl) ?_
  refine lv_iload_n hx hb dL_law_258 rfl (lv_at hl 3 rfl) ?_
  refine lv_iconst (v := 2) hx hb dL_law_259 (by decide) ?_
  refine lv_iadd hx hb dL_law_260 ?_
  refine lv_topi (fun x_30 e_31 => ?_)
  have i_32 : x_30.toInt = (x3).toInt + 2 := ia_add e_31 rfl (by decide) (by omega) (by omega)
  refine va_sld hx hb hX hbl hbA h.2 (vp_of i_32 (by omega) (by omega)) dL_law_261 ?_
  refine lv_topi (fun x_33 e_34 => ?_)
  have s_35 : x_9 = x_33 := by rw [e_10, e_34, show x_6 = x_30 from (fa_eq _ _).mpr ((i_8).trans (i_32).symm)]
  subst s_35
  refine lv_aload_n hx hb dL_law_262 rfl (lv_at hl 0 rfl) ?_
  refine lv_iload_n hx hb dL_law_263 rfl (lv_at hl 3 rfl) ?_
  refine lv_iconst (v := 3) hx hb dL_law_264 (by decide) ?_
  refine lv_iadd hx hb dL_law_265 ?_
  refine lv_topi (fun x_36 e_37 => ?_)
  have i_38 : x_36.toInt = (x3).toInt + 3 := ia_add e_37 rfl (by decide) (by omega) (by omega)
  refine va_sld hx hb hX hbl hbA h.2 (vp_of i_38 (by omega) (by omega)) dL_law_266 ?_
  refine lv_topi (fun x_39 e_40 => ?_)
  have s_41 : x_14 = x_39 := by rw [e_15, e_40, show x_11 = x_36 from (fa_eq _ _).mpr ((i_13).trans (i_38).symm)]
  subst s_41
  refine g_calli C (va_runV (As := [.int (x_4), .int (x_9), .int (x_14)]) (rest := []) C.1 (c_X10_second l G v_18 w sg x_4 (A1 := (x_4).toInt) rfl x_9 (A2 := (x_9).toInt) rfl x_14 (A3 := (x_14).toInt) rfl u_23) (cwV 3 hts gL_law_X10_second rfl rfl rfl (by decide +kernel) ⟨by rw [hR]; exact Nat.le_of_ble_eq_true rfl, by rw [hR]; exact Nat.le_of_ble_eq_true rfl⟩) ⟨gPre_blind, g_recv C h 106 (by decide) (ci := 10) rfl rfl, gS_pre C h _⟩ rfl rfl hl.1 rfl (lv_room (Nat.le_of_ble_eq_true rfl)) dL_law_267 hcs) h (fun r_42 v_44 w_45 g_46 H locs p_43 h => ?_)
  obtain ⟨p_43, rfl, rfl⟩ := p_43
  have u_47 := cI_fM u_21 p_43.2.1 (by decide)
  have u_48 := u_22
  have u_49 := p_43.1
  have hrl_50 := pr_second rfl rfl rfl rl ci mi p_17 p_43
  refine lv_pop hx hb dL_law_270 rfl ?_
  refine lv_goto (tgt := 1423) hx hb dL_law_271 (by decide) ?_
  exact K v_44 w sg _ _ _ u_47 u_48 u_49 hrl_50.2 h (lv_sub hl [0, 1, 2, 3] rfl)

set_option maxHeartbeats 4000000 in
set_option maxRecDepth 100000 in
theorem lc_2 {p : Program} {l : Launch} {e : Env} {R : Room} {s : State} {m : MethodId} {args : Array Value} {below : List Frame} {meth : Method} {c : Code} {H : Heap} {locs : List Loc} {cells slots : Nat} {Q : State → Prop} {ls : Array Slot} {A : Nat → Prop} {G : gG} {v : Nat → Nat → Int32} {w : Nat → Nat → Int64} {sg : Nat → Nat} {b L : Nat} {xs : Nat → Int32} {x3 : Int32}
    (C : gC p s m c code 4 args wsL_law RL A G) (hR : R = room_1) (hcs : cells ≤ R.cells ∧ slots ≤ R.slots) (hX : va_X b L xs s s.heap) (hbl : b < s.heap.size) (hbA : ¬ A b) (hi3 : 0 ≤ x3.toInt ∧ x3.toInt + 7 ≤ (L : Int)) (hL : L ≤ 3584) (ci : cI v) (cg : cG sg) (mi : mI v) (rl : Rl v) (h : gS A G s v w sg H locs) (hl : lv_has ls 4 [(0, .ref b), (1, .ref (G.2.2 (0))), (2, .ref (G.2.2 (106))), (3, .int (x3))])
    (K : ∀ (v : Nat → Nat → Int32) (w : Nat → Nat → Int64) (sg : Nat → Nat) (H : Heap) (locs : List Loc) (ls : Array Slot), cI v → cG sg → mI v → Rl v → gS A G s v w sg H locs → lv_has ls 4 [(0, .ref b), (1, .ref (G.2.2 (0))), (2, .ref (G.2.2 (106))), (3, .int (x3))] → W p l e R s m args below meth c H locs cells slots Q (F0 m 1423 ls [])) : W p l e R s m args below meth c H locs cells slots Q (F0 m 274 ls []) := by
  have hx := C.1.1
  have hb := C.1.2.1
  have hown := C.1.2.2.2.1
  have hts := C.1.2.2.2.2
  have z_0 : (0 : Int32).toInt = 0 := by decide
  have z_1 : (1 : Int32).toInt = 1 := by decide
  have z_2 : (2 : Int32).toInt = 2 := by decide
  have z_3 : (3 : Int32).toInt = 3 := by decide
  have z_4 : (4 : Int32).toInt = 4 := by decide
  refine lv_aload_n hx hb dL_law_274 rfl (lv_at hl 1 rfl) ?_
  refine lv_aload_n hx hb dL_law_275 rfl (lv_at hl 0 rfl) ?_
  refine lv_iload_n hx hb dL_law_276 rfl (lv_at hl 3 rfl) ?_
  refine lv_iconst (v := 1) hx hb dL_law_277 (by decide) ?_
  refine lv_iadd hx hb dL_law_278 ?_
  refine lv_topi (fun x_1 e_2 => ?_)
  have i_3 : x_1.toInt = (x3).toInt + 1 := ia_add e_2 rfl (by decide) (by omega) (by omega)
  refine va_sld hx hb hX hbl hbA h.2 (vp_of i_3 (by omega) (by omega)) dL_law_279 ?_
  refine lv_topi (fun x_4 e_5 => ?_)
  refine lv_aload_n hx hb dL_law_280 rfl (lv_at hl 0 rfl) ?_
  refine lv_iload_n hx hb dL_law_281 rfl (lv_at hl 3 rfl) ?_
  refine lv_iconst (v := 2) hx hb dL_law_282 (by decide) ?_
  refine lv_iadd hx hb dL_law_283 ?_
  refine lv_topi (fun x_6 e_7 => ?_)
  have i_8 : x_6.toInt = (x3).toInt + 2 := ia_add e_7 rfl (by decide) (by omega) (by omega)
  refine va_sld hx hb hX hbl hbA h.2 (vp_of i_8 (by omega) (by omega)) dL_law_284 ?_
  refine lv_topi (fun x_9 e_10 => ?_)
  refine lv_aload_n hx hb dL_law_285 rfl (lv_at hl 0 rfl) ?_
  refine lv_iload_n hx hb dL_law_286 rfl (lv_at hl 3 rfl) ?_
  refine lv_iconst (v := 3) hx hb dL_law_287 (by decide) ?_
  refine lv_iadd hx hb dL_law_288 ?_
  refine lv_topi (fun x_11 e_12 => ?_)
  have i_13 : x_11.toInt = (x3).toInt + 3 := ia_add e_12 rfl (by decide) (by omega) (by omega)
  refine va_sld hx hb hX hbl hbA h.2 (vp_of i_13 (by omega) (by omega)) dL_law_289 ?_
  refine lv_topi (fun x_14 e_15 => ?_)
  refine lv_aload_n hx hb dL_law_290 rfl (lv_at hl 0 rfl) ?_
  refine lv_iload_n hx hb dL_law_291 rfl (lv_at hl 3 rfl) ?_
  refine lv_iconst (v := 4) hx hb dL_law_292 (by decide) ?_
  refine lv_iadd hx hb dL_law_293 ?_
  refine lv_topi (fun x_16 e_17 => ?_)
  have i_18 : x_16.toInt = (x3).toInt + 4 := ia_add e_17 rfl (by decide) (by omega) (by omega)
  refine va_sld hx hb hX hbl hbA h.2 (vp_of i_18 (by omega) (by omega)) dL_law_294 ?_
  refine lv_topi (fun x_19 e_20 => ?_)
  refine g_calli C (va_runV (As := [.int (x_4), .int (x_9), .int (x_14), .int (x_19)]) (rest := []) C.1 (c_X9_reading l G v w sg x_4 (A1 := (x_4).toInt) rfl x_9 (A2 := (x_9).toInt) rfl x_14 (A3 := (x_14).toInt) rfl x_19 (A4 := (x_19).toInt) rfl ci) (cwV 4 hts gL_law_X9_reading rfl rfl rfl (by decide +kernel) ⟨by rw [hR]; exact Nat.le_of_ble_eq_true rfl, by rw [hR]; exact Nat.le_of_ble_eq_true rfl⟩) ⟨gPre_blind, g_recv C h 0 (by decide) (ci := 9) rfl rfl, gS_pre C h _⟩ rfl rfl hl.1 rfl (lv_room (Nat.le_of_ble_eq_true rfl)) dL_law_295 hcs) h (fun r_21 v_23 w_24 g_25 H locs p_22 h => ?_)
  obtain ⟨p_22, rfl, rfl, rfl⟩ := p_22
  refine lv_pop hx hb dL_law_298 rfl ?_
  refine lv_aload_n hx hb dL_law_299 rfl (lv_at hl 2 rfl) ?_
  refine lv_aload_n hx hb dL_law_300 rfl (lv_at hl 0 rfl) ?_
  refine lv_iload_n hx hb dL_law_301 rfl (lv_at hl 3 rfl) ?_
  refine lv_iconst (v := 1) hx hb dL_law_302 (by decide) ?_
  refine lv_iadd hx hb dL_law_303 ?_
  refine lv_topi (fun x_26 e_27 => ?_)
  have i_28 : x_26.toInt = (x3).toInt + 1 := ia_add e_27 rfl (by decide) (by omega) (by omega)
  refine va_sld hx hb hX hbl hbA h.2 (vp_of i_28 (by omega) (by omega)) dL_law_304 ?_
  refine lv_topi (fun x_29 e_30 => ?_)
  have s_31 : x_4 = x_29 := by rw [e_5, e_30, show x_1 = x_26 from (fa_eq _ _).mpr ((i_3).trans (i_28).symm)]
  subst s_31
  refine lv_aload_n hx hb dL_law_305 rfl (lv_at hl 0 rfl) ?_
  refine lv_iload_n hx hb dL_law_306 rfl (lv_at hl 3 rfl) ?_
  refine lv_iconst (v := 2) hx hb dL_law_307 (by decide) ?_
  refine lv_iadd hx hb dL_law_308 ?_
  refine lv_topi (fun x_32 e_33 => ?_)
  have i_34 : x_32.toInt = (x3).toInt + 2 := ia_add e_33 rfl (by decide) (by omega) (by omega)
  refine va_sld hx hb hX hbl hbA h.2 (vp_of i_34 (by omega) (by omega)) dL_law_309 ?_
  refine lv_topi (fun x_35 e_36 => ?_)
  have s_37 : x_9 = x_35 := by rw [e_10, e_36, show x_6 = x_32 from (fa_eq _ _).mpr ((i_8).trans (i_34).symm)]
  subst s_37
  refine lv_aload_n hx hb dL_law_310 rfl (lv_at hl 0 rfl) ?_
  refine lv_iload_n hx hb dL_law_311 rfl (lv_at hl 3 rfl) ?_
  refine lv_iconst (v := 3) hx hb dL_law_312 (by decide) ?_
  refine lv_iadd hx hb dL_law_313 ?_
  refine lv_topi (fun x_38 e_39 => ?_)
  have i_40 : x_38.toInt = (x3).toInt + 3 := ia_add e_39 rfl (by decide) (by omega) (by omega)
  refine va_sld hx hb hX hbl hbA h.2 (vp_of i_40 (by omega) (by omega)) dL_law_314 ?_
  refine lv_topi (fun x_41 e_42 => ?_)
  have s_43 : x_14 = x_41 := by rw [e_15, e_42, show x_11 = x_38 from (fa_eq _ _).mpr ((i_13).trans (i_40).symm)]
  subst s_43
  refine lv_aload_n hx hb dL_law_315 rfl (lv_at hl 0 rfl) ?_
  refine lv_iload_n hx hb dL_law_316 rfl (lv_at hl 3 rfl) ?_
  refine lv_iconst (v := 4) hx hb dL_law_317 (by decide) ?_
  refine lv_iadd hx hb dL_law_318 ?_
  refine lv_topi (fun x_44 e_45 => ?_)
  have i_46 : x_44.toInt = (x3).toInt + 4 := ia_add e_45 rfl (by decide) (by omega) (by omega)
  refine va_sld hx hb hX hbl hbA h.2 (vp_of i_46 (by omega) (by omega)) dL_law_319 ?_
  refine lv_topi (fun x_47 e_48 => ?_)
  have s_49 : x_19 = x_47 := by rw [e_20, e_48, show x_16 = x_44 from (fa_eq _ _).mpr ((i_18).trans (i_46).symm)]
  subst s_49
  refine g_calli C (va_runV (As := [.int (x_4), .int (x_9), .int (x_14), .int (x_19)]) (rest := []) C.1 (c_X10_reading l G v w sg x_4 (A1 := (x_4).toInt) rfl x_9 (A2 := (x_9).toInt) rfl x_14 (A3 := (x_14).toInt) rfl x_19 (A4 := (x_19).toInt) rfl mi) (cwV 4 hts gL_law_X10_reading rfl rfl rfl (by decide +kernel) ⟨by rw [hR]; exact Nat.le_of_ble_eq_true rfl, by rw [hR]; exact Nat.le_of_ble_eq_true rfl⟩) ⟨gPre_blind, g_recv C h 106 (by decide) (ci := 10) rfl rfl, gS_pre C h _⟩ rfl rfl hl.1 rfl (lv_room (Nat.le_of_ble_eq_true rfl)) dL_law_320 hcs) h (fun r_50 v_52 w_53 g_54 H locs p_51 h => ?_)
  obtain ⟨p_51, rfl, rfl, rfl⟩ := p_51
  have hrl_55 := pr_reading rfl rfl rfl rfl rl ci mi p_22 p_51
  refine lv_pop hx hb dL_law_323 rfl ?_
  refine lv_goto (tgt := 1423) hx hb dL_law_324 (by decide) ?_
  exact K v w sg _ _ _ ci cg mi hrl_55.2 h (lv_sub hl [0, 1, 2, 3] rfl)

set_option maxHeartbeats 4000000 in
set_option maxRecDepth 100000 in
theorem lc_3 {p : Program} {l : Launch} {e : Env} {R : Room} {s : State} {m : MethodId} {args : Array Value} {below : List Frame} {meth : Method} {c : Code} {H : Heap} {locs : List Loc} {cells slots : Nat} {Q : State → Prop} {ls : Array Slot} {A : Nat → Prop} {G : gG} {v : Nat → Nat → Int32} {w : Nat → Nat → Int64} {sg : Nat → Nat} {b L : Nat} {xs : Nat → Int32} {x3 : Int32}
    (C : gC p s m c code 4 args wsL_law RL A G) (hR : R = room_1) (hcs : cells ≤ R.cells ∧ slots ≤ R.slots) (hX : va_X b L xs s s.heap) (hbl : b < s.heap.size) (hbA : ¬ A b) (hi3 : 0 ≤ x3.toInt ∧ x3.toInt + 7 ≤ (L : Int)) (hL : L ≤ 3584) (ci : cI v) (cg : cG sg) (mi : mI v) (rl : Rl v) (h : gS A G s v w sg H locs) (hl : lv_has ls 4 [(0, .ref b), (1, .ref (G.2.2 (0))), (2, .ref (G.2.2 (106))), (3, .int (x3))])
    (K : ∀ (v : Nat → Nat → Int32) (w : Nat → Nat → Int64) (sg : Nat → Nat) (H : Heap) (locs : List Loc) (ls : Array Slot), cI v → cG sg → mI v → Rl v → gS A G s v w sg H locs → lv_has ls 4 [(0, .ref b), (1, .ref (G.2.2 (0))), (2, .ref (G.2.2 (106))), (3, .int (x3))] → W p l e R s m args below meth c H locs cells slots Q (F0 m 1423 ls [])) : W p l e R s m args below meth c H locs cells slots Q (F0 m 327 ls []) := by
  have hx := C.1.1
  have hb := C.1.2.1
  have hown := C.1.2.2.2.1
  have hts := C.1.2.2.2.2
  have z_0 : (0 : Int32).toInt = 0 := by decide
  have z_1 : (1 : Int32).toInt = 1 := by decide
  have z_2 : (2 : Int32).toInt = 2 := by decide
  have z_3 : (3 : Int32).toInt = 3 := by decide
  have z_4 : (4 : Int32).toInt = 4 := by decide
  refine lv_aload_n hx hb dL_law_327 rfl (lv_at hl 1 rfl) ?_
  refine lv_aload_n hx hb dL_law_328 rfl (lv_at hl 0 rfl) ?_
  refine lv_iload_n hx hb dL_law_329 rfl (lv_at hl 3 rfl) ?_
  refine lv_iconst (v := 1) hx hb dL_law_330 (by decide) ?_
  refine lv_iadd hx hb dL_law_331 ?_
  refine lv_topi (fun x_1 e_2 => ?_)
  have i_3 : x_1.toInt = (x3).toInt + 1 := ia_add e_2 rfl (by decide) (by omega) (by omega)
  refine va_sld hx hb hX hbl hbA h.2 (vp_of i_3 (by omega) (by omega)) dL_law_332 ?_
  refine lv_topi (fun x_4 e_5 => ?_)
  refine lv_aload_n hx hb dL_law_333 rfl (lv_at hl 0 rfl) ?_
  refine lv_iload_n hx hb dL_law_334 rfl (lv_at hl 3 rfl) ?_
  refine lv_iconst (v := 2) hx hb dL_law_335 (by decide) ?_
  refine lv_iadd hx hb dL_law_336 ?_
  refine lv_topi (fun x_6 e_7 => ?_)
  have i_8 : x_6.toInt = (x3).toInt + 2 := ia_add e_7 rfl (by decide) (by omega) (by omega)
  refine va_sld hx hb hX hbl hbA h.2 (vp_of i_8 (by omega) (by omega)) dL_law_337 ?_
  refine lv_topi (fun x_9 e_10 => ?_)
  refine lv_aload_n hx hb dL_law_338 rfl (lv_at hl 0 rfl) ?_
  refine lv_iload_n hx hb dL_law_339 rfl (lv_at hl 3 rfl) ?_
  refine lv_iconst (v := 3) hx hb dL_law_340 (by decide) ?_
  refine lv_iadd hx hb dL_law_341 ?_
  refine lv_topi (fun x_11 e_12 => ?_)
  have i_13 : x_11.toInt = (x3).toInt + 3 := ia_add e_12 rfl (by decide) (by omega) (by omega)
  refine va_sld hx hb hX hbl hbA h.2 (vp_of i_13 (by omega) (by omega)) dL_law_342 ?_
  refine lv_topi (fun x_14 e_15 => ?_)
  refine lv_aload_n hx hb dL_law_343 rfl (lv_at hl 0 rfl) ?_
  refine lv_iload_n hx hb dL_law_344 rfl (lv_at hl 3 rfl) ?_
  refine lv_iconst (v := 4) hx hb dL_law_345 (by decide) ?_
  refine lv_iadd hx hb dL_law_346 ?_
  refine lv_topi (fun x_16 e_17 => ?_)
  have i_18 : x_16.toInt = (x3).toInt + 4 := ia_add e_17 rfl (by decide) (by omega) (by omega)
  refine va_sld hx hb hX hbl hbA h.2 (vp_of i_18 (by omega) (by omega)) dL_law_347 ?_
  refine lv_topi (fun x_19 e_20 => ?_)
  refine g_calli C (va_runV (As := [.int (x_4), .int (x_9), .int (x_14), .int (x_19)]) (rest := []) C.1 (c_X9_back l G v w sg x_4 (A1 := (x_4).toInt) rfl x_9 (A2 := (x_9).toInt) rfl x_14 (A3 := (x_14).toInt) rfl x_19 (A4 := (x_19).toInt) rfl (h2_of rl) ci) (cwV 4 hts gL_law_X9_back rfl rfl rfl (by decide +kernel) ⟨by rw [hR]; exact Nat.le_of_ble_eq_true rfl, by rw [hR]; exact Nat.le_of_ble_eq_true rfl⟩) ⟨gPre_blind, g_recv C h 0 (by decide) (ci := 9) rfl rfl, gS_pre C h _⟩ rfl rfl hl.1 rfl (lv_room (Nat.le_of_ble_eq_true rfl)) dL_law_348 hcs) h (fun r_21 v_23 w_24 g_25 H locs p_22 h => ?_)
  obtain ⟨p_22, rfl⟩ := p_22
  have u_26 := p_22.1
  have u_27 := cg
  have u_28 := mI_fC mi p_22.2.1 (by decide)
  refine lv_pop hx hb dL_law_351 rfl ?_
  refine lv_aload_n hx hb dL_law_352 rfl (lv_at hl 2 rfl) ?_
  refine lv_aload_n hx hb dL_law_353 rfl (lv_at hl 0 rfl) ?_
  refine lv_iload_n hx hb dL_law_354 rfl (lv_at hl 3 rfl) ?_
  refine lv_iconst (v := 1) hx hb dL_law_355 (by decide) ?_
  refine lv_iadd hx hb dL_law_356 ?_
  refine lv_topi (fun x_29 e_30 => ?_)
  have i_31 : x_29.toInt = (x3).toInt + 1 := ia_add e_30 rfl (by decide) (by omega) (by omega)
  refine va_sld hx hb hX hbl hbA h.2 (vp_of i_31 (by omega) (by omega)) dL_law_357 ?_
  refine lv_topi (fun x_32 e_33 => ?_)
  have s_34 : x_4 = x_32 := by rw [e_5, e_33, show x_1 = x_29 from (fa_eq _ _).mpr ((i_3).trans (i_31).symm)]
  subst s_34
  refine lv_aload_n hx hb dL_law_358 rfl (lv_at hl 0 rfl) ?_
  refine lv_iload_n hx hb dL_law_359 rfl (lv_at hl 3 rfl) ?_
  refine lv_iconst (v := 2) hx hb dL_law_360 (by decide) ?_
  refine lv_iadd hx hb dL_law_361 ?_
  refine lv_topi (fun x_35 e_36 => ?_)
  have i_37 : x_35.toInt = (x3).toInt + 2 := ia_add e_36 rfl (by decide) (by omega) (by omega)
  refine va_sld hx hb hX hbl hbA h.2 (vp_of i_37 (by omega) (by omega)) dL_law_362 ?_
  refine lv_topi (fun x_38 e_39 => ?_)
  have s_40 : x_9 = x_38 := by rw [e_10, e_39, show x_6 = x_35 from (fa_eq _ _).mpr ((i_8).trans (i_37).symm)]
  subst s_40
  refine lv_aload_n hx hb dL_law_363 rfl (lv_at hl 0 rfl) ?_
  refine lv_iload_n hx hb dL_law_364 rfl (lv_at hl 3 rfl) ?_
  refine lv_iconst (v := 3) hx hb dL_law_365 (by decide) ?_
  refine lv_iadd hx hb dL_law_366 ?_
  refine lv_topi (fun x_41 e_42 => ?_)
  have i_43 : x_41.toInt = (x3).toInt + 3 := ia_add e_42 rfl (by decide) (by omega) (by omega)
  refine va_sld hx hb hX hbl hbA h.2 (vp_of i_43 (by omega) (by omega)) dL_law_367 ?_
  refine lv_topi (fun x_44 e_45 => ?_)
  have s_46 : x_14 = x_44 := by rw [e_15, e_45, show x_11 = x_41 from (fa_eq _ _).mpr ((i_13).trans (i_43).symm)]
  subst s_46
  refine lv_aload_n hx hb dL_law_368 rfl (lv_at hl 0 rfl) ?_
  refine lv_iload_n hx hb dL_law_369 rfl (lv_at hl 3 rfl) ?_
  refine lv_iconst (v := 4) hx hb dL_law_370 (by decide) ?_
  refine lv_iadd hx hb dL_law_371 ?_
  refine lv_topi (fun x_47 e_48 => ?_)
  have i_49 : x_47.toInt = (x3).toInt + 4 := ia_add e_48 rfl (by decide) (by omega) (by omega)
  refine va_sld hx hb hX hbl hbA h.2 (vp_of i_49 (by omega) (by omega)) dL_law_372 ?_
  refine lv_topi (fun x_50 e_51 => ?_)
  have s_52 : x_19 = x_50 := by rw [e_20, e_51, show x_16 = x_47 from (fa_eq _ _).mpr ((i_18).trans (i_49).symm)]
  subst s_52
  refine g_calli C (va_runV (As := [.int (x_4), .int (x_9), .int (x_14), .int (x_19)]) (rest := []) C.1 (c_X10_back l G v_23 w_24 sg x_4 (A1 := (x_4).toInt) rfl x_9 (A2 := (x_9).toInt) rfl x_14 (A3 := (x_14).toInt) rfl x_19 (A4 := (x_19).toInt) rfl (m2_of rl p_22.2.1 (by decide)) u_28) (cwV 4 hts gL_law_X10_back rfl rfl rfl (by decide +kernel) ⟨by rw [hR]; exact Nat.le_of_ble_eq_true rfl, by rw [hR]; exact Nat.le_of_ble_eq_true rfl⟩) ⟨gPre_blind, g_recv C h 106 (by decide) (ci := 10) rfl rfl, gS_pre C h _⟩ rfl rfl hl.1 rfl (lv_room (Nat.le_of_ble_eq_true rfl)) dL_law_373 hcs) h (fun r_53 v_55 w_56 g_57 H locs p_54 h => ?_)
  obtain ⟨p_54, rfl⟩ := p_54
  have u_58 := cI_fM u_26 p_54.2.1 (by decide)
  have u_59 := u_27
  have u_60 := p_54.1
  have hrl_61 := pr_back rfl rfl rfl rfl rl ci mi p_22 p_54
  refine lv_pop hx hb dL_law_376 rfl ?_
  refine lv_goto (tgt := 1423) hx hb dL_law_377 (by decide) ?_
  exact K v_55 w_56 sg _ _ _ u_58 u_59 u_60 hrl_61.2 h (lv_sub hl [0, 1, 2, 3] rfl)

set_option maxHeartbeats 4000000 in
set_option maxRecDepth 100000 in
theorem lc_4 {p : Program} {l : Launch} {e : Env} {R : Room} {s : State} {m : MethodId} {args : Array Value} {below : List Frame} {meth : Method} {c : Code} {H : Heap} {locs : List Loc} {cells slots : Nat} {Q : State → Prop} {ls : Array Slot} {A : Nat → Prop} {G : gG} {v : Nat → Nat → Int32} {w : Nat → Nat → Int64} {sg : Nat → Nat} {b L : Nat} {xs : Nat → Int32} {x3 : Int32}
    (C : gC p s m c code 4 args wsL_law RL A G) (hR : R = room_1) (hcs : cells ≤ R.cells ∧ slots ≤ R.slots) (hX : va_X b L xs s s.heap) (hbl : b < s.heap.size) (hbA : ¬ A b) (hi3 : 0 ≤ x3.toInt ∧ x3.toInt + 7 ≤ (L : Int)) (hL : L ≤ 3584) (ci : cI v) (cg : cG sg) (mi : mI v) (rl : Rl v) (h : gS A G s v w sg H locs) (hl : lv_has ls 4 [(0, .ref b), (1, .ref (G.2.2 (0))), (2, .ref (G.2.2 (106))), (3, .int (x3))])
    (K : ∀ (v : Nat → Nat → Int32) (w : Nat → Nat → Int64) (sg : Nat → Nat) (H : Heap) (locs : List Loc) (ls : Array Slot), cI v → cG sg → mI v → Rl v → gS A G s v w sg H locs → lv_has ls 4 [(0, .ref b), (1, .ref (G.2.2 (0))), (2, .ref (G.2.2 (106))), (3, .int (x3))] → W p l e R s m args below meth c H locs cells slots Q (F0 m 1423 ls [])) : W p l e R s m args below meth c H locs cells slots Q (F0 m 380 ls []) := by
  have hx := C.1.1
  have hb := C.1.2.1
  have hown := C.1.2.2.2.1
  have hts := C.1.2.2.2.2
  have z_0 : (0 : Int32).toInt = 0 := by decide
  have z_1 : (1 : Int32).toInt = 1 := by decide
  refine lv_aload_n hx hb dL_law_380 rfl (lv_at hl 1 rfl) ?_
  refine lv_aload_n hx hb dL_law_381 rfl (lv_at hl 0 rfl) ?_
  refine lv_iload_n hx hb dL_law_382 rfl (lv_at hl 3 rfl) ?_
  refine lv_iconst (v := 1) hx hb dL_law_383 (by decide) ?_
  refine lv_iadd hx hb dL_law_384 ?_
  refine lv_topi (fun x_1 e_2 => ?_)
  have i_3 : x_1.toInt = (x3).toInt + 1 := ia_add e_2 rfl (by decide) (by omega) (by omega)
  refine va_sld hx hb hX hbl hbA h.2 (vp_of i_3 (by omega) (by omega)) dL_law_385 ?_
  refine lv_topi (fun x_4 e_5 => ?_)
  refine g_calli C (va_runV (As := [.int (x_4)]) (rest := []) C.1 (c_X9_found l G v w sg x_4 (A1 := (x_4).toInt) rfl ci) (cwV 1 hts gL_law_X9_found rfl rfl rfl (by decide +kernel) ⟨by rw [hR]; exact Nat.le_of_ble_eq_true rfl, by rw [hR]; exact Nat.le_of_ble_eq_true rfl⟩) ⟨gPre_blind, g_recv C h 0 (by decide) (ci := 9) rfl rfl, gS_pre C h _⟩ rfl rfl hl.1 rfl (lv_room (Nat.le_of_ble_eq_true rfl)) dL_law_386 hcs) h (fun r_6 v_8 w_9 g_10 H locs p_7 h => ?_)
  obtain ⟨p_7, rfl, rfl, rfl⟩ := p_7
  refine lv_pop hx hb dL_law_389 rfl ?_
  refine lv_aload_n hx hb dL_law_390 rfl (lv_at hl 2 rfl) ?_
  refine lv_aload_n hx hb dL_law_391 rfl (lv_at hl 0 rfl) ?_
  refine lv_iload_n hx hb dL_law_392 rfl (lv_at hl 3 rfl) ?_
  refine lv_iconst (v := 1) hx hb dL_law_393 (by decide) ?_
  refine lv_iadd hx hb dL_law_394 ?_
  refine lv_topi (fun x_11 e_12 => ?_)
  have i_13 : x_11.toInt = (x3).toInt + 1 := ia_add e_12 rfl (by decide) (by omega) (by omega)
  refine va_sld hx hb hX hbl hbA h.2 (vp_of i_13 (by omega) (by omega)) dL_law_395 ?_
  refine lv_topi (fun x_14 e_15 => ?_)
  have s_16 : x_4 = x_14 := by rw [e_5, e_15, show x_1 = x_11 from (fa_eq _ _).mpr ((i_3).trans (i_13).symm)]
  subst s_16
  refine g_calli C (va_runV (As := [.int (x_4)]) (rest := []) C.1 (c_X10_found l G v w sg x_4 (A1 := (x_4).toInt) rfl mi) (cwV 1 hts gL_law_X10_found rfl rfl rfl (by decide +kernel) ⟨by rw [hR]; exact Nat.le_of_ble_eq_true rfl, by rw [hR]; exact Nat.le_of_ble_eq_true rfl⟩) ⟨gPre_blind, g_recv C h 106 (by decide) (ci := 10) rfl rfl, gS_pre C h _⟩ rfl rfl hl.1 rfl (lv_room (Nat.le_of_ble_eq_true rfl)) dL_law_396 hcs) h (fun r_17 v_19 w_20 g_21 H locs p_18 h => ?_)
  obtain ⟨p_18, rfl, rfl, rfl⟩ := p_18
  have hrl_22 := pr_found rfl rl ci mi p_7 p_18
  refine lv_pop hx hb dL_law_399 rfl ?_
  refine lv_goto (tgt := 1423) hx hb dL_law_400 (by decide) ?_
  exact K v w sg _ _ _ ci cg mi hrl_22.2 h (lv_sub hl [0, 1, 2, 3] rfl)

set_option maxHeartbeats 4000000 in
set_option maxRecDepth 100000 in
theorem lc_5 {p : Program} {l : Launch} {e : Env} {R : Room} {s : State} {m : MethodId} {args : Array Value} {below : List Frame} {meth : Method} {c : Code} {H : Heap} {locs : List Loc} {cells slots : Nat} {Q : State → Prop} {ls : Array Slot} {A : Nat → Prop} {G : gG} {v : Nat → Nat → Int32} {w : Nat → Nat → Int64} {sg : Nat → Nat} {b L : Nat} {xs : Nat → Int32} {x3 : Int32}
    (C : gC p s m c code 4 args wsL_law RL A G) (hR : R = room_1) (hcs : cells ≤ R.cells ∧ slots ≤ R.slots) (hX : va_X b L xs s s.heap) (hbl : b < s.heap.size) (hbA : ¬ A b) (hi3 : 0 ≤ x3.toInt ∧ x3.toInt + 7 ≤ (L : Int)) (hL : L ≤ 3584) (ci : cI v) (cg : cG sg) (mi : mI v) (rl : Rl v) (h : gS A G s v w sg H locs) (hl : lv_has ls 4 [(0, .ref b), (1, .ref (G.2.2 (0))), (2, .ref (G.2.2 (106))), (3, .int (x3))])
    (K : ∀ (v : Nat → Nat → Int32) (w : Nat → Nat → Int64) (sg : Nat → Nat) (H : Heap) (locs : List Loc) (ls : Array Slot), cI v → cG sg → mI v → Rl v → gS A G s v w sg H locs → lv_has ls 4 [(0, .ref b), (1, .ref (G.2.2 (0))), (2, .ref (G.2.2 (106))), (3, .int (x3))] → W p l e R s m args below meth c H locs cells slots Q (F0 m 1423 ls [])) : W p l e R s m args below meth c H locs cells slots Q (F0 m 403 ls []) := by
  have hx := C.1.1
  have hb := C.1.2.1
  have hown := C.1.2.2.2.1
  have hts := C.1.2.2.2.2
  have z_0 : (0 : Int32).toInt = 0 := by decide
  have z_1 : (1 : Int32).toInt = 1 := by decide
  have z_2 : (2 : Int32).toInt = 2 := by decide
  have z_3 : (3 : Int32).toInt = 3 := by decide
  have z_4 : (4 : Int32).toInt = 4 := by decide
  have z_5 : (5 : Int32).toInt = 5 := by decide
  have z_6 : (6 : Int32).toInt = 6 := by decide
  refine lv_aload_n hx hb dL_law_403 rfl (lv_at hl 1 rfl) ?_
  refine lv_aload_n hx hb dL_law_404 rfl (lv_at hl 0 rfl) ?_
  refine lv_iload_n hx hb dL_law_405 rfl (lv_at hl 3 rfl) ?_
  refine lv_iconst (v := 1) hx hb dL_law_406 (by decide) ?_
  refine lv_iadd hx hb dL_law_407 ?_
  refine lv_topi (fun x_1 e_2 => ?_)
  have i_3 : x_1.toInt = (x3).toInt + 1 := ia_add e_2 rfl (by decide) (by omega) (by omega)
  refine va_sld hx hb hX hbl hbA h.2 (vp_of i_3 (by omega) (by omega)) dL_law_408 ?_
  refine lv_topi (fun x_4 e_5 => ?_)
  refine lv_aload_n hx hb dL_law_409 rfl (lv_at hl 0 rfl) ?_
  refine lv_iload_n hx hb dL_law_410 rfl (lv_at hl 3 rfl) ?_
  refine lv_iconst (v := 2) hx hb dL_law_411 (by decide) ?_
  refine lv_iadd hx hb dL_law_412 ?_
  refine lv_topi (fun x_6 e_7 => ?_)
  have i_8 : x_6.toInt = (x3).toInt + 2 := ia_add e_7 rfl (by decide) (by omega) (by omega)
  refine va_sld hx hb hX hbl hbA h.2 (vp_of i_8 (by omega) (by omega)) dL_law_413 ?_
  refine lv_topi (fun x_9 e_10 => ?_)
  refine lv_aload_n hx hb dL_law_414 rfl (lv_at hl 0 rfl) ?_
  refine lv_iload_n hx hb dL_law_415 rfl (lv_at hl 3 rfl) ?_
  refine lv_iconst (v := 3) hx hb dL_law_416 (by decide) ?_
  refine lv_iadd hx hb dL_law_417 ?_
  refine lv_topi (fun x_11 e_12 => ?_)
  have i_13 : x_11.toInt = (x3).toInt + 3 := ia_add e_12 rfl (by decide) (by omega) (by omega)
  refine va_sld hx hb hX hbl hbA h.2 (vp_of i_13 (by omega) (by omega)) dL_law_418 ?_
  refine lv_topi (fun x_14 e_15 => ?_)
  refine lv_aload_n hx hb dL_law_419 rfl (lv_at hl 0 rfl) ?_
  refine lv_iload_n hx hb dL_law_420 rfl (lv_at hl 3 rfl) ?_
  refine lv_iconst (v := 4) hx hb dL_law_421 (by decide) ?_
  refine lv_iadd hx hb dL_law_422 ?_
  refine lv_topi (fun x_16 e_17 => ?_)
  have i_18 : x_16.toInt = (x3).toInt + 4 := ia_add e_17 rfl (by decide) (by omega) (by omega)
  refine va_sld hx hb hX hbl hbA h.2 (vp_of i_18 (by omega) (by omega)) dL_law_423 ?_
  refine lv_topi (fun x_19 e_20 => ?_)
  refine lv_aload_n hx hb dL_law_424 rfl (lv_at hl 0 rfl) ?_
  refine lv_iload_n hx hb dL_law_425 rfl (lv_at hl 3 rfl) ?_
  refine lv_iconst (v := 5) hx hb dL_law_426 (by decide) ?_
  refine lv_iadd hx hb dL_law_427 ?_
  refine lv_topi (fun x_21 e_22 => ?_)
  have i_23 : x_21.toInt = (x3).toInt + 5 := ia_add e_22 rfl (by decide) (by omega) (by omega)
  refine va_sld hx hb hX hbl hbA h.2 (vp_of i_23 (by omega) (by omega)) dL_law_428 ?_
  refine lv_topi (fun x_24 e_25 => ?_)
  refine lv_aload_n hx hb dL_law_429 rfl (lv_at hl 0 rfl) ?_
  refine lv_iload_n hx hb dL_law_430 rfl (lv_at hl 3 rfl) ?_
  refine lv_bipush (v := 6) hx hb dL_law_431 (by decide) ?_
  refine lv_iadd hx hb dL_law_433 ?_
  refine lv_topi (fun x_26 e_27 => ?_)
  have i_28 : x_26.toInt = (x3).toInt + 6 := ia_add e_27 rfl (by decide) (by omega) (by omega)
  refine va_sld hx hb hX hbl hbA h.2 (vp_of i_28 (by omega) (by omega)) dL_law_434 ?_
  refine lv_topi (fun x_29 e_30 => ?_)
  refine g_calli C (va_runV (As := [.int (x_4), .int (x_9), .int (x_14), .int (x_19), .int (x_24), .int (x_29)]) (rest := []) C.1 (c_X9_point l G v w sg x_4 (A1 := (x_4).toInt) rfl x_9 (A2 := (x_9).toInt) rfl x_14 (A3 := (x_14).toInt) rfl x_19 (A4 := (x_19).toInt) rfl x_24 (A5 := (x_24).toInt) rfl x_29 (A6 := (x_29).toInt) rfl ci) (cwV 6 hts gL_law_X9_point rfl rfl rfl (by decide +kernel) ⟨by rw [hR]; exact Nat.le_of_ble_eq_true rfl, by rw [hR]; exact Nat.le_of_ble_eq_true rfl⟩) ⟨gPre_blind, g_recv C h 0 (by decide) (ci := 9) rfl rfl, gS_pre C h _⟩ rfl rfl hl.1 rfl (lv_room (Nat.le_of_ble_eq_true rfl)) dL_law_435 hcs) h (fun r_31 v_33 w_34 g_35 H locs p_32 h => ?_)
  obtain ⟨p_32, rfl, rfl⟩ := p_32
  have u_36 := p_32.1
  have u_37 := cg
  have u_38 := mI_fC mi p_32.2.1 (by decide)
  refine lv_pop hx hb dL_law_438 rfl ?_
  refine lv_aload_n hx hb dL_law_439 rfl (lv_at hl 2 rfl) ?_
  refine lv_aload_n hx hb dL_law_440 rfl (lv_at hl 0 rfl) ?_
  refine lv_iload_n hx hb dL_law_441 rfl (lv_at hl 3 rfl) ?_
  refine lv_iconst (v := 1) hx hb dL_law_442 (by decide) ?_
  refine lv_iadd hx hb dL_law_443 ?_
  refine lv_topi (fun x_39 e_40 => ?_)
  have i_41 : x_39.toInt = (x3).toInt + 1 := ia_add e_40 rfl (by decide) (by omega) (by omega)
  refine va_sld hx hb hX hbl hbA h.2 (vp_of i_41 (by omega) (by omega)) dL_law_444 ?_
  refine lv_topi (fun x_42 e_43 => ?_)
  have s_44 : x_4 = x_42 := by rw [e_5, e_43, show x_1 = x_39 from (fa_eq _ _).mpr ((i_3).trans (i_41).symm)]
  subst s_44
  refine lv_aload_n hx hb dL_law_445 rfl (lv_at hl 0 rfl) ?_
  refine lv_iload_n hx hb dL_law_446 rfl (lv_at hl 3 rfl) ?_
  refine lv_iconst (v := 2) hx hb dL_law_447 (by decide) ?_
  refine lv_iadd hx hb dL_law_448 ?_
  refine lv_topi (fun x_45 e_46 => ?_)
  have i_47 : x_45.toInt = (x3).toInt + 2 := ia_add e_46 rfl (by decide) (by omega) (by omega)
  refine va_sld hx hb hX hbl hbA h.2 (vp_of i_47 (by omega) (by omega)) dL_law_449 ?_
  refine lv_topi (fun x_48 e_49 => ?_)
  have s_50 : x_9 = x_48 := by rw [e_10, e_49, show x_6 = x_45 from (fa_eq _ _).mpr ((i_8).trans (i_47).symm)]
  subst s_50
  refine lv_aload_n hx hb dL_law_450 rfl (lv_at hl 0 rfl) ?_
  refine lv_iload_n hx hb dL_law_451 rfl (lv_at hl 3 rfl) ?_
  refine lv_iconst (v := 3) hx hb dL_law_452 (by decide) ?_
  refine lv_iadd hx hb dL_law_453 ?_
  refine lv_topi (fun x_51 e_52 => ?_)
  have i_53 : x_51.toInt = (x3).toInt + 3 := ia_add e_52 rfl (by decide) (by omega) (by omega)
  refine va_sld hx hb hX hbl hbA h.2 (vp_of i_53 (by omega) (by omega)) dL_law_454 ?_
  refine lv_topi (fun x_54 e_55 => ?_)
  have s_56 : x_14 = x_54 := by rw [e_15, e_55, show x_11 = x_51 from (fa_eq _ _).mpr ((i_13).trans (i_53).symm)]
  subst s_56
  refine lv_aload_n hx hb dL_law_455 rfl (lv_at hl 0 rfl) ?_
  refine lv_iload_n hx hb dL_law_456 rfl (lv_at hl 3 rfl) ?_
  refine lv_iconst (v := 4) hx hb dL_law_457 (by decide) ?_
  refine lv_iadd hx hb dL_law_458 ?_
  refine lv_topi (fun x_57 e_58 => ?_)
  have i_59 : x_57.toInt = (x3).toInt + 4 := ia_add e_58 rfl (by decide) (by omega) (by omega)
  refine va_sld hx hb hX hbl hbA h.2 (vp_of i_59 (by omega) (by omega)) dL_law_459 ?_
  refine lv_topi (fun x_60 e_61 => ?_)
  have s_62 : x_19 = x_60 := by rw [e_20, e_61, show x_16 = x_57 from (fa_eq _ _).mpr ((i_18).trans (i_59).symm)]
  subst s_62
  refine lv_aload_n hx hb dL_law_460 rfl (lv_at hl 0 rfl) ?_
  refine lv_iload_n hx hb dL_law_461 rfl (lv_at hl 3 rfl) ?_
  refine lv_iconst (v := 5) hx hb dL_law_462 (by decide) ?_
  refine lv_iadd hx hb dL_law_463 ?_
  refine lv_topi (fun x_63 e_64 => ?_)
  have i_65 : x_63.toInt = (x3).toInt + 5 := ia_add e_64 rfl (by decide) (by omega) (by omega)
  refine va_sld hx hb hX hbl hbA h.2 (vp_of i_65 (by omega) (by omega)) dL_law_464 ?_
  refine lv_topi (fun x_66 e_67 => ?_)
  have s_68 : x_24 = x_66 := by rw [e_25, e_67, show x_21 = x_63 from (fa_eq _ _).mpr ((i_23).trans (i_65).symm)]
  subst s_68
  refine lv_aload_n hx hb dL_law_465 rfl (lv_at hl 0 rfl) ?_
  refine lv_iload_n hx hb dL_law_466 rfl (lv_at hl 3 rfl) ?_
  refine lv_bipush (v := 6) hx hb dL_law_467 (by decide) ?_
  refine lv_iadd hx hb dL_law_469 ?_
  refine lv_topi (fun x_69 e_70 => ?_)
  have i_71 : x_69.toInt = (x3).toInt + 6 := ia_add e_70 rfl (by decide) (by omega) (by omega)
  refine va_sld hx hb hX hbl hbA h.2 (vp_of i_71 (by omega) (by omega)) dL_law_470 ?_
  refine lv_topi (fun x_72 e_73 => ?_)
  have s_74 : x_29 = x_72 := by rw [e_30, e_73, show x_26 = x_69 from (fa_eq _ _).mpr ((i_28).trans (i_71).symm)]
  subst s_74
  refine g_calli C (va_runV (As := [.int (x_4), .int (x_9), .int (x_14), .int (x_19), .int (x_24), .int (x_29)]) (rest := []) C.1 (c_X10_point l G v_33 w sg x_4 (A1 := (x_4).toInt) rfl x_9 (A2 := (x_9).toInt) rfl x_14 (A3 := (x_14).toInt) rfl x_19 (A4 := (x_19).toInt) rfl x_24 (A5 := (x_24).toInt) rfl x_29 (A6 := (x_29).toInt) rfl u_38) (cwV 6 hts gL_law_X10_point rfl rfl rfl (by decide +kernel) ⟨by rw [hR]; exact Nat.le_of_ble_eq_true rfl, by rw [hR]; exact Nat.le_of_ble_eq_true rfl⟩) ⟨gPre_blind, g_recv C h 106 (by decide) (ci := 10) rfl rfl, gS_pre C h _⟩ rfl rfl hl.1 rfl (lv_room (Nat.le_of_ble_eq_true rfl)) dL_law_471 hcs) h (fun r_75 v_77 w_78 g_79 H locs p_76 h => ?_)
  obtain ⟨p_76, rfl, rfl⟩ := p_76
  have u_80 := cI_fM u_36 p_76.2.1 (by decide)
  have u_81 := u_37
  have u_82 := p_76.1
  have hrl_83 := pr_point rfl rfl rfl rfl rfl rfl rl ci mi p_32 p_76
  refine lv_pop hx hb dL_law_474 rfl ?_
  refine lv_goto (tgt := 1423) hx hb dL_law_475 (by decide) ?_
  exact K v_77 w sg _ _ _ u_80 u_81 u_82 hrl_83.2 h (lv_sub hl [0, 1, 2, 3] rfl)

set_option maxHeartbeats 4000000 in
set_option maxRecDepth 100000 in
theorem lc_6 {p : Program} {l : Launch} {e : Env} {R : Room} {s : State} {m : MethodId} {args : Array Value} {below : List Frame} {meth : Method} {c : Code} {H : Heap} {locs : List Loc} {cells slots : Nat} {Q : State → Prop} {ls : Array Slot} {A : Nat → Prop} {G : gG} {v : Nat → Nat → Int32} {w : Nat → Nat → Int64} {sg : Nat → Nat} {b L : Nat} {xs : Nat → Int32} {x3 : Int32}
    (C : gC p s m c code 4 args wsL_law RL A G) (hR : R = room_1) (hcs : cells ≤ R.cells ∧ slots ≤ R.slots) (hX : va_X b L xs s s.heap) (hbl : b < s.heap.size) (hbA : ¬ A b) (hi3 : 0 ≤ x3.toInt ∧ x3.toInt + 7 ≤ (L : Int)) (hL : L ≤ 3584) (ci : cI v) (cg : cG sg) (mi : mI v) (rl : Rl v) (h : gS A G s v w sg H locs) (hl : lv_has ls 4 [(0, .ref b), (1, .ref (G.2.2 (0))), (2, .ref (G.2.2 (106))), (3, .int (x3))])
    (K : ∀ (v : Nat → Nat → Int32) (w : Nat → Nat → Int64) (sg : Nat → Nat) (H : Heap) (locs : List Loc) (ls : Array Slot), cI v → cG sg → mI v → Rl v → gS A G s v w sg H locs → lv_has ls 4 [(0, .ref b), (1, .ref (G.2.2 (0))), (2, .ref (G.2.2 (106))), (3, .int (x3))] → W p l e R s m args below meth c H locs cells slots Q (F0 m 1423 ls [])) : W p l e R s m args below meth c H locs cells slots Q (F0 m 478 ls []) := by
  have hx := C.1.1
  have hb := C.1.2.1
  have hown := C.1.2.2.2.1
  have hts := C.1.2.2.2.2
  have z_0 : (0 : Int32).toInt = 0 := by decide
  have z_1 : (1 : Int32).toInt = 1 := by decide
  have z_2 : (2 : Int32).toInt = 2 := by decide
  have z_3 : (3 : Int32).toInt = 3 := by decide
  refine lv_aload_n hx hb dL_law_478 rfl (lv_at hl 1 rfl) ?_
  refine lv_aload_n hx hb dL_law_479 rfl (lv_at hl 0 rfl) ?_
  refine lv_iload_n hx hb dL_law_480 rfl (lv_at hl 3 rfl) ?_
  refine lv_iconst (v := 1) hx hb dL_law_481 (by decide) ?_
  refine lv_iadd hx hb dL_law_482 ?_
  refine lv_topi (fun x_1 e_2 => ?_)
  have i_3 : x_1.toInt = (x3).toInt + 1 := ia_add e_2 rfl (by decide) (by omega) (by omega)
  refine va_sld hx hb hX hbl hbA h.2 (vp_of i_3 (by omega) (by omega)) dL_law_483 ?_
  refine lv_topi (fun x_4 e_5 => ?_)
  refine lv_aload_n hx hb dL_law_484 rfl (lv_at hl 0 rfl) ?_
  refine lv_iload_n hx hb dL_law_485 rfl (lv_at hl 3 rfl) ?_
  refine lv_iconst (v := 2) hx hb dL_law_486 (by decide) ?_
  refine lv_iadd hx hb dL_law_487 ?_
  refine lv_topi (fun x_6 e_7 => ?_)
  have i_8 : x_6.toInt = (x3).toInt + 2 := ia_add e_7 rfl (by decide) (by omega) (by omega)
  refine va_sld hx hb hX hbl hbA h.2 (vp_of i_8 (by omega) (by omega)) dL_law_488 ?_
  refine lv_topi (fun x_9 e_10 => ?_)
  refine lv_aload_n hx hb dL_law_489 rfl (lv_at hl 0 rfl) ?_
  refine lv_iload_n hx hb dL_law_490 rfl (lv_at hl 3 rfl) ?_
  refine lv_iconst (v := 3) hx hb dL_law_491 (by decide) ?_
  refine lv_iadd hx hb dL_law_492 ?_
  refine lv_topi (fun x_11 e_12 => ?_)
  have i_13 : x_11.toInt = (x3).toInt + 3 := ia_add e_12 rfl (by decide) (by omega) (by omega)
  refine va_sld hx hb hX hbl hbA h.2 (vp_of i_13 (by omega) (by omega)) dL_law_493 ?_
  refine lv_topi (fun x_14 e_15 => ?_)
  refine g_calll C (va_runV (As := [.int (x_4), .int (x_9), .int (x_14)]) (rest := []) C.1 (c_X9_fit l G v w sg x_4 (A1 := (x_4).toInt) rfl x_9 (A2 := (x_9).toInt) rfl x_14 (A3 := (x_14).toInt) rfl ci) (cwV 3 hts gL_law_X9_fit rfl rfl rfl (by decide +kernel) ⟨by rw [hR]; exact Nat.le_of_ble_eq_true rfl, by rw [hR]; exact Nat.le_of_ble_eq_true rfl⟩) ⟨gPre_blind, g_recv C h 0 (by decide) (ci := 9) rfl rfl, gS_pre C h _⟩ rfl rfl hl.1 rfl (lv_room (Nat.le_of_ble_eq_true rfl)) dL_law_494 hcs) h (fun r_16 v_18 w_19 g_20 H locs p_17 h => ?_)
  obtain ⟨p_17, rfl, rfl⟩ := p_17
  have u_21 := p_17.1
  have u_22 := cg
  have u_23 := mI_fC mi p_17.2.1 (by decide)
  refine lv_pop2_2 hx hb dL_law_497 rfl ?_
  refine lv_aload_n hx hb dL_law_498 rfl (lv_at hl 2 rfl) ?_
  refine lv_aload_n hx hb dL_law_499 rfl (lv_at hl 0 rfl) ?_
  refine lv_iload_n hx hb dL_law_500 rfl (lv_at hl 3 rfl) ?_
  refine lv_iconst (v := 1) hx hb dL_law_501 (by decide) ?_
  refine lv_iadd hx hb dL_law_502 ?_
  refine lv_topi (fun x_24 e_25 => ?_)
  have i_26 : x_24.toInt = (x3).toInt + 1 := ia_add e_25 rfl (by decide) (by omega) (by omega)
  refine va_sld hx hb hX hbl hbA h.2 (vp_of i_26 (by omega) (by omega)) dL_law_503 ?_
  refine lv_topi (fun x_27 e_28 => ?_)
  have s_29 : x_4 = x_27 := by rw [e_5, e_28, show x_1 = x_24 from (fa_eq _ _).mpr ((i_3).trans (i_26).symm)]
  subst s_29
  refine lv_aload_n hx hb dL_law_504 rfl (lv_at hl 0 rfl) ?_
  refine lv_iload_n hx hb dL_law_505 rfl (lv_at hl 3 rfl) ?_
  refine lv_iconst (v := 2) hx hb dL_law_506 (by decide) ?_
  refine lv_iadd hx hb dL_law_507 ?_
  refine lv_topi (fun x_30 e_31 => ?_)
  have i_32 : x_30.toInt = (x3).toInt + 2 := ia_add e_31 rfl (by decide) (by omega) (by omega)
  refine va_sld hx hb hX hbl hbA h.2 (vp_of i_32 (by omega) (by omega)) dL_law_508 ?_
  refine lv_topi (fun x_33 e_34 => ?_)
  have s_35 : x_9 = x_33 := by rw [e_10, e_34, show x_6 = x_30 from (fa_eq _ _).mpr ((i_8).trans (i_32).symm)]
  subst s_35
  refine lv_aload_n hx hb dL_law_509 rfl (lv_at hl 0 rfl) ?_
  refine lv_iload_n hx hb dL_law_510 rfl (lv_at hl 3 rfl) ?_
  refine lv_iconst (v := 3) hx hb dL_law_511 (by decide) ?_
  refine lv_iadd hx hb dL_law_512 ?_
  refine lv_topi (fun x_36 e_37 => ?_)
  have i_38 : x_36.toInt = (x3).toInt + 3 := ia_add e_37 rfl (by decide) (by omega) (by omega)
  refine va_sld hx hb hX hbl hbA h.2 (vp_of i_38 (by omega) (by omega)) dL_law_513 ?_
  refine lv_topi (fun x_39 e_40 => ?_)
  have s_41 : x_14 = x_39 := by rw [e_15, e_40, show x_11 = x_36 from (fa_eq _ _).mpr ((i_13).trans (i_38).symm)]
  subst s_41
  refine g_calll C (va_runV (As := [.int (x_4), .int (x_9), .int (x_14)]) (rest := []) C.1 (c_X10_fit l G v w_19 sg x_4 (A1 := (x_4).toInt) rfl x_9 (A2 := (x_9).toInt) rfl x_14 (A3 := (x_14).toInt) rfl u_23) (cwV 3 hts gL_law_X10_fit rfl rfl rfl (by decide +kernel) ⟨by rw [hR]; exact Nat.le_of_ble_eq_true rfl, by rw [hR]; exact Nat.le_of_ble_eq_true rfl⟩) ⟨gPre_blind, g_recv C h 106 (by decide) (ci := 10) rfl rfl, gS_pre C h _⟩ rfl rfl hl.1 rfl (lv_room (Nat.le_of_ble_eq_true rfl)) dL_law_514 hcs) h (fun r_42 v_44 w_45 g_46 H locs p_43 h => ?_)
  obtain ⟨p_43, rfl, rfl⟩ := p_43
  have u_47 := cI_fM u_21 p_43.2.1 (by decide)
  have u_48 := u_22
  have u_49 := p_43.1
  have hrl_50 := pr_fit rfl rfl rfl rl ci mi p_17 p_43
  refine lv_pop2_2 hx hb dL_law_517 rfl ?_
  refine lv_goto (tgt := 1423) hx hb dL_law_518 (by decide) ?_
  exact K v w_45 sg _ _ _ u_47 u_48 u_49 hrl_50.2 h (lv_sub hl [0, 1, 2, 3] rfl)

set_option maxHeartbeats 4000000 in
set_option maxRecDepth 100000 in
theorem lc_7 {p : Program} {l : Launch} {e : Env} {R : Room} {s : State} {m : MethodId} {args : Array Value} {below : List Frame} {meth : Method} {c : Code} {H : Heap} {locs : List Loc} {cells slots : Nat} {Q : State → Prop} {ls : Array Slot} {A : Nat → Prop} {G : gG} {v : Nat → Nat → Int32} {w : Nat → Nat → Int64} {sg : Nat → Nat} {b L : Nat} {xs : Nat → Int32} {x3 : Int32}
    (C : gC p s m c code 4 args wsL_law RL A G) (hR : R = room_1) (hcs : cells ≤ R.cells ∧ slots ≤ R.slots) (hX : va_X b L xs s s.heap) (hbl : b < s.heap.size) (hbA : ¬ A b) (hi3 : 0 ≤ x3.toInt ∧ x3.toInt + 7 ≤ (L : Int)) (hL : L ≤ 3584) (ci : cI v) (cg : cG sg) (mi : mI v) (rl : Rl v) (h : gS A G s v w sg H locs) (hl : lv_has ls 4 [(0, .ref b), (1, .ref (G.2.2 (0))), (2, .ref (G.2.2 (106))), (3, .int (x3))])
    (K : ∀ (v : Nat → Nat → Int32) (w : Nat → Nat → Int64) (sg : Nat → Nat) (H : Heap) (locs : List Loc) (ls : Array Slot), cI v → cG sg → mI v → Rl v → gS A G s v w sg H locs → lv_has ls 4 [(0, .ref b), (1, .ref (G.2.2 (0))), (2, .ref (G.2.2 (106))), (3, .int (x3))] → W p l e R s m args below meth c H locs cells slots Q (F0 m 1423 ls [])) : W p l e R s m args below meth c H locs cells slots Q (F0 m 521 ls []) := by
  have hx := C.1.1
  have hb := C.1.2.1
  have hown := C.1.2.2.2.1
  have hts := C.1.2.2.2.2
  have z_0 : (0 : Int32).toInt = 0 := by decide
  have z_1 : (1 : Int32).toInt = 1 := by decide
  refine lv_aload_n hx hb dL_law_521 rfl (lv_at hl 1 rfl) ?_
  refine lv_aload_n hx hb dL_law_522 rfl (lv_at hl 0 rfl) ?_
  refine lv_iload_n hx hb dL_law_523 rfl (lv_at hl 3 rfl) ?_
  refine lv_iconst (v := 1) hx hb dL_law_524 (by decide) ?_
  refine lv_iadd hx hb dL_law_525 ?_
  refine lv_topi (fun x_1 e_2 => ?_)
  have i_3 : x_1.toInt = (x3).toInt + 1 := ia_add e_2 rfl (by decide) (by omega) (by omega)
  refine va_sld hx hb hX hbl hbA h.2 (vp_of i_3 (by omega) (by omega)) dL_law_526 ?_
  refine lv_topi (fun x_4 e_5 => ?_)
  refine g_calli C (va_runV (As := [.int (x_4)]) (rest := []) C.1 (c_X9_miss l G v w sg x_4 (A1 := (x_4).toInt) rfl ci) (cwV 1 hts gL_law_X9_miss rfl rfl rfl (by decide +kernel) ⟨by rw [hR]; exact Nat.le_of_ble_eq_true rfl, by rw [hR]; exact Nat.le_of_ble_eq_true rfl⟩) ⟨gPre_blind, g_recv C h 0 (by decide) (ci := 9) rfl rfl, gS_pre C h _⟩ rfl rfl hl.1 rfl (lv_room (Nat.le_of_ble_eq_true rfl)) dL_law_527 hcs) h (fun r_6 v_8 w_9 g_10 H locs p_7 h => ?_)
  obtain ⟨p_7, rfl, rfl, rfl⟩ := p_7
  refine lv_pop hx hb dL_law_530 rfl ?_
  refine lv_aload_n hx hb dL_law_531 rfl (lv_at hl 2 rfl) ?_
  refine lv_aload_n hx hb dL_law_532 rfl (lv_at hl 0 rfl) ?_
  refine lv_iload_n hx hb dL_law_533 rfl (lv_at hl 3 rfl) ?_
  refine lv_iconst (v := 1) hx hb dL_law_534 (by decide) ?_
  refine lv_iadd hx hb dL_law_535 ?_
  refine lv_topi (fun x_11 e_12 => ?_)
  have i_13 : x_11.toInt = (x3).toInt + 1 := ia_add e_12 rfl (by decide) (by omega) (by omega)
  refine va_sld hx hb hX hbl hbA h.2 (vp_of i_13 (by omega) (by omega)) dL_law_536 ?_
  refine lv_topi (fun x_14 e_15 => ?_)
  have s_16 : x_4 = x_14 := by rw [e_5, e_15, show x_1 = x_11 from (fa_eq _ _).mpr ((i_3).trans (i_13).symm)]
  subst s_16
  refine g_calli C (va_runV (As := [.int (x_4)]) (rest := []) C.1 (c_X10_miss l G v w sg x_4 (A1 := (x_4).toInt) rfl mi) (cwV 1 hts gL_law_X10_miss rfl rfl rfl (by decide +kernel) ⟨by rw [hR]; exact Nat.le_of_ble_eq_true rfl, by rw [hR]; exact Nat.le_of_ble_eq_true rfl⟩) ⟨gPre_blind, g_recv C h 106 (by decide) (ci := 10) rfl rfl, gS_pre C h _⟩ rfl rfl hl.1 rfl (lv_room (Nat.le_of_ble_eq_true rfl)) dL_law_537 hcs) h (fun r_17 v_19 w_20 g_21 H locs p_18 h => ?_)
  obtain ⟨p_18, rfl, rfl, rfl⟩ := p_18
  have hrl_22 := pr_miss rfl rl ci mi p_7 p_18
  refine lv_pop hx hb dL_law_540 rfl ?_
  refine lv_goto (tgt := 1423) hx hb dL_law_541 (by decide) ?_
  exact K v w sg _ _ _ ci cg mi hrl_22.2 h (lv_sub hl [0, 1, 2, 3] rfl)

set_option maxHeartbeats 4000000 in
set_option maxRecDepth 100000 in
theorem lc_8 {p : Program} {l : Launch} {e : Env} {R : Room} {s : State} {m : MethodId} {args : Array Value} {below : List Frame} {meth : Method} {c : Code} {H : Heap} {locs : List Loc} {cells slots : Nat} {Q : State → Prop} {ls : Array Slot} {A : Nat → Prop} {G : gG} {v : Nat → Nat → Int32} {w : Nat → Nat → Int64} {sg : Nat → Nat} {b L : Nat} {xs : Nat → Int32} {x3 : Int32}
    (C : gC p s m c code 4 args wsL_law RL A G) (hR : R = room_1) (hcs : cells ≤ R.cells ∧ slots ≤ R.slots) (hX : va_X b L xs s s.heap) (hbl : b < s.heap.size) (hbA : ¬ A b) (hi3 : 0 ≤ x3.toInt ∧ x3.toInt + 7 ≤ (L : Int)) (hL : L ≤ 3584) (ci : cI v) (cg : cG sg) (mi : mI v) (rl : Rl v) (h : gS A G s v w sg H locs) (hl : lv_has ls 4 [(0, .ref b), (1, .ref (G.2.2 (0))), (2, .ref (G.2.2 (106))), (3, .int (x3))])
    (K : ∀ (v : Nat → Nat → Int32) (w : Nat → Nat → Int64) (sg : Nat → Nat) (H : Heap) (locs : List Loc) (ls : Array Slot), cI v → cG sg → mI v → Rl v → gS A G s v w sg H locs → lv_has ls 4 [(0, .ref b), (1, .ref (G.2.2 (0))), (2, .ref (G.2.2 (106))), (3, .int (x3))] → W p l e R s m args below meth c H locs cells slots Q (F0 m 1423 ls [])) : W p l e R s m args below meth c H locs cells slots Q (F0 m 544 ls []) := by
  have hx := C.1.1
  have hb := C.1.2.1
  have hown := C.1.2.2.2.1
  have hts := C.1.2.2.2.2
  have z_0 : (0 : Int32).toInt = 0 := by decide
  have z_1 : (1 : Int32).toInt = 1 := by decide
  refine lv_aload_n hx hb dL_law_544 rfl (lv_at hl 1 rfl) ?_
  refine g_calli C (va_runV (As := []) (rest := []) C.1 (c_X9_forget l G v w sg  ci) (cwV 0 hts gL_law_X9_forget rfl rfl rfl (by decide +kernel) ⟨by rw [hR]; exact Nat.le_of_ble_eq_true rfl, by rw [hR]; exact Nat.le_of_ble_eq_true rfl⟩) ⟨gPre_blind, g_recv C h 0 (by decide) (ci := 9) rfl rfl, gS_pre C h _⟩ rfl rfl hl.1 rfl (lv_room (Nat.le_of_ble_eq_true rfl)) dL_law_545 hcs) h (fun r_1 v_3 w_4 g_5 H locs p_2 h => ?_)
  obtain ⟨p_2, rfl, rfl⟩ := p_2
  have u_6 := p_2.1
  have u_7 := cg
  have u_8 := mI_fC mi p_2.2.1 (by decide)
  refine lv_pop hx hb dL_law_548 rfl ?_
  refine lv_aload_n hx hb dL_law_549 rfl (lv_at hl 2 rfl) ?_
  refine g_calli C (va_runV (As := []) (rest := []) C.1 (c_X10_forget l G v_3 w sg  u_8) (cwV 0 hts gL_law_X10_forget rfl rfl rfl (by decide +kernel) ⟨by rw [hR]; exact Nat.le_of_ble_eq_true rfl, by rw [hR]; exact Nat.le_of_ble_eq_true rfl⟩) ⟨gPre_blind, g_recv C h 106 (by decide) (ci := 10) rfl rfl, gS_pre C h _⟩ rfl rfl hl.1 rfl (lv_room (Nat.le_of_ble_eq_true rfl)) dL_law_550 hcs) h (fun r_9 v_11 w_12 g_13 H locs p_10 h => ?_)
  obtain ⟨p_10, rfl, rfl⟩ := p_10
  have u_14 := cI_fM u_6 p_10.2.1 (by decide)
  have u_15 := u_7
  have u_16 := p_10.1
  have hrl_17 := pr_forget  rl ci mi p_2 p_10
  refine lv_pop hx hb dL_law_553 rfl ?_
  refine lv_goto (tgt := 1423) hx hb dL_law_554 (by decide) ?_
  exact K v_11 w sg _ _ _ u_14 u_15 u_16 hrl_17.2 h (lv_sub hl [0, 1, 2, 3] rfl)
