set_option maxHeartbeats 4000000 in
set_option maxRecDepth 100000 in
theorem c_J9_floorDiv_7cf53 (l : Launch) (G : gG) (v : Nat → Nat → Int32) (w : Nat → Nat → Int64) (sg : Nat → Nat) (p0 : Int32) {A0 : Int} (a0 : p0.toInt = A0) (p1 : Int32) {A1 : Int} (a1 : p1.toInt = A1) (hd : 0 < A1) : Met l yJ9_floorDiv_7cf53 wsJ9_floorDiv_7cf53 ({ frames := 0, cells := 0, slots := 0, locals := 0 }) (gPre G v w sg [.int (p0), .int (p1)]) (gQi G (fun r v' w' sg' => (r.toInt = A0 / A1 ∧ fdB A0 r.toInt) ∧ v = v' ∧ w = w' ∧ sg = sg')) 0 0 (gA G) := by
  refine gM_ofFi (cc := cJ9_floorDiv_7cf53) (maxL := 3) (by decide +kernel) rfl (Nat.le_of_ble_eq_true rfl) ?_
  intro p e R s m args below meth c Q ls C hR ret h hl
  have hx := C.1.1
  have hb := C.1.2.1
  have hown := C.1.2.2.2.1
  have hts := C.1.2.2.2.2
  have hl : lv_has ls 3 [(0, .int (p0)), (1, .int (p1))] := hl
  have q0 := i_rng p0; rw [a0] at q0
  have q1 := i_rng p1; rw [a1] at q1
  have z_0 : (0 : Int32).toInt = 0 := by decide
  have z_1 : (1 : Int32).toInt = 1 := by decide
  refine lv_iload_n hx hb dJ9_floorDiv_7cf53_0 rfl (lv_at hl 0 rfl) ?_
  refine lv_iload_n hx hb dJ9_floorDiv_7cf53_1 rfl (lv_at hl 1 rfl) ?_
  refine lv_idiv hx hb dJ9_floorDiv_7cf53_2 (i_ne0 a1 (by omega)) ?_
  refine lv_topi (fun x_1 e_2 => ?_)
  have hdv := fd_a e_2 a0 a1 hd
  refine lv_istore_n (lv' := [(2, .int (x_1)), (0, .int (p0)), (1, .int (p1))]) hx hb dJ9_floorDiv_7cf53_3 rfl hl (by decide) rfl (fun ls hl => ?_)
  refine lv_iload_n hx hb dJ9_floorDiv_7cf53_4 rfl (lv_at hl 1 rfl) ?_
  refine lv_iload_n hx hb dJ9_floorDiv_7cf53_5 rfl (lv_at hl 2 rfl) ?_
  refine lv_ixor hx hb dJ9_floorDiv_7cf53_6 ?_
  refine lv_topi (fun x_3 e_4 => ?_)
  have hxs := xor_sg e_4 a0 a1 (by omega)
  refine lv_if_ge (tgt := 21) hx hb dJ9_floorDiv_7cf53_7 (by decide) (fun c_5 => ?_) (fun c_5 => ?_)
  · have j_6 : 0 ≤ (x_3).toInt := (i_le (by decide) rfl).mp c_5
    refine lv_iload_n hx hb dJ9_floorDiv_7cf53_21 rfl (lv_at hl 0 rfl) ?_
    exact ret x_1 v w sg _ _ _ _ dJ9_floorDiv_7cf53_22 h ⟨(by have hq : x_1.toInt = A0 / A1 := (by omega); exact ⟨hq, hq ▸ fdB_of hd⟩), rfl, rfl, rfl⟩
  · have j_6 : ¬ (0 ≤ (x_3).toInt) := fun q => c_5 ((i_le (by decide) rfl).mpr q)
    refine lv_iload_n hx hb dJ9_floorDiv_7cf53_10 rfl (lv_at hl 0 rfl) ?_
    refine lv_iload_n hx hb dJ9_floorDiv_7cf53_11 rfl (lv_at hl 2 rfl) ?_
    refine lv_imul hx hb dJ9_floorDiv_7cf53_12 ?_
    refine lv_topi (fun x_7 e_8 => ?_)
    refine lv_iload_n hx hb dJ9_floorDiv_7cf53_13 rfl (lv_at hl 1 rfl) ?_
    have hz : (x_7 : Int32).toInt = ((x_1 : Int32) * p1).toInt := by rw [e_8]
    refine lv_icmp_eq (tgt := 21) hx hb dJ9_floorDiv_7cf53_14 (by decide) (fun c_9 => ?_) (fun c_9 => ?_)
    · have j_10 : (x_7).toInt = A0 := (i_eq rfl a0).mp c_9
      refine lv_iload_n hx hb dJ9_floorDiv_7cf53_21 rfl (lv_at hl 0 rfl) ?_
      exact ret x_1 v w sg _ _ _ _ dJ9_floorDiv_7cf53_22 h ⟨(by have hq : x_1.toInt = A0 / A1 := (by omega); exact ⟨hq, hq ▸ fdB_of hd⟩), rfl, rfl, rfl⟩
    · have j_10 : ¬ ((x_7).toInt = A0) := fun q => c_9 ((i_eq rfl a0).mpr q)
      refine lv_iload_n hx hb dJ9_floorDiv_7cf53_17 rfl (lv_at hl 0 rfl) ?_
      refine lv_iconst (v := 1) hx hb dJ9_floorDiv_7cf53_18 (by decide) ?_
      refine lv_isub hx hb dJ9_floorDiv_7cf53_19 ?_
      refine lv_topi (fun x_11 e_12 => ?_)
      exact ret x_11 v w sg _ _ _ _ dJ9_floorDiv_7cf53_20 h ⟨(by have hq : x_11.toInt = A0 / A1 := (by rw [e_12]; omega); exact ⟨hq, hq ▸ fdB_of hd⟩), rfl, rfl, rfl⟩

set_option maxHeartbeats 4000000 in
set_option maxRecDepth 100000 in
theorem c_J9_floorDiv_f86c9 (l : Launch) (G : gG) (v : Nat → Nat → Int32) (w : Nat → Nat → Int64) (sg : Nat → Nat) (p0 : Int64) {A0 : Int} (a0 : p0.toInt = A0) (p2 : Int64) {A2 : Int} (a2 : p2.toInt = A2) (hd : A2 ≠ 0) : Met l yJ9_floorDiv_f86c9 wsJ9_floorDiv_f86c9 ({ frames := 0, cells := 0, slots := 0, locals := 0 }) (gPre G v w sg [.long (p0), .long (p2)]) (gQl G (fun r v' w' sg' => (fdL A0 A2 r.toInt) ∧ v = v' ∧ w = w' ∧ sg = sg')) 0 0 (gA G) := by
  refine gM_ofFl (cc := cJ9_floorDiv_f86c9) (maxL := 6) (by decide +kernel) rfl (Nat.le_of_ble_eq_true rfl) ?_
  intro p e R s m args below meth c Q ls C hR ret h hl
  have hx := C.1.1
  have hb := C.1.2.1
  have hown := C.1.2.2.2.1
  have hts := C.1.2.2.2.2
  have hl : lv_has ls 6 [(0, .long (p0)), (2, .long (p2))] := hl
  have q0 := l_rng p0; rw [a0] at q0
  have q2 := l_rng p2; rw [a2] at q2
  have z_0 : (0 : Int32).toInt = 0 := by decide
  have z_1 : (1 : Int32).toInt = 1 := by decide
  refine lv_lload_n hx hb dJ9_floorDiv_f86c9_0 rfl (lv_at hl 0 rfl) ?_
  refine lv_lload_n hx hb dJ9_floorDiv_f86c9_1 rfl (lv_at hl 1 rfl) ?_
  refine lv_ldiv hx hb dJ9_floorDiv_f86c9_2 (l_ne0 a2 (by omega)) ?_
  refine lv_topl (fun x_1 e_2 => ?_)
  have hdv := e_2
  refine lv_lstore (lv' := [(4, .long (x_1)), (0, .long (p0)), (2, .long (p2))]) hx hb dJ9_floorDiv_f86c9_3 hl (by decide) rfl (fun ls hl => ?_)
  refine lv_lload_n hx hb dJ9_floorDiv_f86c9_5 rfl (lv_at hl 1 rfl) ?_
  refine lv_lload_n hx hb dJ9_floorDiv_f86c9_6 rfl (lv_at hl 2 rfl) ?_
  refine lv_lxor hx hb dJ9_floorDiv_f86c9_7 ?_
  refine lv_topl (fun x_3 e_4 => ?_)
  have hxs := xor_sgL e_4 a0 a2
  refine lv_lconst (v := 0) hx hb dJ9_floorDiv_f86c9_8 (by decide) ?_
  refine W.lcmp hx hb dJ9_floorDiv_f86c9_9 ?_
  refine lv_if_ge (tgt := 27) hx hb dJ9_floorDiv_f86c9_10 (by decide) (fun c_5 => ?_) (fun c_5 => ?_)
  · have j_6 : 0 ≤ (x_3).toInt := (l_ge0 rfl (by decide)).mp c_5
    refine lv_lload hx hb dJ9_floorDiv_f86c9_27 (lv_at hl 0 rfl) ?_
    exact ret x_1 v w sg _ _ _ _ dJ9_floorDiv_f86c9_29 h ⟨(fun hA => by have hq := fd_l hdv a0 a2 hd hA; omega), rfl, rfl, rfl⟩
  · have j_6 : ¬ (0 ≤ (x_3).toInt) := fun q => c_5 ((l_ge0 rfl (by decide)).mpr q)
    refine lv_lload hx hb dJ9_floorDiv_f86c9_13 (lv_at hl 0 rfl) ?_
    refine lv_lload_n hx hb dJ9_floorDiv_f86c9_15 rfl (lv_at hl 2 rfl) ?_
    refine lv_lmul hx hb dJ9_floorDiv_f86c9_16 ?_
    refine lv_topl (fun x_7 e_8 => ?_)
    refine lv_lload_n hx hb dJ9_floorDiv_f86c9_17 rfl (lv_at hl 1 rfl) ?_
    have hz : (x_7 : Int64).toInt = ((x_1 : Int64) * p2).toInt := by rw [e_8]
    refine W.lcmp hx hb dJ9_floorDiv_f86c9_18 ?_
    refine lv_if_eq (tgt := 27) hx hb dJ9_floorDiv_f86c9_19 (by decide) (fun c_9 => ?_) (fun c_9 => ?_)
    · have j_10 : (x_7).toInt = A0 := (l_eq0 rfl a0).mp c_9
      refine lv_lload hx hb dJ9_floorDiv_f86c9_27 (lv_at hl 0 rfl) ?_
      exact ret x_1 v w sg _ _ _ _ dJ9_floorDiv_f86c9_29 h ⟨(fun hA => by have hq := fd_l hdv a0 a2 hd hA; omega), rfl, rfl, rfl⟩
    · have j_10 : ¬ ((x_7).toInt = A0) := fun q => c_9 ((l_eq0 rfl a0).mpr q)
      refine lv_lload hx hb dJ9_floorDiv_f86c9_22 (lv_at hl 0 rfl) ?_
      refine lv_lconst (v := 1) hx hb dJ9_floorDiv_f86c9_24 (by decide) ?_
      refine lv_lsub hx hb dJ9_floorDiv_f86c9_25 ?_
      refine lv_topl (fun x_11 e_12 => ?_)
      exact ret x_11 v w sg _ _ _ _ dJ9_floorDiv_f86c9_26 h ⟨(fun hA => by have hq := fd_l hdv a0 a2 hd hA; rw [e_12]; omega), rfl, rfl, rfl⟩

set_option maxHeartbeats 4000000 in
set_option maxRecDepth 100000 in
theorem c_J9_floorMod_7cf53 (l : Launch) (G : gG) (v : Nat → Nat → Int32) (w : Nat → Nat → Int64) (sg : Nat → Nat) (p0 : Int32) {A0 : Int} (a0 : p0.toInt = A0) (p1 : Int32) {A1 : Int} (a1 : p1.toInt = A1) (hd : 0 < A1 ∧ A1 ≤ 1000) : Met l yJ9_floorMod_7cf53 wsJ9_floorMod_7cf53 ({ frames := 0, cells := 0, slots := 0, locals := 0 }) (gPre G v w sg [.int (p0), .int (p1)]) (gQi G (fun r v' w' sg' => (r.toInt = A0 % A1 ∧ 0 ≤ r.toInt ∧ r.toInt < A1) ∧ v = v' ∧ w = w' ∧ sg = sg')) 0 0 (gA G) := by
  refine gM_ofFi (cc := cJ9_floorMod_7cf53) (maxL := 3) (by decide +kernel) rfl (Nat.le_of_ble_eq_true rfl) ?_
  intro p e R s m args below meth c Q ls C hR ret h hl
  have hx := C.1.1
  have hb := C.1.2.1
  have hown := C.1.2.2.2.1
  have hts := C.1.2.2.2.2
  have hl : lv_has ls 3 [(0, .int (p0)), (1, .int (p1))] := hl
  have q0 := i_rng p0; rw [a0] at q0
  have q1 := i_rng p1; rw [a1] at q1
  have z_0 : (0 : Int32).toInt = 0 := by decide
  have z_1 : (1 : Int32).toInt = 1 := by decide
  refine lv_iload_n hx hb dJ9_floorMod_7cf53_0 rfl (lv_at hl 0 rfl) ?_
  refine lv_iload_n hx hb dJ9_floorMod_7cf53_1 rfl (lv_at hl 1 rfl) ?_
  refine lv_irem hx hb dJ9_floorMod_7cf53_2 (i_ne0 a1 (by omega)) ?_
  refine lv_topi (fun x_1 e_2 => ?_)
  have hrm := irem_b e_2 a0 a1 (by omega)
  have hrt := irem_t e_2 a0 a1 (by omega)
  refine lv_istore_n (lv' := [(2, .int (x_1)), (0, .int (p0)), (1, .int (p1))]) hx hb dJ9_floorMod_7cf53_3 rfl hl (by decide) rfl (fun ls hl => ?_)
  refine lv_iload_n hx hb dJ9_floorMod_7cf53_4 rfl (lv_at hl 1 rfl) ?_
  refine lv_iload_n hx hb dJ9_floorMod_7cf53_5 rfl (lv_at hl 2 rfl) ?_
  refine lv_ixor hx hb dJ9_floorMod_7cf53_6 ?_
  refine lv_topi (fun x_3 e_4 => ?_)
  have hxs := xor_sg e_4 a0 a1 (by omega)
  refine lv_if_ge (tgt := 18) hx hb dJ9_floorMod_7cf53_7 (by decide) (fun c_5 => ?_) (fun c_5 => ?_)
  · have j_6 : 0 ≤ (x_3).toInt := (i_le (by decide) rfl).mp c_5
    refine lv_iload_n hx hb dJ9_floorMod_7cf53_18 rfl (lv_at hl 0 rfl) ?_
    exact ret x_1 v w sg _ _ _ _ dJ9_floorMod_7cf53_19 h ⟨⟨by omega, by omega⟩, rfl, rfl, rfl⟩
  · have j_6 : ¬ (0 ≤ (x_3).toInt) := fun q => c_5 ((i_le (by decide) rfl).mpr q)
    refine lv_iload_n hx hb dJ9_floorMod_7cf53_10 rfl (lv_at hl 0 rfl) ?_
    refine lv_if_eq (tgt := 18) hx hb dJ9_floorMod_7cf53_11 (by decide) (fun c_7 => ?_) (fun c_7 => ?_)
    · have j_8 : (x_1).toInt = 0 := (i_eq rfl (by decide)).mp c_7
      refine lv_iload_n hx hb dJ9_floorMod_7cf53_18 rfl (lv_at hl 0 rfl) ?_
      exact ret x_1 v w sg _ _ _ _ dJ9_floorMod_7cf53_19 h ⟨⟨by omega, by omega⟩, rfl, rfl, rfl⟩
    · have j_8 : ¬ ((x_1).toInt = 0) := fun q => c_7 ((i_eq rfl (by decide)).mpr q)
      refine lv_iload_n hx hb dJ9_floorMod_7cf53_14 rfl (lv_at hl 0 rfl) ?_
      refine lv_iload_n hx hb dJ9_floorMod_7cf53_15 rfl (lv_at hl 2 rfl) ?_
      refine lv_iadd hx hb dJ9_floorMod_7cf53_16 ?_
      refine lv_topi (fun x_9 e_10 => ?_)
      have i_11 : x_9.toInt = (x_1).toInt + A1 := ia_add e_10 rfl a1 (by omega) (by omega)
      exact ret x_9 v w sg _ _ _ _ dJ9_floorMod_7cf53_17 h ⟨⟨by omega, by omega⟩, rfl, rfl, rfl⟩

set_option maxHeartbeats 4000000 in
set_option maxRecDepth 100000 in
theorem c_J6_bitCount_0f7a4 (l : Launch) (G : gG) (v : Nat → Nat → Int32) (w : Nat → Nat → Int64) (sg : Nat → Nat) (p0 : Int32) {A0 : Int} (a0 : p0.toInt = A0) (b0 : 0 ≤ A0 ∧ A0 ≤ 511) : Met l yJ6_bitCount_0f7a4 wsJ6_bitCount_0f7a4 ({ frames := 0, cells := 0, slots := 0, locals := 0 }) (gPre G v w sg [.int (p0)]) (gQi G (fun r v' w' sg' => ((0 ≤ r.toInt ∧ r.toInt ≤ 9) ∧ r.toInt = (pcN A0.toNat 9 : Int)) ∧ v = v' ∧ w = w' ∧ sg = sg')) 0 0 (gA G) := by
  refine gM_ofi (cc := cJ6_bitCount_0f7a4) (maxL := 1) (by decide) rfl (Nat.le_of_ble_eq_true rfl) ?_
  intro p e R s m args below meth c Q ls C hR ret h hl
  have hx := C.1.1
  have hb := C.1.2.1
  have hown := C.1.2.2.2.1
  have hts := C.1.2.2.2.2
  have hl : lv_has ls 1 [(0, .int (p0))] := hl
  have q0 := i_rng p0; rw [a0] at q0
  have z_0 : (0 : Int32).toInt = 0 := by decide
  have z_1 : (1 : Int32).toInt = 1 := by decide
  have z_2 : (2 : Int32).toInt = 2 := by decide
  have z_4 : (4 : Int32).toInt = 4 := by decide
  have z_8 : (8 : Int32).toInt = 8 := by decide
  have z_16 : (16 : Int32).toInt = 16 := by decide
  have z_63 : (63 : Int32).toInt = 63 := by decide
  have z_252645135 : (252645135 : Int32).toInt = 252645135 := by decide
  have z_858993459 : (858993459 : Int32).toInt = 858993459 := by decide
  have z_1431655765 : (1431655765 : Int32).toInt = 1431655765 := by decide
  have k265 : (Cond.constant RJ6 265 (1431655765)).before args s = true := hts _ (by decide +kernel)
  have k266 : (Cond.constant RJ6 266 (858993459)).before args s = true := hts _ (by decide +kernel)
  have k267 : (Cond.constant RJ6 267 (252645135)).before args s = true := hts _ (by decide +kernel)
  refine lv_iload_n hx hb dJ6_bitCount_0f7a4_0 rfl (lv_at hl 0 rfl) ?_
  refine lv_iload_n hx hb dJ6_bitCount_0f7a4_1 rfl (lv_at hl 0 rfl) ?_
  refine lv_iconst (v := 1) hx hb dJ6_bitCount_0f7a4_2 (by decide) ?_
  refine lv_iushr hx hb dJ6_bitCount_0f7a4_3 rfl ?_
  refine lv_topi (fun x_1 e_2 => ?_)
  refine lv_ldcw hx hb hown k265 dJ6_bitCount_0f7a4_4 ?_
  refine lv_iand hx hb dJ6_bitCount_0f7a4_7 ?_
  refine lv_topi (fun x_3 e_4 => ?_)
  refine lv_isub hx hb dJ6_bitCount_0f7a4_8 ?_
  refine lv_topi (fun x_5 e_6 => ?_)
  refine lv_istore_n (lv' := [(0, .int (x_5))]) hx hb dJ6_bitCount_0f7a4_9 rfl hl (by decide) rfl (fun ls hl => ?_)
  refine lv_iload_n hx hb dJ6_bitCount_0f7a4_10 rfl (lv_at hl 0 rfl) ?_
  refine lv_ldcw hx hb hown k266 dJ6_bitCount_0f7a4_11 ?_
  refine lv_iand hx hb dJ6_bitCount_0f7a4_14 ?_
  refine lv_topi (fun x_7 e_8 => ?_)
  refine lv_iload_n hx hb dJ6_bitCount_0f7a4_15 rfl (lv_at hl 0 rfl) ?_
  refine lv_iconst (v := 2) hx hb dJ6_bitCount_0f7a4_16 (by decide) ?_
  refine lv_iushr hx hb dJ6_bitCount_0f7a4_17 rfl ?_
  refine lv_topi (fun x_9 e_10 => ?_)
  refine lv_ldcw hx hb hown k266 dJ6_bitCount_0f7a4_18 ?_
  refine lv_iand hx hb dJ6_bitCount_0f7a4_21 ?_
  refine lv_topi (fun x_11 e_12 => ?_)
  refine lv_iadd hx hb dJ6_bitCount_0f7a4_22 ?_
  refine lv_topi (fun x_13 e_14 => ?_)
  refine lv_istore_n (lv' := [(0, .int (x_13))]) hx hb dJ6_bitCount_0f7a4_23 rfl hl (by decide) rfl (fun ls hl => ?_)
  refine lv_iload_n hx hb dJ6_bitCount_0f7a4_24 rfl (lv_at hl 0 rfl) ?_
  refine lv_iload_n hx hb dJ6_bitCount_0f7a4_25 rfl (lv_at hl 0 rfl) ?_
  refine lv_iconst (v := 4) hx hb dJ6_bitCount_0f7a4_26 (by decide) ?_
  refine lv_iushr hx hb dJ6_bitCount_0f7a4_27 rfl ?_
  refine lv_topi (fun x_15 e_16 => ?_)
  refine lv_iadd hx hb dJ6_bitCount_0f7a4_28 ?_
  refine lv_topi (fun x_17 e_18 => ?_)
  refine lv_ldcw hx hb hown k267 dJ6_bitCount_0f7a4_29 ?_
  refine lv_iand hx hb dJ6_bitCount_0f7a4_32 ?_
  refine lv_topi (fun x_19 e_20 => ?_)
  refine lv_istore_n (lv' := [(0, .int (x_19))]) hx hb dJ6_bitCount_0f7a4_33 rfl hl (by decide) rfl (fun ls hl => ?_)
  refine lv_iload_n hx hb dJ6_bitCount_0f7a4_34 rfl (lv_at hl 0 rfl) ?_
  refine lv_iload_n hx hb dJ6_bitCount_0f7a4_35 rfl (lv_at hl 0 rfl) ?_
  refine lv_bipush (v := 8) hx hb dJ6_bitCount_0f7a4_36 (by decide) ?_
  refine lv_iushr hx hb dJ6_bitCount_0f7a4_38 rfl ?_
  refine lv_topi (fun x_21 e_22 => ?_)
  refine lv_iadd hx hb dJ6_bitCount_0f7a4_39 ?_
  refine lv_topi (fun x_23 e_24 => ?_)
  refine lv_istore_n (lv' := [(0, .int (x_23))]) hx hb dJ6_bitCount_0f7a4_40 rfl hl (by decide) rfl (fun ls hl => ?_)
  refine lv_iload_n hx hb dJ6_bitCount_0f7a4_41 rfl (lv_at hl 0 rfl) ?_
  refine lv_iload_n hx hb dJ6_bitCount_0f7a4_42 rfl (lv_at hl 0 rfl) ?_
  refine lv_bipush (v := 16) hx hb dJ6_bitCount_0f7a4_43 (by decide) ?_
  refine lv_iushr hx hb dJ6_bitCount_0f7a4_45 rfl ?_
  refine lv_topi (fun x_25 e_26 => ?_)
  refine lv_iadd hx hb dJ6_bitCount_0f7a4_46 ?_
  refine lv_topi (fun x_27 e_28 => ?_)
  refine lv_istore_n (lv' := [(0, .int (x_27))]) hx hb dJ6_bitCount_0f7a4_47 rfl hl (by decide) rfl (fun ls hl => ?_)
  refine lv_iload_n hx hb dJ6_bitCount_0f7a4_48 rfl (lv_at hl 0 rfl) ?_
  refine lv_bipush (v := 63) hx hb dJ6_bitCount_0f7a4_49 (by decide) ?_
  refine lv_iand hx hb dJ6_bitCount_0f7a4_51 ?_
  refine lv_topi (fun x_29 e_30 => ?_)
  exact ret x_29 v w sg _ _ _ _ dJ6_bitCount_0f7a4_52 h ⟨(by have hq : x_29 = bcF p0 := (by subst_vars; rfl); rw [hq]; exact ⟨bc_b a0 b0, bc_e a0 b0⟩), rfl, rfl, rfl⟩

set_option maxHeartbeats 4000000 in
set_option maxRecDepth 100000 in
theorem c_X9_isIndex (l : Launch) (G : gG) (v : Nat → Nat → Int32) (w : Nat → Nat → Int64) (sg : Nat → Nat) (p0 : Int32) {A0 : Int} (a0 : p0.toInt = A0) (p1 : Int32) {A1 : Int} (a1 : p1.toInt = A1) : Met l yX9_isIndex wsX9_isIndex ({ frames := 0, cells := 0, slots := 0, locals := 0 }) (gPre G v w sg [.int (p0), .int (p1)]) (gQi G (fun r v' w' sg' => ((r = 1 ∧ 0 ≤ A0 ∧ A0 < A1) ∨ (r = 0 ∧ (A0 < 0 ∨ A1 ≤ A0))) ∧ v = v' ∧ w = w' ∧ sg = sg')) 0 0 (gA G) := by
  refine gM_ofz (cc := cX9_isIndex) (maxL := 2) (by decide) rfl (Nat.le_of_ble_eq_true rfl) ?_
  intro p e R s m args below meth c Q ls C hR ret h hl
  have hx := C.1.1
  have hb := C.1.2.1
  have hown := C.1.2.2.2.1
  have hts := C.1.2.2.2.2
  have hl : lv_has ls 2 [(0, .int (p0)), (1, .int (p1))] := hl
  have q0 := i_rng p0; rw [a0] at q0
  have q1 := i_rng p1; rw [a1] at q1
  have z_0 : (0 : Int32).toInt = 0 := by decide
  have z_1 : (1 : Int32).toInt = 1 := by decide
  refine lv_iload_n hx hb dX9_isIndex_0 rfl (lv_at hl 0 rfl) ?_
  refine lv_if_lt (tgt := 13) hx hb dX9_isIndex_1 (by decide) (fun c_1 => ?_) (fun c_1 => ?_)
  · have j_2 : A0 < 0 := (i_lt a0 (by decide)).mp c_1
    refine lv_iconst (v := 0) hx hb dX9_isIndex_13 (by decide) ?_
    exact ret 0 v w sg _ _ _ _ rfl dX9_isIndex_14 h ⟨Or.inr ⟨rfl, by omega⟩, rfl, rfl, rfl⟩
  · have j_2 : ¬ (A0 < 0) := fun q => c_1 ((i_lt a0 (by decide)).mpr q)
    refine lv_iload_n hx hb dX9_isIndex_4 rfl (lv_at hl 0 rfl) ?_
    refine lv_iload_n hx hb dX9_isIndex_5 rfl (lv_at hl 1 rfl) ?_
    refine lv_icmp_ge (tgt := 13) hx hb dX9_isIndex_6 (by decide) (fun c_3 => ?_) (fun c_3 => ?_)
    · have j_4 : A1 ≤ A0 := (i_le a1 a0).mp c_3
      refine lv_iconst (v := 0) hx hb dX9_isIndex_13 (by decide) ?_
      exact ret 0 v w sg _ _ _ _ rfl dX9_isIndex_14 h ⟨Or.inr ⟨rfl, by omega⟩, rfl, rfl, rfl⟩
    · have j_4 : ¬ (A1 ≤ A0) := fun q => c_3 ((i_le a1 a0).mpr q)
      refine lv_iconst (v := 1) hx hb dX9_isIndex_9 (by decide) ?_
      refine lv_goto (tgt := 14) hx hb dX9_isIndex_10 (by decide) ?_
      exact ret 1 v w sg _ _ _ _ rfl dX9_isIndex_14 h ⟨Or.inl ⟨rfl, by omega⟩, rfl, rfl, rfl⟩

set_option maxHeartbeats 4000000 in
set_option maxRecDepth 100000 in
theorem c_X9_isWithin (l : Launch) (G : gG) (v : Nat → Nat → Int32) (w : Nat → Nat → Int64) (sg : Nat → Nat) (p0 : Int32) {A0 : Int} (a0 : p0.toInt = A0) (p1 : Int32) {A1 : Int} (a1 : p1.toInt = A1) (b1 : 0 ≤ A1) : Met l yX9_isWithin wsX9_isWithin ({ frames := 0, cells := 0, slots := 0, locals := 0 }) (gPre G v w sg [.int (p0), .int (p1)]) (gQi G (fun r v' w' sg' => ((r = 1 ∧ -A1 ≤ A0 ∧ A0 ≤ A1) ∨ (r = 0 ∧ (A0 < -A1 ∨ A1 < A0))) ∧ v = v' ∧ w = w' ∧ sg = sg')) 0 0 (gA G) := by
  refine gM_ofz (cc := cX9_isWithin) (maxL := 2) (by decide) rfl (Nat.le_of_ble_eq_true rfl) ?_
  intro p e R s m args below meth c Q ls C hR ret h hl
  have hx := C.1.1
  have hb := C.1.2.1
  have hown := C.1.2.2.2.1
  have hts := C.1.2.2.2.2
  have hl : lv_has ls 2 [(0, .int (p0)), (1, .int (p1))] := hl
  have q0 := i_rng p0; rw [a0] at q0
  have q1 := i_rng p1; rw [a1] at q1
  have z_0 : (0 : Int32).toInt = 0 := by decide
  have z_1 : (1 : Int32).toInt = 1 := by decide
  refine lv_iload_n hx hb dX9_isWithin_0 rfl (lv_at hl 0 rfl) ?_
  refine lv_iload_n hx hb dX9_isWithin_1 rfl (lv_at hl 1 rfl) ?_
  refine lv_ineg hx hb dX9_isWithin_2 ?_
  refine lv_topi (fun x_1 e_2 => ?_)
  have i_3 : x_1.toInt = -A1 := ia_neg e_2 a1 (by omega)
  refine lv_icmp_lt (tgt := 15) hx hb dX9_isWithin_3 (by decide) (fun c_4 => ?_) (fun c_4 => ?_)
  · have j_5 : A0 < (-A1) := (i_lt a0 i_3).mp c_4
    refine lv_iconst (v := 0) hx hb dX9_isWithin_15 (by decide) ?_
    exact ret 0 v w sg _ _ _ _ rfl dX9_isWithin_16 h ⟨Or.inr ⟨rfl, by omega⟩, rfl, rfl, rfl⟩
  · have j_5 : ¬ (A0 < (-A1)) := fun q => c_4 ((i_lt a0 i_3).mpr q)
    refine lv_iload_n hx hb dX9_isWithin_6 rfl (lv_at hl 0 rfl) ?_
    refine lv_iload_n hx hb dX9_isWithin_7 rfl (lv_at hl 1 rfl) ?_
    refine lv_icmp_gt (tgt := 15) hx hb dX9_isWithin_8 (by decide) (fun c_6 => ?_) (fun c_6 => ?_)
    · have j_7 : A1 < A0 := (i_lt a1 a0).mp c_6
      refine lv_iconst (v := 0) hx hb dX9_isWithin_15 (by decide) ?_
      exact ret 0 v w sg _ _ _ _ rfl dX9_isWithin_16 h ⟨Or.inr ⟨rfl, by omega⟩, rfl, rfl, rfl⟩
    · have j_7 : ¬ (A1 < A0) := fun q => c_6 ((i_lt a1 a0).mpr q)
      refine lv_iconst (v := 1) hx hb dX9_isWithin_11 (by decide) ?_
      refine lv_goto (tgt := 16) hx hb dX9_isWithin_12 (by decide) ?_
      exact ret 1 v w sg _ _ _ _ rfl dX9_isWithin_16 h ⟨Or.inl ⟨rfl, by omega⟩, rfl, rfl, rfl⟩

set_option maxHeartbeats 4000000 in
set_option maxRecDepth 100000 in
theorem c_X9_areLoads (l : Launch) (G : gG) (v : Nat → Nat → Int32) (w : Nat → Nat → Int64) (sg : Nat → Nat) (p0 : Int32) {A0 : Int} (a0 : p0.toInt = A0) (p1 : Int32) {A1 : Int} (a1 : p1.toInt = A1) (p2 : Int32) {A2 : Int} (a2 : p2.toInt = A2) : Met l yX9_areLoads wsX9_areLoads ({ frames := 1, cells := 0, slots := 0, locals := 21 }) (gPre G v w sg [.int (p0), .int (p1), .int (p2)]) (gQi G (fun r v' w' sg' => ((r = 1 ∧ (-50 ≤ A0 ∧ A0 ≤ 50) ∧ (-50 ≤ A1 ∧ A1 ≤ 50) ∧ (-50 ≤ A2 ∧ A2 ≤ 50)) ∨ (r = 0 ∧ ((A0 < -50 ∨ 50 < A0) ∨ (A1 < -50 ∨ 50 < A1) ∨ (A2 < -50 ∨ 50 < A2)))) ∧ v = v' ∧ w = w' ∧ sg = sg')) 0 0 (gA G) := by
  refine gM_ofz (cc := cX9_areLoads) (maxL := 3) (by decide) rfl (Nat.le_of_ble_eq_true rfl) ?_
  intro p e R s m args below meth c Q ls C hR ret h hl
  have hx := C.1.1
  have hb := C.1.2.1
  have hown := C.1.2.2.2.1
  have hts := C.1.2.2.2.2
  have hl : lv_has ls 3 [(0, .int (p0)), (1, .int (p1)), (2, .int (p2))] := hl
  have q0 := i_rng p0; rw [a0] at q0
  have q1 := i_rng p1; rw [a1] at q1
  have q2 := i_rng p2; rw [a2] at q2
  have z_0 : (0 : Int32).toInt = 0 := by decide
  have z_1 : (1 : Int32).toInt = 1 := by decide
  have z_50 : (50 : Int32).toInt = 50 := by decide
  refine lv_iload_n hx hb dX9_areLoads_0 rfl (lv_at hl 0 rfl) ?_
  refine lv_bipush (v := 50) hx hb dX9_areLoads_1 (by decide) ?_
  refine g_calli C (va_runS (As := [.int (p0), .int (50)]) (rest := []) C.1 (c_X9_isWithin l G v w sg p0 (A0 := A0) a0 (50) (A1 := 50) (by decide) (by omega)) (va_cwS 2 hts gX9_areLoads_X9_isWithin rfl rfl rfl (by decide +kernel) ⟨by rw [hR]; exact Nat.le_of_ble_eq_true rfl, by rw [hR]; exact Nat.le_of_ble_eq_true rfl⟩) ⟨gPre_blind, gS_pre C h _⟩ rfl rfl hl.1 rfl (lv_room (Nat.le_of_ble_eq_true rfl)) dX9_areLoads_3 ⟨Nat.zero_le _, Nat.zero_le _⟩) h (fun r_1 v_3 w_4 g_5 H locs p_2 h => ?_)
  obtain ⟨p_2, rfl, rfl, rfl⟩ := p_2
  rcases p_2 with ⟨rfl, t_6⟩ | ⟨rfl, t_6⟩
  · skip
    refine lv_if_eq (tgt := 31) hx hb dX9_areLoads_6 (by decide) (fun c_7 => absurd c_7 (by decide)) (fun _ => ?_)
    refine lv_iload_n hx hb dX9_areLoads_9 rfl (lv_at hl 1 rfl) ?_
    refine lv_bipush (v := 50) hx hb dX9_areLoads_10 (by decide) ?_
    refine g_calli C (va_runS (As := [.int (p1), .int (50)]) (rest := []) C.1 (c_X9_isWithin l G v w sg p1 (A0 := A1) a1 (50) (A1 := 50) (by decide) (by omega)) (va_cwS 2 hts gX9_areLoads_X9_isWithin rfl rfl rfl (by decide +kernel) ⟨by rw [hR]; exact Nat.le_of_ble_eq_true rfl, by rw [hR]; exact Nat.le_of_ble_eq_true rfl⟩) ⟨gPre_blind, gS_pre C h _⟩ rfl rfl hl.1 rfl (lv_room (Nat.le_of_ble_eq_true rfl)) dX9_areLoads_12 ⟨Nat.zero_le _, Nat.zero_le _⟩) h (fun r_8 v_10 w_11 g_12 H locs p_9 h => ?_)
    obtain ⟨p_9, rfl, rfl, rfl⟩ := p_9
    rcases p_9 with ⟨rfl, t_13⟩ | ⟨rfl, t_13⟩
    · skip
      refine lv_if_eq (tgt := 31) hx hb dX9_areLoads_15 (by decide) (fun c_14 => absurd c_14 (by decide)) (fun _ => ?_)
      refine lv_iload_n hx hb dX9_areLoads_18 rfl (lv_at hl 2 rfl) ?_
      refine lv_bipush (v := 50) hx hb dX9_areLoads_19 (by decide) ?_
      refine g_calli C (va_runS (As := [.int (p2), .int (50)]) (rest := []) C.1 (c_X9_isWithin l G v w sg p2 (A0 := A2) a2 (50) (A1 := 50) (by decide) (by omega)) (va_cwS 2 hts gX9_areLoads_X9_isWithin rfl rfl rfl (by decide +kernel) ⟨by rw [hR]; exact Nat.le_of_ble_eq_true rfl, by rw [hR]; exact Nat.le_of_ble_eq_true rfl⟩) ⟨gPre_blind, gS_pre C h _⟩ rfl rfl hl.1 rfl (lv_room (Nat.le_of_ble_eq_true rfl)) dX9_areLoads_21 ⟨Nat.zero_le _, Nat.zero_le _⟩) h (fun r_15 v_17 w_18 g_19 H locs p_16 h => ?_)
      obtain ⟨p_16, rfl, rfl, rfl⟩ := p_16
      rcases p_16 with ⟨rfl, t_20⟩ | ⟨rfl, t_20⟩
      · skip
        refine lv_if_eq (tgt := 31) hx hb dX9_areLoads_24 (by decide) (fun c_21 => absurd c_21 (by decide)) (fun _ => ?_)
        refine lv_iconst (v := 1) hx hb dX9_areLoads_27 (by decide) ?_
        refine lv_goto (tgt := 32) hx hb dX9_areLoads_28 (by decide) ?_
        exact ret 1 v w sg _ _ _ _ rfl dX9_areLoads_32 h ⟨Or.inl ⟨rfl, by omega⟩, rfl, rfl, rfl⟩
      · skip
        refine lv_if_eq (tgt := 31) hx hb dX9_areLoads_24 (by decide) (fun _ => ?_) (fun c_22 => absurd (by decide) c_22)
        refine lv_iconst (v := 0) hx hb dX9_areLoads_31 (by decide) ?_
        exact ret 0 v w sg _ _ _ _ rfl dX9_areLoads_32 h ⟨Or.inr ⟨rfl, by omega⟩, rfl, rfl, rfl⟩
    · skip
      refine lv_if_eq (tgt := 31) hx hb dX9_areLoads_15 (by decide) (fun _ => ?_) (fun c_23 => absurd (by decide) c_23)
      refine lv_iconst (v := 0) hx hb dX9_areLoads_31 (by decide) ?_
      exact ret 0 v w sg _ _ _ _ rfl dX9_areLoads_32 h ⟨Or.inr ⟨rfl, by omega⟩, rfl, rfl, rfl⟩
  · skip
    refine lv_if_eq (tgt := 31) hx hb dX9_areLoads_6 (by decide) (fun _ => ?_) (fun c_24 => absurd (by decide) c_24)
    refine lv_iconst (v := 0) hx hb dX9_areLoads_31 (by decide) ?_
    exact ret 0 v w sg _ _ _ _ rfl dX9_areLoads_32 h ⟨Or.inr ⟨rfl, by omega⟩, rfl, rfl, rfl⟩

set_option maxHeartbeats 4000000 in
set_option maxRecDepth 100000 in
theorem c_X9_areReadings (l : Launch) (G : gG) (v : Nat → Nat → Int32) (w : Nat → Nat → Int64) (sg : Nat → Nat) (p0 : Int32) {A0 : Int} (a0 : p0.toInt = A0) (p1 : Int32) {A1 : Int} (a1 : p1.toInt = A1) (p2 : Int32) {A2 : Int} (a2 : p2.toInt = A2) : Met l yX9_areReadings wsX9_areReadings ({ frames := 1, cells := 0, slots := 0, locals := 21 }) (gPre G v w sg [.int (p0), .int (p1), .int (p2)]) (gQi G (fun r v' w' sg' => ((r = 1 ∧ (-2000000 ≤ A0 ∧ A0 ≤ 2000000) ∧ (-2000000 ≤ A1 ∧ A1 ≤ 2000000) ∧ (-2000000 ≤ A2 ∧ A2 ≤ 2000000)) ∨ (r = 0 ∧ ((A0 < -2000000 ∨ 2000000 < A0) ∨ (A1 < -2000000 ∨ 2000000 < A1) ∨ (A2 < -2000000 ∨ 2000000 < A2)))) ∧ v = v' ∧ w = w' ∧ sg = sg')) 0 0 (gA G) := by
  refine gM_ofz (cc := cX9_areReadings) (maxL := 3) (by decide) rfl (Nat.le_of_ble_eq_true rfl) ?_
  intro p e R s m args below meth c Q ls C hR ret h hl
  have hx := C.1.1
  have hb := C.1.2.1
  have hown := C.1.2.2.2.1
  have hts := C.1.2.2.2.2
  have hl : lv_has ls 3 [(0, .int (p0)), (1, .int (p1)), (2, .int (p2))] := hl
  have q0 := i_rng p0; rw [a0] at q0
  have q1 := i_rng p1; rw [a1] at q1
  have q2 := i_rng p2; rw [a2] at q2
  have z_0 : (0 : Int32).toInt = 0 := by decide
  have z_1 : (1 : Int32).toInt = 1 := by decide
  have z_2000000 : (2000000 : Int32).toInt = 2000000 := by decide
  have k189 : (Cond.constant RX9 189 (2000000)).before args s = true := hts _ (by decide +kernel)
  refine lv_iload_n hx hb dX9_areReadings_0 rfl (lv_at hl 0 rfl) ?_
  refine lv_ldc hx hb hown k189 dX9_areReadings_1 ?_
  refine g_calli C (va_runS (As := [.int (p0), .int (2000000)]) (rest := []) C.1 (c_X9_isWithin l G v w sg p0 (A0 := A0) a0 (2000000) (A1 := 2000000) (by decide) (by omega)) (va_cwS 2 hts gX9_areReadings_X9_isWithin rfl rfl rfl (by decide +kernel) ⟨by rw [hR]; exact Nat.le_of_ble_eq_true rfl, by rw [hR]; exact Nat.le_of_ble_eq_true rfl⟩) ⟨gPre_blind, gS_pre C h _⟩ rfl rfl hl.1 rfl (lv_room (Nat.le_of_ble_eq_true rfl)) dX9_areReadings_3 ⟨Nat.zero_le _, Nat.zero_le _⟩) h (fun r_1 v_3 w_4 g_5 H locs p_2 h => ?_)
  obtain ⟨p_2, rfl, rfl, rfl⟩ := p_2
  rcases p_2 with ⟨rfl, t_6⟩ | ⟨rfl, t_6⟩
  · skip
    refine lv_if_eq (tgt := 31) hx hb dX9_areReadings_6 (by decide) (fun c_7 => absurd c_7 (by decide)) (fun _ => ?_)
    refine lv_iload_n hx hb dX9_areReadings_9 rfl (lv_at hl 1 rfl) ?_
    refine lv_ldc hx hb hown k189 dX9_areReadings_10 ?_
    refine g_calli C (va_runS (As := [.int (p1), .int (2000000)]) (rest := []) C.1 (c_X9_isWithin l G v w sg p1 (A0 := A1) a1 (2000000) (A1 := 2000000) (by decide) (by omega)) (va_cwS 2 hts gX9_areReadings_X9_isWithin rfl rfl rfl (by decide +kernel) ⟨by rw [hR]; exact Nat.le_of_ble_eq_true rfl, by rw [hR]; exact Nat.le_of_ble_eq_true rfl⟩) ⟨gPre_blind, gS_pre C h _⟩ rfl rfl hl.1 rfl (lv_room (Nat.le_of_ble_eq_true rfl)) dX9_areReadings_12 ⟨Nat.zero_le _, Nat.zero_le _⟩) h (fun r_8 v_10 w_11 g_12 H locs p_9 h => ?_)
    obtain ⟨p_9, rfl, rfl, rfl⟩ := p_9
    rcases p_9 with ⟨rfl, t_13⟩ | ⟨rfl, t_13⟩
    · skip
      refine lv_if_eq (tgt := 31) hx hb dX9_areReadings_15 (by decide) (fun c_14 => absurd c_14 (by decide)) (fun _ => ?_)
      refine lv_iload_n hx hb dX9_areReadings_18 rfl (lv_at hl 2 rfl) ?_
      refine lv_ldc hx hb hown k189 dX9_areReadings_19 ?_
      refine g_calli C (va_runS (As := [.int (p2), .int (2000000)]) (rest := []) C.1 (c_X9_isWithin l G v w sg p2 (A0 := A2) a2 (2000000) (A1 := 2000000) (by decide) (by omega)) (va_cwS 2 hts gX9_areReadings_X9_isWithin rfl rfl rfl (by decide +kernel) ⟨by rw [hR]; exact Nat.le_of_ble_eq_true rfl, by rw [hR]; exact Nat.le_of_ble_eq_true rfl⟩) ⟨gPre_blind, gS_pre C h _⟩ rfl rfl hl.1 rfl (lv_room (Nat.le_of_ble_eq_true rfl)) dX9_areReadings_21 ⟨Nat.zero_le _, Nat.zero_le _⟩) h (fun r_15 v_17 w_18 g_19 H locs p_16 h => ?_)
      obtain ⟨p_16, rfl, rfl, rfl⟩ := p_16
      rcases p_16 with ⟨rfl, t_20⟩ | ⟨rfl, t_20⟩
      · skip
        refine lv_if_eq (tgt := 31) hx hb dX9_areReadings_24 (by decide) (fun c_21 => absurd c_21 (by decide)) (fun _ => ?_)
        refine lv_iconst (v := 1) hx hb dX9_areReadings_27 (by decide) ?_
        refine lv_goto (tgt := 32) hx hb dX9_areReadings_28 (by decide) ?_
        exact ret 1 v w sg _ _ _ _ rfl dX9_areReadings_32 h ⟨Or.inl ⟨rfl, by omega⟩, rfl, rfl, rfl⟩
      · skip
        refine lv_if_eq (tgt := 31) hx hb dX9_areReadings_24 (by decide) (fun _ => ?_) (fun c_22 => absurd (by decide) c_22)
        refine lv_iconst (v := 0) hx hb dX9_areReadings_31 (by decide) ?_
        exact ret 0 v w sg _ _ _ _ rfl dX9_areReadings_32 h ⟨Or.inr ⟨rfl, by omega⟩, rfl, rfl, rfl⟩
    · skip
      refine lv_if_eq (tgt := 31) hx hb dX9_areReadings_15 (by decide) (fun _ => ?_) (fun c_23 => absurd (by decide) c_23)
      refine lv_iconst (v := 0) hx hb dX9_areReadings_31 (by decide) ?_
      exact ret 0 v w sg _ _ _ _ rfl dX9_areReadings_32 h ⟨Or.inr ⟨rfl, by omega⟩, rfl, rfl, rfl⟩
  · skip
    refine lv_if_eq (tgt := 31) hx hb dX9_areReadings_6 (by decide) (fun _ => ?_) (fun c_24 => absurd (by decide) c_24)
    refine lv_iconst (v := 0) hx hb dX9_areReadings_31 (by decide) ?_
    exact ret 0 v w sg _ _ _ _ rfl dX9_areReadings_32 h ⟨Or.inr ⟨rfl, by omega⟩, rfl, rfl, rfl⟩

set_option maxHeartbeats 4000000 in
set_option maxRecDepth 100000 in
theorem c_X9_answerOfFault (l : Launch) (G : gG) (v : Nat → Nat → Int32) (w : Nat → Nat → Int64) (sg : Nat → Nat) (p0 : Int32) {A0 : Int} (a0 : p0.toInt = A0) : Met l yX9_answerOfFault wsX9_answerOfFault ({ frames := 0, cells := 0, slots := 0, locals := 0 }) (gPre G v w sg [.int (p0)]) (gQi G (fun r v' w' sg' => (r = -10 - p0) ∧ v = v' ∧ w = w' ∧ sg = sg')) 0 0 (gA G) := by
  refine gM_ofi (cc := cX9_answerOfFault) (maxL := 1) (by decide) rfl (Nat.le_of_ble_eq_true rfl) ?_
  intro p e R s m args below meth c Q ls C hR ret h hl
  have hx := C.1.1
  have hb := C.1.2.1
  have hown := C.1.2.2.2.1
  have hts := C.1.2.2.2.2
  have hl : lv_has ls 1 [(0, .int (p0))] := hl
  have q0 := i_rng p0; rw [a0] at q0
  have z_m10 : ((-10) : Int32).toInt = (-10) := by decide
  have z_0 : (0 : Int32).toInt = 0 := by decide
  have z_1 : (1 : Int32).toInt = 1 := by decide
  refine lv_bipush (v := (-10)) hx hb dX9_answerOfFault_0 (by decide) ?_
  refine lv_iload_n hx hb dX9_answerOfFault_2 rfl (lv_at hl 0 rfl) ?_
  refine lv_isub hx hb dX9_answerOfFault_3 ?_
  refine lv_topi (fun x_1 e_2 => ?_)
  exact ret x_1 v w sg _ _ _ _ dX9_answerOfFault_4 h ⟨(by subst_vars; rfl), rfl, rfl, rfl⟩

set_option maxHeartbeats 4000000 in
set_option maxRecDepth 100000 in
theorem c_X9_setRow (l : Launch) (G : gG) (v : Nat → Nat → Int32) (w : Nat → Nat → Int64) (sg : Nat → Nat) (o1 : Nat) (p1 : Int32) {A1 : Int} (a1 : p1.toInt = A1) (p2 : Int32) {A2 : Int} (a2 : p2.toInt = A2) (p3 : Int32) {A3 : Int} (a3 : p3.toInt = A3) (Rk : o1 < 106) (Rd : gkd o1 = 1) (Rn : gln o1 = 3) : Met l yX9_setRow wsX9_setRow ({ frames := 0, cells := 0, slots := 0, locals := 0 }) (gPre G v w sg [.ref (G.2.2 (o1)), .int (p1), .int (p2), .int (p3)]) (gQv G (fun v' w' sg' => (v' = gu (gu (gu v o1 0 p1) o1 1 p2) o1 2 p3) ∧ w = w' ∧ sg = sg')) 0 0 (gA G) := by
  refine gM_ofv (cc := cX9_setRow) (maxL := 4) (by decide) rfl (Nat.le_of_ble_eq_true rfl) ?_
  intro p e R s m args below meth c Q ls C hR ret h hl
  have hx := C.1.1
  have hb := C.1.2.1
  have hown := C.1.2.2.2.1
  have hts := C.1.2.2.2.2
  have hl : lv_has ls 4 [(0, .ref (G.2.2 (o1))), (1, .int (p1)), (2, .int (p2)), (3, .int (p3))] := hl
  have q1 := i_rng p1; rw [a1] at q1
  have q2 := i_rng p2; rw [a2] at q2
  have q3 := i_rng p3; rw [a3] at q3
  have z_0 : (0 : Int32).toInt = 0 := by decide
  have z_1 : (1 : Int32).toInt = 1 := by decide
  have z_2 : (2 : Int32).toInt = 2 := by decide
  refine lv_aload_n hx hb dX9_setRow_0 rfl (lv_at hl 0 rfl) ?_
  refine lv_iconst (v := 0) hx hb dX9_setRow_1 (by decide) ?_
  refine lv_iload_n hx hb dX9_setRow_2 rfl (lv_at hl 1 rfl) ?_
  refine g_iast C h o1 (by omega) Rd (n := 3) Rn (vp_of (I := 0) (by decide) (by decide) (by decide)) dX9_setRow_3 (fun H locs h => ?_)
  obtain ⟨v_1, hv_1⟩ : ∃ z, z = gu v o1 0 p1 := ⟨_, rfl⟩
  have h : gS (gA G) G s v_1 w sg H locs := by rw [hv_1]; exact h
  refine lv_aload_n hx hb dX9_setRow_4 rfl (lv_at hl 0 rfl) ?_
  refine lv_iconst (v := 1) hx hb dX9_setRow_5 (by decide) ?_
  refine lv_iload_n hx hb dX9_setRow_6 rfl (lv_at hl 2 rfl) ?_
  refine g_iast C h o1 (by omega) Rd (n := 3) Rn (vp_of (I := 1) (by decide) (by decide) (by decide)) dX9_setRow_7 (fun H locs h => ?_)
  obtain ⟨v_2, hv_2⟩ : ∃ z, z = gu v_1 o1 1 p2 := ⟨_, rfl⟩
  have h : gS (gA G) G s v_2 w sg H locs := by rw [hv_2]; exact h
  refine lv_aload_n hx hb dX9_setRow_8 rfl (lv_at hl 0 rfl) ?_
  refine lv_iconst (v := 2) hx hb dX9_setRow_9 (by decide) ?_
  refine lv_iload_n hx hb dX9_setRow_10 rfl (lv_at hl 3 rfl) ?_
  refine g_iast C h o1 (by omega) Rd (n := 3) Rn (vp_of (I := 2) (by decide) (by decide) (by decide)) dX9_setRow_11 (fun H locs h => ?_)
  obtain ⟨v_3, hv_3⟩ : ∃ z, z = gu v_2 o1 2 p3 := ⟨_, rfl⟩
  have h : gS (gA G) G s v_3 w sg H locs := by rw [hv_3]; exact h
  exact ret v_3 w sg _ _ _ _ dX9_setRow_12 h ⟨(by rw [hv_3, hv_2, hv_1]), rfl, rfl⟩

set_option maxHeartbeats 4000000 in
set_option maxRecDepth 100000 in
theorem c_X9_first (l : Launch) (G : gG) (v : Nat → Nat → Int32) (w : Nat → Nat → Int64) (sg : Nat → Nat) (p1 : Int32) {A1 : Int} (a1 : p1.toInt = A1) (p2 : Int32) {A2 : Int} (a2 : p2.toInt = A2) (p3 : Int32) {A3 : Int} (a3 : p3.toInt = A3) (ci : cI v) : Met l yX9_first wsX9_first ({ frames := 1, cells := 0, slots := 0, locals := 21 }) (gPre G v w sg [.ref (G.2.2 (0)), .int (p1), .int (p2), .int (p3)]) (gQi G (fun r v' w' sg' => (cI v' ∧ fC 2 6 v w v' w ∧ ((r = 1 ∧ rF1 A1 A2 A3 ∧ v' = (gu v (3 + A1.toNat) A2.toNat p3)) ∨ (r = -1 ∧ ¬ rF1 A1 A2 A3 ∧ v' = v))) ∧ w = w' ∧ sg = sg')) 0 0 (gA G) := by
  refine gM_ofi (cc := cX9_first) (maxL := 4) (by decide) rfl (Nat.le_of_ble_eq_true rfl) ?_
  intro p e R s m args below meth c Q ls C hR ret h hl
  have hx := C.1.1
  have hb := C.1.2.1
  have hown := C.1.2.2.2.1
  have hts := C.1.2.2.2.2
  have hl : lv_has ls 4 [(0, .ref (G.2.2 (0))), (1, .int (p1)), (2, .int (p2)), (3, .int (p3))] := hl
  have q1 := i_rng p1; rw [a1] at q1
  have q2 := i_rng p2; rw [a2] at q2
  have q3 := i_rng p3; rw [a3] at q3
  have z_m1 : ((-1) : Int32).toInt = (-1) := by decide
  have z_0 : (0 : Int32).toInt = 0 := by decide
  have z_1 : (1 : Int32).toInt = 1 := by decide
  have z_3 : (3 : Int32).toInt = 3 := by decide
  have z_100 : (100 : Int32).toInt = 100 := by decide
  have f10 : Cond.fieldLink RX9 10 "WindHall" "balance" "LWindHall$Balance;" ∈ wsX9_first := by decide +kernel
  have hi9 : ∀ x ∈ u_ws RX9 TX9 7, x ∈ wsX9_first := fun x q => List.mem_cons_of_mem _ (List.mem_append_left _ (List.mem_append_right _ q))
  have f65 : Cond.fieldLink RX9 65 "WindHall$Balance" "first" "[[I" ∈ wsX9_first := by decide +kernel
  have hi0 : ∀ x ∈ u_ws RX0 TX0 7, x ∈ wsX9_first := fun x q => List.mem_cons_of_mem _ (List.mem_append_right _ q)
  have o_1 := ci
  obtain ⟨K1, K2, K3, K4, K5, K6, K7, Ks, K9, Ka, Kr, Kz⟩ := o_1
  refine lv_iload_n hx hb dX9_first_0 rfl (lv_at hl 1 rfl) ?_
  refine lv_iconst (v := 3) hx hb dX9_first_1 (by decide) ?_
  refine g_calli C (va_runS (As := [.int (p1), .int (3)]) (rest := []) C.1 (c_X9_isIndex l G v w sg p1 (A0 := A1) a1 (3) (A1 := 3) (by decide)) (va_cwS 2 hts gX9_first_X9_isIndex rfl rfl rfl (by decide +kernel) ⟨by rw [hR]; exact Nat.le_of_ble_eq_true rfl, by rw [hR]; exact Nat.le_of_ble_eq_true rfl⟩) ⟨gPre_blind, gS_pre C h _⟩ rfl rfl hl.1 rfl (lv_room (Nat.le_of_ble_eq_true rfl)) dX9_first_2 ⟨Nat.zero_le _, Nat.zero_le _⟩) h (fun r_2 v_4 w_5 g_6 H locs p_3 h => ?_)
  obtain ⟨p_3, rfl, rfl, rfl⟩ := p_3
  rcases p_3 with ⟨rfl, t_7⟩ | ⟨rfl, t_7⟩
  · skip
    refine lv_if_eq (tgt := 25) hx hb dX9_first_5 (by decide) (fun c_8 => absurd c_8 (by decide)) (fun _ => ?_)
    refine lv_iload_n hx hb dX9_first_8 rfl (lv_at hl 2 rfl) ?_
    refine lv_iconst (v := 3) hx hb dX9_first_9 (by decide) ?_
    refine g_calli C (va_runS (As := [.int (p2), .int (3)]) (rest := []) C.1 (c_X9_isIndex l G v w sg p2 (A0 := A2) a2 (3) (A1 := 3) (by decide)) (va_cwS 2 hts gX9_first_X9_isIndex rfl rfl rfl (by decide +kernel) ⟨by rw [hR]; exact Nat.le_of_ble_eq_true rfl, by rw [hR]; exact Nat.le_of_ble_eq_true rfl⟩) ⟨gPre_blind, gS_pre C h _⟩ rfl rfl hl.1 rfl (lv_room (Nat.le_of_ble_eq_true rfl)) dX9_first_10 ⟨Nat.zero_le _, Nat.zero_le _⟩) h (fun r_9 v_11 w_12 g_13 H locs p_10 h => ?_)
    obtain ⟨p_10, rfl, rfl, rfl⟩ := p_10
    rcases p_10 with ⟨rfl, t_14⟩ | ⟨rfl, t_14⟩
    · skip
      refine lv_if_eq (tgt := 25) hx hb dX9_first_13 (by decide) (fun c_15 => absurd c_15 (by decide)) (fun _ => ?_)
      refine lv_iload_n hx hb dX9_first_16 rfl (lv_at hl 3 rfl) ?_
      refine lv_bipush (v := 100) hx hb dX9_first_17 (by decide) ?_
      refine g_calli C (va_runS (As := [.int (p3), .int (100)]) (rest := []) C.1 (c_X9_isWithin l G v w sg p3 (A0 := A3) a3 (100) (A1 := 100) (by decide) (by omega)) (va_cwS 2 hts gX9_first_X9_isWithin rfl rfl rfl (by decide +kernel) ⟨by rw [hR]; exact Nat.le_of_ble_eq_true rfl, by rw [hR]; exact Nat.le_of_ble_eq_true rfl⟩) ⟨gPre_blind, gS_pre C h _⟩ rfl rfl hl.1 rfl (lv_room (Nat.le_of_ble_eq_true rfl)) dX9_first_19 ⟨Nat.zero_le _, Nat.zero_le _⟩) h (fun r_16 v_18 w_19 g_20 H locs p_17 h => ?_)
      obtain ⟨p_17, rfl, rfl, rfl⟩ := p_17
      rcases p_17 with ⟨rfl, t_21⟩ | ⟨rfl, t_21⟩
      · skip
        refine lv_if_ne (tgt := 27) hx hb dX9_first_22 (by decide) (fun _ => ?_) (fun c_22 => absurd c_22 (by decide))
        refine lv_aload_n hx hb dX9_first_27 rfl (lv_at hl 0 rfl) ?_
        refine g_get (ci := 9) (x := .ref (G.2.2 (1))) C h 0 (by decide) rfl rfl hi9 0 (by decide) f10 rfl rfl dX9_first_28 ?_
        refine g_get (ci := 0) (x := .ref (G.2.2 (2))) C h 1 (by decide) rfl rfl hi0 0 (by decide) f65 rfl rfl dX9_first_31 ?_
        refine lv_iload_n hx hb dX9_first_34 rfl (lv_at hl 1 rfl) ?_
        refine g_aald (ty := .array .int) C h 2 (by decide) 0 (by decide) (n := 3) (by decide) rfl rfl (vp_of a1 (by omega) (by omega)) dX9_first_35 ?_
        obtain ⟨q_23, q_23_e, q_23_i, q_23_l⟩ := g_row sg (b := 2) (n := 3) (i := p1) (by decide) (by decide) a1 (by omega) (by omega)
        rw [q_23_e]
        refine lv_iload_n hx hb dX9_first_36 rfl (lv_at hl 2 rfl) ?_
        refine lv_iload_n hx hb dX9_first_37 rfl (lv_at hl 3 rfl) ?_
        refine g_iast C h q_23 (by omega) (g_kd 3 3 1 rfl q_23_l) (n := 3) (g_ln 3 3 3 rfl q_23_l) (vp_of a2 (by omega) (by omega)) dX9_first_38 (fun H locs h => ?_)
        obtain ⟨v_24, hv_24⟩ : ∃ z, z = gu v q_23 ((p2 : Int32).toNatClampNeg) p3 := ⟨_, rfl⟩
        have h : gS (gA G) G s v_24 w sg H locs := by rw [hv_24]; exact h
        have u_25 : cI v_24 := by rw [hv_24]; exact (cI_first ci (by omega) (by omega))
        have u_26 : fC 2 6 v w v_24 w := by rw [hv_24]; exact (fC_v fC_rf (by omega))
        refine lv_iconst (v := 1) hx hb dX9_first_39 (by decide) ?_
        exact ret 1 v_24 w sg _ _ _ _ dX9_first_40 h ⟨⟨u_25, u_26, Or.inl ⟨rfl, by unfold rF1; omega, (by rw [hv_24] <;> exact (gu_cg rfl (by omega) ((cl_nat a2).trans (by omega)) rfl))⟩⟩, rfl, rfl⟩
      · skip
        refine lv_if_ne (tgt := 27) hx hb dX9_first_22 (by decide) (fun c_27 => absurd (by decide) c_27) (fun _ => ?_)
        refine lv_iconst (v := (-1)) hx hb dX9_first_25 (by decide) ?_
        exact ret (-1) v w sg _ _ _ _ dX9_first_26 h ⟨⟨ci, fC_rf, Or.inr ⟨rfl, by unfold rF1; omega, rfl⟩⟩, rfl, rfl⟩
    · skip
      refine lv_if_eq (tgt := 25) hx hb dX9_first_13 (by decide) (fun _ => ?_) (fun c_28 => absurd (by decide) c_28)
      refine lv_iconst (v := (-1)) hx hb dX9_first_25 (by decide) ?_
      exact ret (-1) v w sg _ _ _ _ dX9_first_26 h ⟨⟨ci, fC_rf, Or.inr ⟨rfl, by unfold rF1; omega, rfl⟩⟩, rfl, rfl⟩
  · skip
    refine lv_if_eq (tgt := 25) hx hb dX9_first_5 (by decide) (fun _ => ?_) (fun c_29 => absurd (by decide) c_29)
    refine lv_iconst (v := (-1)) hx hb dX9_first_25 (by decide) ?_
    exact ret (-1) v w sg _ _ _ _ dX9_first_26 h ⟨⟨ci, fC_rf, Or.inr ⟨rfl, by unfold rF1; omega, rfl⟩⟩, rfl, rfl⟩

set_option maxHeartbeats 4000000 in
set_option maxRecDepth 100000 in
theorem c_X9_second (l : Launch) (G : gG) (v : Nat → Nat → Int32) (w : Nat → Nat → Int64) (sg : Nat → Nat) (p1 : Int32) {A1 : Int} (a1 : p1.toInt = A1) (p2 : Int32) {A2 : Int} (a2 : p2.toInt = A2) (p3 : Int32) {A3 : Int} (a3 : p3.toInt = A3) (ci : cI v) : Met l yX9_second wsX9_second ({ frames := 1, cells := 0, slots := 0, locals := 21 }) (gPre G v w sg [.ref (G.2.2 (0)), .int (p1), .int (p2), .int (p3)]) (gQi G (fun r v' w' sg' => (cI v' ∧ fC 6 10 v w v' w ∧ ((r = 1 ∧ rF2 A1 A2 A3 ∧ v' = (gu v (7 + A1.toNat) A2.toNat p3)) ∨ (r = -1 ∧ ¬ rF2 A1 A2 A3 ∧ v' = v))) ∧ w = w' ∧ sg = sg')) 0 0 (gA G) := by
  refine gM_ofi (cc := cX9_second) (maxL := 4) (by decide) rfl (Nat.le_of_ble_eq_true rfl) ?_
  intro p e R s m args below meth c Q ls C hR ret h hl
  have hx := C.1.1
  have hb := C.1.2.1
  have hown := C.1.2.2.2.1
  have hts := C.1.2.2.2.2
  have hl : lv_has ls 4 [(0, .ref (G.2.2 (0))), (1, .int (p1)), (2, .int (p2)), (3, .int (p3))] := hl
  have q1 := i_rng p1; rw [a1] at q1
  have q2 := i_rng p2; rw [a2] at q2
  have q3 := i_rng p3; rw [a3] at q3
  have z_m1 : ((-1) : Int32).toInt = (-1) := by decide
  have z_0 : (0 : Int32).toInt = 0 := by decide
  have z_1 : (1 : Int32).toInt = 1 := by decide
  have z_3 : (3 : Int32).toInt = 3 := by decide
  have z_6 : (6 : Int32).toInt = 6 := by decide
  have z_20 : (20 : Int32).toInt = 20 := by decide
  have f10 : Cond.fieldLink RX9 10 "WindHall" "balance" "LWindHall$Balance;" ∈ wsX9_second := by decide +kernel
  have hi9 : ∀ x ∈ u_ws RX9 TX9 7, x ∈ wsX9_second := fun x q => List.mem_cons_of_mem _ (List.mem_append_left _ (List.mem_append_right _ q))
  have f69 : Cond.fieldLink RX9 69 "WindHall$Balance" "second" "[[I" ∈ wsX9_second := by decide +kernel
  have hi0 : ∀ x ∈ u_ws RX0 TX0 7, x ∈ wsX9_second := fun x q => List.mem_cons_of_mem _ (List.mem_append_right _ q)
  have o_1 := ci
  obtain ⟨K1, K2, K3, K4, K5, K6, K7, Ks, K9, Ka, Kr, Kz⟩ := o_1
  refine lv_iload_n hx hb dX9_second_0 rfl (lv_at hl 1 rfl) ?_
  refine lv_iconst (v := 3) hx hb dX9_second_1 (by decide) ?_
  refine g_calli C (va_runS (As := [.int (p1), .int (3)]) (rest := []) C.1 (c_X9_isIndex l G v w sg p1 (A0 := A1) a1 (3) (A1 := 3) (by decide)) (va_cwS 2 hts gX9_second_X9_isIndex rfl rfl rfl (by decide +kernel) ⟨by rw [hR]; exact Nat.le_of_ble_eq_true rfl, by rw [hR]; exact Nat.le_of_ble_eq_true rfl⟩) ⟨gPre_blind, gS_pre C h _⟩ rfl rfl hl.1 rfl (lv_room (Nat.le_of_ble_eq_true rfl)) dX9_second_2 ⟨Nat.zero_le _, Nat.zero_le _⟩) h (fun r_2 v_4 w_5 g_6 H locs p_3 h => ?_)
  obtain ⟨p_3, rfl, rfl, rfl⟩ := p_3
  rcases p_3 with ⟨rfl, t_7⟩ | ⟨rfl, t_7⟩
  · skip
    refine lv_if_eq (tgt := 26) hx hb dX9_second_5 (by decide) (fun c_8 => absurd c_8 (by decide)) (fun _ => ?_)
    refine lv_iload_n hx hb dX9_second_8 rfl (lv_at hl 2 rfl) ?_
    refine lv_bipush (v := 6) hx hb dX9_second_9 (by decide) ?_
    refine g_calli C (va_runS (As := [.int (p2), .int (6)]) (rest := []) C.1 (c_X9_isIndex l G v w sg p2 (A0 := A2) a2 (6) (A1 := 6) (by decide)) (va_cwS 2 hts gX9_second_X9_isIndex rfl rfl rfl (by decide +kernel) ⟨by rw [hR]; exact Nat.le_of_ble_eq_true rfl, by rw [hR]; exact Nat.le_of_ble_eq_true rfl⟩) ⟨gPre_blind, gS_pre C h _⟩ rfl rfl hl.1 rfl (lv_room (Nat.le_of_ble_eq_true rfl)) dX9_second_11 ⟨Nat.zero_le _, Nat.zero_le _⟩) h (fun r_9 v_11 w_12 g_13 H locs p_10 h => ?_)
    obtain ⟨p_10, rfl, rfl, rfl⟩ := p_10
    rcases p_10 with ⟨rfl, t_14⟩ | ⟨rfl, t_14⟩
    · skip
      refine lv_if_eq (tgt := 26) hx hb dX9_second_14 (by decide) (fun c_15 => absurd c_15 (by decide)) (fun _ => ?_)
      refine lv_iload_n hx hb dX9_second_17 rfl (lv_at hl 3 rfl) ?_
      refine lv_bipush (v := 20) hx hb dX9_second_18 (by decide) ?_
      refine g_calli C (va_runS (As := [.int (p3), .int (20)]) (rest := []) C.1 (c_X9_isWithin l G v w sg p3 (A0 := A3) a3 (20) (A1 := 20) (by decide) (by omega)) (va_cwS 2 hts gX9_second_X9_isWithin rfl rfl rfl (by decide +kernel) ⟨by rw [hR]; exact Nat.le_of_ble_eq_true rfl, by rw [hR]; exact Nat.le_of_ble_eq_true rfl⟩) ⟨gPre_blind, gS_pre C h _⟩ rfl rfl hl.1 rfl (lv_room (Nat.le_of_ble_eq_true rfl)) dX9_second_20 ⟨Nat.zero_le _, Nat.zero_le _⟩) h (fun r_16 v_18 w_19 g_20 H locs p_17 h => ?_)
      obtain ⟨p_17, rfl, rfl, rfl⟩ := p_17
      rcases p_17 with ⟨rfl, t_21⟩ | ⟨rfl, t_21⟩
      · skip
        refine lv_if_ne (tgt := 28) hx hb dX9_second_23 (by decide) (fun _ => ?_) (fun c_22 => absurd c_22 (by decide))
        refine lv_aload_n hx hb dX9_second_28 rfl (lv_at hl 0 rfl) ?_
        refine g_get (ci := 9) (x := .ref (G.2.2 (1))) C h 0 (by decide) rfl rfl hi9 0 (by decide) f10 rfl rfl dX9_second_29 ?_
        refine g_get (ci := 0) (x := .ref (G.2.2 (6))) C h 1 (by decide) rfl rfl hi0 1 (by decide) f69 rfl rfl dX9_second_32 ?_
        refine lv_iload_n hx hb dX9_second_35 rfl (lv_at hl 1 rfl) ?_
        refine g_aald (ty := .array .int) C h 6 (by decide) 0 (by decide) (n := 3) (by decide) rfl rfl (vp_of a1 (by omega) (by omega)) dX9_second_36 ?_
        obtain ⟨q_23, q_23_e, q_23_i, q_23_l⟩ := g_row sg (b := 6) (n := 3) (i := p1) (by decide) (by decide) a1 (by omega) (by omega)
        rw [q_23_e]
        refine lv_iload_n hx hb dX9_second_37 rfl (lv_at hl 2 rfl) ?_
        refine lv_iload_n hx hb dX9_second_38 rfl (lv_at hl 3 rfl) ?_
        refine g_iast C h q_23 (by omega) (g_kd 7 3 1 rfl q_23_l) (n := 6) (g_ln 7 3 6 rfl q_23_l) (vp_of a2 (by omega) (by omega)) dX9_second_39 (fun H locs h => ?_)
        obtain ⟨v_24, hv_24⟩ : ∃ z, z = gu v q_23 ((p2 : Int32).toNatClampNeg) p3 := ⟨_, rfl⟩
        have h : gS (gA G) G s v_24 w sg H locs := by rw [hv_24]; exact h
        have u_25 : cI v_24 := by rw [hv_24]; exact (cI_o ci (by omega))
        have u_26 : fC 6 10 v w v_24 w := by rw [hv_24]; exact (fC_v fC_rf (by omega))
        refine lv_iconst (v := 1) hx hb dX9_second_40 (by decide) ?_
        exact ret 1 v_24 w sg _ _ _ _ dX9_second_41 h ⟨⟨u_25, u_26, Or.inl ⟨rfl, by unfold rF2; omega, (by rw [hv_24] <;> exact (gu_cg rfl (by omega) ((cl_nat a2).trans (by omega)) rfl))⟩⟩, rfl, rfl⟩
      · skip
        refine lv_if_ne (tgt := 28) hx hb dX9_second_23 (by decide) (fun c_27 => absurd (by decide) c_27) (fun _ => ?_)
        refine lv_iconst (v := (-1)) hx hb dX9_second_26 (by decide) ?_
        exact ret (-1) v w sg _ _ _ _ dX9_second_27 h ⟨⟨ci, fC_rf, Or.inr ⟨rfl, by unfold rF2; omega, rfl⟩⟩, rfl, rfl⟩
    · skip
      refine lv_if_eq (tgt := 26) hx hb dX9_second_14 (by decide) (fun _ => ?_) (fun c_28 => absurd (by decide) c_28)
      refine lv_iconst (v := (-1)) hx hb dX9_second_26 (by decide) ?_
      exact ret (-1) v w sg _ _ _ _ dX9_second_27 h ⟨⟨ci, fC_rf, Or.inr ⟨rfl, by unfold rF2; omega, rfl⟩⟩, rfl, rfl⟩
  · skip
    refine lv_if_eq (tgt := 26) hx hb dX9_second_5 (by decide) (fun _ => ?_) (fun c_29 => absurd (by decide) c_29)
    refine lv_iconst (v := (-1)) hx hb dX9_second_26 (by decide) ?_
    exact ret (-1) v w sg _ _ _ _ dX9_second_27 h ⟨⟨ci, fC_rf, Or.inr ⟨rfl, by unfold rF2; omega, rfl⟩⟩, rfl, rfl⟩

set_option maxHeartbeats 4000000 in
set_option maxRecDepth 100000 in
theorem c_X9_found (l : Launch) (G : gG) (v : Nat → Nat → Int32) (w : Nat → Nat → Int64) (sg : Nat → Nat) (p1 : Int32) {A1 : Int} (a1 : p1.toInt = A1) (ci : cI v) : Met l yX9_found wsX9_found ({ frames := 1, cells := 0, slots := 0, locals := 21 }) (gPre G v w sg [.ref (G.2.2 (0)), .int (p1)]) (gQi G (fun r v' w' sg' => (((0 ≤ A1 ∧ A1 ≤ 2) ∧ r = v 10 A1.toNat) ∨ (A1 = 3 ∧ r = lo1 (v 1 3)) ∨ (A1 = 4 ∧ r = v 1 4) ∨ ((A1 < 0 ∨ 4 < A1) ∧ r = 0)) ∧ v = v' ∧ w = w' ∧ sg = sg')) 0 0 (gA G) := by
  refine gM_ofi (cc := cX9_found) (maxL := 2) (by decide) rfl (Nat.le_of_ble_eq_true rfl) ?_
  intro p e R s m args below meth c Q ls C hR ret h hl
  have hx := C.1.1
  have hb := C.1.2.1
  have hown := C.1.2.2.2.1
  have hts := C.1.2.2.2.2
  have hl : lv_has ls 2 [(0, .ref (G.2.2 (0))), (1, .int (p1))] := hl
  have q1 := i_rng p1; rw [a1] at q1
  have z_0 : (0 : Int32).toInt = 0 := by decide
  have z_1 : (1 : Int32).toInt = 1 := by decide
  have z_3 : (3 : Int32).toInt = 3 := by decide
  have z_4 : (4 : Int32).toInt = 4 := by decide
  have f10 : Cond.fieldLink RX9 10 "WindHall" "balance" "LWindHall$Balance;" ∈ wsX9_found := by decide +kernel
  have hi9 : ∀ x ∈ u_ws RX9 TX9 7, x ∈ wsX9_found := fun x q => List.mem_cons_of_mem _ (List.mem_append_left _ (List.mem_append_right _ q))
  have f87 : Cond.fieldLink RX9 87 "WindHall$Balance" "load" "[I" ∈ wsX9_found := by decide +kernel
  have hi0 : ∀ x ∈ u_ws RX0 TX0 7, x ∈ wsX9_found := fun x q => List.mem_cons_of_mem _ (List.mem_append_right _ q)
  have f95 : Cond.fieldLink RX9 95 "WindHall$Balance" "away" "I" ∈ wsX9_found := by decide +kernel
  have f91 : Cond.fieldLink RX9 91 "WindHall$Balance" "still" "Z" ∈ wsX9_found := by decide +kernel
  have o_1 := ci
  obtain ⟨K1, K2, K3, K4, K5, K6, K7, Ks, K9, Ka, Kr, Kz⟩ := o_1
  refine lv_iload_n hx hb dX9_found_0 rfl (lv_at hl 1 rfl) ?_
  refine lv_iconst (v := 3) hx hb dX9_found_1 (by decide) ?_
  refine g_calli C (va_runS (As := [.int (p1), .int (3)]) (rest := []) C.1 (c_X9_isIndex l G v w sg p1 (A0 := A1) a1 (3) (A1 := 3) (by decide)) (va_cwS 2 hts gX9_found_X9_isIndex rfl rfl rfl (by decide +kernel) ⟨by rw [hR]; exact Nat.le_of_ble_eq_true rfl, by rw [hR]; exact Nat.le_of_ble_eq_true rfl⟩) ⟨gPre_blind, gS_pre C h _⟩ rfl rfl hl.1 rfl (lv_room (Nat.le_of_ble_eq_true rfl)) dX9_found_2 ⟨Nat.zero_le _, Nat.zero_le _⟩) h (fun r_2 v_4 w_5 g_6 H locs p_3 h => ?_)
  obtain ⟨p_3, rfl, rfl, rfl⟩ := p_3
  rcases p_3 with ⟨rfl, t_7⟩ | ⟨rfl, t_7⟩
  · skip
    refine lv_if_eq (tgt := 18) hx hb dX9_found_5 (by decide) (fun c_8 => absurd c_8 (by decide)) (fun _ => ?_)
    refine lv_aload_n hx hb dX9_found_8 rfl (lv_at hl 0 rfl) ?_
    refine g_get (ci := 9) (x := .ref (G.2.2 (1))) C h 0 (by decide) rfl rfl hi9 0 (by decide) f10 rfl rfl dX9_found_9 ?_
    refine g_get (ci := 0) (x := .ref (G.2.2 (10))) C h 1 (by decide) rfl rfl hi0 2 (by decide) f87 rfl rfl dX9_found_12 ?_
    refine lv_iload_n hx hb dX9_found_15 rfl (lv_at hl 1 rfl) ?_
    refine g_iald C h 10 (by decide) (by decide) (n := 3) (by decide) (vp_of a1 (by omega) (by omega)) dX9_found_16 ?_
    refine lv_topi (fun x_9 e_10 => ?_)
    have hx16 : x_9 = v 10 A1.toNat := by rw [e_10, cl_nat a1]
    exact ret x_9 v w sg _ _ _ _ dX9_found_17 h ⟨Or.inl ⟨by omega, hx16⟩, rfl, rfl, rfl⟩
  · skip
    refine lv_if_eq (tgt := 18) hx hb dX9_found_5 (by decide) (fun _ => ?_) (fun c_11 => absurd (by decide) c_11)
    refine lv_iload_n hx hb dX9_found_18 rfl (lv_at hl 1 rfl) ?_
    refine lv_iconst (v := 3) hx hb dX9_found_19 (by decide) ?_
    refine lv_icmp_ne (tgt := 39) hx hb dX9_found_20 (by decide) (fun c_12 => ?_) (fun c_12 => ?_)
    · have j_13 : ¬ (A1 = 3) := fun q => c_12 ((i_eq a1 (by decide)).mpr q)
      refine lv_iload_n hx hb dX9_found_39 rfl (lv_at hl 1 rfl) ?_
      refine lv_iconst (v := 4) hx hb dX9_found_40 (by decide) ?_
      refine lv_icmp_ne (tgt := 54) hx hb dX9_found_41 (by decide) (fun c_14 => ?_) (fun c_14 => ?_)
      · have j_15 : ¬ (A1 = 4) := fun q => c_14 ((i_eq a1 (by decide)).mpr q)
        refine lv_iconst (v := 0) hx hb dX9_found_54 (by decide) ?_
        exact ret 0 v w sg _ _ _ _ dX9_found_55 h ⟨(by first | exact Or.inr (Or.inr (Or.inr ⟨by omega, rfl⟩)) | exact Or.inr (Or.inl ⟨by omega, by unfold lo1; split <;> first | rfl | omega⟩)), rfl, rfl, rfl⟩
      · have j_15 : A1 = 4 := (i_eq a1 (by decide)).mp c_14
        refine lv_aload_n hx hb dX9_found_44 rfl (lv_at hl 0 rfl) ?_
        refine g_get (ci := 9) (x := .ref (G.2.2 (1))) C h 0 (by decide) rfl rfl hi9 0 (by decide) f10 rfl rfl dX9_found_45 ?_
        refine g_geti (ci := 0) (x := v 1 4) C h 1 (by decide) rfl rfl hi0 4 (by decide) f95 rfl rfl rfl dX9_found_48 ?_
        refine lv_goto (tgt := 55) hx hb dX9_found_51 (by decide) ?_
        exact ret (v 1 4) v w sg _ _ _ _ dX9_found_55 h ⟨Or.inr (Or.inr (Or.inl ⟨by omega, rfl⟩)), rfl, rfl, rfl⟩
    · have j_13 : A1 = 3 := (i_eq a1 (by decide)).mp c_12
      refine lv_aload_n hx hb dX9_found_23 rfl (lv_at hl 0 rfl) ?_
      refine g_get (ci := 9) (x := .ref (G.2.2 (1))) C h 0 (by decide) rfl rfl hi9 0 (by decide) f10 rfl rfl dX9_found_24 ?_
      refine g_geti (ci := 0) (x := v 1 3) C h 1 (by decide) rfl rfl hi0 3 (by decide) f91 rfl rfl rfl dX9_found_27 ?_
      refine lv_if_eq (tgt := 37) hx hb dX9_found_30 (by decide) (fun c_16 => ?_) (fun c_16 => ?_)
      · have j_17 : (v 1 3).toInt = 0 := (i_eq rfl (by decide)).mp c_16
        refine lv_iconst (v := 0) hx hb dX9_found_37 (by decide) ?_
        exact ret 0 v w sg _ _ _ _ dX9_found_38 h ⟨(by first | exact Or.inr (Or.inr (Or.inr ⟨by omega, rfl⟩)) | exact Or.inr (Or.inl ⟨by omega, by unfold lo1; split <;> first | rfl | omega⟩)), rfl, rfl, rfl⟩
      · have j_17 : ¬ ((v 1 3).toInt = 0) := fun q => c_16 ((i_eq rfl (by decide)).mpr q)
        refine lv_iconst (v := 1) hx hb dX9_found_33 (by decide) ?_
        refine lv_goto (tgt := 38) hx hb dX9_found_34 (by decide) ?_
        exact ret 1 v w sg _ _ _ _ dX9_found_38 h ⟨(by first | exact Or.inr (Or.inr (Or.inr ⟨by omega, rfl⟩)) | exact Or.inr (Or.inl ⟨by omega, by unfold lo1; split <;> first | rfl | omega⟩)), rfl, rfl, rfl⟩

set_option maxHeartbeats 4000000 in
set_option maxRecDepth 100000 in
theorem c_X9_forget (l : Launch) (G : gG) (v : Nat → Nat → Int32) (w : Nat → Nat → Int64) (sg : Nat → Nat) (ci : cI v) : Met l yX9_forget wsX9_forget ({ frames := 0, cells := 0, slots := 0, locals := 0 }) (gPre G v w sg [.ref (G.2.2 (0))]) (gQi G (fun r v' w' sg' => (cI v' ∧ fC 18 51 v w v' w ∧ r = v 18 2 ∧ v' = gu v 18 2 0) ∧ w = w' ∧ sg = sg')) 0 0 (gA G) := by
  refine gM_ofi (cc := cX9_forget) (maxL := 2) (by decide) rfl (Nat.le_of_ble_eq_true rfl) ?_
  intro p e R s m args below meth c Q ls C hR ret h hl
  have hx := C.1.1
  have hb := C.1.2.1
  have hown := C.1.2.2.2.1
  have hts := C.1.2.2.2.2
  have hl : lv_has ls 2 [(0, .ref (G.2.2 (0)))] := hl
  have z_0 : (0 : Int32).toInt = 0 := by decide
  have z_1 : (1 : Int32).toInt = 1 := by decide
  have f19 : Cond.fieldLink RX9 19 "WindHall" "calibration" "LWindHall$Calibration;" ∈ wsX9_forget := by decide +kernel
  have hi9 : ∀ x ∈ u_ws RX9 TX9 7, x ∈ wsX9_forget := fun x q => List.mem_cons_of_mem _ (List.mem_append_left _ (List.mem_append_right _ q))
  have f99 : Cond.fieldLink RX9 99 "WindHall$Calibration" "count" "I" ∈ wsX9_forget := by decide +kernel
  have hi1 : ∀ x ∈ u_ws RX1 TX1 4, x ∈ wsX9_forget := fun x q => List.mem_cons_of_mem _ (List.mem_append_right _ q)
  have o_1 := ci
  obtain ⟨K1, K2, K3, K4, K5, K6, K7, Ks, K9, Ka, Kr, Kz⟩ := o_1
  refine lv_aload_n hx hb dX9_forget_0 rfl (lv_at hl 0 rfl) ?_
  refine g_get (ci := 9) (x := .ref (G.2.2 (18))) C h 0 (by decide) rfl rfl hi9 1 (by decide) f19 rfl rfl dX9_forget_1 ?_
  refine g_geti (ci := 1) (x := v 18 2) C h 18 (by decide) rfl rfl hi1 2 (by decide) f99 rfl rfl rfl dX9_forget_4 ?_
  refine lv_istore_n (lv' := [(1, .int (v 18 2)), (0, .ref (G.2.2 (0)))]) hx hb dX9_forget_7 rfl hl (by decide) rfl (fun ls hl => ?_)
  refine lv_aload_n hx hb dX9_forget_8 rfl (lv_at hl 1 rfl) ?_
  refine g_get (ci := 9) (x := .ref (G.2.2 (18))) C h 0 (by decide) rfl rfl hi9 1 (by decide) f19 rfl rfl dX9_forget_9 ?_
  refine lv_iconst (v := 0) hx hb dX9_forget_12 (by decide) ?_
  refine g_put (ci := 1) (x := 0) (ty := .int) C h 18 (by decide) rfl rfl hi1 tyX1 tyX1_ok nmX1 2 (by decide) f99 rfl rfl (by decide +kernel) rfl rfl (Nat.le_of_ble_eq_true rfl) rfl dX9_forget_13 (fun H locs h => ?_)
  obtain ⟨v_2, hv_2⟩ : ∃ z, z = gu v 18 2 0 := ⟨_, rfl⟩
  have h : gS (gA G) G s v_2 w sg H locs := by rw [hv_2]; exact h
  have u_3 : cI v_2 := by rw [hv_2]; exact (cI_18_2 ci (by omega))
  have u_4 : fC 18 51 v w v_2 w := by rw [hv_2]; exact (fC_v fC_rf (by decide))
  refine lv_iload_n hx hb dX9_forget_16 rfl (lv_at hl 0 rfl) ?_
  exact ret (v 18 2) v_2 w sg _ _ _ _ dX9_forget_17 h ⟨⟨u_3, u_4, ⟨rfl, by rw [hv_2]⟩⟩, rfl, rfl⟩

set_option maxHeartbeats 4000000 in
set_option maxRecDepth 100000 in
theorem c_X9_point (l : Launch) (G : gG) (v : Nat → Nat → Int32) (w : Nat → Nat → Int64) (sg : Nat → Nat) (p1 : Int32) {A1 : Int} (a1 : p1.toInt = A1) (p2 : Int32) {A2 : Int} (a2 : p2.toInt = A2) (p3 : Int32) {A3 : Int} (a3 : p3.toInt = A3) (p4 : Int32) {A4 : Int} (a4 : p4.toInt = A4) (p5 : Int32) {A5 : Int} (a5 : p5.toInt = A5) (p6 : Int32) {A6 : Int} (a6 : p6.toInt = A6) (ci : cI v) : Met l yX9_point wsX9_point ({ frames := 2, cells := 0, slots := 0, locals := 43 }) (gPre G v w sg [.ref (G.2.2 (0)), .int (p1), .int (p2), .int (p3), .int (p4), .int (p5), .int (p6)]) (gQi G (fun r v' w' sg' => (cI v' ∧ fC 18 51 v w v' w ∧ ((¬ rF7 A1 A2 A3 A4 A5 A6 ∧ r = -1 ∧ v' = v) ∨ (rF7 A1 A2 A3 A4 A5 A6 ∧ 12 ≤ (v 18 2).toInt ∧ r = -3 ∧ v' = v) ∨ (rF7 A1 A2 A3 A4 A5 A6 ∧ (v 18 2).toInt < 12 ∧ r = v 18 2 + 1 ∧ v' = (gu (gu (gu (gu (gu (gu (gu v (20 + (v 18 2).toInt.toNat) 0 p1) (20 + (v 18 2).toInt.toNat) 1 p2) (20 + (v 18 2).toInt.toNat) 2 p3) (33 + (v 18 2).toInt.toNat) 0 p4) (33 + (v 18 2).toInt.toNat) 1 p5) (33 + (v 18 2).toInt.toNat) 2 p6) 18 2 (v 18 2 + 1))))) ∧ w = w' ∧ sg = sg')) 0 0 (gA G) := by
  refine gM_ofi (cc := cX9_point) (maxL := 7) (by decide) rfl (Nat.le_of_ble_eq_true rfl) ?_
  intro p e R s m args below meth c Q ls C hR ret h hl
  have hx := C.1.1
  have hb := C.1.2.1
  have hown := C.1.2.2.2.1
  have hts := C.1.2.2.2.2
  have hl : lv_has ls 7 [(0, .ref (G.2.2 (0))), (1, .int (p1)), (2, .int (p2)), (3, .int (p3)), (4, .int (p4)), (5, .int (p5)), (6, .int (p6))] := hl
  have q1 := i_rng p1; rw [a1] at q1
  have q2 := i_rng p2; rw [a2] at q2
  have q3 := i_rng p3; rw [a3] at q3
  have q4 := i_rng p4; rw [a4] at q4
  have q5 := i_rng p5; rw [a5] at q5
  have q6 := i_rng p6; rw [a6] at q6
  have z_m3 : ((-3) : Int32).toInt = (-3) := by decide
  have z_m1 : ((-1) : Int32).toInt = (-1) := by decide
  have z_0 : (0 : Int32).toInt = 0 := by decide
  have z_1 : (1 : Int32).toInt = 1 := by decide
  have z_12 : (12 : Int32).toInt = 12 := by decide
  have f19 : Cond.fieldLink RX9 19 "WindHall" "calibration" "LWindHall$Calibration;" ∈ wsX9_point := by decide +kernel
  have hi9 : ∀ x ∈ u_ws RX9 TX9 7, x ∈ wsX9_point := fun x q => List.mem_cons_of_mem _ (List.mem_append_left _ (List.mem_append_right _ q))
  have f99 : Cond.fieldLink RX9 99 "WindHall$Calibration" "count" "I" ∈ wsX9_point := by decide +kernel
  have hi1 : ∀ x ∈ u_ws RX1 TX1 4, x ∈ wsX9_point := fun x q => List.mem_cons_of_mem _ (List.mem_append_right _ q)
  have f102 : Cond.fieldLink RX9 102 "WindHall$Calibration" "loads" "[[I" ∈ wsX9_point := by decide +kernel
  have f109 : Cond.fieldLink RX9 109 "WindHall$Calibration" "readings" "[[I" ∈ wsX9_point := by decide +kernel
  have o_1 := ci
  obtain ⟨K1, K2, K3, K4, K5, K6, K7, Ks, K9, Ka, Kr, Kz⟩ := o_1
  refine lv_iload_n hx hb dX9_point_0 rfl (lv_at hl 1 rfl) ?_
  refine lv_iload_n hx hb dX9_point_1 rfl (lv_at hl 2 rfl) ?_
  refine lv_iload_n hx hb dX9_point_2 rfl (lv_at hl 3 rfl) ?_
  refine g_calli C (va_runS (As := [.int (p1), .int (p2), .int (p3)]) (rest := []) C.1 (c_X9_areLoads l G v w sg p1 (A0 := A1) a1 p2 (A1 := A2) a2 p3 (A2 := A3) a3) (va_cwS 3 hts gX9_point_X9_areLoads rfl rfl rfl (by decide +kernel) ⟨by rw [hR]; exact Nat.le_of_ble_eq_true rfl, by rw [hR]; exact Nat.le_of_ble_eq_true rfl⟩) ⟨gPre_blind, gS_pre C h _⟩ rfl rfl hl.1 rfl (lv_room (Nat.le_of_ble_eq_true rfl)) dX9_point_3 ⟨Nat.zero_le _, Nat.zero_le _⟩) h (fun r_2 v_4 w_5 g_6 H locs p_3 h => ?_)
  obtain ⟨p_3, rfl, rfl, rfl⟩ := p_3
  rcases p_3 with ⟨rfl, t_7⟩ | ⟨rfl, t_7⟩
  · skip
    refine lv_if_eq (tgt := 21) hx hb dX9_point_6 (by decide) (fun c_8 => absurd c_8 (by decide)) (fun _ => ?_)
    refine lv_iload hx hb dX9_point_9 (lv_at hl 4 rfl) ?_
    refine lv_iload hx hb dX9_point_11 (lv_at hl 5 rfl) ?_
    refine lv_iload hx hb dX9_point_13 (lv_at hl 6 rfl) ?_
    refine g_calli C (va_runS (As := [.int (p4), .int (p5), .int (p6)]) (rest := []) C.1 (c_X9_areReadings l G v w sg p4 (A0 := A4) a4 p5 (A1 := A5) a5 p6 (A2 := A6) a6) (va_cwS 3 hts gX9_point_X9_areReadings rfl rfl rfl (by decide +kernel) ⟨by rw [hR]; exact Nat.le_of_ble_eq_true rfl, by rw [hR]; exact Nat.le_of_ble_eq_true rfl⟩) ⟨gPre_blind, gS_pre C h _⟩ rfl rfl hl.1 rfl (lv_room (Nat.le_of_ble_eq_true rfl)) dX9_point_15 ⟨Nat.zero_le _, Nat.zero_le _⟩) h (fun r_9 v_11 w_12 g_13 H locs p_10 h => ?_)
    obtain ⟨p_10, rfl, rfl, rfl⟩ := p_10
    rcases p_10 with ⟨rfl, t_14⟩ | ⟨rfl, t_14⟩
    · skip
      refine lv_if_ne (tgt := 23) hx hb dX9_point_18 (by decide) (fun _ => ?_) (fun c_15 => absurd c_15 (by decide))
      refine lv_aload_n hx hb dX9_point_23 rfl (lv_at hl 0 rfl) ?_
      refine g_get (ci := 9) (x := .ref (G.2.2 (18))) C h 0 (by decide) rfl rfl hi9 1 (by decide) f19 rfl rfl dX9_point_24 ?_
      refine g_geti (ci := 1) (x := v 18 2) C h 18 (by decide) rfl rfl hi1 2 (by decide) f99 rfl rfl rfl dX9_point_27 ?_
      refine lv_bipush (v := 12) hx hb dX9_point_30 (by decide) ?_
      refine lv_icmp_lt (tgt := 38) hx hb dX9_point_32 (by decide) (fun c_16 => ?_) (fun c_16 => ?_)
      · have j_17 : (v 18 2).toInt < 12 := (i_lt rfl (by decide)).mp c_16
        refine lv_aload_n hx hb dX9_point_38 rfl (lv_at hl 0 rfl) ?_
        refine g_get (ci := 9) (x := .ref (G.2.2 (18))) C h 0 (by decide) rfl rfl hi9 1 (by decide) f19 rfl rfl dX9_point_39 ?_
        refine g_get (ci := 1) (x := .ref (G.2.2 (19))) C h 18 (by decide) rfl rfl hi1 0 (by decide) f102 rfl rfl dX9_point_42 ?_
        refine lv_aload_n hx hb dX9_point_45 rfl (lv_at hl 0 rfl) ?_
        refine g_get (ci := 9) (x := .ref (G.2.2 (18))) C h 0 (by decide) rfl rfl hi9 1 (by decide) f19 rfl rfl dX9_point_46 ?_
        refine g_geti (ci := 1) (x := v 18 2) C h 18 (by decide) rfl rfl hi1 2 (by decide) f99 rfl rfl rfl dX9_point_49 ?_
        refine g_aald (ty := .array .int) C h 19 (by decide) 0 (by decide) (n := 12) (by decide) rfl rfl (vp_of rfl (by omega) (by omega)) dX9_point_52 ?_
        obtain ⟨q_18, q_18_e, q_18_i, q_18_l⟩ := g_row sg (b := 19) (n := 12) (i := v 18 2) (by decide) (by decide) rfl (by omega) (by omega)
        rw [q_18_e]
        refine lv_iload_n hx hb dX9_point_53 rfl (lv_at hl 1 rfl) ?_
        refine lv_iload_n hx hb dX9_point_54 rfl (lv_at hl 2 rfl) ?_
        refine lv_iload_n hx hb dX9_point_55 rfl (lv_at hl 3 rfl) ?_
        refine g_callv C (va_runS (As := [.ref (G.2.2 (q_18)), .int (p1), .int (p2), .int (p3)]) (rest := []) C.1 (c_X9_setRow l G v w sg q_18 p1 (A1 := A1) a1 p2 (A2 := A2) a2 p3 (A3 := A3) a3 (by omega) (g_kd 20 12 1 rfl q_18_l) (g_ln 20 12 3 rfl q_18_l)) (va_cwS 4 hts gX9_point_X9_setRow rfl rfl rfl (by decide +kernel) ⟨by rw [hR]; exact Nat.le_of_ble_eq_true rfl, by rw [hR]; exact Nat.le_of_ble_eq_true rfl⟩) ⟨gPre_blind, gS_pre C h _⟩ rfl rfl hl.1 rfl (lv_room (Nat.le_of_ble_eq_true rfl)) dX9_point_56 ⟨Nat.zero_le _, Nat.zero_le _⟩) h (fun v_21 w_22 g_23 H locs p_20 h => ?_)
        obtain ⟨p_20, rfl, rfl⟩ := p_20
        obtain ⟨v_24, hv_24⟩ : ∃ z, z = gu v q_18 0 p1 := ⟨_, rfl⟩
        have u_25 : cI v_24 := by rw [hv_24]; exact (cI_o ci (by omega))
        have u_26 : fC 18 51 v w v_24 w := by rw [hv_24]; exact (fC_v fC_rf (by omega))
        obtain ⟨v_27, hv_27⟩ : ∃ z, z = gu v_24 q_18 1 p2 := ⟨_, rfl⟩
        have u_28 : cI v_27 := by rw [hv_27]; exact (cI_o u_25 (by omega))
        have u_29 : fC 18 51 v w v_27 w := by rw [hv_27]; exact (fC_v u_26 (by omega))
        have hv_21 : v_21 = gu v_27 q_18 2 p3 := by rw [hv_27, hv_24]; exact p_20
        have u_30 : cI v_21 := by rw [hv_21]; exact (cI_o u_28 (by omega))
        have u_31 : fC 18 51 v w v_21 w := by rw [hv_21]; exact (fC_v u_29 (by omega))
        refine lv_aload_n hx hb dX9_point_59 rfl (lv_at hl 0 rfl) ?_
        refine g_get (ci := 9) (x := .ref (G.2.2 (18))) C h 0 (by decide) rfl rfl hi9 1 (by decide) f19 rfl rfl dX9_point_60 ?_
        refine g_get (ci := 1) (x := .ref (G.2.2 (32))) C h 18 (by decide) rfl rfl hi1 1 (by decide) f109 rfl rfl dX9_point_63 ?_
        refine lv_aload_n hx hb dX9_point_66 rfl (lv_at hl 0 rfl) ?_
        refine g_get (ci := 9) (x := .ref (G.2.2 (18))) C h 0 (by decide) rfl rfl hi9 1 (by decide) f19 rfl rfl dX9_point_67 ?_
        refine g_geti (ci := 1) (x := v 18 2) C h 18 (by decide) rfl rfl hi1 2 (by decide) f99 rfl rfl (by rw [hv_21, gu_o (show 18 ≠ q_18 by omega), hv_27, gu_o (show 18 ≠ q_18 by omega), hv_24, gu_o (show 18 ≠ q_18 by omega)] <;> rfl) dX9_point_70 ?_
        refine g_aald (ty := .array .int) C h 32 (by decide) 0 (by decide) (n := 12) (by decide) rfl rfl (vp_of rfl (by omega) (by omega)) dX9_point_73 ?_
        obtain ⟨q_32, q_32_e, q_32_i, q_32_l⟩ := g_row sg (b := 32) (n := 12) (i := v 18 2) (by decide) (by decide) rfl (by omega) (by omega)
        rw [q_32_e]
        refine lv_iload hx hb dX9_point_74 (lv_at hl 4 rfl) ?_
        refine lv_iload hx hb dX9_point_76 (lv_at hl 5 rfl) ?_
        refine lv_iload hx hb dX9_point_78 (lv_at hl 6 rfl) ?_
        refine g_callv C (va_runS (As := [.ref (G.2.2 (q_32)), .int (p4), .int (p5), .int (p6)]) (rest := []) C.1 (c_X9_setRow l G v_21 w sg q_32 p4 (A1 := A4) a4 p5 (A2 := A5) a5 p6 (A3 := A6) a6 (by omega) (g_kd 33 12 1 rfl q_32_l) (g_ln 33 12 3 rfl q_32_l)) (va_cwS 4 hts gX9_point_X9_setRow rfl rfl rfl (by decide +kernel) ⟨by rw [hR]; exact Nat.le_of_ble_eq_true rfl, by rw [hR]; exact Nat.le_of_ble_eq_true rfl⟩) ⟨gPre_blind, gS_pre C h _⟩ rfl rfl hl.1 rfl (lv_room (Nat.le_of_ble_eq_true rfl)) dX9_point_80 ⟨Nat.zero_le _, Nat.zero_le _⟩) h (fun v_35 w_36 g_37 H locs p_34 h => ?_)
        obtain ⟨p_34, rfl, rfl⟩ := p_34
        obtain ⟨v_38, hv_38⟩ : ∃ z, z = gu v_21 q_32 0 p4 := ⟨_, rfl⟩
        have u_39 : cI v_38 := by rw [hv_38]; exact (cI_o u_30 (by omega))
        have u_40 : fC 18 51 v w v_38 w := by rw [hv_38]; exact (fC_v u_31 (by omega))
        obtain ⟨v_41, hv_41⟩ : ∃ z, z = gu v_38 q_32 1 p5 := ⟨_, rfl⟩
        have u_42 : cI v_41 := by rw [hv_41]; exact (cI_o u_39 (by omega))
        have u_43 : fC 18 51 v w v_41 w := by rw [hv_41]; exact (fC_v u_40 (by omega))
        have hv_35 : v_35 = gu v_41 q_32 2 p6 := by rw [hv_41, hv_38]; exact p_34
        have u_44 : cI v_35 := by rw [hv_35]; exact (cI_o u_42 (by omega))
        have u_45 : fC 18 51 v w v_35 w := by rw [hv_35]; exact (fC_v u_43 (by omega))
        refine lv_aload_n hx hb dX9_point_83 rfl (lv_at hl 0 rfl) ?_
        refine g_get (ci := 9) (x := .ref (G.2.2 (18))) C h 0 (by decide) rfl rfl hi9 1 (by decide) f19 rfl rfl dX9_point_84 ?_
        refine lv_dup hx hb dX9_point_87 rfl ?_
        refine g_geti (ci := 1) (x := v 18 2) C h 18 (by decide) rfl rfl hi1 2 (by decide) f99 rfl rfl (by rw [hv_35, gu_o (show 18 ≠ q_32 by omega), hv_41, gu_o (show 18 ≠ q_32 by omega), hv_38, gu_o (show 18 ≠ q_32 by omega), hv_21, gu_o (show 18 ≠ q_18 by omega), hv_27, gu_o (show 18 ≠ q_18 by omega), hv_24, gu_o (show 18 ≠ q_18 by omega)] <;> rfl) dX9_point_88 ?_
        refine lv_iconst (v := 1) hx hb dX9_point_91 (by decide) ?_
        refine lv_iadd hx hb dX9_point_92 ?_
        refine lv_topi (fun x_46 e_47 => ?_)
        have i_48 : x_46.toInt = (v 18 2).toInt + 1 := ia_add e_47 rfl (by decide) (by omega) (by omega)
        refine g_put (ci := 1) (x := x_46) (ty := .int) C h 18 (by decide) rfl rfl hi1 tyX1 tyX1_ok nmX1 2 (by decide) f99 rfl rfl (by decide +kernel) rfl rfl (Nat.le_of_ble_eq_true rfl) rfl dX9_point_93 (fun H locs h => ?_)
        obtain ⟨v_49, hv_49⟩ : ∃ z, z = gu v_35 18 2 x_46 := ⟨_, rfl⟩
        have h : gS (gA G) G s v_49 w sg H locs := by rw [hv_49]; exact h
        have u_50 : cI v_49 := by rw [hv_49]; exact (cI_18_2 u_44 (by omega))
        have u_51 : fC 18 51 v w v_49 w := by rw [hv_49]; exact (fC_v u_45 (by decide))
        refine lv_aload_n hx hb dX9_point_96 rfl (lv_at hl 0 rfl) ?_
        refine g_get (ci := 9) (x := .ref (G.2.2 (18))) C h 0 (by decide) rfl rfl hi9 1 (by decide) f19 rfl rfl dX9_point_97 ?_
        refine g_geti (ci := 1) (x := x_46) C h 18 (by decide) rfl rfl hi1 2 (by decide) f99 rfl rfl (by rw [hv_49] <;> rfl) dX9_point_100 ?_
        exact ret x_46 v_49 w sg _ _ _ _ dX9_point_103 h ⟨⟨u_50, u_51, Or.inr (Or.inr ⟨by unfold rF7; omega, by omega, by assumption, (by rw [hv_49, hv_35, hv_41, hv_38, hv_21, hv_27, hv_24] <;> exact (gu_cg (gu_cg (gu_cg (gu_cg (gu_cg (gu_cg (gu_cg rfl (by omega) rfl rfl) (by omega) rfl rfl) (by omega) rfl rfl) (by omega) rfl rfl) (by omega) rfl rfl) (by omega) rfl rfl) rfl rfl e_47))⟩)⟩, rfl, rfl⟩
      · have j_17 : ¬ ((v 18 2).toInt < 12) := fun q => c_16 ((i_lt rfl (by decide)).mpr q)
        refine lv_bipush (v := (-3)) hx hb dX9_point_35 (by decide) ?_
        exact ret (-3) v w sg _ _ _ _ dX9_point_37 h ⟨⟨ci, fC_rf, Or.inr (Or.inl ⟨by unfold rF7; omega, by omega, rfl, rfl⟩)⟩, rfl, rfl⟩
    · skip
      refine lv_if_ne (tgt := 23) hx hb dX9_point_18 (by decide) (fun c_52 => absurd (by decide) c_52) (fun _ => ?_)
      refine lv_iconst (v := (-1)) hx hb dX9_point_21 (by decide) ?_
      exact ret (-1) v w sg _ _ _ _ dX9_point_22 h ⟨⟨ci, fC_rf, Or.inl ⟨by unfold rF7; omega, rfl, rfl⟩⟩, rfl, rfl⟩
  · skip
    refine lv_if_eq (tgt := 21) hx hb dX9_point_6 (by decide) (fun _ => ?_) (fun c_53 => absurd (by decide) c_53)
    refine lv_iconst (v := (-1)) hx hb dX9_point_21 (by decide) ?_
    exact ret (-1) v w sg _ _ _ _ dX9_point_22 h ⟨⟨ci, fC_rf, Or.inl ⟨by unfold rF7; omega, rfl, rfl⟩⟩, rfl, rfl⟩

set_option maxHeartbeats 4000000 in
set_option maxRecDepth 100000 in
theorem c_X9_drop (l : Launch) (G : gG) (v : Nat → Nat → Int32) (w : Nat → Nat → Int64) (sg : Nat → Nat) (ci : cI v) : Met l yX9_drop wsX9_drop ({ frames := 0, cells := 0, slots := 0, locals := 0 }) (gPre G v w sg [.ref (G.2.2 (0))]) (gQi G (fun r v' w' sg' => (cI v' ∧ fC 51 66 v w v' w) ∧ w = w' ∧ sg = sg')) 0 0 (gA G) := by
  refine gM_ofi (cc := cX9_drop) (maxL := 1) (by decide) rfl (Nat.le_of_ble_eq_true rfl) ?_
  intro p e R s m args below meth c Q ls C hR ret h hl
  have hx := C.1.1
  have hb := C.1.2.1
  have hown := C.1.2.2.2.1
  have hts := C.1.2.2.2.2
  have hl : lv_has ls 1 [(0, .ref (G.2.2 (0)))] := hl
  have z_m4 : ((-4) : Int32).toInt = (-4) := by decide
  have z_0 : (0 : Int32).toInt = 0 := by decide
  have z_1 : (1 : Int32).toInt = 1 := by decide
  have f26 : Cond.fieldLink RX9 26 "WindHall" "corrections" "LWindHall$Corrections;" ∈ wsX9_drop := by decide +kernel
  have hi9 : ∀ x ∈ u_ws RX9 TX9 7, x ∈ wsX9_drop := fun x q => List.mem_cons_of_mem _ (List.mem_append_left _ (List.mem_append_right _ q))
  have f128 : Cond.fieldLink RX9 128 "WindHall$Corrections" "count" "I" ∈ wsX9_drop := by decide +kernel
  have hi3 : ∀ x ∈ u_ws RX3 TX3 7, x ∈ wsX9_drop := fun x q => List.mem_cons_of_mem _ (List.mem_append_right _ q)
  have o_1 := ci
  obtain ⟨K1, K2, K3, K4, K5, K6, K7, Ks, K9, Ka, Kr, Kz⟩ := o_1
  refine lv_aload_n hx hb dX9_drop_0 rfl (lv_at hl 0 rfl) ?_
  refine g_get (ci := 9) (x := .ref (G.2.2 (51))) C h 0 (by decide) rfl rfl hi9 2 (by decide) f26 rfl rfl dX9_drop_1 ?_
  refine g_geti (ci := 3) (x := v 51 1) C h 51 (by decide) rfl rfl hi3 1 (by decide) f128 rfl rfl rfl dX9_drop_4 ?_
  refine lv_if_ne (tgt := 13) hx hb dX9_drop_7 (by decide) (fun c_2 => ?_) (fun c_2 => ?_)
  · have j_3 : ¬ ((v 51 1).toInt = 0) := fun q => c_2 ((i_eq rfl (by decide)).mpr q)
    refine lv_aload_n hx hb dX9_drop_13 rfl (lv_at hl 0 rfl) ?_
    refine g_get (ci := 9) (x := .ref (G.2.2 (51))) C h 0 (by decide) rfl rfl hi9 2 (by decide) f26 rfl rfl dX9_drop_14 ?_
    refine lv_dup hx hb dX9_drop_17 rfl ?_
    refine g_geti (ci := 3) (x := v 51 1) C h 51 (by decide) rfl rfl hi3 1 (by decide) f128 rfl rfl rfl dX9_drop_18 ?_
    refine lv_iconst (v := 1) hx hb dX9_drop_21 (by decide) ?_
    refine lv_isub hx hb dX9_drop_22 ?_
    refine lv_topi (fun x_4 e_5 => ?_)
    have i_6 : x_4.toInt = (v 51 1).toInt - 1 := ia_sub e_5 rfl (by decide) (by omega) (by omega)
    refine g_put (ci := 3) (x := x_4) (ty := .int) C h 51 (by decide) rfl rfl hi3 tyX3 tyX3_ok nmX3 1 (by decide) f128 rfl rfl (by decide +kernel) rfl rfl (Nat.le_of_ble_eq_true rfl) rfl dX9_drop_23 (fun H locs h => ?_)
    obtain ⟨v_7, hv_7⟩ : ∃ z, z = gu v 51 1 x_4 := ⟨_, rfl⟩
    have h : gS (gA G) G s v_7 w sg H locs := by rw [hv_7]; exact h
    have u_8 : cI v_7 := by rw [hv_7]; exact (cI_51_1 ci (by omega))
    have u_9 : fC 51 66 v w v_7 w := by rw [hv_7]; exact (fC_v fC_rf (by decide))
    refine lv_aload_n hx hb dX9_drop_26 rfl (lv_at hl 0 rfl) ?_
    refine g_get (ci := 9) (x := .ref (G.2.2 (51))) C h 0 (by decide) rfl rfl hi9 2 (by decide) f26 rfl rfl dX9_drop_27 ?_
    refine g_geti (ci := 3) (x := x_4) C h 51 (by decide) rfl rfl hi3 1 (by decide) f128 rfl rfl (by rw [hv_7] <;> rfl) dX9_drop_30 ?_
    exact ret x_4 v_7 w sg _ _ _ _ dX9_drop_33 h ⟨⟨u_8, u_9⟩, rfl, rfl⟩
  · have j_3 : (v 51 1).toInt = 0 := (i_eq rfl (by decide)).mp c_2
    refine lv_bipush (v := (-4)) hx hb dX9_drop_10 (by decide) ?_
    exact ret (-4) v w sg _ _ _ _ dX9_drop_12 h ⟨⟨ci, fC_rf⟩, rfl, rfl⟩

set_option maxHeartbeats 4000000 in
set_option maxRecDepth 100000 in
theorem c_X9_raw (l : Launch) (G : gG) (v : Nat → Nat → Int32) (w : Nat → Nat → Int64) (sg : Nat → Nat) (p1 : Int32) {A1 : Int} (a1 : p1.toInt = A1) (p2 : Int32) {A2 : Int} (a2 : p2.toInt = A2) (p3 : Int32) {A3 : Int} (a3 : p3.toInt = A3) (p4 : Int32) {A4 : Int} (a4 : p4.toInt = A4) (p5 : Int32) {A5 : Int} (a5 : p5.toInt = A5) (ci : cI v) : Met l yX9_raw wsX9_raw ({ frames := 2, cells := 0, slots := 0, locals := 43 }) (gPre G v w sg [.ref (G.2.2 (0)), .int (p1), .int (p2), .int (p3), .int (p4), .int (p5)]) (gQi G (fun r v' w' sg' => (cI v' ∧ fC 51 66 v w v' w ∧ ((r = 1 ∧ rF15 A1 A2 A3 A4 A5) ∨ (r = -1 ∧ ¬ rF15 A1 A2 A3 A4 A5))) ∧ w = w' ∧ sg = sg')) 0 0 (gA G) := by
  refine gM_ofi (cc := cX9_raw) (maxL := 6) (by decide) rfl (Nat.le_of_ble_eq_true rfl) ?_
  intro p e R s m args below meth c Q ls C hR ret h hl
  have hx := C.1.1
  have hb := C.1.2.1
  have hown := C.1.2.2.2.1
  have hts := C.1.2.2.2.2
  have hl : lv_has ls 6 [(0, .ref (G.2.2 (0))), (1, .int (p1)), (2, .int (p2)), (3, .int (p3)), (4, .int (p4)), (5, .int (p5))] := hl
  have q1 := i_rng p1; rw [a1] at q1
  have q2 := i_rng p2; rw [a2] at q2
  have q3 := i_rng p3; rw [a3] at q3
  have q4 := i_rng p4; rw [a4] at q4
  have q5 := i_rng p5; rw [a5] at q5
  have z_m1 : ((-1) : Int32).toInt = (-1) := by decide
  have z_0 : (0 : Int32).toInt = 0 := by decide
  have z_1 : (1 : Int32).toInt = 1 := by decide
  have z_24 : (24 : Int32).toInt = 24 := by decide
  have z_1000 : (1000 : Int32).toInt = 1000 := by decide
  have f26 : Cond.fieldLink RX9 26 "WindHall" "corrections" "LWindHall$Corrections;" ∈ wsX9_raw := by decide +kernel
  have hi9 : ∀ x ∈ u_ws RX9 TX9 7, x ∈ wsX9_raw := fun x q => List.mem_cons_of_mem _ (List.mem_append_left _ (List.mem_append_right _ q))
  have f139 : Cond.fieldLink RX9 139 "WindHall$Corrections" "told" "[I" ∈ wsX9_raw := by decide +kernel
  have hi3 : ∀ x ∈ u_ws RX3 TX3 7, x ∈ wsX9_raw := fun x q => List.mem_cons_of_mem _ (List.mem_append_right _ q)
  have f142 : Cond.fieldLink RX9 142 "WindHall$Corrections" "time" "I" ∈ wsX9_raw := by decide +kernel
  have f145 : Cond.fieldLink RX9 145 "WindHall$Corrections" "angle" "I" ∈ wsX9_raw := by decide +kernel
  have o_1 := ci
  obtain ⟨K1, K2, K3, K4, K5, K6, K7, Ks, K9, Ka, Kr, Kz⟩ := o_1
  refine lv_iload_n hx hb dX9_raw_0 rfl (lv_at hl 1 rfl) ?_
  refine lv_iload_n hx hb dX9_raw_1 rfl (lv_at hl 2 rfl) ?_
  refine lv_iload_n hx hb dX9_raw_2 rfl (lv_at hl 3 rfl) ?_
  refine g_calli C (va_runS (As := [.int (p1), .int (p2), .int (p3)]) (rest := []) C.1 (c_X9_areReadings l G v w sg p1 (A0 := A1) a1 p2 (A1 := A2) a2 p3 (A2 := A3) a3) (va_cwS 3 hts gX9_raw_X9_areReadings rfl rfl rfl (by decide +kernel) ⟨by rw [hR]; exact Nat.le_of_ble_eq_true rfl, by rw [hR]; exact Nat.le_of_ble_eq_true rfl⟩) ⟨gPre_blind, gS_pre C h _⟩ rfl rfl hl.1 rfl (lv_room (Nat.le_of_ble_eq_true rfl)) dX9_raw_3 ⟨Nat.zero_le _, Nat.zero_le _⟩) h (fun r_2 v_4 w_5 g_6 H locs p_3 h => ?_)
  obtain ⟨p_3, rfl, rfl, rfl⟩ := p_3
  rcases p_3 with ⟨rfl, t_7⟩ | ⟨rfl, t_7⟩
  · skip
    refine lv_if_eq (tgt := 32) hx hb dX9_raw_6 (by decide) (fun c_8 => absurd c_8 (by decide)) (fun _ => ?_)
    refine lv_iload hx hb dX9_raw_9 (lv_at hl 4 rfl) ?_
    refine lv_if_lt (tgt := 32) hx hb dX9_raw_11 (by decide) (fun c_9 => ?_) (fun c_9 => ?_)
    · have j_10 : A4 < 0 := (i_lt a4 (by decide)).mp c_9
      refine lv_iconst (v := (-1)) hx hb dX9_raw_32 (by decide) ?_
      exact ret (-1) v w sg _ _ _ _ dX9_raw_33 h ⟨⟨ci, fC_rf, Or.inr ⟨rfl, by unfold rF15; omega⟩⟩, rfl, rfl⟩
    · have j_10 : ¬ (A4 < 0) := fun q => c_9 ((i_lt a4 (by decide)).mpr q)
      refine lv_iload hx hb dX9_raw_14 (lv_at hl 4 rfl) ?_
      refine lv_sipush (v := 1000) hx hb dX9_raw_16 (by decide) ?_
      refine lv_icmp_gt (tgt := 32) hx hb dX9_raw_19 (by decide) (fun c_11 => ?_) (fun c_11 => ?_)
      · have j_12 : 1000 < A4 := (i_lt (by decide) a4).mp c_11
        refine lv_iconst (v := (-1)) hx hb dX9_raw_32 (by decide) ?_
        exact ret (-1) v w sg _ _ _ _ dX9_raw_33 h ⟨⟨ci, fC_rf, Or.inr ⟨rfl, by unfold rF15; omega⟩⟩, rfl, rfl⟩
      · have j_12 : ¬ (1000 < A4) := fun q => c_11 ((i_lt (by decide) a4).mpr q)
        refine lv_iload hx hb dX9_raw_22 (lv_at hl 5 rfl) ?_
        refine lv_bipush (v := 24) hx hb dX9_raw_24 (by decide) ?_
        refine g_calli C (va_runS (As := [.int (p5), .int (24)]) (rest := []) C.1 (c_X9_isIndex l G v w sg p5 (A0 := A5) a5 (24) (A1 := 24) (by decide)) (va_cwS 2 hts gX9_raw_X9_isIndex rfl rfl rfl (by decide +kernel) ⟨by rw [hR]; exact Nat.le_of_ble_eq_true rfl, by rw [hR]; exact Nat.le_of_ble_eq_true rfl⟩) ⟨gPre_blind, gS_pre C h _⟩ rfl rfl hl.1 rfl (lv_room (Nat.le_of_ble_eq_true rfl)) dX9_raw_26 ⟨Nat.zero_le _, Nat.zero_le _⟩) h (fun r_13 v_15 w_16 g_17 H locs p_14 h => ?_)
        obtain ⟨p_14, rfl, rfl, rfl⟩ := p_14
        rcases p_14 with ⟨rfl, t_18⟩ | ⟨rfl, t_18⟩
        · skip
          refine lv_if_ne (tgt := 34) hx hb dX9_raw_29 (by decide) (fun _ => ?_) (fun c_19 => absurd c_19 (by decide))
          refine lv_aload_n hx hb dX9_raw_34 rfl (lv_at hl 0 rfl) ?_
          refine g_get (ci := 9) (x := .ref (G.2.2 (51))) C h 0 (by decide) rfl rfl hi9 2 (by decide) f26 rfl rfl dX9_raw_35 ?_
          refine g_get (ci := 3) (x := .ref (G.2.2 (53))) C h 51 (by decide) rfl rfl hi3 2 (by decide) f139 rfl rfl dX9_raw_38 ?_
          refine lv_iload_n hx hb dX9_raw_41 rfl (lv_at hl 1 rfl) ?_
          refine lv_iload_n hx hb dX9_raw_42 rfl (lv_at hl 2 rfl) ?_
          refine lv_iload_n hx hb dX9_raw_43 rfl (lv_at hl 3 rfl) ?_
          refine g_callv C (va_runS (As := [.ref (G.2.2 (53)), .int (p1), .int (p2), .int (p3)]) (rest := []) C.1 (c_X9_setRow l G v w sg 53 p1 (A1 := A1) a1 p2 (A2 := A2) a2 p3 (A3 := A3) a3 (by decide) (by decide) (by decide)) (va_cwS 4 hts gX9_raw_X9_setRow rfl rfl rfl (by decide +kernel) ⟨by rw [hR]; exact Nat.le_of_ble_eq_true rfl, by rw [hR]; exact Nat.le_of_ble_eq_true rfl⟩) ⟨gPre_blind, gS_pre C h _⟩ rfl rfl hl.1 rfl (lv_room (Nat.le_of_ble_eq_true rfl)) dX9_raw_44 ⟨Nat.zero_le _, Nat.zero_le _⟩) h (fun v_22 w_23 g_24 H locs p_21 h => ?_)
          obtain ⟨p_21, rfl, rfl⟩ := p_21
          obtain ⟨v_25, hv_25⟩ : ∃ z, z = gu v 53 0 p1 := ⟨_, rfl⟩
          have u_26 : cI v_25 := by rw [hv_25]; exact (cI_o ci (by decide))
          have u_27 : fC 51 66 v w v_25 w := by rw [hv_25]; exact (fC_v fC_rf (by decide))
          obtain ⟨v_28, hv_28⟩ : ∃ z, z = gu v_25 53 1 p2 := ⟨_, rfl⟩
          have u_29 : cI v_28 := by rw [hv_28]; exact (cI_o u_26 (by decide))
          have u_30 : fC 51 66 v w v_28 w := by rw [hv_28]; exact (fC_v u_27 (by decide))
          have hv_22 : v_22 = gu v_28 53 2 p3 := by rw [hv_28, hv_25]; exact p_21
          have u_31 : cI v_22 := by rw [hv_22]; exact (cI_o u_29 (by decide))
          have u_32 : fC 51 66 v w v_22 w := by rw [hv_22]; exact (fC_v u_30 (by decide))
          refine lv_aload_n hx hb dX9_raw_47 rfl (lv_at hl 0 rfl) ?_
          refine g_get (ci := 9) (x := .ref (G.2.2 (51))) C h 0 (by decide) rfl rfl hi9 2 (by decide) f26 rfl rfl dX9_raw_48 ?_
          refine lv_iload hx hb dX9_raw_51 (lv_at hl 4 rfl) ?_
          refine g_put (ci := 3) (x := p4) (ty := .int) C h 51 (by decide) rfl rfl hi3 tyX3 tyX3_ok nmX3 3 (by decide) f142 rfl rfl (by decide +kernel) rfl rfl (Nat.le_of_ble_eq_true rfl) rfl dX9_raw_53 (fun H locs h => ?_)
          obtain ⟨v_33, hv_33⟩ : ∃ z, z = gu v_22 51 3 p4 := ⟨_, rfl⟩
          have h : gS (gA G) G s v_33 w sg H locs := by rw [hv_33]; exact h
          have u_34 : cI v_33 := by rw [hv_33]; exact (cI_51 u_31 (by decide))
          have u_35 : fC 51 66 v w v_33 w := by rw [hv_33]; exact (fC_v u_32 (by decide))
          refine lv_aload_n hx hb dX9_raw_56 rfl (lv_at hl 0 rfl) ?_
          refine g_get (ci := 9) (x := .ref (G.2.2 (51))) C h 0 (by decide) rfl rfl hi9 2 (by decide) f26 rfl rfl dX9_raw_57 ?_
          refine lv_iload hx hb dX9_raw_60 (lv_at hl 5 rfl) ?_
          refine g_put (ci := 3) (x := p5) (ty := .int) C h 51 (by decide) rfl rfl hi3 tyX3 tyX3_ok nmX3 4 (by decide) f145 rfl rfl (by decide +kernel) rfl rfl (Nat.le_of_ble_eq_true rfl) rfl dX9_raw_62 (fun H locs h => ?_)
          obtain ⟨v_36, hv_36⟩ : ∃ z, z = gu v_33 51 4 p5 := ⟨_, rfl⟩
          have h : gS (gA G) G s v_36 w sg H locs := by rw [hv_36]; exact h
          have u_37 : cI v_36 := by rw [hv_36]; exact (cI_51 u_34 (by decide))
          have u_38 : fC 51 66 v w v_36 w := by rw [hv_36]; exact (fC_v u_35 (by decide))
          refine lv_iconst (v := 1) hx hb dX9_raw_65 (by decide) ?_
          exact ret 1 v_36 w sg _ _ _ _ dX9_raw_66 h ⟨⟨u_37, u_38, Or.inl ⟨rfl, by unfold rF15; omega⟩⟩, rfl, rfl⟩
        · skip
          refine lv_if_ne (tgt := 34) hx hb dX9_raw_29 (by decide) (fun c_39 => absurd (by decide) c_39) (fun _ => ?_)
          refine lv_iconst (v := (-1)) hx hb dX9_raw_32 (by decide) ?_
          exact ret (-1) v w sg _ _ _ _ dX9_raw_33 h ⟨⟨ci, fC_rf, Or.inr ⟨rfl, by unfold rF15; omega⟩⟩, rfl, rfl⟩
  · skip
    refine lv_if_eq (tgt := 32) hx hb dX9_raw_6 (by decide) (fun _ => ?_) (fun c_40 => absurd (by decide) c_40)
    refine lv_iconst (v := (-1)) hx hb dX9_raw_32 (by decide) ?_
    exact ret (-1) v w sg _ _ _ _ dX9_raw_33 h ⟨⟨ci, fC_rf, Or.inr ⟨rfl, by unfold rF15; omega⟩⟩, rfl, rfl⟩

set_option maxHeartbeats 4000000 in
set_option maxRecDepth 100000 in
theorem c_X9_moves (l : Launch) (G : gG) (v : Nat → Nat → Int32) (w : Nat → Nat → Int64) (sg : Nat → Nat) (p1 : Int32) {A1 : Int} (a1 : p1.toInt = A1) (p2 : Int32) {A2 : Int} (a2 : p2.toInt = A2) (ci : cI v) : Met l yX9_moves wsX9_moves ({ frames := 1, cells := 0, slots := 0, locals := 21 }) (gPre G v w sg [.ref (G.2.2 (0)), .int (p1), .int (p2)]) (gQi G (fun r v' w' sg' => (((¬ ((0 ≤ A1 ∧ A1 < (v 66 0).toInt) ∧ (0 ≤ A2 ∧ A2 < (v 66 0).toInt)) ∧ r = -1) ∨ ((0 ≤ A1 ∧ A1 < (v 66 0).toInt) ∧ (0 ≤ A2 ∧ A2 < (v 66 0).toInt) ∧ r = v (69 + A1.toNat) A2.toNat))) ∧ v = v' ∧ w = w' ∧ sg = sg')) 0 0 (gA G) := by
  refine gM_ofi (cc := cX9_moves) (maxL := 3) (by decide) rfl (Nat.le_of_ble_eq_true rfl) ?_
  intro p e R s m args below meth c Q ls C hR ret h hl
  have hx := C.1.1
  have hb := C.1.2.1
  have hown := C.1.2.2.2.1
  have hts := C.1.2.2.2.2
  have hl : lv_has ls 3 [(0, .ref (G.2.2 (0))), (1, .int (p1)), (2, .int (p2))] := hl
  have q1 := i_rng p1; rw [a1] at q1
  have q2 := i_rng p2; rw [a2] at q2
  have z_m1 : ((-1) : Int32).toInt = (-1) := by decide
  have z_0 : (0 : Int32).toInt = 0 := by decide
  have z_1 : (1 : Int32).toInt = 1 := by decide
  have f33 : Cond.fieldLink RX9 33 "WindHall" "program" "LWindHall$Program;" ∈ wsX9_moves := by decide +kernel
  have hi9 : ∀ x ∈ u_ws RX9 TX9 7, x ∈ wsX9_moves := fun x q => List.mem_cons_of_mem _ (List.mem_append_left _ (List.mem_append_right _ q))
  have f163 : Cond.fieldLink RX9 163 "WindHall$Program" "count" "I" ∈ wsX9_moves := by decide +kernel
  have hi5 : ∀ x ∈ u_ws RX5 TX5 10, x ∈ wsX9_moves := fun x q => List.mem_cons_of_mem _ (List.mem_append_right _ q)
  have f174 : Cond.fieldLink RX9 174 "WindHall$Program" "move" "[[I" ∈ wsX9_moves := by decide +kernel
  have o_1 := ci
  obtain ⟨K1, K2, K3, K4, K5, K6, K7, Ks, K9, Ka, Kr, Kz⟩ := o_1
  refine lv_iload_n hx hb dX9_moves_0 rfl (lv_at hl 1 rfl) ?_
  refine lv_aload_n hx hb dX9_moves_1 rfl (lv_at hl 0 rfl) ?_
  refine g_get (ci := 9) (x := .ref (G.2.2 (66))) C h 0 (by decide) rfl rfl hi9 3 (by decide) f33 rfl rfl dX9_moves_2 ?_
  refine g_geti (ci := 5) (x := v 66 0) C h 66 (by decide) rfl rfl hi5 0 (by decide) f163 rfl rfl rfl dX9_moves_5 ?_
  refine g_calli C (va_runS (As := [.int (p1), .int (v 66 0)]) (rest := []) C.1 (c_X9_isIndex l G v w sg p1 (A0 := A1) a1 (v 66 0) (A1 := (v 66 0).toInt) rfl) (va_cwS 2 hts gX9_moves_X9_isIndex rfl rfl rfl (by decide +kernel) ⟨by rw [hR]; exact Nat.le_of_ble_eq_true rfl, by rw [hR]; exact Nat.le_of_ble_eq_true rfl⟩) ⟨gPre_blind, gS_pre C h _⟩ rfl rfl hl.1 rfl (lv_room (Nat.le_of_ble_eq_true rfl)) dX9_moves_8 ⟨Nat.zero_le _, Nat.zero_le _⟩) h (fun r_2 v_4 w_5 g_6 H locs p_3 h => ?_)
  obtain ⟨p_3, rfl, rfl, rfl⟩ := p_3
  rcases p_3 with ⟨rfl, t_7⟩ | ⟨rfl, t_7⟩
  · skip
    refine lv_if_eq (tgt := 28) hx hb dX9_moves_11 (by decide) (fun c_8 => absurd c_8 (by decide)) (fun _ => ?_)
    refine lv_iload_n hx hb dX9_moves_14 rfl (lv_at hl 2 rfl) ?_
    refine lv_aload_n hx hb dX9_moves_15 rfl (lv_at hl 0 rfl) ?_
    refine g_get (ci := 9) (x := .ref (G.2.2 (66))) C h 0 (by decide) rfl rfl hi9 3 (by decide) f33 rfl rfl dX9_moves_16 ?_
    refine g_geti (ci := 5) (x := v 66 0) C h 66 (by decide) rfl rfl hi5 0 (by decide) f163 rfl rfl rfl dX9_moves_19 ?_
    refine g_calli C (va_runS (As := [.int (p2), .int (v 66 0)]) (rest := []) C.1 (c_X9_isIndex l G v w sg p2 (A0 := A2) a2 (v 66 0) (A1 := (v 66 0).toInt) rfl) (va_cwS 2 hts gX9_moves_X9_isIndex rfl rfl rfl (by decide +kernel) ⟨by rw [hR]; exact Nat.le_of_ble_eq_true rfl, by rw [hR]; exact Nat.le_of_ble_eq_true rfl⟩) ⟨gPre_blind, gS_pre C h _⟩ rfl rfl hl.1 rfl (lv_room (Nat.le_of_ble_eq_true rfl)) dX9_moves_22 ⟨Nat.zero_le _, Nat.zero_le _⟩) h (fun r_9 v_11 w_12 g_13 H locs p_10 h => ?_)
    obtain ⟨p_10, rfl, rfl, rfl⟩ := p_10
    rcases p_10 with ⟨rfl, t_14⟩ | ⟨rfl, t_14⟩
    · skip
      refine lv_if_ne (tgt := 30) hx hb dX9_moves_25 (by decide) (fun _ => ?_) (fun c_15 => absurd c_15 (by decide))
      refine lv_aload_n hx hb dX9_moves_30 rfl (lv_at hl 0 rfl) ?_
      refine g_get (ci := 9) (x := .ref (G.2.2 (66))) C h 0 (by decide) rfl rfl hi9 3 (by decide) f33 rfl rfl dX9_moves_31 ?_
      refine g_get (ci := 5) (x := .ref (G.2.2 (68))) C h 66 (by decide) rfl rfl hi5 2 (by decide) f174 rfl rfl dX9_moves_34 ?_
      refine lv_iload_n hx hb dX9_moves_37 rfl (lv_at hl 1 rfl) ?_
      refine g_aald (ty := .array .int) C h 68 (by decide) 0 (by decide) (n := 10) (by decide) rfl rfl (vp_of a1 (by omega) (by omega)) dX9_moves_38 ?_
      obtain ⟨q_16, q_16_e, q_16_i, q_16_l⟩ := g_row sg (b := 68) (n := 10) (i := p1) (by decide) (by decide) a1 (by omega) (by omega)
      rw [q_16_e]
      refine lv_iload_n hx hb dX9_moves_39 rfl (lv_at hl 2 rfl) ?_
      refine g_iald C h q_16 (by omega) (g_kd 69 10 1 rfl q_16_l) (n := 10) (g_ln 69 10 10 rfl q_16_l) (vp_of a2 (by omega) (by omega)) dX9_moves_40 ?_
      refine lv_topi (fun x_17 e_18 => ?_)
      exact ret x_17 v w sg _ _ _ _ dX9_moves_41 h ⟨Or.inr (⟨(by omega), (by omega), (by rw [e_18, cl_nat a2, show q_16 = 69 + A1.toNat by omega])⟩), rfl, rfl, rfl⟩
    · skip
      refine lv_if_ne (tgt := 30) hx hb dX9_moves_25 (by decide) (fun c_19 => absurd (by decide) c_19) (fun _ => ?_)
      refine lv_iconst (v := (-1)) hx hb dX9_moves_28 (by decide) ?_
      exact ret (-1) v w sg _ _ _ _ dX9_moves_29 h ⟨Or.inl ⟨(by omega), rfl⟩, rfl, rfl, rfl⟩
  · skip
    refine lv_if_eq (tgt := 28) hx hb dX9_moves_11 (by decide) (fun _ => ?_) (fun c_20 => absurd (by decide) c_20)
    refine lv_iconst (v := (-1)) hx hb dX9_moves_28 (by decide) ?_
    exact ret (-1) v w sg _ _ _ _ dX9_moves_29 h ⟨Or.inl ⟨(by omega), rfl⟩, rfl, rfl, rfl⟩

set_option maxHeartbeats 4000000 in
set_option maxRecDepth 100000 in
theorem c_X9_done (l : Launch) (G : gG) (v : Nat → Nat → Int32) (w : Nat → Nat → Int64) (sg : Nat → Nat) (p1 : Int32) {A1 : Int} (a1 : p1.toInt = A1) (p2 : Int32) {A2 : Int} (a2 : p2.toInt = A2) (bz : A2 = 0 ∨ A2 = 1) (ci : cI v) : Met l yX9_done wsX9_done ({ frames := 1, cells := 0, slots := 0, locals := 21 }) (gPre G v w sg [.ref (G.2.2 (0)), .int (p1), .int (p2)]) (gQi G (fun r v' w' sg' => (cI v' ∧ fC 66 83 v w v' w ∧ ((¬ (0 ≤ A1 ∧ A1 < (v 66 0).toInt) ∧ r = -1 ∧ v' = v) ∨ (0 ≤ A1 ∧ A1 < (v 66 0).toInt ∧ r = lo1 (v 67 A1.toNat) ∧ v' = (gu (gu v 67 A1.toNat (vp_nar .boolean p2)) 66 3 (plD (v 66 3).toInt (v 67 A1.toNat).toInt A2))))) ∧ w = w' ∧ sg = sg')) 0 0 (gA G) := by
  refine gM_ofi (cc := cX9_done) (maxL := 4) (by decide) rfl (Nat.le_of_ble_eq_true rfl) ?_
  intro p e R s m args below meth c Q ls C hR ret h hl
  have hx := C.1.1
  have hb := C.1.2.1
  have hown := C.1.2.2.2.1
  have hts := C.1.2.2.2.2
  have hl : lv_has ls 4 [(0, .ref (G.2.2 (0))), (1, .int (p1)), (2, .int (p2))] := hl
  have q1 := i_rng p1; rw [a1] at q1
  have q2 := i_rng p2; rw [a2] at q2
  have z_m1 : ((-1) : Int32).toInt = (-1) := by decide
  have z_0 : (0 : Int32).toInt = 0 := by decide
  have z_1 : (1 : Int32).toInt = 1 := by decide
  have f33 : Cond.fieldLink RX9 33 "WindHall" "program" "LWindHall$Program;" ∈ wsX9_done := by decide +kernel
  have hi9 : ∀ x ∈ u_ws RX9 TX9 7, x ∈ wsX9_done := fun x q => List.mem_cons_of_mem _ (List.mem_append_left _ (List.mem_append_right _ q))
  have f163 : Cond.fieldLink RX9 163 "WindHall$Program" "count" "I" ∈ wsX9_done := by decide +kernel
  have hi5 : ∀ x ∈ u_ws RX5 TX5 10, x ∈ wsX9_done := fun x q => List.mem_cons_of_mem _ (List.mem_append_right _ q)
  have f167 : Cond.fieldLink RX9 167 "WindHall$Program" "isDone" "[Z" ∈ wsX9_done := by decide +kernel
  have f171 : Cond.fieldLink RX9 171 "WindHall$Program" "isPlanned" "Z" ∈ wsX9_done := by decide +kernel
  have o_1 := ci
  obtain ⟨K1, K2, K3, K4, K5, K6, K7, Ks, K9, Ka, Kr, Kz⟩ := o_1
  refine lv_iload_n hx hb dX9_done_0 rfl (lv_at hl 1 rfl) ?_
  refine lv_aload_n hx hb dX9_done_1 rfl (lv_at hl 0 rfl) ?_
  refine g_get (ci := 9) (x := .ref (G.2.2 (66))) C h 0 (by decide) rfl rfl hi9 3 (by decide) f33 rfl rfl dX9_done_2 ?_
  refine g_geti (ci := 5) (x := v 66 0) C h 66 (by decide) rfl rfl hi5 0 (by decide) f163 rfl rfl rfl dX9_done_5 ?_
  refine g_calli C (va_runS (As := [.int (p1), .int (v 66 0)]) (rest := []) C.1 (c_X9_isIndex l G v w sg p1 (A0 := A1) a1 (v 66 0) (A1 := (v 66 0).toInt) rfl) (va_cwS 2 hts gX9_done_X9_isIndex rfl rfl rfl (by decide +kernel) ⟨by rw [hR]; exact Nat.le_of_ble_eq_true rfl, by rw [hR]; exact Nat.le_of_ble_eq_true rfl⟩) ⟨gPre_blind, gS_pre C h _⟩ rfl rfl hl.1 rfl (lv_room (Nat.le_of_ble_eq_true rfl)) dX9_done_8 ⟨Nat.zero_le _, Nat.zero_le _⟩) h (fun r_2 v_4 w_5 g_6 H locs p_3 h => ?_)
  obtain ⟨p_3, rfl, rfl, rfl⟩ := p_3
  rcases p_3 with ⟨rfl, t_7⟩ | ⟨rfl, t_7⟩
  · skip
    refine lv_if_ne (tgt := 16) hx hb dX9_done_11 (by decide) (fun _ => ?_) (fun c_8 => absurd c_8 (by decide))
    refine lv_aload_n hx hb dX9_done_16 rfl (lv_at hl 0 rfl) ?_
    refine g_get (ci := 9) (x := .ref (G.2.2 (66))) C h 0 (by decide) rfl rfl hi9 3 (by decide) f33 rfl rfl dX9_done_17 ?_
    refine g_get (ci := 5) (x := .ref (G.2.2 (67))) C h 66 (by decide) rfl rfl hi5 1 (by decide) f167 rfl rfl dX9_done_20 ?_
    refine lv_iload_n hx hb dX9_done_23 rfl (lv_at hl 1 rfl) ?_
    refine g_zald C h 67 (by decide) (by decide) (n := 9) (by decide) (vp_of a1 (by omega) (by omega)) dX9_done_24 ?_
    refine lv_topi (fun x_9 e_10 => ?_)
    have hdn : (x_9).toInt = (v 67 A1.toNat).toInt := by rw [e_10, cl_nat a1]
    refine lv_istore_n (lv' := [(3, .int (x_9)), (0, .ref (G.2.2 (0))), (1, .int (p1)), (2, .int (p2))]) hx hb dX9_done_25 rfl hl (by decide) rfl (fun ls hl => ?_)
    refine lv_aload_n hx hb dX9_done_26 rfl (lv_at hl 1 rfl) ?_
    refine g_get (ci := 9) (x := .ref (G.2.2 (66))) C h 0 (by decide) rfl rfl hi9 3 (by decide) f33 rfl rfl dX9_done_27 ?_
    refine g_get (ci := 5) (x := .ref (G.2.2 (67))) C h 66 (by decide) rfl rfl hi5 1 (by decide) f167 rfl rfl dX9_done_30 ?_
    refine lv_iload_n hx hb dX9_done_33 rfl (lv_at hl 2 rfl) ?_
    refine lv_iload_n hx hb dX9_done_34 rfl (lv_at hl 3 rfl) ?_
    refine g_zast C h 67 (by decide) (by decide) (n := 9) (by decide) (vp_of a1 (by omega) (by omega)) dX9_done_35 (fun H locs h => ?_)
    obtain ⟨v_11, hv_11⟩ : ∃ z, z = gu v 67 ((p1 : Int32).toNatClampNeg) (vp_nar .boolean p2) := ⟨_, rfl⟩
    have h : gS (gA G) G s v_11 w sg H locs := by rw [hv_11]; exact h
    have u_12 : cI v_11 := by rw [hv_11]; exact (cI_o ci (by decide))
    have u_13 : fC 66 83 v w v_11 w := by rw [hv_11]; exact (fC_v fC_rf (by decide))
    refine lv_aload_n hx hb dX9_done_36 rfl (lv_at hl 1 rfl) ?_
    refine g_get (ci := 9) (x := .ref (G.2.2 (66))) C h 0 (by decide) rfl rfl hi9 3 (by decide) f33 rfl rfl dX9_done_37 ?_
    refine lv_aload_n hx hb dX9_done_40 rfl (lv_at hl 1 rfl) ?_
    refine g_get (ci := 9) (x := .ref (G.2.2 (66))) C h 0 (by decide) rfl rfl hi9 3 (by decide) f33 rfl rfl dX9_done_41 ?_
    refine g_geti (ci := 5) (x := v 66 3) C h 66 (by decide) rfl rfl hi5 3 (by decide) f171 rfl rfl (by rw [hv_11] <;> rfl) dX9_done_44 ?_
    have J60_14 : ∀ (y_14 : Int32) (H : Heap) (locs : List Loc) (ls : Array Slot), ((y_14).toInt = 0 ∨ (y_14).toInt = 1) → (y_14 = plD (v 66 3).toInt (v 67 A1.toNat).toInt A2) → gS (gA G) G s v_11 w sg H locs → lv_has ls 4 [(0, .ref (G.2.2 (0))), (1, .int (p1)), (2, .int (p2)), (3, .int (x_9))] → W p l e R s m args below meth c H locs 0 0 Q (F0 m 60 ls [.int (y_14), .ref (G.2.2 (66))]) := by
      intro y_14 H locs ls f_15 f_16 h hl
      refine g_put (ci := 5) (x := y_14) (ty := .boolean) C h 66 (by decide) rfl rfl hi5 tyX5 tyX5_ok nmX5 3 (by decide) f171 rfl rfl (by decide +kernel) (nb_of (by omega)) (fb_of (by omega)) (Nat.le_of_ble_eq_true rfl) rfl dX9_done_60 (fun H locs h => ?_)
      obtain ⟨v_17, hv_17⟩ : ∃ z, z = gu v_11 66 3 y_14 := ⟨_, rfl⟩
      have h : gS (gA G) G s v_17 w sg H locs := by rw [hv_17]; exact h
      have u_18 : cI v_17 := by rw [hv_17]; exact (cI_66 u_12 (by decide))
      have u_19 : fC 66 83 v w v_17 w := by rw [hv_17]; exact (fC_v u_13 (by decide))
      refine lv_iload_n hx hb dX9_done_63 rfl (lv_at hl 3 rfl) ?_
      refine lv_if_eq (tgt := 71) hx hb dX9_done_64 (by decide) (fun c_20 => ?_) (fun c_20 => ?_)
      · have j_21 : (x_9).toInt = 0 := (i_eq rfl (by decide)).mp c_20
        refine lv_iconst (v := 0) hx hb dX9_done_71 (by decide) ?_
        exact ret 0 v_17 w sg _ _ _ _ dX9_done_72 h ⟨⟨u_18, u_19, Or.inr (⟨(by omega), (by omega), (by unfold lo1; split <;> first | rfl | omega), (by rw [hv_17, hv_11] <;> exact (gu_cg (gu_cg rfl rfl ((cl_nat a1).trans (by omega)) rfl) rfl rfl (by subst_vars; rfl)))⟩)⟩, rfl, rfl⟩
      · have j_21 : ¬ ((x_9).toInt = 0) := fun q => c_20 ((i_eq rfl (by decide)).mpr q)
        refine lv_iconst (v := 1) hx hb dX9_done_67 (by decide) ?_
        refine lv_goto (tgt := 72) hx hb dX9_done_68 (by decide) ?_
        exact ret 1 v_17 w sg _ _ _ _ dX9_done_72 h ⟨⟨u_18, u_19, Or.inr (⟨(by omega), (by omega), (by unfold lo1; split <;> first | rfl | omega), (by rw [hv_17, hv_11] <;> exact (gu_cg (gu_cg rfl rfl ((cl_nat a1).trans (by omega)) rfl) rfl rfl (by subst_vars; rfl)))⟩)⟩, rfl, rfl⟩
    have J59_21 : ∀ (H : Heap) (locs : List Loc) (ls : Array Slot), (¬ ((v 66 3).toInt ≠ 0 ∧ (v 67 A1.toNat).toInt = A2)) → gS (gA G) G s v_11 w sg H locs → lv_has ls 4 [(0, .ref (G.2.2 (0))), (1, .int (p1)), (2, .int (p2)), (3, .int (x_9))] → W p l e R s m args below meth c H locs 0 0 Q (F0 m 59 ls [.ref (G.2.2 (66))]) := by
      intro  H locs ls f_22 h hl
      refine lv_iconst (v := 0) hx hb dX9_done_59 (by decide) ?_
      exact J60_14 0 _ _ _ (by omega) (by unfold plD; split <;> first | rfl | omega) h (lv_sub hl [0, 1, 2, 3] rfl)
    refine lv_if_eq (tgt := 59) hx hb dX9_done_47 (by decide) (fun c_23 => ?_) (fun c_23 => ?_)
    · have j_24 : (v 66 3).toInt = 0 := (i_eq rfl (by decide)).mp c_23
      exact J59_21  _ _ _ (by omega) h (lv_sub hl [1, 2, 3, 0] rfl)
    · have j_24 : ¬ ((v 66 3).toInt = 0) := fun q => c_23 ((i_eq rfl (by decide)).mpr q)
      refine lv_iload_n hx hb dX9_done_50 rfl (lv_at hl 0 rfl) ?_
      refine lv_iload_n hx hb dX9_done_51 rfl (lv_at hl 3 rfl) ?_
      refine lv_icmp_ne (tgt := 59) hx hb dX9_done_52 (by decide) (fun c_25 => ?_) (fun c_25 => ?_)
      · have j_26 : ¬ ((x_9).toInt = A2) := fun q => c_25 ((i_eq rfl a2).mpr q)
        exact J59_21  _ _ _ (by omega) h (lv_sub hl [1, 2, 3, 0] rfl)
      · have j_26 : (x_9).toInt = A2 := (i_eq rfl a2).mp c_25
        refine lv_iconst (v := 1) hx hb dX9_done_55 (by decide) ?_
        refine lv_goto (tgt := 60) hx hb dX9_done_56 (by decide) ?_
        exact J60_14 1 _ _ _ (by omega) (by unfold plD; split <;> first | rfl | omega) h (lv_sub hl [1, 2, 3, 0] rfl)
  · skip
    refine lv_if_ne (tgt := 16) hx hb dX9_done_11 (by decide) (fun c_27 => absurd (by decide) c_27) (fun _ => ?_)
    refine lv_iconst (v := (-1)) hx hb dX9_done_14 (by decide) ?_
    exact ret (-1) v w sg _ _ _ _ dX9_done_15 h ⟨⟨ci, fC_rf, Or.inl ⟨(by omega), rfl, rfl⟩⟩, rfl, rfl⟩

set_option maxHeartbeats 4000000 in
set_option maxRecDepth 100000 in
theorem c_X5_howManyDone (l : Launch) (G : gG) (v : Nat → Nat → Int32) (w : Nat → Nat → Int64) (sg : Nat → Nat) (ci : cI v) : Met l yX5_howManyDone wsX5_howManyDone ({ frames := 0, cells := 0, slots := 0, locals := 0 }) (gPre G v w sg [.ref (G.2.2 (66))]) (gQi G (fun r v' w' sg' => (True) ∧ v = v' ∧ w = w' ∧ sg = sg')) 0 0 (gA G) := by
  refine gM_ofi (cc := cX5_howManyDone) (maxL := 3) (by decide) rfl (Nat.le_of_ble_eq_true rfl) ?_
  intro p e R s m args below meth c Q ls C hR ret h hl
  have hx := C.1.1
  have hb := C.1.2.1
  have hown := C.1.2.2.2.1
  have hts := C.1.2.2.2.2
  have hl : lv_has ls 3 [(0, .ref (G.2.2 (66)))] := hl
  have z_0 : (0 : Int32).toInt = 0 := by decide
  have z_1 : (1 : Int32).toInt = 1 := by decide
  have f11 : Cond.fieldLink RX5 11 "WindHall$Program" "count" "I" ∈ wsX5_howManyDone := by decide +kernel
  have hi5 : ∀ x ∈ u_ws RX5 TX5 10, x ∈ wsX5_howManyDone := fun x q => List.mem_cons_of_mem _ (List.mem_append_right _ q)
  have f15 : Cond.fieldLink RX5 15 "WindHall$Program" "isDone" "[Z" ∈ wsX5_howManyDone := by decide +kernel
  have o_1 := ci
  obtain ⟨K1, K2, K3, K4, K5, K6, K7, Ks, K9, Ka, Kr, Kz⟩ := o_1
  refine lv_iconst (v := 0) hx hb dX5_howManyDone_0 (by decide) ?_
  refine lv_istore_n (lv' := [(1, .int (0)), (0, .ref (G.2.2 (66)))]) hx hb dX5_howManyDone_1 rfl hl (by decide) rfl (fun ls hl => ?_)
  refine lv_iconst (v := 0) hx hb dX5_howManyDone_2 (by decide) ?_
  have J4_3 : ∀ (n : Nat) (y_2 : Int32) (y_3 : Int32) (H : Heap) (locs : List Loc) (ls : Array Slot), ((v 66 0).toInt - (y_3).toInt).toNat < n → (0 ≤ (y_3).toInt ∧ (y_3).toInt ≤ (v 66 0).toInt) → gS (gA G) G s v w sg H locs → lv_has ls 3 [(0, .ref (G.2.2 (66))), (1, .int (y_2)), (2, .int (y_3))] → W p l e R s m args below meth c H locs 0 0 Q (F0 m 4 ls []) := by
    intro n
    induction n with
    | zero => intro y_2 y_3 H locs ls hm; exact absurd hm (Nat.not_lt_zero _)
    | succ n ih4 =>
      intro y_2 y_3 H locs ls hm f_4 h hl
      refine lv_iload_n hx hb dX5_howManyDone_4 rfl (lv_at hl 2 rfl) ?_
      refine lv_aload_n hx hb dX5_howManyDone_5 rfl (lv_at hl 0 rfl) ?_
      refine g_geti (ci := 5) (x := v 66 0) C h 66 (by decide) rfl rfl hi5 0 (by decide) f11 rfl rfl rfl dX5_howManyDone_6 ?_
      refine lv_icmp_ge (tgt := 35) hx hb dX5_howManyDone_9 (by decide) (fun c_5 => ?_) (fun c_5 => ?_)
      · have j_6 : (v 66 0).toInt ≤ (y_3).toInt := (i_le rfl rfl).mp c_5
        refine lv_iload_n hx hb dX5_howManyDone_35 rfl (lv_at hl 1 rfl) ?_
        exact ret y_2 v w sg _ _ _ _ dX5_howManyDone_36 h ⟨trivial, rfl, rfl, rfl⟩
      · have j_6 : ¬ ((v 66 0).toInt ≤ (y_3).toInt) := fun q => c_5 ((i_le rfl rfl).mpr q)
        refine lv_iload_n hx hb dX5_howManyDone_12 rfl (lv_at hl 1 rfl) ?_
        refine lv_aload_n hx hb dX5_howManyDone_13 rfl (lv_at hl 0 rfl) ?_
        refine g_get (ci := 5) (x := .ref (G.2.2 (67))) C h 66 (by decide) rfl rfl hi5 1 (by decide) f15 rfl rfl dX5_howManyDone_14 ?_
        refine lv_iload_n hx hb dX5_howManyDone_17 rfl (lv_at hl 2 rfl) ?_
        refine g_zald C h 67 (by decide) (by decide) (n := 9) (by decide) (vp_of rfl (by omega) (by omega)) dX5_howManyDone_18 ?_
        refine lv_topi (fun x_7 e_8 => ?_)
        have J27_9 : ∀ (y_9 : Int32) (H : Heap) (locs : List Loc) (ls : Array Slot), gS (gA G) G s v w sg H locs → lv_has ls 3 [(0, .ref (G.2.2 (66))), (1, .int (y_2)), (2, .int (y_3))] → W p l e R s m args below meth c H locs 0 0 Q (F0 m 27 ls [.int (y_9), .int (y_2)]) := by
          intro y_9 H locs ls  h hl
          refine lv_iadd hx hb dX5_howManyDone_27 ?_
          refine lv_topi (fun x_10 e_11 => ?_)
          refine lv_istore_n (lv' := [(1, .int (x_10)), (0, .ref (G.2.2 (66))), (2, .int (y_3))]) hx hb dX5_howManyDone_28 rfl hl (by decide) rfl (fun ls hl => ?_)
          obtain ⟨x_12, e_13⟩ : ∃ y : Int32, y = y_3 + 1 := ⟨_, rfl⟩
          have i_14 : x_12.toInt = (y_3).toInt + 1 := ia_add e_13 rfl (by decide) (by omega) (by omega)
          refine lv_iinc (v := x_12) (lv' := [(2, .int (x_12)), (1, .int (x_10)), (0, .ref (G.2.2 (66)))]) hx hb dX5_howManyDone_29 hl (k := 2) rfl (by rw [e_13]; rfl) (by decide) rfl (fun ls hl => ?_)
          refine lv_goto (tgt := 4) hx hb dX5_howManyDone_32 (by decide) ?_
          exact ih4 x_10 x_12 _ _ _ (by omega) (by omega) h (lv_sub hl [2, 1, 0] rfl)
        refine lv_if_eq (tgt := 26) hx hb dX5_howManyDone_19 (by decide) (fun c_15 => ?_) (fun c_15 => ?_)
        · have j_16 : (x_7).toInt = 0 := (i_eq rfl (by decide)).mp c_15
          refine lv_iconst (v := 0) hx hb dX5_howManyDone_26 (by decide) ?_
          exact J27_9 0 _ _ _  h (lv_sub hl [0, 1, 2] rfl)
        · have j_16 : ¬ ((x_7).toInt = 0) := fun q => c_15 ((i_eq rfl (by decide)).mpr q)
          refine lv_iconst (v := 1) hx hb dX5_howManyDone_22 (by decide) ?_
          refine lv_goto (tgt := 27) hx hb dX5_howManyDone_23 (by decide) ?_
          exact J27_9 1 _ _ _  h (lv_sub hl [0, 1, 2] rfl)
  refine lv_istore_n (lv' := [(2, .int (0)), (1, .int (0)), (0, .ref (G.2.2 (66)))]) hx hb dX5_howManyDone_3 rfl hl (by decide) rfl (fun ls hl => ?_)
  exact J4_3 _ 0 0 _ _ _ (Nat.lt_succ_self _) (by omega) h (lv_sub hl [2, 1, 0] rfl)

set_option maxHeartbeats 4000000 in
set_option maxRecDepth 100000 in
theorem c_X8_howManyLost (l : Launch) (G : gG) (v : Nat → Nat → Int32) (w : Nat → Nat → Int64) (sg : Nat → Nat) (ci : cI v) : Met l yX8_howManyLost wsX8_howManyLost ({ frames := 0, cells := 0, slots := 0, locals := 0 }) (gPre G v w sg [.ref (G.2.2 (93))]) (gQi G (fun r v' w' sg' => (r = sumN (fun k => lo1 (v 94 k)) (v 93 0).toInt.toNat) ∧ v = v' ∧ w = w' ∧ sg = sg')) 0 0 (gA G) := by
  refine gM_ofi (cc := cX8_howManyLost) (maxL := 3) (by decide) rfl (Nat.le_of_ble_eq_true rfl) ?_
  intro p e R s m args below meth c Q ls C hR ret h hl
  have hx := C.1.1
  have hb := C.1.2.1
  have hown := C.1.2.2.2.1
  have hts := C.1.2.2.2.2
  have hl : lv_has ls 3 [(0, .ref (G.2.2 (93)))] := hl
  have z_0 : (0 : Int32).toInt = 0 := by decide
  have z_1 : (1 : Int32).toInt = 1 := by decide
  have f9 : Cond.fieldLink RX8 9 "WindHall$Tubes" "count" "I" ∈ wsX8_howManyLost := by decide +kernel
  have hi8 : ∀ x ∈ u_ws RX8 TX8 4, x ∈ wsX8_howManyLost := fun x q => List.mem_cons_of_mem _ (List.mem_append_right _ q)
  have f15 : Cond.fieldLink RX8 15 "WindHall$Tubes" "isLost" "[Z" ∈ wsX8_howManyLost := by decide +kernel
  have o_1 := ci
  obtain ⟨K1, K2, K3, K4, K5, K6, K7, Ks, K9, Ka, Kr, Kz⟩ := o_1
  refine lv_iconst (v := 0) hx hb dX8_howManyLost_0 (by decide) ?_
  refine lv_istore_n (lv' := [(1, .int (0)), (0, .ref (G.2.2 (93)))]) hx hb dX8_howManyLost_1 rfl hl (by decide) rfl (fun ls hl => ?_)
  refine lv_iconst (v := 0) hx hb dX8_howManyLost_2 (by decide) ?_
  have J4_3 : ∀ (n : Nat) (y_2 : Int32) (y_3 : Int32) (H : Heap) (locs : List Loc) (ls : Array Slot), ((v 93 0).toInt - (y_3).toInt).toNat < n → (0 ≤ (y_3).toInt ∧ (y_3).toInt ≤ (v 93 0).toInt) → (y_2 = sumN (fun k => lo1 (v 94 k)) ((y_3).toInt).toNat) → gS (gA G) G s v w sg H locs → lv_has ls 3 [(0, .ref (G.2.2 (93))), (1, .int (y_2)), (2, .int (y_3))] → W p l e R s m args below meth c H locs 0 0 Q (F0 m 4 ls []) := by
    intro n
    induction n with
    | zero => intro y_2 y_3 H locs ls hm; exact absurd hm (Nat.not_lt_zero _)
    | succ n ih4 =>
      intro y_2 y_3 H locs ls hm f_4 f_5 h hl
      refine lv_iload_n hx hb dX8_howManyLost_4 rfl (lv_at hl 2 rfl) ?_
      refine lv_aload_n hx hb dX8_howManyLost_5 rfl (lv_at hl 0 rfl) ?_
      refine g_geti (ci := 8) (x := v 93 0) C h 93 (by decide) rfl rfl hi8 0 (by decide) f9 rfl rfl rfl dX8_howManyLost_6 ?_
      refine lv_icmp_ge (tgt := 35) hx hb dX8_howManyLost_9 (by decide) (fun c_6 => ?_) (fun c_6 => ?_)
      · have j_7 : (v 93 0).toInt ≤ (y_3).toInt := (i_le rfl rfl).mp c_6
        refine lv_iload_n hx hb dX8_howManyLost_35 rfl (lv_at hl 1 rfl) ?_
        exact ret y_2 v w sg _ _ _ _ dX8_howManyLost_36 h ⟨(by rw [show (v 93 0).toInt = (y_3).toInt by omega]; exact f_5), rfl, rfl, rfl⟩
      · have j_7 : ¬ ((v 93 0).toInt ≤ (y_3).toInt) := fun q => c_6 ((i_le rfl rfl).mpr q)
        refine lv_iload_n hx hb dX8_howManyLost_12 rfl (lv_at hl 1 rfl) ?_
        refine lv_aload_n hx hb dX8_howManyLost_13 rfl (lv_at hl 0 rfl) ?_
        refine g_get (ci := 8) (x := .ref (G.2.2 (94))) C h 93 (by decide) rfl rfl hi8 1 (by decide) f15 rfl rfl dX8_howManyLost_14 ?_
        refine lv_iload_n hx hb dX8_howManyLost_17 rfl (lv_at hl 2 rfl) ?_
        refine g_zald C h 94 (by decide) (by decide) (n := 10) (by decide) (vp_of rfl (by omega) (by omega)) dX8_howManyLost_18 ?_
        refine lv_topi (fun x_8 e_9 => ?_)
        have J27_10 : ∀ (y_10 : Int32) (H : Heap) (locs : List Loc) (ls : Array Slot), (y_10 = lo1 (v 94 (y_3).toNatClampNeg)) → gS (gA G) G s v w sg H locs → lv_has ls 3 [(0, .ref (G.2.2 (93))), (1, .int (y_2)), (2, .int (y_3))] → W p l e R s m args below meth c H locs 0 0 Q (F0 m 27 ls [.int (y_10), .int (y_2)]) := by
          intro y_10 H locs ls f_11 h hl
          refine lv_iadd hx hb dX8_howManyLost_27 ?_
          refine lv_topi (fun x_12 e_13 => ?_)
          refine lv_istore_n (lv' := [(1, .int (x_12)), (0, .ref (G.2.2 (93))), (2, .int (y_3))]) hx hb dX8_howManyLost_28 rfl hl (by decide) rfl (fun ls hl => ?_)
          obtain ⟨x_14, e_15⟩ : ∃ y : Int32, y = y_3 + 1 := ⟨_, rfl⟩
          have i_16 : x_14.toInt = (y_3).toInt + 1 := ia_add e_15 rfl (by decide) (by omega) (by omega)
          refine lv_iinc (v := x_14) (lv' := [(2, .int (x_14)), (1, .int (x_12)), (0, .ref (G.2.2 (93)))]) hx hb dX8_howManyLost_29 hl (k := 2) rfl (by rw [e_15]; rfl) (by decide) rfl (fun ls hl => ?_)
          refine lv_goto (tgt := 4) hx hb dX8_howManyLost_32 (by decide) ?_
          exact ih4 x_12 x_14 _ _ _ (by omega) (by omega) (sumN_step f_5 (by omega) (by omega) e_13 f_11) h (lv_sub hl [2, 1, 0] rfl)
        refine lv_if_eq (tgt := 26) hx hb dX8_howManyLost_19 (by decide) (fun c_17 => ?_) (fun c_17 => ?_)
        · have j_18 : (x_8).toInt = 0 := (i_eq rfl (by decide)).mp c_17
          refine lv_iconst (v := 0) hx hb dX8_howManyLost_26 (by decide) ?_
          exact J27_10 0 _ _ _ (by subst_vars; unfold lo1; split <;> first | rfl | omega) h (lv_sub hl [0, 1, 2] rfl)
        · have j_18 : ¬ ((x_8).toInt = 0) := fun q => c_17 ((i_eq rfl (by decide)).mpr q)
          refine lv_iconst (v := 1) hx hb dX8_howManyLost_22 (by decide) ?_
          refine lv_goto (tgt := 27) hx hb dX8_howManyLost_23 (by decide) ?_
          exact J27_10 1 _ _ _ (by subst_vars; unfold lo1; split <;> first | rfl | omega) h (lv_sub hl [0, 1, 2] rfl)
  refine lv_istore_n (lv' := [(2, .int (0)), (1, .int (0)), (0, .ref (G.2.2 (93)))]) hx hb dX8_howManyLost_3 rfl hl (by decide) rfl (fun ls hl => ?_)
  exact J4_3 _ 0 0 _ _ _ (Nat.lt_succ_self _) (by omega) rfl h (lv_sub hl [2, 1, 0] rfl)

set_option maxHeartbeats 4000000 in
set_option maxRecDepth 100000 in
theorem c_X9_count (l : Launch) (G : gG) (v : Nat → Nat → Int32) (w : Nat → Nat → Int64) (sg : Nat → Nat) (p1 : Int32) {A1 : Int} (a1 : p1.toInt = A1) (ci : cI v) : Met l yX9_count wsX9_count ({ frames := 1, cells := 0, slots := 0, locals := 22 }) (gPre G v w sg [.ref (G.2.2 (0)), .int (p1)]) (gQi G (fun r v' w' sg' => (True) ∧ v = v' ∧ w = w' ∧ sg = sg')) 0 0 (gA G) := by
  refine gM_ofi (cc := cX9_count) (maxL := 2) (by decide) rfl (Nat.le_of_ble_eq_true rfl) ?_
  intro p e R s m args below meth c Q ls C hR ret h hl
  have hx := C.1.1
  have hb := C.1.2.1
  have hown := C.1.2.2.2.1
  have hts := C.1.2.2.2.2
  have hl : lv_has ls 2 [(0, .ref (G.2.2 (0))), (1, .int (p1))] := hl
  have q1 := i_rng p1; rw [a1] at q1
  have z_m1 : ((-1) : Int32).toInt = (-1) := by decide
  have z_0 : (0 : Int32).toInt = 0 := by decide
  have z_1 : (1 : Int32).toInt = 1 := by decide
  have f19 : Cond.fieldLink RX9 19 "WindHall" "calibration" "LWindHall$Calibration;" ∈ wsX9_count := by decide +kernel
  have hi9 : ∀ x ∈ u_ws RX9 TX9 7, x ∈ wsX9_count := fun x q => List.mem_cons_of_mem _ (List.mem_append_left _ (List.mem_append_left _ (List.mem_append_left _ (List.mem_append_left _ (List.mem_append_right _ q)))))
  have f99 : Cond.fieldLink RX9 99 "WindHall$Calibration" "count" "I" ∈ wsX9_count := by decide +kernel
  have hi1 : ∀ x ∈ u_ws RX1 TX1 4, x ∈ wsX9_count := fun x q => List.mem_cons_of_mem _ (List.mem_append_left _ (List.mem_append_left _ (List.mem_append_left _ (List.mem_append_right _ q))))
  have f26 : Cond.fieldLink RX9 26 "WindHall" "corrections" "LWindHall$Corrections;" ∈ wsX9_count := by decide +kernel
  have f128 : Cond.fieldLink RX9 128 "WindHall$Corrections" "count" "I" ∈ wsX9_count := by decide +kernel
  have hi3 : ∀ x ∈ u_ws RX3 TX3 7, x ∈ wsX9_count := fun x q => List.mem_cons_of_mem _ (List.mem_append_left _ (List.mem_append_left _ (List.mem_append_right _ q)))
  have f33 : Cond.fieldLink RX9 33 "WindHall" "program" "LWindHall$Program;" ∈ wsX9_count := by decide +kernel
  have f163 : Cond.fieldLink RX9 163 "WindHall$Program" "count" "I" ∈ wsX9_count := by decide +kernel
  have hi5 : ∀ x ∈ u_ws RX5 TX5 10, x ∈ wsX9_count := fun x q => List.mem_cons_of_mem _ (List.mem_append_left _ (List.mem_append_right _ q))
  have f47 : Cond.fieldLink RX9 47 "WindHall" "tubes" "LWindHall$Tubes;" ∈ wsX9_count := by decide +kernel
  have f222 : Cond.fieldLink RX9 222 "WindHall$Tubes" "count" "I" ∈ wsX9_count := by decide +kernel
  have hi8 : ∀ x ∈ u_ws RX8 TX8 4, x ∈ wsX9_count := fun x q => List.mem_cons_of_mem _ (List.mem_append_right _ q)
  have o_1 := ci
  obtain ⟨K1, K2, K3, K4, K5, K6, K7, Ks, K9, Ka, Kr, Kz⟩ := o_1
  refine lv_iload_n hx hb dX9_count_0 rfl (lv_at hl 1 rfl) ?_
  have s_2 : A1 = 0 ∨ A1 = 1 ∨ A1 = 2 ∨ A1 = 3 ∨ A1 = 4 ∨ A1 = 5 ∨ (A1 < 0 ∨ 5 < A1) := by omega
  rcases s_2 with s_2 | s_2 | s_2 | s_2 | s_2 | s_2 | s_2
  · have hq : (p1 : Int32).toInt = 0 := (a1).trans s_2
    refine lv_tableIn (off := 39) (tgt := 40) hx hb dX9_count_1 (by rw [hq]; decide) (by rw [hq]; decide) (by rw [hq]; rfl) (by decide) ?_
    refine lv_aload_n hx hb dX9_count_40 rfl (lv_at hl 0 rfl) ?_
    refine g_get (ci := 9) (x := .ref (G.2.2 (18))) C h 0 (by decide) rfl rfl hi9 1 (by decide) f19 rfl rfl dX9_count_41 ?_
    refine g_geti (ci := 1) (x := v 18 2) C h 18 (by decide) rfl rfl hi1 2 (by decide) f99 rfl rfl rfl dX9_count_44 ?_
    exact ret (v 18 2) v w sg _ _ _ _ dX9_count_47 h ⟨trivial, rfl, rfl, rfl⟩
  · have hq : (p1 : Int32).toInt = 1 := (a1).trans s_2
    refine lv_tableIn (off := 47) (tgt := 48) hx hb dX9_count_1 (by rw [hq]; decide) (by rw [hq]; decide) (by rw [hq]; rfl) (by decide) ?_
    refine lv_aload_n hx hb dX9_count_48 rfl (lv_at hl 0 rfl) ?_
    refine g_get (ci := 9) (x := .ref (G.2.2 (51))) C h 0 (by decide) rfl rfl hi9 2 (by decide) f26 rfl rfl dX9_count_49 ?_
    refine g_geti (ci := 3) (x := v 51 1) C h 51 (by decide) rfl rfl hi3 1 (by decide) f128 rfl rfl rfl dX9_count_52 ?_
    exact ret (v 51 1) v w sg _ _ _ _ dX9_count_55 h ⟨trivial, rfl, rfl, rfl⟩
  · have hq : (p1 : Int32).toInt = 2 := (a1).trans s_2
    refine lv_tableIn (off := 55) (tgt := 56) hx hb dX9_count_1 (by rw [hq]; decide) (by rw [hq]; decide) (by rw [hq]; rfl) (by decide) ?_
    refine lv_aload_n hx hb dX9_count_56 rfl (lv_at hl 0 rfl) ?_
    refine g_get (ci := 9) (x := .ref (G.2.2 (66))) C h 0 (by decide) rfl rfl hi9 3 (by decide) f33 rfl rfl dX9_count_57 ?_
    refine g_geti (ci := 5) (x := v 66 0) C h 66 (by decide) rfl rfl hi5 0 (by decide) f163 rfl rfl rfl dX9_count_60 ?_
    exact ret (v 66 0) v w sg _ _ _ _ dX9_count_63 h ⟨trivial, rfl, rfl, rfl⟩
  · have hq : (p1 : Int32).toInt = 3 := (a1).trans s_2
    refine lv_tableIn (off := 63) (tgt := 64) hx hb dX9_count_1 (by rw [hq]; decide) (by rw [hq]; decide) (by rw [hq]; rfl) (by decide) ?_
    refine lv_aload_n hx hb dX9_count_64 rfl (lv_at hl 0 rfl) ?_
    refine g_get (ci := 9) (x := .ref (G.2.2 (66))) C h 0 (by decide) rfl rfl hi9 3 (by decide) f33 rfl rfl dX9_count_65 ?_
    refine g_calli C (va_runV (As := []) (rest := []) C.1 (c_X5_howManyDone l G v w sg  ci) (cwV 0 hts gX9_count_X5_howManyDone rfl rfl rfl (by decide +kernel) ⟨by rw [hR]; exact Nat.le_of_ble_eq_true rfl, by rw [hR]; exact Nat.le_of_ble_eq_true rfl⟩) ⟨gPre_blind, g_recv C h 66 (by decide) (ci := 5) rfl rfl, gS_pre C h _⟩ rfl rfl hl.1 rfl (lv_room (Nat.le_of_ble_eq_true rfl)) dX9_count_68 ⟨Nat.zero_le _, Nat.zero_le _⟩) h (fun r_3 v_5 w_6 g_7 H locs p_4 h => ?_)
    obtain ⟨p_4, rfl, rfl, rfl⟩ := p_4
    exact ret r_3 v w sg _ _ _ _ dX9_count_71 h ⟨trivial, rfl, rfl, rfl⟩
  · have hq : (p1 : Int32).toInt = 4 := (a1).trans s_2
    refine lv_tableIn (off := 71) (tgt := 72) hx hb dX9_count_1 (by rw [hq]; decide) (by rw [hq]; decide) (by rw [hq]; rfl) (by decide) ?_
    refine lv_aload_n hx hb dX9_count_72 rfl (lv_at hl 0 rfl) ?_
    refine g_get (ci := 9) (x := .ref (G.2.2 (93))) C h 0 (by decide) rfl rfl hi9 5 (by decide) f47 rfl rfl dX9_count_73 ?_
    refine g_geti (ci := 8) (x := v 93 0) C h 93 (by decide) rfl rfl hi8 0 (by decide) f222 rfl rfl rfl dX9_count_76 ?_
    exact ret (v 93 0) v w sg _ _ _ _ dX9_count_79 h ⟨trivial, rfl, rfl, rfl⟩
  · have hq : (p1 : Int32).toInt = 5 := (a1).trans s_2
    refine lv_tableIn (off := 79) (tgt := 80) hx hb dX9_count_1 (by rw [hq]; decide) (by rw [hq]; decide) (by rw [hq]; rfl) (by decide) ?_
    refine lv_aload_n hx hb dX9_count_80 rfl (lv_at hl 0 rfl) ?_
    refine g_get (ci := 9) (x := .ref (G.2.2 (93))) C h 0 (by decide) rfl rfl hi9 5 (by decide) f47 rfl rfl dX9_count_81 ?_
    refine g_calli C (va_runV (As := []) (rest := []) C.1 (c_X8_howManyLost l G v w sg  ci) (cwV 0 hts gX9_count_X8_howManyLost rfl rfl rfl (by decide +kernel) ⟨by rw [hR]; exact Nat.le_of_ble_eq_true rfl, by rw [hR]; exact Nat.le_of_ble_eq_true rfl⟩) ⟨gPre_blind, g_recv C h 93 (by decide) (ci := 8) rfl rfl, gS_pre C h _⟩ rfl rfl hl.1 rfl (lv_room (Nat.le_of_ble_eq_true rfl)) dX9_count_84 ⟨Nat.zero_le _, Nat.zero_le _⟩) h (fun r_8 v_10 w_11 g_12 H locs p_9 h => ?_)
    obtain ⟨p_9, rfl, rfl, rfl⟩ := p_9
    exact ret r_8 v w sg _ _ _ _ dX9_count_87 h ⟨trivial, rfl, rfl, rfl⟩
  · refine lv_tableOut (tgt := 88) hx hb dX9_count_1 (by rw [show (p1 : Int32).toInt = A1 from a1]; exact s_2) (by decide) ?_
    refine lv_iconst (v := (-1)) hx hb dX9_count_88 (by decide) ?_
    exact ret (-1) v w sg _ _ _ _ dX9_count_89 h ⟨trivial, rfl, rfl, rfl⟩
