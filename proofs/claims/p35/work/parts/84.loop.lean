set_option maxHeartbeats 4000000 in
set_option maxRecDepth 100000 in
/-- THE LAW'S LOOP, from its head, with both sides as they keep themselves -/
theorem law_loop {p : Program} {l : Launch} {e : Env} {s : State} {m : MethodId} {below : List Frame} {meth : Method} {c : Code} {G : gG} {b L : Nat} {xs : Nat → Int32} (hL : L ≤ 3584) (C : gC p s m c code 4 #[Value.ref b] wsL_law RL (fun q : Nat => s.heap.size ≤ q) G) (hX : va_X b L xs s s.heap) (hbl : b < s.heap.size) (hlocks : meth.locks = false) (hr : meth.sig.returnType = ret) :
    ∀ (n : Nat) (x3 : Int32) (v : Nat → Nat → Int32) (w : Nat → Nat → Int64) (sg : Nat → Nat) (H : Heap) (locs : List Loc) (ls : Array Slot), ((L : Int) - x3.toInt).toNat < n → 0 ≤ x3.toInt ∧ x3.toInt ≤ (L : Int) → cI v → cG sg → mI v → Rl v → gS (fun q : Nat => s.heap.size ≤ q) G s v w sg H locs → lv_has ls 4 [(0, .ref b), (1, .ref (G.2.2 (0))), (2, .ref (G.2.2 (106))), (3, .int (x3))] → W p l e room_1 s m #[Value.ref b] below meth c H locs 134 11336 (lw_Z below #[Value.ref b] s) (F0 m 18 ls []) := by
  have hx := C.1.1
  have hb := C.1.2.1
  have hbA : ¬ (fun q : Nat => s.heap.size ≤ q) b := Nat.not_le.mpr hbl
  have hcs : 134 ≤ room_1.cells ∧ 11336 ≤ room_1.slots := ⟨Nat.le_of_ble_eq_true rfl, Nat.le_of_ble_eq_true rfl⟩
  intro n
  induction n with
  | zero => intro x3 v w sg H locs ls hm; exact absurd hm (Nat.not_lt_zero _)
  | succ n ih =>
    intro x3 v w sg H locs ls hm hi ci cg mi rl h hl
    refine lv_iload_n hx hb dL_law_18 rfl (lv_at hl 3 rfl) ?_
    refine lv_aload_n hx hb dL_law_19 rfl (lv_at hl 0 rfl) ?_
    refine va_slen hx hb hX hbl hbA h.2 dL_law_20 ?_
    refine lv_bipush (v := 7) hx hb dL_law_21 (by decide) ?_
    refine lv_isub hx hb dL_law_23 ?_
    refine lv_topi (fun y ey => ?_)
    have hLi : (Int32.ofNat L).toInt = (L : Int) := nI_toInt (by omega)
    have iy : y.toInt = (L : Int) - 7 := ia_sub ey hLi (by decide) (by omega) (by omega)
    refine lv_icmp_gt (tgt := 1429) hx hb dL_law_24 (by decide) (fun c1 => ?_) (fun c1 => ?_)
    · refine lv_iconst (v := 1) hx hb dL_law_1429 (by decide) ?_
      refine va_forget (fun q hq => h.2.2.2 q hq) ?_
      refine W.widen (k := 600000) (n := 7302250) (Nat.le_of_ble_eq_true rfl) (Nat.le_of_ble_eq_true rfl) ?_
      exact lw_ret hx hb hr hlocks dL_law_1430
    · have j1 : ¬ ((L : Int) - 7 < x3.toInt) := fun q => c1 ((i_lt iy rfl).mpr q)
      have hi3 : 0 ≤ x3.toInt ∧ x3.toInt + 7 ≤ (L : Int) := by omega
      refine lv_aload_n hx hb dL_law_27 rfl (lv_at hl 0 rfl) ?_
      refine lv_iload_n hx hb dL_law_28 rfl (lv_at hl 3 rfl) ?_
      refine va_sld hx hb hX hbl hbA h.2 (vp_of (i := x3) rfl (by omega) (by omega)) dL_law_29 ?_
      refine lv_bipush (v := 63) hx hb dL_law_30 (by decide) ?_
      refine lv_iand hx hb dL_law_32 ?_
      refine lv_topi (fun z ez => ?_)
      have hz : 0 ≤ z.toInt ∧ z.toInt ≤ 63 := by
        obtain ⟨j, hj, ej⟩ := pk_andE (xs x3.toNatClampNeg) (m := 63) 6 (by decide)
        rw [ez, ej, nI_toInt (by omega)]
        omega
      have K : ∀ (v : Nat → Nat → Int32) (w : Nat → Nat → Int64) (sg : Nat → Nat) (H : Heap) (locs : List Loc) (ls : Array Slot), cI v → cG sg → mI v → Rl v → gS (fun q : Nat => s.heap.size ≤ q) G s v w sg H locs → lv_has ls 4 [(0, .ref b), (1, .ref (G.2.2 (0))), (2, .ref (G.2.2 (106))), (3, .int (x3))] → W p l e room_1 s m #[Value.ref b] below meth c H locs 134 11336 (lw_Z below #[Value.ref b] s) (F0 m 1423 ls []) := by
        intro v w sg H locs ls ci cg mi rl h hl
        obtain ⟨x4, e4⟩ : ∃ y : Int32, y = x3 + 7 := ⟨_, rfl⟩
        have i4 : x4.toInt = x3.toInt + 7 := ia_add e4 rfl (by decide) (by omega) (by omega)
        refine lv_iinc (v := x4) (lv' := [(3, .int x4), (0, .ref b), (1, .ref (G.2.2 0)), (2, .ref (G.2.2 106))]) hx hb dL_law_1423 hl (k := 3) rfl (by rw [e4]; rfl) (by decide) rfl (fun ls hl => ?_)
        refine lv_goto (tgt := 18) hx hb dL_law_1426 (by decide) ?_
        exact ih x4 v w sg _ _ _ (by omega) (by omega) ci cg mi rl h (lv_sub hl [1, 2, 3, 0] rfl)
      have hs : z.toInt = 0 ∨ z.toInt = 1 ∨ z.toInt = 2 ∨ z.toInt = 3 ∨ z.toInt = 4 ∨ z.toInt = 5 ∨ z.toInt = 6 ∨ z.toInt = 7 ∨ z.toInt = 8 ∨ z.toInt = 9 ∨ z.toInt = 10 ∨ z.toInt = 11 ∨ z.toInt = 12 ∨ z.toInt = 13 ∨ z.toInt = 14 ∨ z.toInt = 15 ∨ z.toInt = 16 ∨ z.toInt = 17 ∨ z.toInt = 18 ∨ z.toInt = 19 ∨ z.toInt = 20 ∨ z.toInt = 21 ∨ z.toInt = 22 ∨ z.toInt = 23 ∨ z.toInt = 24 ∨ z.toInt = 25 ∨ z.toInt = 26 ∨ z.toInt = 27 ∨ z.toInt = 28 ∨ z.toInt = 29 ∨ z.toInt = 30 ∨ z.toInt = 31 ∨ z.toInt = 32 ∨ z.toInt = 33 ∨ z.toInt = 34 ∨ 34 < z.toInt := by omega
      rcases hs with hs | hs | hs | hs | hs | hs | hs | hs | hs | hs | hs | hs | hs | hs | hs | hs | hs | hs | hs | hs | hs | hs | hs | hs | hs | hs | hs | hs | hs | hs | hs | hs | hs | hs | hs | hs
      · refine lv_tableIn (off := 155) (tgt := 188) hx hb dL_law_33 (by rw [hs]; decide) (by rw [hs]; decide) (by rw [hs]; rfl) (by decide) ?_
        exact lc_0 C rfl hcs hX hbl hbA hi3 hL ci cg mi rl h hl K
      · refine lv_tableIn (off := 198) (tgt := 231) hx hb dL_law_33 (by rw [hs]; decide) (by rw [hs]; decide) (by rw [hs]; rfl) (by decide) ?_
        exact lc_1 C rfl hcs hX hbl hbA hi3 hL ci cg mi rl h hl K
      · refine lv_tableIn (off := 241) (tgt := 274) hx hb dL_law_33 (by rw [hs]; decide) (by rw [hs]; decide) (by rw [hs]; rfl) (by decide) ?_
        exact lc_2 C rfl hcs hX hbl hbA hi3 hL ci cg mi rl h hl K
      · refine lv_tableIn (off := 294) (tgt := 327) hx hb dL_law_33 (by rw [hs]; decide) (by rw [hs]; decide) (by rw [hs]; rfl) (by decide) ?_
        exact lc_3 C rfl hcs hX hbl hbA hi3 hL ci cg mi rl h hl K
      · refine lv_tableIn (off := 347) (tgt := 380) hx hb dL_law_33 (by rw [hs]; decide) (by rw [hs]; decide) (by rw [hs]; rfl) (by decide) ?_
        exact lc_4 C rfl hcs hX hbl hbA hi3 hL ci cg mi rl h hl K
      · refine lv_tableIn (off := 370) (tgt := 403) hx hb dL_law_33 (by rw [hs]; decide) (by rw [hs]; decide) (by rw [hs]; rfl) (by decide) ?_
        exact lc_5 C rfl hcs hX hbl hbA hi3 hL ci cg mi rl h hl K
      · refine lv_tableIn (off := 445) (tgt := 478) hx hb dL_law_33 (by rw [hs]; decide) (by rw [hs]; decide) (by rw [hs]; rfl) (by decide) ?_
        exact lc_6 C rfl hcs hX hbl hbA hi3 hL ci cg mi rl h hl K
      · refine lv_tableIn (off := 488) (tgt := 521) hx hb dL_law_33 (by rw [hs]; decide) (by rw [hs]; decide) (by rw [hs]; rfl) (by decide) ?_
        exact lc_7 C rfl hcs hX hbl hbA hi3 hL ci cg mi rl h hl K
      · refine lv_tableIn (off := 511) (tgt := 544) hx hb dL_law_33 (by rw [hs]; decide) (by rw [hs]; decide) (by rw [hs]; rfl) (by decide) ?_
        exact lc_8 C rfl hcs hX hbl hbA hi3 hL ci cg mi rl h hl K
      · refine lv_tableIn (off := 524) (tgt := 557) hx hb dL_law_33 (by rw [hs]; decide) (by rw [hs]; decide) (by rw [hs]; rfl) (by decide) ?_
        exact lc_9 C rfl hcs hX hbl hbA hi3 hL ci cg mi rl h hl K
      · refine lv_tableIn (off := 577) (tgt := 610) hx hb dL_law_33 (by rw [hs]; decide) (by rw [hs]; decide) (by rw [hs]; rfl) (by decide) ?_
        exact lc_10 C rfl hcs hX hbl hbA hi3 hL ci cg mi rl h hl K
      · refine lv_tableIn (off := 626) (tgt := 659) hx hb dL_law_33 (by rw [hs]; decide) (by rw [hs]; decide) (by rw [hs]; rfl) (by decide) ?_
        exact lc_11 C rfl hcs hX hbl hbA hi3 hL ci cg mi rl h hl K
      · refine lv_tableIn (off := 649) (tgt := 682) hx hb dL_law_33 (by rw [hs]; decide) (by rw [hs]; decide) (by rw [hs]; rfl) (by decide) ?_
        exact lc_12 C rfl hcs hX hbl hbA hi3 hL ci cg mi rl h hl K
      · refine lv_tableIn (off := 662) (tgt := 695) hx hb dL_law_33 (by rw [hs]; decide) (by rw [hs]; decide) (by rw [hs]; rfl) (by decide) ?_
        exact lc_13 C rfl hcs hX hbl hbA hi3 hL ci cg mi rl h hl K
      · refine lv_tableIn (off := 725) (tgt := 758) hx hb dL_law_33 (by rw [hs]; decide) (by rw [hs]; decide) (by rw [hs]; rfl) (by decide) ?_
        exact lc_14 C rfl hcs hX hbl hbA hi3 hL ci cg mi rl h hl K
      · refine lv_tableIn (off := 758) (tgt := 791) hx hb dL_law_33 (by rw [hs]; decide) (by rw [hs]; decide) (by rw [hs]; rfl) (by decide) ?_
        exact lc_15 C rfl hcs hX hbl hbA hi3 hL ci cg mi rl h hl K
      · refine lv_tableIn (off := 781) (tgt := 814) hx hb dL_law_33 (by rw [hs]; decide) (by rw [hs]; decide) (by rw [hs]; rfl) (by decide) ?_
        exact lc_16 C rfl hcs hX hbl hbA hi3 hL ci cg mi rl h hl K
      · refine lv_tableIn (off := 804) (tgt := 837) hx hb dL_law_33 (by rw [hs]; decide) (by rw [hs]; decide) (by rw [hs]; rfl) (by decide) ?_
        exact lc_17 C rfl hcs hX hbl hbA hi3 hL ci cg mi rl h hl K
      · refine lv_tableIn (off := 837) (tgt := 870) hx hb dL_law_33 (by rw [hs]; decide) (by rw [hs]; decide) (by rw [hs]; rfl) (by decide) ?_
        exact lc_18 C rfl hcs hX hbl hbA hi3 hL ci cg mi rl h hl K
      · refine lv_tableIn (off := 886) (tgt := 919) hx hb dL_law_33 (by rw [hs]; decide) (by rw [hs]; decide) (by rw [hs]; rfl) (by decide) ?_
        exact lc_19 C rfl hcs hX hbl hbA hi3 hL ci cg mi rl h hl K
      · refine lv_tableIn (off := 919) (tgt := 952) hx hb dL_law_33 (by rw [hs]; decide) (by rw [hs]; decide) (by rw [hs]; rfl) (by decide) ?_
        exact lc_20 C rfl hcs hX hbl hbA hi3 hL ci cg mi rl h hl K
      · refine lv_tableIn (off := 932) (tgt := 965) hx hb dL_law_33 (by rw [hs]; decide) (by rw [hs]; decide) (by rw [hs]; rfl) (by decide) ?_
        exact lc_21 C rfl hcs hX hbl hbA hi3 hL ci cg mi rl h hl K
      · refine lv_tableIn (off := 955) (tgt := 988) hx hb dL_law_33 (by rw [hs]; decide) (by rw [hs]; decide) (by rw [hs]; rfl) (by decide) ?_
        exact lc_22 C rfl hcs hX hbl hbA hi3 hL ci cg mi rl h hl K
      · refine lv_tableIn (off := 1008) (tgt := 1041) hx hb dL_law_33 (by rw [hs]; decide) (by rw [hs]; decide) (by rw [hs]; rfl) (by decide) ?_
        exact lc_23 C rfl hcs hX hbl hbA hi3 hL ci cg mi rl h hl K
      · refine lv_tableIn (off := 1051) (tgt := 1084) hx hb dL_law_33 (by rw [hs]; decide) (by rw [hs]; decide) (by rw [hs]; rfl) (by decide) ?_
        exact lc_24 C rfl hcs hX hbl hbA hi3 hL ci cg mi rl h hl K
      · refine lv_tableIn (off := 1074) (tgt := 1107) hx hb dL_law_33 (by rw [hs]; decide) (by rw [hs]; decide) (by rw [hs]; rfl) (by decide) ?_
        exact lc_25 C rfl hcs hX hbl hbA hi3 hL ci cg mi rl h hl K
      · refine lv_tableIn (off := 1087) (tgt := 1120) hx hb dL_law_33 (by rw [hs]; decide) (by rw [hs]; decide) (by rw [hs]; rfl) (by decide) ?_
        exact lc_26 C rfl hcs hX hbl hbA hi3 hL ci cg mi rl h hl K
      · refine lv_tableIn (off := 1110) (tgt := 1143) hx hb dL_law_33 (by rw [hs]; decide) (by rw [hs]; decide) (by rw [hs]; rfl) (by decide) ?_
        exact lc_27 C rfl hcs hX hbl hbA hi3 hL ci cg mi rl h hl K
      · refine lv_tableIn (off := 1169) (tgt := 1202) hx hb dL_law_33 (by rw [hs]; decide) (by rw [hs]; decide) (by rw [hs]; rfl) (by decide) ?_
        exact lc_28 C rfl hcs hX hbl hbA hi3 hL ci cg mi rl h hl K
      · refine lv_tableIn (off := 1212) (tgt := 1245) hx hb dL_law_33 (by rw [hs]; decide) (by rw [hs]; decide) (by rw [hs]; rfl) (by decide) ?_
        exact lc_29 C rfl hcs hX hbl hbA hi3 hL ci cg mi rl h hl K
      · refine lv_tableIn (off := 1255) (tgt := 1288) hx hb dL_law_33 (by rw [hs]; decide) (by rw [hs]; decide) (by rw [hs]; rfl) (by decide) ?_
        exact lc_30 C rfl hcs hX hbl hbA hi3 hL ci cg mi rl h hl K
      · refine lv_tableIn (off := 1298) (tgt := 1331) hx hb dL_law_33 (by rw [hs]; decide) (by rw [hs]; decide) (by rw [hs]; rfl) (by decide) ?_
        exact lc_31 C rfl hcs hX hbl hbA hi3 hL ci cg mi rl h hl K
      · refine lv_tableIn (off := 1311) (tgt := 1344) hx hb dL_law_33 (by rw [hs]; decide) (by rw [hs]; decide) (by rw [hs]; rfl) (by decide) ?_
        exact lc_32 C rfl hcs hX hbl hbA hi3 hL ci cg mi rl h hl K
      · refine lv_tableIn (off := 1344) (tgt := 1377) hx hb dL_law_33 (by rw [hs]; decide) (by rw [hs]; decide) (by rw [hs]; rfl) (by decide) ?_
        exact lc_33 C rfl hcs hX hbl hbA hi3 hL ci cg mi rl h hl K
      · refine lv_tableIn (off := 1367) (tgt := 1400) hx hb dL_law_33 (by rw [hs]; decide) (by rw [hs]; decide) (by rw [hs]; rfl) (by decide) ?_
        exact lc_34 C rfl hcs hX hbl hbA hi3 hL ci cg mi rl h hl K
      · refine lv_tableOut (tgt := 1423) hx hb dL_law_33 (Or.inr hs) (by decide) ?_
        exact K v w sg _ _ _ ci cg mi rl h hl
