def wsK : List Cond := [.laysStatic "WindHall$Correction" "COS" "[I", .initialized "WindHall$Correction", .arrayClass .int, .arrayClass .long, .arrayClass .boolean, .arrayOver (.array .int), .arrayOver (.array .long), .arrayOver (.object "WindHall$Correction"), .arrayOver (.object "WindHall$Sheet"), .methodLinkNest RX9 9 yX0_init RX9, .methodLinkNest RX0 37 yX4_init RX9, .methodLinkNest RX9 18 yX1_init RX9, .methodLinkNest RX1 25 yX4_init RX9, .methodLinkNest RX3 38 yX2_init RX9, .methodLinkNest RX9 32 yX5_init RX9, .methodLinkNest RX9 39 yX6_init RX9, .methodLinkNest RX9 46 yX8_init RX9, .methodLinkNest RX9 57 yX7_init RX9, .methodLinkNest RX0 53 yX9_setRow RX9, .methodLinkNest RX2 28 yX9_isWithin RX9, .methodLinkNest RX6 39 yX9_setRow RX9, .methodLinkNest RX8 26 yX9_isWithin RX9, .instantiable RX0 7, .instantiable RX1 4, .instantiable RX2 5, .instantiable RX3 7, .instantiable RX4 2, .instantiable RX5 10, .instantiable RX6 8, .instantiable RX7 3, .instantiable RX8 4, .instantiable RX9 7, .instantiable RX10 42]
set_option maxRecDepth 20000 in
theorem wsK_in : ∀ w ∈ wsK, w ∈ lw_tbl := lk_in2 _ [46, 8, 7, 0, 4, 2, 0, 4, 11, 0, 28, 0, 5, 17, 5, 0, 0, 50, 0, 42, 1, 0, 38, 0, 20, 0, 0, 89, 89, 55, 114, 49, 86] [1, 31, 22, 9, 5, 26, 10, 6, 2, 3, 23, 11, 12, 25, 7, 24, 13, 27, 14, 4, 28, 15, 30, 16, 8, 29, 17, 18, 19, 0, 20, 21, 32] rfl (by decide +kernel)
theorem wsK_at {A : Array Value} {s : State} (hts : ∀ w ∈ lw_tbl, w.before A s = true) (i : Nat) {w : Cond} (h : wsK[i]? = some w) : w.before A s = true := hts w (wsK_in w (List.mem_of_getElem? h))
set_option maxHeartbeats 4000000 in
set_option maxRecDepth 20000 in
theorem ws_cos {b : Nat} {s : State} (hts : ∀ w ∈ lw_tbl, w.before #[Value.ref b] s = true) (hgv : (Jvm.Cond.and given_1 narrow_1).before #[Value.ref b] s = true) : gX (fun q : Nat => s.heap.size ≤ q) s s.heap := by
  have hs := flat_of_before _ hgv
  have hA : ∀ a : Nat, a < s.heap.size → ¬ (fun q : Nat => s.heap.size ≤ q) a := fun a h => Nat.not_le.mpr h
  have hlen := va_eqt (hs (Cond.eq (.length (.static "WindHall$Correction" "COS" "[I")) (.int 24)) (by decide +kernel))
  have harr := hs (Cond.arrayOf (.static "WindHall$Correction" "COS" "[I") .int) (by decide +kernel)
  have hel : ∀ j : Nat, j < 24 → (Term.elem (.static "WindHall$Correction" "COS" "[I") (.int (Int32.ofNat j))).eval #[Value.ref b] s none [] s = some (.int (gCos j)) := by
    intro j hj
    rcases (show j = 0 ∨ j = 1 ∨ j = 2 ∨ j = 3 ∨ j = 4 ∨ j = 5 ∨ j = 6 ∨ j = 7 ∨ j = 8 ∨ j = 9 ∨ j = 10 ∨ j = 11 ∨ j = 12 ∨ j = 13 ∨ j = 14 ∨ j = 15 ∨ j = 16 ∨ j = 17 ∨ j = 18 ∨ j = 19 ∨ j = 20 ∨ j = 21 ∨ j = 22 ∨ j = 23 by omega) with rfl | rfl | rfl | rfl | rfl | rfl | rfl | rfl | rfl | rfl | rfl | rfl | rfl | rfl | rfl | rfl | rfl | rfl | rfl | rfl | rfl | rfl | rfl | rfl
    · exact va_eqt (hs (Cond.eq (.elem (.static "WindHall$Correction" "COS" "[I") (.int (Int32.ofNat 0))) (.int (gCos 0))) (by decide +kernel))
    · exact va_eqt (hs (Cond.eq (.elem (.static "WindHall$Correction" "COS" "[I") (.int (Int32.ofNat 1))) (.int (gCos 1))) (by decide +kernel))
    · exact va_eqt (hs (Cond.eq (.elem (.static "WindHall$Correction" "COS" "[I") (.int (Int32.ofNat 2))) (.int (gCos 2))) (by decide +kernel))
    · exact va_eqt (hs (Cond.eq (.elem (.static "WindHall$Correction" "COS" "[I") (.int (Int32.ofNat 3))) (.int (gCos 3))) (by decide +kernel))
    · exact va_eqt (hs (Cond.eq (.elem (.static "WindHall$Correction" "COS" "[I") (.int (Int32.ofNat 4))) (.int (gCos 4))) (by decide +kernel))
    · exact va_eqt (hs (Cond.eq (.elem (.static "WindHall$Correction" "COS" "[I") (.int (Int32.ofNat 5))) (.int (gCos 5))) (by decide +kernel))
    · exact va_eqt (hs (Cond.eq (.elem (.static "WindHall$Correction" "COS" "[I") (.int (Int32.ofNat 6))) (.int (gCos 6))) (by decide +kernel))
    · exact va_eqt (hs (Cond.eq (.elem (.static "WindHall$Correction" "COS" "[I") (.int (Int32.ofNat 7))) (.int (gCos 7))) (by decide +kernel))
    · exact va_eqt (hs (Cond.eq (.elem (.static "WindHall$Correction" "COS" "[I") (.int (Int32.ofNat 8))) (.int (gCos 8))) (by decide +kernel))
    · exact va_eqt (hs (Cond.eq (.elem (.static "WindHall$Correction" "COS" "[I") (.int (Int32.ofNat 9))) (.int (gCos 9))) (by decide +kernel))
    · exact va_eqt (hs (Cond.eq (.elem (.static "WindHall$Correction" "COS" "[I") (.int (Int32.ofNat 10))) (.int (gCos 10))) (by decide +kernel))
    · exact va_eqt (hs (Cond.eq (.elem (.static "WindHall$Correction" "COS" "[I") (.int (Int32.ofNat 11))) (.int (gCos 11))) (by decide +kernel))
    · exact va_eqt (hs (Cond.eq (.elem (.static "WindHall$Correction" "COS" "[I") (.int (Int32.ofNat 12))) (.int (gCos 12))) (by decide +kernel))
    · exact va_eqt (hs (Cond.eq (.elem (.static "WindHall$Correction" "COS" "[I") (.int (Int32.ofNat 13))) (.int (gCos 13))) (by decide +kernel))
    · exact va_eqt (hs (Cond.eq (.elem (.static "WindHall$Correction" "COS" "[I") (.int (Int32.ofNat 14))) (.int (gCos 14))) (by decide +kernel))
    · exact va_eqt (hs (Cond.eq (.elem (.static "WindHall$Correction" "COS" "[I") (.int (Int32.ofNat 15))) (.int (gCos 15))) (by decide +kernel))
    · exact va_eqt (hs (Cond.eq (.elem (.static "WindHall$Correction" "COS" "[I") (.int (Int32.ofNat 16))) (.int (gCos 16))) (by decide +kernel))
    · exact va_eqt (hs (Cond.eq (.elem (.static "WindHall$Correction" "COS" "[I") (.int (Int32.ofNat 17))) (.int (gCos 17))) (by decide +kernel))
    · exact va_eqt (hs (Cond.eq (.elem (.static "WindHall$Correction" "COS" "[I") (.int (Int32.ofNat 18))) (.int (gCos 18))) (by decide +kernel))
    · exact va_eqt (hs (Cond.eq (.elem (.static "WindHall$Correction" "COS" "[I") (.int (Int32.ofNat 19))) (.int (gCos 19))) (by decide +kernel))
    · exact va_eqt (hs (Cond.eq (.elem (.static "WindHall$Correction" "COS" "[I") (.int (Int32.ofNat 20))) (.int (gCos 20))) (by decide +kernel))
    · exact va_eqt (hs (Cond.eq (.elem (.static "WindHall$Correction" "COS" "[I") (.int (Int32.ofNat 21))) (.int (gCos 21))) (by decide +kernel))
    · exact va_eqt (hs (Cond.eq (.elem (.static "WindHall$Correction" "COS" "[I") (.int (Int32.ofNat 22))) (.int (gCos 22))) (by decide +kernel))
    · exact va_eqt (hs (Cond.eq (.elem (.static "WindHall$Correction" "COS" "[I") (.int (Int32.ofNat 23))) (.int (gCos 23))) (by decide +kernel))
  obtain ⟨t, ht, hT⟩ := va_Tof (N := 24) (f := fun i => .int (gCos i)) (by decide) harr hlen hel hA
  exact ⟨t, va_Zof (wsK_at hts 0 rfl) (wsK_at hts 1 rfl) ht hA, hT⟩
theorem ra_ok {s : State} {cA : ClassId} {ty : FieldType} {k : Class} {comp : ClassId} (h2 : s.vm.classes[cA]? = some k) (h3 : k.kind = .array comp ty) : ArrOfT s cA ty := fun n z => ⟨(fun q h => by cases h), k, h2, comp, h3⟩
set_option maxHeartbeats 4000000 in
set_option maxRecDepth 20000 in
theorem ws_kk {A : Array Value} {s : State} (hts : ∀ w ∈ lw_tbl, w.before A s = true) : ∃ (D : va_G) (cs : Nat → ClassId), kK D cs s ∧ va_Nw (.methodLinkNest RX0 53 yX9_setRow RX9) s ∧ va_Nw (.methodLinkNest RX2 28 yX9_isWithin RX9) s ∧ va_Nw (.methodLinkNest RX6 39 yX9_setRow RX9) s ∧ va_Nw (.methodLinkNest RX8 26 yX9_isWithin RX9) s := by
  obtain ⟨c0, i0, k0⟩ := u_known (C := RX0) (T := TX0) (N := 7) (n := 7) hts inX0 (wsK_at hts 22 rfl)
  obtain ⟨c1, i1, k1⟩ := u_known (C := RX1) (T := TX1) (N := 4) (n := 4) hts inX1 (wsK_at hts 23 rfl)
  obtain ⟨c2, i2, k2⟩ := u_known (C := RX2) (T := TX2) (N := 5) (n := 5) hts inX2 (wsK_at hts 24 rfl)
  obtain ⟨c3, i3, k3⟩ := u_known (C := RX3) (T := TX3) (N := 7) (n := 7) hts inX3 (wsK_at hts 25 rfl)
  obtain ⟨c4, i4, k4⟩ := u_known (C := RX4) (T := TX4) (N := 2) (n := 2) hts inX4 (wsK_at hts 26 rfl)
  obtain ⟨c5, i5, k5⟩ := u_known (C := RX5) (T := TX5) (N := 10) (n := 10) hts inX5 (wsK_at hts 27 rfl)
  obtain ⟨c6, i6, k6⟩ := u_known (C := RX6) (T := TX6) (N := 8) (n := 8) hts inX6 (wsK_at hts 28 rfl)
  obtain ⟨c7, i7, k7⟩ := u_known (C := RX7) (T := TX7) (N := 3) (n := 3) hts inX7 (wsK_at hts 29 rfl)
  obtain ⟨c8, i8, k8⟩ := u_known (C := RX8) (T := TX8) (N := 4) (n := 4) hts inX8 (wsK_at hts 30 rfl)
  obtain ⟨c9, i9, k9⟩ := u_known (C := RX9) (T := TX9) (N := 7) (n := 7) hts inX9 (wsK_at hts 31 rfl)
  obtain ⟨c10, i10, k10⟩ := u_known (C := RX10) (T := TX10) (N := 42) (n := 42) hts inX10 (wsK_at hts 32 rfl)
  obtain ⟨a0, x0, y0, f0, g0, h0⟩ := Cond.arrayClass_spec (wsK_at hts 2 rfl)
  obtain ⟨a1, x1, y1, f1, g1, h1⟩ := Cond.arrayClass_spec (wsK_at hts 3 rfl)
  obtain ⟨a2, x2, y2, f2, g2, h2⟩ := Cond.arrayClass_spec (wsK_at hts 4 rfl)
  obtain ⟨y3, a3, x3, e3, -, g3, h3, f3⟩ := arrayOverA_spec (wsK_at hts 5 rfl)
  obtain ⟨y4, a4, x4, e4, -, g4, h4, f4⟩ := arrayOverA_spec (wsK_at hts 6 rfl)
  obtain ⟨y5, a5, x5, e5, -, g5, h5, f5⟩ := Cond.arrayOver_spec (wsK_at hts 7 rfl)
  obtain ⟨y6, a6, x6, e6, -, g6, h6, f6⟩ := Cond.arrayOver_spec (wsK_at hts 8 rfl)
  refine ⟨(fun k => if k = 0 then c0 else if k = 1 then c1 else if k = 2 then c2 else if k = 3 then c3 else if k = 4 then c4 else if k = 5 then c5 else if k = 6 then c6 else if k = 7 then c7 else if k = 8 then c8 else if k = 9 then c9 else c10, fun k => if k = 0 then i0 else if k = 1 then i1 else if k = 2 then i2 else if k = 3 then i3 else if k = 4 then i4 else if k = 5 then i5 else if k = 6 then i6 else if k = 7 then i7 else if k = 8 then i8 else if k = 9 then i9 else i10), fun k => if k = 0 then a0 else if k = 1 then a1 else if k = 2 then a2 else if k = 3 then a3 else if k = 4 then a4 else if k = 5 then a5 else a6, ⟨⟨?_, ?_⟩, ⟨?_, ?_⟩, ⟨?_, ?_⟩, ?_⟩, ?_, ?_, ?_, ?_⟩
  · intro k q hq
    match k, hq with
    | 0, hq => cases hq; exact k0
    | 1, hq => cases hq; exact k1
    | 2, hq => cases hq; exact k2
    | 3, hq => cases hq; exact k3
    | 4, hq => cases hq; exact k4
    | 5, hq => cases hq; exact k5
    | 6, hq => cases hq; exact k6
    | 7, hq => cases hq; exact k7
    | 8, hq => cases hq; exact k8
    | 9, hq => cases hq; exact k9
    | 10, hq => cases hq; exact k10
    | k + 11, hq => simp [vwCl] at hq
  · intro k q hq
    match k, hq with
    | 0, hq => cases hq; exact ⟨ra_ok g0 h0, f0⟩
    | 1, hq => cases hq; exact ⟨ra_ok g1 h1, f1⟩
    | 2, hq => cases hq; exact ⟨ra_ok g2 h2, f2⟩
    | 3, hq => cases hq; exact ⟨ra_ok g3 h3, f3⟩
    | 4, hq => cases hq; exact ⟨ra_ok g4 h4, f4⟩
    | 5, hq => cases hq; exact ⟨ra_ok g5 h5, x5, y5, g5, h5, e5, f5⟩
    | 6, hq => cases hq; exact ⟨ra_ok g6 h6, x6, y6, g6, h6, e6, f6⟩
    | k + 7, hq => simp [gT] at hq
  · exact wsK_at hts 5 rfl
  · exact wsK_at hts 6 rfl
  · exact va_AO.of (wsK_at hts 7 rfl)
  · exact va_AO.of (wsK_at hts 8 rfl)
  · intro q hq
    unfold kN at hq
    simp only [List.mem_cons, List.not_mem_nil, or_false] at hq
    rcases hq with rfl | rfl | rfl | rfl | rfl | rfl | rfl | rfl | rfl
    · exact va_Nw.of rfl (wsK_at hts 9 rfl)
    · exact va_Nw.of rfl (wsK_at hts 10 rfl)
    · exact va_Nw.of rfl (wsK_at hts 11 rfl)
    · exact va_Nw.of rfl (wsK_at hts 12 rfl)
    · exact va_Nw.of rfl (wsK_at hts 13 rfl)
    · exact va_Nw.of rfl (wsK_at hts 14 rfl)
    · exact va_Nw.of rfl (wsK_at hts 15 rfl)
    · exact va_Nw.of rfl (wsK_at hts 16 rfl)
    · exact va_Nw.of rfl (wsK_at hts 17 rfl)
  · exact va_Nw.of rfl (wsK_at hts 18 rfl)
  · exact va_Nw.of rfl (wsK_at hts 19 rfl)
  · exact va_Nw.of rfl (wsK_at hts 20 rfl)
  · exact va_Nw.of rfl (wsK_at hts 21 rfl)
theorem wz_cg {s0 n : Nat} {e e' : Nat → va_E} (h : ∀ k, k < n → e k = e' k) : wz s0 n e = wz s0 n e' := by
  unfold wz
  refine List.map_congr_left fun k hk => ?_
  rw [h k (List.mem_range.mp hk)]
theorem cI_V0 : cI V0 := by
  refine ⟨by decide, by decide, by decide, by decide, by decide, by decide, by decide, fun _ => by decide, by decide, ?_, ?_, ?_⟩
  · intro r j hr hj
    rcases (show r = 0 ∨ r = 1 ∨ r = 2 by omega) with rfl | rfl | rfl <;> rcases (show j = 0 ∨ j = 1 ∨ j = 2 by omega) with rfl | rfl | rfl <;> decide
  · intro k hk
    have : (V0 93 0).toInt = 0 := by decide
    omega
  · intro i hi
    rcases (show i = 0 ∨ i = 1 ∨ i = 2 ∨ i = 3 by omega) with rfl | rfl | rfl | rfl <;> decide
theorem cG_0 : cG SG0 := fun j hj => by unfold SG0; omega
theorem mI_V0 : mI V0 := by
  refine ⟨by decide, by decide, by decide, by decide, by decide, by decide, by decide, ⟨fun _ => by decide, fun h => absurd h (by decide)⟩, by decide, ?_, ?_, ?_, ?_⟩
  · intro i hi
    rcases (show i = 0 ∨ i = 1 ∨ i = 2 ∨ i = 3 ∨ i = 4 ∨ i = 5 ∨ i = 6 ∨ i = 7 ∨ i = 8 by omega) with rfl | rfl | rfl | rfl | rfl | rfl | rfl | rfl | rfl <;> decide
  · intro k hk
    have : (V0 106 35).toInt = 0 := by decide
    omega
  · intro k hk
    rcases (show k = 0 ∨ k = 1 ∨ k = 2 ∨ k = 3 by omega) with rfl | rfl | rfl | rfl <;> decide
  · intro k hk
    have : (V0 106 22).toInt = 0 := by decide
    omega
set_option maxHeartbeats 4000000 in
set_option maxRecDepth 100000 in
/-- THE LAW, from its entry -/
theorem whole_start {p : Program} {e : Env} {s : State} {m : MethodId} {below : List Frame} {meth : Method} {c : Code} (l : Launch) {b L : Nat} {xs : Nat → Int32} (hL : L ≤ 3584) (C0 : lw_At p s m meth c b L xs) : W p l e room_1 s m #[Value.ref b] below meth c s.heap [] 0 0 (lw_Z below #[Value.ref b] s) (entryFrame m ([Value.ref b] : List Value).toArray 4) := by
  obtain ⟨hx, hb, hr, hml, hown, hts0, hX, hbl, hlocks, hgv⟩ := id C0
  have hts : ∀ w ∈ wsL_law, w.before #[Value.ref b] s = true := fun w h => hts0 w (wsL_law_in w h)
  obtain ⟨D, cs, hKK, hn1, hn2, hn3, hn4⟩ := ws_kk hts0
  have hcos := ws_cos hts0 hgv
  have C : kC p s m c code 4 #[Value.ref b] wsL_law RL D cs s.heap.size := ⟨⟨hx, hb, hml, hown, hts⟩, hKK, Nat.le_refl _⟩
  have CG : gC p s m c code 4 #[Value.ref b] wsL_law RL (fun q : Nat => s.heap.size ≤ q) (kG D cs s.heap.size) := ⟨C.1, ⟨hKK.1, hn1, hn2, hn3, hn4⟩, fun i j _ _ q => by have : s.heap.size + i = s.heap.size + j := q; omega, fun q hq => by obtain ⟨k, -, hk⟩ := hq; have : s.heap.size + k = q := hk; show s.heap.size ≤ q; omega, hcos⟩
  have hl := lv_entry ([.ref b]) (n := 4) (Nat.le_of_ble_eq_true rfl)
  rw [lg_entry_eq]
  generalize (lg_sl ([.ref b]) ++ List.replicate (4 - (lg_sl ([.ref b])).length) Slot.unset).toArray = ls at hl ⊢
  have hl : lv_has ls 4 [(0, .ref b)] := hl
  have h : kS D s s.heap.size 0 (fun _ => .inr (0, [])) s.heap [] := ⟨fun k q h => by simp [wz] at h, va_S.rf, rfl⟩
  refine k_new (ci := 9) (fs := [.null, .null, .null, .null, .null, .null, .null]) C h inlX9 tyX9 tyX9_ok (by decide +kernel) (by decide +kernel) (by decide +kernel) rfl (fun j hj => by rcases (show j = 0 ∨ j = 1 ∨ j = 2 ∨ j = 3 ∨ j = 4 ∨ j = 5 ∨ j = 6 by omega) with rfl | rfl | rfl | rfl | rfl | rfl | rfl <;> rfl) (Nat.le_of_ble_eq_true rfl) (Nat.le_of_ble_eq_true rfl) dL_law_0 (fun H h => ?_)
  obtain ⟨E1, hE1⟩ : ∃ z : Nat → va_E, z = va_up (fun _ => .inr (0, [])) 0 (.inr (9, [.null, .null, .null, .null, .null, .null, .null])) := ⟨_, rfl⟩
  have h : kS D s s.heap.size 1 E1 H [] := by rw [hE1]; exact h
  refine lv_dup hx hb dL_law_3 rfl ?_
  refine k_callv C (va_runI (As := []) (rest := [.ref (s.heap.size + 0)]) C.1 (c_X9_init_0 l D cs s.heap.size E1 (show E1 0 = .inr (9, [.null, .null, .null, .null, .null, .null, .null]) from (by rw [hE1]; rfl))) (cwI 0 hts gL_law_X9_init rfl rfl rfl (hts (.initialized RX9) (by decide +kernel)) (hts (.methodLink RL 9 yX9_init) (by decide +kernel)) (hts (.instanceMethod yX9_init) (by decide +kernel)) rfl (by decide +kernel) ⟨Nat.le_of_ble_eq_true rfl, Nat.le_of_ble_eq_true rfl⟩) ⟨kPre_blind, kS_pre C h _⟩ rfl rfl hl.1 rfl (lv_room (Nat.le_of_ble_eq_true rfl)) dL_law_4 ⟨(Nat.le_of_ble_eq_true rfl), (Nat.le_of_ble_eq_true rfl)⟩) h (fun E2 H locs p2 h => ?_)
  refine lv_astore_n (lv' := [(1, .ref (s.heap.size + 0)), (0, .ref b)]) hx hb dL_law_7 rfl hl (by decide) rfl (fun ls hl => ?_)
  refine k_new (ci := 10) (fs := [.null, .null, .null, .null, .null, .int 0, .int 0, .int 0, .null, .null, .int 0, .null, .null, .null, .null, .null, .null, .int 0, .int 0, .null, .null, .null, .int 0, .null, .null, .null, .null, .int 0, .int 0, .int 0, .int 0, .int 0, .int 0, .int 0, .null, .int 0, .null, .null, .null, .null, .null, .null]) C h inlX10 tyX10 tyX10_ok (by decide +kernel) (by decide +kernel) (by decide +kernel) rfl (fun j hj => by rcases (show j = 0 ∨ j = 1 ∨ j = 2 ∨ j = 3 ∨ j = 4 ∨ j = 5 ∨ j = 6 ∨ j = 7 ∨ j = 8 ∨ j = 9 ∨ j = 10 ∨ j = 11 ∨ j = 12 ∨ j = 13 ∨ j = 14 ∨ j = 15 ∨ j = 16 ∨ j = 17 ∨ j = 18 ∨ j = 19 ∨ j = 20 ∨ j = 21 ∨ j = 22 ∨ j = 23 ∨ j = 24 ∨ j = 25 ∨ j = 26 ∨ j = 27 ∨ j = 28 ∨ j = 29 ∨ j = 30 ∨ j = 31 ∨ j = 32 ∨ j = 33 ∨ j = 34 ∨ j = 35 ∨ j = 36 ∨ j = 37 ∨ j = 38 ∨ j = 39 ∨ j = 40 ∨ j = 41 by omega) with rfl | rfl | rfl | rfl | rfl | rfl | rfl | rfl | rfl | rfl | rfl | rfl | rfl | rfl | rfl | rfl | rfl | rfl | rfl | rfl | rfl | rfl | rfl | rfl | rfl | rfl | rfl | rfl | rfl | rfl | rfl | rfl | rfl | rfl | rfl | rfl | rfl | rfl | rfl | rfl | rfl | rfl <;> rfl) (Nat.le_of_ble_eq_true rfl) (Nat.le_of_ble_eq_true rfl) dL_law_8 (fun H h => ?_)
  obtain ⟨E3, hE3⟩ : ∃ z : Nat → va_E, z = va_up E2 106 (.inr (10, [.null, .null, .null, .null, .null, .int 0, .int 0, .int 0, .null, .null, .int 0, .null, .null, .null, .null, .null, .null, .int 0, .int 0, .null, .null, .null, .int 0, .null, .null, .null, .null, .int 0, .int 0, .int 0, .int 0, .int 0, .int 0, .int 0, .null, .int 0, .null, .null, .null, .null, .null, .null])) := ⟨_, rfl⟩
  have h : kS D s s.heap.size 107 E3 H locs := by rw [hE3]; exact h
  refine lv_dup hx hb dL_law_11 rfl ?_
  refine k_callv C (va_runI (As := []) (rest := [.ref (s.heap.size + 106)]) C.1 (c_X10_init_106 l D cs s.heap.size E3 (show E3 106 = .inr (10, [.null, .null, .null, .null, .null, .int 0, .int 0, .int 0, .null, .null, .int 0, .null, .null, .null, .null, .null, .null, .int 0, .int 0, .null, .null, .null, .int 0, .null, .null, .null, .null, .int 0, .int 0, .int 0, .int 0, .int 0, .int 0, .int 0, .null, .int 0, .null, .null, .null, .null, .null, .null]) from (by rw [hE3]; rfl))) (cwI 0 hts gL_law_X10_init rfl rfl rfl (hts (.initialized RX10) (by decide +kernel)) (hts (.methodLink RL 12 yX10_init) (by decide +kernel)) (hts (.instanceMethod yX10_init) (by decide +kernel)) rfl (by decide +kernel) ⟨Nat.le_of_ble_eq_true rfl, Nat.le_of_ble_eq_true rfl⟩) ⟨kPre_blind, kS_pre C h _⟩ rfl rfl hl.1 rfl (lv_room (Nat.le_of_ble_eq_true rfl)) dL_law_12 ⟨(Nat.le_of_ble_eq_true rfl), (Nat.le_of_ble_eq_true rfl)⟩) h (fun E4 H locs p4 h => ?_)
  refine lv_astore_n (lv' := [(2, .ref (s.heap.size + 106)), (1, .ref (s.heap.size + 0)), (0, .ref b)]) hx hb dL_law_15 rfl hl (by decide) rfl (fun ls hl => ?_)
  refine lv_iconst (v := 0) hx hb dL_law_16 (by decide) ?_
  refine lv_istore_n (lv' := [(3, .int 0), (2, .ref (s.heap.size + 106)), (1, .ref (s.heap.size + 0)), (0, .ref b)]) hx hb dL_law_17 rfl hl (by decide) rfl (fun ls hl => ?_)
  have hE : ∀ k, k < 134 → E4 k = gE (kG D cs s.heap.size) V0 W0 SG0 k := by
    intro k hk
    by_cases k1 : 107 ≤ k
    · exact p4.2.2 k k1 hk
    · by_cases k2 : k = 106
      · subst k2; exact p4.2.1
      · rw [p4.1 k (by omega) k2, ue hE3 k2]
        by_cases k3 : k = 0
        · subst k3; exact p2.2.1
        · exact p2.2.2 k (by omega) (by omega)
  have hg : gS (fun q : Nat => s.heap.size ≤ q) (kG D cs s.heap.size) s V0 W0 SG0 H locs := ⟨by
    have h0 := h.1
    rw [wz_cg hE] at h0
    exact h0, h.2.1⟩
  refine W.widen (k := 134) (n := 11336) (Nat.le_of_ble_eq_true rfl) (Nat.le_of_ble_eq_true rfl) ?_
  exact law_loop hL CG hX hbl hlocks hr (L + 1) 0 V0 W0 SG0 H locs ls (by have : (0 : Int32).toInt = 0 := (by decide); omega) ⟨by decide, by have : (0 : Int32).toInt = 0 := (by decide); omega⟩ cI_V0 cG_0 mI_V0 Rl_V0 hg (lv_sub hl [3, 2, 1, 0] rfl)
