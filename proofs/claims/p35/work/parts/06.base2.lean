theorem nb_of {x : Int32} (h : x.toInt = 0 ∨ x.toInt = 1) : narrow .boolean (.int x) = .int x := by
  have h0 : x = 0 ∨ x = 1 := by
    rcases h with h | h
    · exact Or.inl ((fa_eq x 0).mpr (by rw [h]; decide))
    · exact Or.inr ((fa_eq x 1).mpr (by rw [h]; decide))
  rcases h0 with rfl | rfl <;> rfl
theorem fb_of {x : Int32} (h : x.toInt = 0 ∨ x.toInt = 1) : fits .boolean (.int x) = true := by
  have h0 : x = 0 ∨ x = 1 := by
    rcases h with h | h
    · exact Or.inl ((fa_eq x 0).mpr (by rw [h]; decide))
    · exact Or.inr ((fa_eq x 1).mpr (by rw [h]; decide))
  rcases h0 with rfl | rfl <;> rfl
theorem nz_of (x : Int32) : (vp_nar .boolean x).toInt = 0 ∨ (vp_nar .boolean x).toInt = 1 := by
  have e : vp_nar .boolean x = x &&& 1 := rfl
  obtain ⟨j, hj, he⟩ := pk_andE x (m := 1) 1 (by decide)
  rw [e, he]
  have : j = 0 ∨ j = 1 := by omega
  rcases this with rfl | rfl
  · left; decide
  · right; decide
theorem ia_rem {x a b : Int32} (e : x = a - a / b * b) {A B : Int} (ha : a.toInt = A) (hb : b.toInt = B) (h1 : 0 ≤ A) (h2 : 0 < B) : x.toInt = A % B := by
  have qa := fb_rng a
  have qb := fb_rng b
  obtain ⟨n, hn, rfl⟩ := nI_of (x := a) (by rw [fa_lt]; intro q; have : (0 : Int32).toInt = 0 := (by decide); omega)
  obtain ⟨k, hk, rfl⟩ := nI_of (x := b) (by rw [fa_lt]; intro q; have : (0 : Int32).toInt = 0 := (by decide); omega)
  rw [nI_toInt hn] at ha
  rw [nI_toInt hk] at hb
  rw [e, pk_rem hn (by omega) hk, nI_toInt (Nat.lt_of_lt_of_le (Nat.mod_lt _ (by omega)) (by omega)), ← ha, ← hb]
  exact (Int.natCast_emod n k)
/-- a row of an array of rows -/
theorem g_row (sg : Nat → Nat) {b n : Nat} (h1 : b ≠ 52) (h2 : b ≠ 97) {i : Int32} {I : Int} (h : i.toInt = I) (h3 : 0 ≤ I) (h4 : I < n) : ∃ q, gR sg b i.toNatClampNeg = q ∧ (q : Int) = b + 1 + I ∧ (b + 1 ≤ q ∧ q < b + 1 + n) := by
  have hc := cl_of h h3
  refine ⟨b + 1 + i.toNatClampNeg, ?_, by omega, by omega, by omega⟩
  simp [gR, h1, h2]
theorem g_kd (a n c : Nat) (hd : (List.range n).all (fun i => gkd (a + i) == c) = true) {q : Nat} (h : a ≤ q ∧ q < a + n) : gkd q = c := by
  have := List.all_eq_true.mp hd (q - a) (List.mem_range.mpr (by omega))
  have e : a + (q - a) = q := by omega
  rw [e] at this
  exact eq_of_beq this
theorem g_ln (a n c : Nat) (hd : (List.range n).all (fun i => gln (a + i) == c) = true) {q : Nat} (h : a ≤ q ∧ q < a + n) : gln q = c := by
  have := List.all_eq_true.mp hd (q - a) (List.mem_range.mpr (by omega))
  have e : a + (q - a) = q := by omega
  rw [e] at this
  exact eq_of_beq this
def mS (v : Nat → Nat → Int32) : Prop := ((v 106 31).toInt = 0 → (v 106 32).toInt < (v 106 29).toInt) ∧ ((v 106 31).toInt = 1 → (v 106 27).toInt ≤ (v 106 32).toInt)
/-- what the model keeps true of its numbers -/
def mI (v : Nat → Nat → Int32) : Prop :=
  (0 ≤ (v 106 7).toInt ∧ (v 106 7).toInt ≤ 12) ∧ (0 ≤ (v 106 10).toInt ∧ (v 106 10).toInt ≤ 10) ∧ (0 ≤ (v 106 18).toInt ∧ (v 106 18).toInt ≤ 23) ∧ (0 ≤ (v 106 22).toInt ∧ (v 106 22).toInt ≤ 9) ∧ (1 ≤ (v 106 27).toInt ∧ (v 106 27).toInt ≤ 8) ∧ (1 ≤ (v 106 29).toInt ∧ (v 106 29).toInt ≤ 100) ∧ (0 ≤ (v 106 32).toInt ∧ (v 106 32).toInt ≤ 100) ∧ mS v ∧ (0 ≤ (v 106 35).toInt ∧ (v 106 35).toInt ≤ 10) ∧ (∀ i : Nat, i < 9 → -100 ≤ (v 107 i).toInt ∧ (v 107 i).toInt ≤ 100) ∧ (∀ k : Nat, (k : Int) < (v 106 35).toInt → 1 ≤ (v 128 k).toInt ∧ (v 128 k).toInt ≤ 100) ∧ (∀ k : Nat, k < 4 → 0 ≤ (v 132 k).toInt ∧ (v 132 k).toInt ≤ 60) ∧ (∀ q : Nat, (q : Int) < (v 106 22).toInt → (0 ≤ (v 123 q).toInt ∧ (v 123 q).toInt ≤ 23) ∧ (0 ≤ (v 124 q).toInt ∧ (v 124 q).toInt ≤ 9))
/-- only the model's places lo .. hi-1 and its fields flo .. fhi-1 may have changed -/
def fM (lo hi flo fhi : Nat) (v : Nat → Nat → Int32) (w : Nat → Nat → Int64) (v' : Nat → Nat → Int32) (w' : Nat → Nat → Int64) : Prop := (∀ k, k ≠ 106 → (k < lo ∨ hi ≤ k) → v' k = v k) ∧ (∀ j, (j < flo ∨ fhi ≤ j) → v' 106 j = v 106 j) ∧ (∀ k, (k < lo ∨ hi ≤ k) → w' k = w k)
theorem fM_rf {lo hi flo fhi : Nat} {v : Nat → Nat → Int32} {w : Nat → Nat → Int64} : fM lo hi flo fhi v w v w := ⟨fun _ _ _ => rfl, fun _ _ => rfl, fun _ _ => rfl⟩
theorem fM_v {lo hi flo fhi : Nat} {v v1 : Nat → Nat → Int32} {w w1 : Nat → Nat → Int64} {k j : Nat} {x : Int32} (h : fM lo hi flo fhi v w v1 w1) (hk : lo ≤ k ∧ k < hi ∧ 106 < k) : fM lo hi flo fhi v w (gu v1 k j x) w1 := ⟨fun a h1 ha => (gu_o (by omega)).trans (h.1 a h1 ha), fun a ha => (congrFun (gu_o (by omega)) a).trans (h.2.1 a ha), h.2.2⟩
theorem fM_f {lo hi flo fhi : Nat} {v v1 : Nat → Nat → Int32} {w w1 : Nat → Nat → Int64} {j : Nat} {x : Int32} (h : fM lo hi flo fhi v w v1 w1) (hj : flo ≤ j ∧ j < fhi) : fM lo hi flo fhi v w (gu v1 106 j x) w1 := ⟨fun a h1 ha => (gu_o h1).trans (h.1 a h1 ha), fun a ha => (by rw [← h.2.1 a ha]; have : a ≠ j := (by omega); simp [gu, va_up, this]), h.2.2⟩
theorem fM_w {lo hi flo fhi : Nat} {v v1 : Nat → Nat → Int32} {w w1 : Nat → Nat → Int64} {k j : Nat} {x : Int64} (h : fM lo hi flo fhi v w v1 w1) (hk : lo ≤ k ∧ k < hi) : fM lo hi flo fhi v w v1 (gul w1 k j x) := ⟨h.1, h.2.1, fun a ha => (gul_o (by omega)).trans (h.2.2 a ha)⟩
theorem fM_tr {lo hi flo fhi : Nat} {v v1 v2 : Nat → Nat → Int32} {w w1 w2 : Nat → Nat → Int64} (h : fM lo hi flo fhi v w v1 w1) (h2 : fM lo hi flo fhi v1 w1 v2 w2) : fM lo hi flo fhi v w v2 w2 := ⟨fun a h1 ha => (h2.1 a h1 ha).trans (h.1 a h1 ha), fun a ha => (h2.2.1 a ha).trans (h.2.1 a ha), fun a ha => (h2.2.2 a ha).trans (h.2.2 a ha)⟩
theorem fM_le {lo hi flo fhi lo' hi' flo' fhi' : Nat} {v v1 : Nat → Nat → Int32} {w w1 : Nat → Nat → Int64} (h : fM lo' hi' flo' fhi' v w v1 w1) (hl : (lo ≤ lo' ∧ hi' ≤ hi) ∧ (fhi' ≤ flo' ∨ (flo ≤ flo' ∧ fhi' ≤ fhi))) : fM lo hi flo fhi v w v1 w1 := ⟨fun a h1 ha => h.1 a h1 (by omega), fun a ha => h.2.1 a (by omega), fun a ha => h.2.2 a (by omega)⟩
/-- a store keeps a bound of all the row -/
theorem up_all {f : Nat → Int32} {p : Nat → Int32 → Prop} {n j : Nat} {x : Int32} (h : ∀ i, i < n → p i (f i)) (hx : p j x) : ∀ i, i < n → p i (va_up f j x i) := by
  intro i hi
  by_cases e : i = j
  · subst e; simpa [va_up] using hx
  · simpa [va_up, e] using h i hi
theorem la_neg {x a : Int64} (e : x = -a) {A : Int} (ha : a.toInt = A) (h1 : A ≠ -9223372036854775808) : x.toInt = -A := by
  have q := fb_rngL a
  have hs : x = 0 - a := by rw [e]; simp
  have := la_sub hs (A := 0) (B := A) (by decide) ha (by omega) (by omega)
  omega
theorem l_ne0 {x : Int64} {X : Int} (h : x.toInt = X) (hX : X ≠ 0) : ¬ x = 0 := fun e => hX (by rw [← h, e]; decide)
theorem i_ne0 {x : Int32} {X : Int} (h : x.toInt = X) (hX : X ≠ 0) : ¬ x = 0 := fun e => hX (by rw [← h, e]; decide)
theorem b_mul {a b A B : Int} (h1 : -A ≤ a) (h2 : a ≤ A) (h3 : -B ≤ b) (h4 : b ≤ B) : -(A * B) ≤ a * b ∧ a * b ≤ A * B := by
  have hA : 0 ≤ A := by omega
  have hB : 0 ≤ B := by omega
  have p1 : 0 ≤ (A - a) * (B + b) := Int.mul_nonneg (by omega) (by omega)
  have p2 : 0 ≤ (A + a) * (B - b) := Int.mul_nonneg (by omega) (by omega)
  have p3 : 0 ≤ (A - a) * (B - b) := Int.mul_nonneg (by omega) (by omega)
  have p4 : 0 ≤ (A + a) * (B + b) := Int.mul_nonneg (by omega) (by omega)
  have e1 : (A - a) * (B + b) = A * B + A * b - a * B - a * b := by rw [Int.sub_mul, Int.mul_add, Int.mul_add]; omega
  have e2 : (A + a) * (B - b) = A * B - A * b + a * B - a * b := by rw [Int.add_mul, Int.mul_sub, Int.mul_sub]; omega
  have e3 : (A - a) * (B - b) = A * B - A * b - a * B + a * b := by rw [Int.sub_mul, Int.mul_sub, Int.mul_sub]; omega
  have e4 : (A + a) * (B + b) = A * B + A * b + a * B + a * b := by rw [Int.add_mul, Int.mul_add, Int.mul_add]; omega
  omega
def detL (f : Nat → Int64) : Int64 := f 0 * (f 4 * f 8 - f 5 * f 7) - f 1 * (f 3 * f 8 - f 5 * f 6) + f 2 * (f 3 * f 7 - f 4 * f 6)
theorem minB {a b c d : Int64} (ha : -100 ≤ a.toInt ∧ a.toInt ≤ 100) (hb : -100 ≤ b.toInt ∧ b.toInt ≤ 100) (hc : -100 ≤ c.toInt ∧ c.toInt ≤ 100) (hd : -100 ≤ d.toInt ∧ d.toInt ≤ 100) : -20000 ≤ (a * b - c * d).toInt ∧ (a * b - c * d).toInt ≤ 20000 := by
  have p := b_mul (A := 100) (B := 100) (by omega) ha.2 (by omega) hb.2
  have q := b_mul (A := 100) (B := 100) (by omega) hc.2 (by omega) hd.2
  have e1 := fb_mulL (x := a) (y := b) (by omega) (by omega)
  have e2 := fb_mulL (x := c) (y := d) (by omega) (by omega)
  have e3 := fb_subL (x := a * b) (y := c * d) (by omega) (by omega)
  omega
theorem proB {a b : Int64} (ha : -100 ≤ a.toInt ∧ a.toInt ≤ 100) (hb : -20000 ≤ b.toInt ∧ b.toInt ≤ 20000) : -2000000 ≤ (a * b).toInt ∧ (a * b).toInt ≤ 2000000 := by
  have p := b_mul (A := 100) (B := 20000) (by omega) ha.2 (by omega) hb.2
  have e1 := fb_mulL (x := a) (y := b) (by omega) (by omega)
  omega
theorem detB {f : Nat → Int64} (h : ∀ i, i < 9 → -100 ≤ (f i).toInt ∧ (f i).toInt ≤ 100) : -6000000 ≤ (detL f).toInt ∧ (detL f).toInt ≤ 6000000 := by
  have a := proB (h 0 (by decide)) (minB (h 4 (by decide)) (h 8 (by decide)) (h 5 (by decide)) (h 7 (by decide)))
  have b := proB (h 1 (by decide)) (minB (h 3 (by decide)) (h 8 (by decide)) (h 5 (by decide)) (h 6 (by decide)))
  have c := proB (h 2 (by decide)) (minB (h 3 (by decide)) (h 7 (by decide)) (h 4 (by decide)) (h 6 (by decide)))
  unfold detL
  have e1 := fb_subL (x := f 0 * (f 4 * f 8 - f 5 * f 7)) (y := f 1 * (f 3 * f 8 - f 5 * f 6)) (by omega) (by omega)
  have e2 := fb_addL (x := f 0 * (f 4 * f 8 - f 5 * f 7) - f 1 * (f 3 * f 8 - f 5 * f 6)) (y := f 2 * (f 3 * f 7 - f 4 * f 6)) (by omega) (by omega)
  omega
theorem lrem_abs {x a b : Int64} (e : x = a - a / b * b) (hb : b.toInt ≠ 0) : x.toInt.natAbs < b.toInt.natAbs := by
  have h1 : x.toInt = (a.toInt.tmod b.toInt).bmod (2 ^ 64) := by
    rw [e, Int64.toInt_sub, Int64.toInt_mul, Int64.toInt_div, Int.bmod_mul_bmod, Int.sub_bmod_bmod]
    congr 1
    have := Int.tdiv_mul_add_tmod a.toInt b.toInt
    omega
  have h2 : (a.toInt.tmod b.toInt).natAbs = a.toInt.natAbs % b.toInt.natAbs := Int.natAbs_tmod _ _
  have h3 : a.toInt.natAbs % b.toInt.natAbs < b.toInt.natAbs := Nat.mod_lt _ (by omega)
  have qb := fb_rngL b
  rw [h1, fb_bmodL (by omega) (by omega)]
  omega
theorem fill_w {w : Nat → Nat → Int64} {f : Nat → Int64} {k : Nat} {I I' : Int} {i : Int32} {x : Int64} (h : ∀ j : Nat, (j : Int) < I → w k j = f j) (hi : i.toInt = I) (h0 : 0 ≤ I) (hI : I' = I + 1) (hx : x = f i.toNatClampNeg) : ∀ j : Nat, (j : Int) < I' → gul w k i.toNatClampNeg x k j = f j := by
  intro j hj
  have hc := cl_of hi h0
  rw [gul_s]
  by_cases e : j = i.toNatClampNeg
  · subst e; simp [va_up, hx]
  · simp [va_up, e]; exact h j (by omega)
theorem l_neg_ne {x a : Int64} (e : x = -a) {A : Int} (ha : a.toInt = A) (h : A ≠ 0) : x.toInt ≠ 0 := by
  intro q
  have hx : x = 0 := (fa_eq64 x 0).mpr (by rw [q]; decide)
  have : a = 0 := by
    have h2 : -x = a := by rw [e]; simp
    rw [← h2, hx]; decide
  exact h (by rw [← ha, this]; decide)
/-- one more of a growing row -/
theorem up_grow {f : Nat → Int32} {p : Int32 → Prop} {I I' : Int} {i : Int32} {x : Int32} (h : ∀ j : Nat, (j : Int) < I → p (f j)) (hi : i.toInt = I) (h0 : 0 ≤ I) (hI : I' = I + 1) (hx : p x) : ∀ j : Nat, (j : Int) < I' → p (va_up f i.toNatClampNeg x j) := by
  intro j hj
  have hc := cl_of hi h0
  by_cases e : j = i.toNatClampNeg
  · subst e; simpa [va_up] using hx
  · simpa [va_up, e] using h j (by omega)
theorem fill_step {f : Nat → Int32} {y : Int32} {Y : Int} (hy : y.toInt = Y) (h0 : 0 ≤ Y) {k0 : Nat} (hle : Y ≤ k0) (hk : f k0 ≠ 0) (hz : f y.toNatClampNeg = 0) : Y + 1 ≤ k0 := by
  have hc := cl_of hy h0
  by_cases e : y.toNatClampNeg = k0
  · rw [e] at hz; exact absurd hz hk
  · omega
theorem mI_7 {v : Nat → Nat → Int32} {x : Int32} (h : mI v) (hx : 0 ≤ x.toInt ∧ x.toInt ≤ 12) : mI (gu v 106 7 x) := by
  obtain ⟨I7, I10, I18, I22, I27, I29, I32, Is, I35, Ia, Iar, Isz, Ian⟩ := h
  exact ⟨hx, I10, I18, I22, I27, I29, I32, Is, I35, Ia, Iar, Isz, Ian⟩
theorem mI_10 {v : Nat → Nat → Int32} {x : Int32} (h : mI v) (hx : 0 ≤ x.toInt ∧ x.toInt ≤ 10) : mI (gu v 106 10 x) := by
  obtain ⟨I7, I10, I18, I22, I27, I29, I32, Is, I35, Ia, Iar, Isz, Ian⟩ := h
  exact ⟨I7, hx, I18, I22, I27, I29, I32, Is, I35, Ia, Iar, Isz, Ian⟩
theorem mI_18 {v : Nat → Nat → Int32} {x : Int32} (h : mI v) (hx : 0 ≤ x.toInt ∧ x.toInt ≤ 23) : mI (gu v 106 18 x) := by
  obtain ⟨I7, I10, I18, I22, I27, I29, I32, Is, I35, Ia, Iar, Isz, Ian⟩ := h
  exact ⟨I7, I10, hx, I22, I27, I29, I32, Is, I35, Ia, Iar, Isz, Ian⟩
theorem mI_107 {v : Nat → Nat → Int32} {j : Nat} {x : Int32} (h : mI v) (hx : -100 ≤ x.toInt ∧ x.toInt ≤ 100) : mI (gu v 107 j x) := by
  obtain ⟨I7, I10, I18, I22, I27, I29, I32, Is, I35, Ia, Iar, Isz, Ian⟩ := h
  exact ⟨I7, I10, I18, I22, I27, I29, I32, Is, I35, up_all (p := fun _ z => -100 ≤ z.toInt ∧ z.toInt ≤ 100) Ia hx, Iar, Isz, Ian⟩
section GR2
variable {p : Program} {l : Launch} {e : Env} {R : Room} {s : State} {m : MethodId} {args : Array Value} {below : List Frame} {meth : Method} {c : Code} {H : Heap} {locs : List Loc} {cells slots : Nat} {Q : State → Prop}
variable {cc : ByteArray} {pc nL : Nat} {ls : Array Slot} {rest : List Value} {A : Nat → Prop} {G : gG} {v : Nat → Nat → Int32} {w : Nat → Nat → Int64} {sg : Nat → Nat} {ws : List Cond} {own : String}
theorem g_geti (C : gC p s m c cc nL args ws own A G) (h : gS A G s v w sg H locs) (k : Nat) (hk : k < 134) {ci : Nat} {fs : List Value} (he : gE G v w sg k = .inr (ci, fs)) {Cn : String} {T : u_T} {N : Nat} (hc : vwCl[ci]? = some (Cn, T, N)) (hin : ∀ x ∈ u_ws Cn T N, x ∈ ws) (j : Nat) (hj : j < N) {index : Nat} {ref : String} (hlink : Cond.fieldLink own index ref (T j).2.1 (T j).2.2.1 ∈ ws) (hsame : (T j).1 = ref) {x : Int32} (hv : fs[j]? = some (.int (v k j))) (hx : v k j = x) (hdg : decode cc pc = .ok (.getfield index, 3))
    (kk : W p l e R s m args below meth c H locs cells slots Q (F0 m (pc + 3) ls (.int x :: rest))) : W p l e R s m args below meth c H locs cells slots Q (F0 m pc ls (.ref (G.2.2 k) :: rest)) :=
  g_get C h k hk he hc hin j hj hlink hsame hv hdg (by rw [hx]; exact kk)
end GR2
