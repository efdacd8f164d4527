theorem nb_of {x : Int32} (h : x.toInt = 0 ∨ x.toInt = 1) : narrow .boolean (.int x) = .int x := by
  have h0 : x = 0 ∨ x = 1 := by
    rcases h with h | h
    · exact Or.inl ((fa_eq x 0).mpr (by rw [h]; decide))
    · exact Or.inr ((fa_eq x 1).mpr (by rw [h]; decide))
  rcases h0 with rfl | rfl <;> rfl
theorem fb_of {x : Int32} (h : x.toInt = 0 ∨ x.toInt = 1) : fits .boolean (.int x) = true := by
  have h0 : x = 0 ∨ x = 1 := by
    rcases h with h | h
    · exact Or.inl ((fa_eq x 0).mpr (by rw [h]; decide))
    · exact Or.inr ((fa_eq x 1).mpr (by rw [h]; decide))
  rcases h0 with rfl | rfl <;> rfl
theorem nz_of (x : Int32) : (vp_nar .boolean x).toInt = 0 ∨ (vp_nar .boolean x).toInt = 1 := by
  have e : vp_nar .boolean x = x &&& 1 := rfl
  obtain ⟨j, hj, he⟩ := pk_andE x (m := 1) 1 (by decide)
  rw [e, he]
  have : j = 0 ∨ j = 1 := by omega
  rcases this with rfl | rfl
  · left; decide
  · right; decide
theorem ia_rem {x a b : Int32} (e : x = a - a / b * b) {A B : Int} (ha : a.toInt = A) (hb : b.toInt = B) (h1 : 0 ≤ A) (h2 : 0 < B) : x.toInt = A % B := by
  have qa := fb_rng a
  have qb := fb_rng b
  obtain ⟨n, hn, rfl⟩ := nI_of (x := a) (by rw [fa_lt]; intro q; have : (0 : Int32).toInt = 0 := (by decide); omega)
  obtain ⟨k, hk, rfl⟩ := nI_of (x := b) (by rw [fa_lt]; intro q; have : (0 : Int32).toInt = 0 := (by decide); omega)
  rw [nI_toInt hn] at ha
  rw [nI_toInt hk] at hb
  rw [e, pk_rem hn (by omega) hk, nI_toInt (Nat.lt_of_lt_of_le (Nat.mod_lt _ (by omega)) (by omega)), ← ha, ← hb]
  exact (Int.natCast_emod n k)
/-- a row of an array of rows -/
theorem g_row (sg : Nat → Nat) {b n : Nat} (h1 : b ≠ 52) (h2 : b ≠ 97) {i : Int32} {I : Int} (h : i.toInt = I) (h3 : 0 ≤ I) (h4 : I < n) : ∃ q, gR sg b i.toNatClampNeg = q ∧ (q : Int) = b + 1 + I ∧ (b + 1 ≤ q ∧ q < b + 1 + n) := by
  have hc := cl_of h h3
  refine ⟨b + 1 + i.toNatClampNeg, ?_, by omega, by omega, by omega⟩
  simp [gR, h1, h2]
theorem g_kd (a n c : Nat) (hd : (List.range n).all (fun i => gkd (a + i) == c) = true) {q : Nat} (h : a ≤ q ∧ q < a + n) : gkd q = c := by
  have := List.all_eq_true.mp hd (q - a) (List.mem_range.mpr (by omega))
  have e : a + (q - a) = q := by omega
  rw [e] at this
  exact eq_of_beq this
theorem g_ln (a n c : Nat) (hd : (List.range n).all (fun i => gln (a + i) == c) = true) {q : Nat} (h : a ≤ q ∧ q < a + n) : gln q = c := by
  have := List.all_eq_true.mp hd (q - a) (List.mem_range.mpr (by omega))
  have e : a + (q - a) = q := by omega
  rw [e] at this
  exact eq_of_beq this
/-- what the model keeps true of its numbers -/
def mI (v : Nat → Nat → Int32) : Prop :=
  (0 ≤ (v 106 7).toInt ∧ (v 106 7).toInt ≤ 12) ∧ (0 ≤ (v 106 10).toInt ∧ (v 106 10).toInt ≤ 10) ∧ (0 ≤ (v 106 18).toInt ∧ (v 106 18).toInt ≤ 23) ∧ (0 ≤ (v 106 22).toInt ∧ (v 106 22).toInt ≤ 9) ∧ (1 ≤ (v 106 27).toInt ∧ (v 106 27).toInt ≤ 8) ∧ (1 ≤ (v 106 29).toInt ∧ (v 106 29).toInt ≤ 100) ∧ (0 ≤ (v 106 32).toInt ∧ (v 106 32).toInt ≤ 100) ∧ ((v 106 31).toInt = 0 → (v 106 32).toInt < (v 106 29).toInt) ∧ ((v 106 31).toInt = 1 → (v 106 27).toInt ≤ (v 106 32).toInt) ∧ (0 ≤ (v 106 35).toInt ∧ (v 106 35).toInt ≤ 10) ∧ (∀ i : Nat, i < 9 → -100 ≤ (v 107 i).toInt ∧ (v 107 i).toInt ≤ 100) ∧ (∀ k : Nat, (k : Int) < (v 106 35).toInt → 1 ≤ (v 128 k).toInt ∧ (v 128 k).toInt ≤ 100) ∧ (∀ k : Nat, k < 4 → 0 ≤ (v 132 k).toInt ∧ (v 132 k).toInt ≤ 60)
/-- the places of the class are as they were -/
def fM (v : Nat → Nat → Int32) (w : Nat → Nat → Int64) (v' : Nat → Nat → Int32) (w' : Nat → Nat → Int64) : Prop := (∀ k, k < 106 → v' k = v k) ∧ (∀ k, k < 106 → w' k = w k)
theorem fM_rf {v : Nat → Nat → Int32} {w : Nat → Nat → Int64} : fM v w v w := ⟨fun _ _ => rfl, fun _ _ => rfl⟩
theorem fM_v {v v1 : Nat → Nat → Int32} {w w1 : Nat → Nat → Int64} {k j : Nat} {x : Int32} (h : fM v w v1 w1) (hk : 106 ≤ k) : fM v w (gu v1 k j x) w1 := ⟨fun a ha => (gu_o (by omega)).trans (h.1 a ha), h.2⟩
theorem fM_w {v v1 : Nat → Nat → Int32} {w w1 : Nat → Nat → Int64} {k j : Nat} {x : Int64} (h : fM v w v1 w1) (hk : 106 ≤ k) : fM v w v1 (gul w1 k j x) := ⟨h.1, fun a ha => (gul_o (by omega)).trans (h.2 a ha)⟩
theorem fM_tr {v v1 v2 : Nat → Nat → Int32} {w w1 w2 : Nat → Nat → Int64} (h : fM v w v1 w1) (h2 : fM v1 w1 v2 w2) : fM v w v2 w2 := ⟨fun a ha => (h2.1 a ha).trans (h.1 a ha), fun a ha => (h2.2 a ha).trans (h.2 a ha)⟩
/-- a store keeps a bound of all the row -/
theorem up_all {f : Nat → Int32} {p : Nat → Int32 → Prop} {n j : Nat} {x : Int32} (h : ∀ i, i < n → p i (f i)) (hx : p j x) : ∀ i, i < n → p i (va_up f j x i) := by
  intro i hi
  by_cases e : i = j
  · subst e; simpa [va_up] using hx
  · simpa [va_up, e] using h i hi
