/-- the entries of three equations, the right side standing in column c -/
def tmQ (w : Nat → Nat → Int64) (b r : Nat) (c : Int) (i j : Nat) : Int64 := if (j : Int) = c then w r i else w (b + i) j
def dsN (t : Nat → Nat → Int64) : Nat → Int64
  | 0 => 0
  | j + 1 => dsN t j + t 0 j * (t 1 ((j + 1) % 3) * t 2 ((j + 2) % 3) - t 1 ((j + 2) % 3) * t 2 ((j + 1) % 3))
theorem ds_st {t : Nat → Nat → Int64} {s s' x4 t0 mn m1 m2 a b c d : Int64} {I J : Int} (h : s = dsN t I.toNat) (h0 : 0 ≤ I) (hJ : J = I + 1) (e5 : s' = s + x4) (e4 : x4 = t0 * mn) (e3 : mn = m1 - m2) (e1 : m1 = a * b) (e2 : m2 = c * d) (ha : a = t 1 ((I.toNat + 1) % 3)) (hb : b = t 2 ((I.toNat + 2) % 3)) (hc : c = t 1 ((I.toNat + 2) % 3)) (hd : d = t 2 ((I.toNat + 1) % 3)) (ht : t0 = t 0 I.toNat) : s' = dsN t J.toNat := by
  have : J.toNat = I.toNat + 1 := by omega
  rw [this, e5, e4, e3, e1, e2, ha, hb, hc, hd, ht, h]
  rfl
/-- the model's determinant is the class's -/
theorem det_eq {t : Nat → Nat → Int64} {f : Nat → Int64} (h : ∀ i j, i < 3 → j < 3 → f (3 * i + j) = t i j) : detL f = dsN t 3 := by
  have e : dsN t 3 = 0 + t 0 0 * (t 1 1 * t 2 2 - t 1 2 * t 2 1) + t 0 1 * (t 1 2 * t 2 0 - t 1 0 * t 2 2) + t 0 2 * (t 1 0 * t 2 1 - t 1 1 * t 2 0) := rfl
  have h00 : f 0 = t 0 0 := h 0 0 (by decide) (by decide)
  have h01 : f 1 = t 0 1 := h 0 1 (by decide) (by decide)
  have h02 : f 2 = t 0 2 := h 0 2 (by decide) (by decide)
  have h10 : f 3 = t 1 0 := h 1 0 (by decide) (by decide)
  have h11 : f 4 = t 1 1 := h 1 1 (by decide) (by decide)
  have h12 : f 5 = t 1 2 := h 1 2 (by decide) (by decide)
  have h20 : f 6 = t 2 0 := h 2 0 (by decide) (by decide)
  have h21 : f 7 = t 2 1 := h 2 1 (by decide) (by decide)
  have h22 : f 8 = t 2 2 := h 2 2 (by decide) (by decide)
  rw [e]
  unfold detL
  rw [h00, h01, h02, h10, h11, h12, h20, h21, h22]
  grind
/-- rounding to 0 against rounding down, both signs -/
theorem fdT {A B : Int} (hB : B ≠ 0) : (A.tdiv B * B = A ∧ A.tdiv B = A.fdiv B) ∨ (A.tdiv B * B ≠ A ∧ ((0 ≤ A ∧ 0 ≤ B) ∨ (A < 0 ∧ B < 0)) ∧ A.tdiv B = A.fdiv B) ∨ (A.tdiv B * B ≠ A ∧ ((A < 0 ∧ 0 ≤ B) ∨ (0 ≤ A ∧ B < 0)) ∧ A.tdiv B - 1 = A.fdiv B) := by
  have pos : ∀ A B : Int, 0 < B → (A.tdiv B * B = A ∧ A.tdiv B = A / B) ∨ (A.tdiv B * B ≠ A ∧ 0 ≤ A ∧ A.tdiv B = A / B) ∨ (A.tdiv B * B ≠ A ∧ A < 0 ∧ A.tdiv B - 1 = A / B) := by
    intro A B h
    have h6 := Int.tdiv_mul_add_tmod A B
    have sg : (0 ≤ A → 0 ≤ A.tmod B) ∧ (A < 0 → A.tmod B ≤ 0) := by
      constructor
      · intro z; exact Int.tmod_nonneg _ z
      · intro z
        have q1 : 0 ≤ (-A).tmod B := Int.tmod_nonneg _ (by omega)
        rw [Int.neg_tmod] at q1
        omega
    by_cases z : 0 ≤ A
    · have := sg.1 z
      have q := td_nn h this
      by_cases y : A.tdiv B * B = A
      · exact Or.inl ⟨y, q⟩
      · exact Or.inr (Or.inl ⟨y, z, q⟩)
    · have := sg.2 (by omega)
      by_cases y : A.tdiv B * B = A
      · exact Or.inl ⟨y, td_nn h (by omega)⟩
      · exact Or.inr (Or.inr ⟨y, by omega, td_ng (A := A) h (by omega)⟩)
  by_cases h : 0 < B
  · rw [Int.fdiv_eq_ediv_of_nonneg A (by omega)]
    rcases pos A B h with q | ⟨q1, q2, q3⟩ | ⟨q1, q2, q3⟩
    · exact Or.inl q
    · exact Or.inr (Or.inl ⟨q1, Or.inl ⟨q2, by omega⟩, q3⟩)
    · exact Or.inr (Or.inr ⟨q1, Or.inl ⟨q2, by omega⟩, q3⟩)
  · have h' : 0 < -B := by omega
    have e1 : A.tdiv B = (-A).tdiv (-B) := (Int.neg_tdiv_neg A B).symm
    have e2 : A.fdiv B = (-A) / (-B) := by rw [← Int.neg_fdiv_neg, Int.fdiv_eq_ediv_of_nonneg _ (by omega)]
    have e3 : (-A).tdiv (-B) * (-B) = -((-A).tdiv (-B) * B) := Int.mul_neg _ _
    rw [e1, e2]
    rcases pos (-A) (-B) h' with ⟨q1, q2⟩ | ⟨q1, q2, q3⟩ | ⟨q1, q2, q3⟩
    · exact Or.inl ⟨by rw [e3] at q1; omega, q2⟩
    · by_cases z : A = 0
      · refine absurd ?_ q1
        rw [z]
        simp
      · exact Or.inr (Or.inl ⟨fun y => q1 (by rw [e3]; omega), Or.inr ⟨by omega, by omega⟩, q3⟩)
    · exact Or.inr (Or.inr ⟨fun y => q1 (by rw [e3]; omega), Or.inr ⟨by omega, by omega⟩, q3⟩)
theorem td_abs (A B : Int) : (A.tdiv B).natAbs ≤ A.natAbs := Int.natAbs_tdiv_le_natAbs A B
theorem td_mul (A B : Int) : (A.tdiv B * B).natAbs ≤ A.natAbs := by
  have h6 := Int.tdiv_mul_add_tmod A B
  rw [Int.natAbs_mul, Int.natAbs_tdiv]
  exact Nat.div_mul_le_self _ _
/-- Math.floorDiv of longs -/
theorem fd_l {x a b : Int64} (e : x = a / b) {A B : Int} (ha : a.toInt = A) (hb : b.toInt = B) (hB : B ≠ 0) (hA : -4611686018427387904 ≤ A) : (x.toInt = A.fdiv B ∧ (((0 ≤ A ∧ 0 ≤ B) ∨ (A < 0 ∧ B < 0)) ∨ (x * b).toInt = A)) ∨ ((x - 1).toInt = A.fdiv B ∧ ((A < 0 ∧ 0 ≤ B) ∨ (0 ≤ A ∧ B < 0)) ∧ (x * b).toInt ≠ A) := by
  subst ha
  subst hb
  have qa := fb_rngL a
  have t1 := td_abs a.toInt b.toInt
  have t2 := td_mul a.toInt b.toInt
  have h1 : x.toInt = a.toInt.tdiv b.toInt := by rw [e, Int64.toInt_div, fb_bmodL (by omega) (by omega)]
  have hm : (x * b).toInt = a.toInt.tdiv b.toInt * b.toInt := by
    have := fb_mulL (x := x) (y := b) (by rw [h1]; omega) (by rw [h1]; omega)
    rw [this, h1]
  have z1 : (1 : Int64).toInt = 1 := by decide
  rcases fdT (A := a.toInt) hB with ⟨q1, q2⟩ | ⟨q1, q2, q3⟩ | ⟨q1, q2, q3⟩
  · exact Or.inl ⟨by rw [h1, q2], Or.inr (by rw [hm, q1])⟩
  · exact Or.inl ⟨by rw [h1, q3], Or.inl q2⟩
  · have s := fb_subL (x := x) (y := 1) (by omega) (by omega)
    exact Or.inr ⟨by rw [s, h1, z1, q3], q2, by rw [hm]; exact q1⟩
theorem xor_sgL {x a b : Int64} (e : x = a ^^^ b) {A B : Int} (ha : a.toInt = A) (hb : b.toInt = B) : (x.toInt < 0 ∧ ((A < 0 ∧ 0 ≤ B) ∨ (0 ≤ A ∧ B < 0))) ∨ (0 ≤ x.toInt ∧ ((0 ≤ A ∧ 0 ≤ B) ∨ (A < 0 ∧ B < 0))) := by
  subst ha
  subst hb
  have e1 : x.toBitVec.msb = (a.toBitVec.msb ^^ b.toBitVec.msb) := by
    rw [e]
    show (a.toBitVec ^^^ b.toBitVec).msb = _
    exact BitVec.msb_xor
  have m : ∀ z : Int64, z.toBitVec.msb = decide (z.toInt < 0) := fun z => BitVec.msb_eq_toInt
  rw [m, m, m] at e1
  by_cases p : a.toInt < 0 <;> by_cases q : b.toInt < 0 <;> by_cases r : x.toInt < 0 <;> simp [p, q, r] at e1 <;> omega
def fdL (A B r : Int) : Prop := -4611686018427387904 ≤ A → r = A.fdiv B
def clI (x : Int) : Int := if x < -50 then -50 else if 50 < x then 50 else x
theorem clI_b (x : Int) : -50 ≤ clI x ∧ clI x ≤ 50 := by
  unfold clI
  by_cases h : x < -50
  · rw [if_pos h]; omega
  · rw [if_neg h]
    by_cases q : 50 < x
    · rw [if_pos q]; omega
    · rw [if_neg q]; omega
/-- the nearest load -/
def nrI (v d : Int) : Int := clI ((2 * v + d).fdiv (2 * d))
theorem nrI_b (v d : Int) : -50 ≤ nrI v d ∧ nrI v d ≤ 50 := clI_b _
/-- the model's way to it -/
theorem nr_eq {v d : Int} (hd : d ≠ 0) : clI ((2 * (if d < 0 then -v else v) + 100 * (if d < 0 then -d else d)) / (2 * (100 * (if d < 0 then -d else d)))) = nrI v (100 * d) := by
  unfold nrI
  congr 1
  by_cases h : d < 0
  · rw [if_pos h, if_pos h, ← Int.neg_fdiv_neg, Int.fdiv_eq_ediv_of_nonneg _ (by omega)]
    congr 1 <;> omega
  · rw [if_neg h, if_neg h, Int.fdiv_eq_ediv_of_nonneg _ (by omega)]
/-- the next load j out of the loads L: left side la, readings gv, second terms bt, 100 times the determinant D -/
def nlF (la : Nat → Nat → Int64) (gv : Nat → Int32) (bt : Nat → Nat → Int32) (D : Int) (L : Nat → Int32) (j : Nat) : Int32 := Int32.ofInt (nrI (dsN (fun a b => if b = j then (gv a - pr6 (bt a) (L 0) (L 1) (L 2)).toInt64 else la a b) 3).toInt D)
theorem ofI_b {x : Int} (h : -50 ≤ x ∧ x ≤ 50) : (Int32.ofInt x).toInt = x := by
  rw [Int32.toInt_ofInt]
  exact fb_bmod (by omega) (by omega)
theorem nlF_b {la : Nat → Nat → Int64} {gv : Nat → Int32} {bt : Nat → Nat → Int32} {D : Int} {L : Nat → Int32} {j : Nat} : bd (nlF la gv bt D L j) 50 := by
  unfold nlF bd nrI
  rw [ofI_b (clI_b _)]
  exact clI_b _
/-- loads after k rounds -/
def itL (nl : (Nat → Int32) → Nat → Int32) : Nat → Nat → Int32
  | 0 => fun _ => 0
  | k + 1 => nl (itL nl k)
def stb (nl : (Nat → Int32) → Nat → Int32) (m : Nat) : Prop := ∀ j, j < 3 → itL nl (m + 1) j = itL nl m j
/-- where the rounds stand: k of them, the loads L, still or not -/
def bkI (nl : (Nat → Int32) → Nat → Int32) (k : Int) (L : Nat → Int32) (st : Int) : Prop := (∀ j, j < 3 → L j = itL nl k.toNat j) ∧ ((st = 0 ∧ ∀ m : Nat, (m : Int) < k → ¬ stb nl m) ∨ (st = 1 ∧ 1 ≤ k ∧ stb nl (k - 1).toNat ∧ ∀ m : Nat, (m : Int) < k - 1 → ¬ stb nl m))
theorem bkI_u {nl : (Nat → Int32) → Nat → Int32} {k l n : Int} {L M : Nat → Int32} {s t : Int} (h : bkI nl k L s) (g : bkI nl l M t) (hk : 0 ≤ k ∧ k ≤ n) (hl : 0 ≤ l ∧ l ≤ n) (ek : k = n ∨ s = 1) (el : l = n ∨ t = 1) : k = l ∧ s = t ∧ ∀ j, j < 3 → L j = M j := by
  have e : k = l := by
    by_cases a : k < l
    · have s1 : s = 1 := by omega
      rcases h.2 with ⟨x, _⟩ | ⟨_, x1, x2, _⟩
      · omega
      · rcases g.2 with ⟨_, y⟩ | ⟨_, _, _, y⟩
        · exact absurd x2 (y _ (by omega))
        · exact absurd x2 (y _ (by omega))
    · by_cases b : l < k
      · have t1 : t = 1 := by omega
        rcases g.2 with ⟨x, _⟩ | ⟨_, x1, x2, _⟩
        · omega
        · rcases h.2 with ⟨_, y⟩ | ⟨_, _, _, y⟩
          · exact absurd x2 (y _ (by omega))
          · exact absurd x2 (y _ (by omega))
      · omega
  subst e
  refine ⟨rfl, ?_, fun j hj => by rw [h.1 j hj, g.1 j hj]⟩
  rcases h.2 with ⟨x, x1⟩ | ⟨x, x1, x2, x3⟩ <;> rcases g.2 with ⟨y, y1⟩ | ⟨y, y1, y2, y3⟩
  · omega
  · exact absurd y2 (x1 _ (by omega))
  · exact absurd x2 (y1 _ (by omega))
  · omega
theorem bkI_0 {nl : (Nat → Int32) → Nat → Int32} {L : Nat → Int32} {k s : Int} (hk : k = 0) (hs : s = 0) (h : ∀ j, j < 3 → L j = 0) : bkI nl k L s := by
  subst hk
  exact ⟨fun j hj => h j hj, Or.inl ⟨hs, fun m hm => by omega⟩⟩
/-- a round more -/
theorem bkI_st {nl : (Nat → Int32) → Nat → Int32} {k k' s' : Int} {L M : Nat → Int32} (h : bkI nl k L 0) (h0 : 0 ≤ k) (hk : k' = k + 1) (hcg : ∀ j, j < 3 → M j = nl (itL nl k.toNat) j) (hs : (s' = 1 ∧ ∀ j, j < 3 → M j = L j) ∨ (s' = 0 ∧ ¬ ∀ j, j < 3 → M j = L j)) : bkI nl k' M s' := by
  have ek : k'.toNat = k.toNat + 1 := by omega
  have eq : stb nl k.toNat ↔ ∀ j, j < 3 → M j = L j := by
    constructor
    · intro q j hj
      rw [hcg j hj, h.1 j hj]
      exact q j hj
    · intro q j hj
      show nl (itL nl k.toNat) j = itL nl k.toNat j
      rw [← hcg j hj, ← h.1 j hj]
      exact q j hj
  have nz : ∀ m : Nat, (m : Int) < k → ¬ stb nl m := by
    rcases h.2 with ⟨_, x⟩ | ⟨x, _⟩
    · exact x
    · omega
  refine ⟨fun j hj => by rw [ek]; exact hcg j hj, ?_⟩
  rcases hs with ⟨s1, s2⟩ | ⟨s1, s2⟩
  · refine Or.inr ⟨s1, by omega, ?_, fun m hm => nz m (by omega)⟩
    rw [show (k' - 1).toNat = k.toNat by omega]
    exact eq.mpr s2
  · refine Or.inl ⟨s1, fun m hm q => ?_⟩
    by_cases e : m = k.toNat
    · subst e; exact s2 (eq.mp q)
    · exact nz m (by omega) q
theorem lmax_D {x y z : Int64} (e : z = if x < y then y else x) : (x.toInt < y.toInt ∧ z.toInt = y.toInt) ∨ (y.toInt ≤ x.toInt ∧ z.toInt = x.toInt) := by
  rw [e]
  by_cases q : x < y
  · rw [if_pos q]; exact Or.inl ⟨(fa_lt64 _ _).mp q, rfl⟩
  · rw [if_neg q]; rw [fa_lt64] at q; exact Or.inr ⟨by omega, rfl⟩
theorem lmin_D {x y z : Int64} (e : z = if y < x then y else x) : (y.toInt < x.toInt ∧ z.toInt = y.toInt) ∨ (x.toInt ≤ y.toInt ∧ z.toInt = x.toInt) := by
  rw [e]
  by_cases q : y < x
  · rw [if_pos q]; exact Or.inl ⟨(fa_lt64 _ _).mp q, rfl⟩
  · rw [if_neg q]; rw [fa_lt64] at q; exact Or.inr ⟨by omega, rfl⟩
/-- the left side is laid, up to row i0, column j0 -/
def lfP (v : Nat → Nat → Int32) (w : Nat → Nat → Int64) (i0 j0 : Int) : Prop := ∀ i j : Nat, i < 3 → j < 3 → ((i : Int) < i0 ∨ ((i : Int) = i0 ∧ (j : Int) < j0)) → w (14 + i) j = (v (3 + i) j).toInt64
def lfE (v : Nat → Nat → Int32) (w : Nat → Nat → Int64) : Prop := ∀ i j : Nat, i < 3 → j < 3 → w (14 + i) j = (v (3 + i) j).toInt64
theorem lfP.next {v : Nat → Nat → Int32} {w : Nat → Nat → Int64} {i0 j0 i1 z : Int} (h : lfP v w i0 j0) (hj : 3 ≤ j0) (hi : i1 = i0 + 1) (hz : z = 0) : lfP v w i1 z := fun i j h1 h2 q => h i j h1 h2 (by omega)
theorem lfP.eq {v : Nat → Nat → Int32} {w : Nat → Nat → Int64} {i0 j0 z : Int} (h : lfP v w i0 j0) (hz : z = j0) : lfP v w i0 z := hz ▸ h
theorem lfP.st {v : Nat → Nat → Int32} {w : Nat → Nat → Int64} {i0 j0 j1 : Int} {q : Nat} {j : Int32} {x : Int64} (h : lfP v w i0 j0) (hq : (q : Int) = 14 + i0) (hj : j.toInt = j0) (h0 : 0 ≤ i0 ∧ 0 ≤ j0) (hx : x = (v (3 + i0.toNat) j.toNatClampNeg).toInt64) (h1 : j1 = j0 + 1) : lfP v (gul w q j.toNatClampNeg x) i0 j1 := by
  intro i k hi hk hb
  have hc := cl_of hj h0.2
  by_cases e : 14 + i = q
  · rw [e, gul_s]
    by_cases e2 : k = j.toNatClampNeg
    · rw [show i0.toNat = i by omega] at hx
      simpa [va_up, e2] using hx
    · have := h i k hi hk (by omega)
      rw [e] at this
      simpa [va_up, e2] using this
  · rw [gul_o e]
    exact h i k hi hk (by omega)
def gvB (v : Nat → Nat → Int32) : Prop := ∀ i, i < 3 → bd (v 11 i) 2000000
def ldB (v : Nat → Nat → Int32) : Prop := ∀ i, i < 3 → bd (v 10 i) 50
def sdB (v : Nat → Nat → Int32) : Prop := ∀ i j, i < 3 → j < 6 → bd (v (7 + i) j) 20
def rtV (v : Nat → Nat → Int32) (i : Nat) : Int64 := (v 11 i - pr6 (v (7 + i)) (v 10 0) (v 10 1) (v 10 2)).toInt64
def rtP (v : Nat → Nat → Int32) (w : Nat → Nat → Int64) (n : Int) : Prop := ∀ i : Nat, (i : Int) < n → w 17 i = rtV v i
theorem rtP_0 {v : Nat → Nat → Int32} {w : Nat → Nat → Int64} : rtP v w 0 := fun i h => by omega
theorem rt_st {v : Nat → Nat → Int32} {w w' : Nat → Nat → Int64} {I J : Int} {i : Int32} {x : Int64} (h : rtP v w I) (e : w' = gul w 17 i.toNatClampNeg x) (hi : i.toInt = I) (h0 : 0 ≤ I) (hJ : J = I + 1) (hx : x = rtV v I.toNat) : rtP v w' J := by
  intro k hk
  have hc := cl_of hi h0
  rw [e, gul_s]
  by_cases q : k = i.toNatClampNeg
  · rw [show I.toNat = k by omega] at hx
    simpa [va_up, q] using hx
  · simpa [va_up, q] using h k (by omega)
/-- only the right side has changed -/
def wO (w w' : Nat → Nat → Int64) : Prop := ∀ k, k ≠ 17 → w' k = w k
theorem wO_rf {w : Nat → Nat → Int64} : wO w w := fun _ _ => rfl
theorem wO_st {w w1 w' : Nat → Nat → Int64} {j : Nat} {x : Int64} (h : wO w w1) (e : w' = gul w1 17 j x) : wO w w' := fun k hk => by rw [e, gul_o hk]; exact h k hk
def nlC (w : Nat → Nat → Int64) (D : Int) (k : Nat) : Int32 := Int32.ofInt (nrI (dsN (tmQ w 14 17 (k : Int)) 3).toInt D)
theorem nl_of {w : Nat → Nat → Int64} {D : Int} {k : Nat} {r : Int32} {x : Int64} (h : (D = 0 ∧ r = 0) ∨ (D ≠ 0 ∧ r.toInt = nrI x.toInt D)) (hD : D ≠ 0) (hx : x = dsN (tmQ w 14 17 (k : Int)) 3) : r = nlC w D k := by
  refine i_ext ?_
  unfold nlC
  rw [ofI_b (nrI_b _ _)]
  rcases h with ⟨q, _⟩ | ⟨_, q⟩
  · exact absurd q hD
  · rw [q, hx]
def chP (F g : Nat → Int32) (n c : Int) : Prop := (c = 0 ∧ ∀ k : Nat, (k : Int) < n → F k = g k) ∨ (c = 1 ∧ ∃ k : Nat, (k : Int) < n ∧ F k ≠ g k)
theorem chP_0 {F g : Nat → Int32} {c : Int} (h : c = 0) : chP F g 0 c := Or.inl ⟨h, fun k hk => by omega⟩
theorem chP.up {F g : Nat → Int32} {n n' c : Int} (h : chP F g n c) (hc : c ≠ 0) (hn : n ≤ n') : chP F g n' 1 := by
  rcases h with ⟨a, _⟩ | ⟨_, k, a, b⟩
  · exact absurd a hc
  · exact Or.inr ⟨rfl, k, by omega, b⟩
theorem chP.ne {F g : Nat → Int32} {n n' : Int} (h0 : 0 ≤ n) (hn : n' = n + 1) (hne : F n.toNat ≠ g n.toNat) : chP F g n' 1 := Or.inr ⟨rfl, n.toNat, by omega, hne⟩
theorem chP.eqs {F g : Nat → Int32} {n n' c : Int} (h : chP F g n c) (hc : c = 0) (h0 : 0 ≤ n) (hn : n' = n + 1) (he : F n.toNat = g n.toNat) : chP F g n' 0 := by
  rcases h with ⟨_, a⟩ | ⟨a, _⟩
  · refine Or.inl ⟨rfl, fun k hk => ?_⟩
    by_cases q : k = n.toNat
    · subst q; exact he
    · exact a k (by omega)
  · omega
theorem chP.cs {F g : Nat → Int32} {n c c' : Int} (h : chP F g n c) (hc : c' = c) : chP F g n c' := hc ▸ h
theorem ld_rd {v vl : Nat → Nat → Int32} {F : Nat → Int32} {i x : Int32} {I : Int} (h : vl = va_up v 10 (flN F (v 10) I)) (e : x = vl 10 i.toNatClampNeg) (hi : i.toInt = I) (h0 : 0 ≤ I) : x = v 10 I.toNat := by
  have hc := cl_of hi h0
  rw [e, h, cl_nat hi]
  show flN F (v 10) I I.toNat = v 10 I.toNat
  unfold flN
  rw [if_neg (by omega)]
/-- numbers of longs within bounds -/
def bdl (x : Int64) (X : Int) : Prop := -X ≤ x.toInt ∧ x.toInt ≤ X
theorem bdl_mul {x y : Int64} {X Y Z : Int} (hx : bdl x X) (hy : bdl y Y) (hz : Z = X * Y) (h : Z ≤ 9223372036854775807) : bdl (x * y) Z := by
  have p := b_mul hx.1 hx.2 hy.1 hy.2
  rw [← hz] at p
  have e := fb_mulL (x := x) (y := y) (by omega) (by omega)
  unfold bdl
  rw [e]
  omega
theorem bdl_add {x y : Int64} {X Y Z : Int} (hx : bdl x X) (hy : bdl y Y) (hz : Z = X + Y) (h : Z ≤ 9223372036854775807) : bdl (x + y) Z := by
  unfold bdl at hx hy
  have e := fb_addL (x := x) (y := y) (by omega) (by omega)
  unfold bdl
  rw [e]
  omega
theorem bdl_sub {x y : Int64} {X Y Z : Int} (hx : bdl x X) (hy : bdl y Y) (hz : Z = X + Y) (h : Z ≤ 9223372036854775807) : bdl (x - y) Z := by
  unfold bdl at hx hy
  have e := fb_subL (x := x) (y := y) (by omega) (by omega)
  unfold bdl
  rw [e]
  omega
theorem bdl_le {x : Int64} {X Y : Int} (h : bdl x X) (hXY : X ≤ Y) : bdl x Y := by unfold bdl at *; omega
/-- a determinant with one column of greater numbers -/
theorem ds_b {t : Nat → Nat → Int64} {c : Nat} (hc : c < 3) (h : ∀ i j, i < 3 → j < 3 → j ≠ c → bdl (t i j) 100) (g : ∀ i, i < 3 → bdl (t i c) 2300000) : bdl (dsN t 3) 1000000000000 := by
  have e : dsN t 3 = 0 + t 0 0 * (t 1 1 * t 2 2 - t 1 2 * t 2 1) + t 0 1 * (t 1 2 * t 2 0 - t 1 0 * t 2 2) + t 0 2 * (t 1 0 * t 2 1 - t 1 1 * t 2 0) := rfl
  have z0 : bdl 0 0 := ⟨by decide, by decide⟩
  rw [e]
  have small : ∀ a b d f : Int64, bdl a 100 → bdl b 100 → bdl d 100 → bdl f 100 → bdl (a * b - d * f) 20000 := fun a b d f ha hb hd hf => bdl_sub (bdl_mul (Z := 10000) ha hb (by decide) (by decide)) (bdl_mul (Z := 10000) hd hf (by decide) (by decide)) (by decide) (by decide)
  have bigm : ∀ a b d f : Int64, bdl a 2300000 → bdl b 100 → bdl d 100 → bdl f 2300000 → bdl (a * b - d * f) 460000000 := fun a b d f ha hb hd hf => bdl_sub (bdl_mul (Z := 230000000) ha hb (by decide) (by decide)) (bdl_mul (Z := 230000000) hd hf (by decide) (by decide)) (by decide) (by decide)
  have bigm' : ∀ a b d f : Int64, bdl a 100 → bdl b 2300000 → bdl d 2300000 → bdl f 100 → bdl (a * b - d * f) 460000000 := fun a b d f ha hb hd hf => bdl_sub (bdl_mul (Z := 230000000) ha hb (by decide) (by decide)) (bdl_mul (Z := 230000000) hd hf (by decide) (by decide)) (by decide) (by decide)
  have S : ∀ x y z : Int64, bdl x 46000000000 → bdl y 46000000000 → bdl z 46000000000 → bdl (0 + x + y + z) 1000000000000 := fun x y z hx hy hz => bdl_le (bdl_add (Z := 138000000000) (bdl_add (Z := 92000000000) (bdl_add (Z := 46000000000) z0 hx (by decide) (by decide)) hy (by decide) (by decide)) hz (by decide) (by decide)) (by decide)
  have m1 : ∀ a b : Int64, bdl a 2300000 → bdl b 20000 → bdl (a * b) 46000000000 := fun a b ha hb => bdl_mul ha hb (by decide) (by decide)
  have m2 : ∀ a b : Int64, bdl a 100 → bdl b 460000000 → bdl (a * b) 46000000000 := fun a b ha hb => bdl_mul ha hb (by decide) (by decide)
  rcases (show c = 0 ∨ c = 1 ∨ c = 2 by omega) with rfl | rfl | rfl
  · exact S _ _ _ (m1 _ _ (g 0 (by decide)) (small _ _ _ _ (h 1 1 (by decide) (by decide) (by decide)) (h 2 2 (by decide) (by decide) (by decide)) (h 1 2 (by decide) (by decide) (by decide)) (h 2 1 (by decide) (by decide) (by decide)))) (m2 _ _ (h 0 1 (by decide) (by decide) (by decide)) (bigm' _ _ _ _ (h 1 2 (by decide) (by decide) (by decide)) (g 2 (by decide)) (g 1 (by decide)) (h 2 2 (by decide) (by decide) (by decide)))) (m2 _ _ (h 0 2 (by decide) (by decide) (by decide)) (bigm _ _ _ _ (g 1 (by decide)) (h 2 1 (by decide) (by decide) (by decide)) (h 1 1 (by decide) (by decide) (by decide)) (g 2 (by decide))))
  · exact S _ _ _ (m2 _ _ (h 0 0 (by decide) (by decide) (by decide)) (bigm _ _ _ _ (g 1 (by decide)) (h 2 2 (by decide) (by decide) (by decide)) (h 1 2 (by decide) (by decide) (by decide)) (g 2 (by decide)))) (m1 _ _ (g 0 (by decide)) (small _ _ _ _ (h 1 2 (by decide) (by decide) (by decide)) (h 2 0 (by decide) (by decide) (by decide)) (h 1 0 (by decide) (by decide) (by decide)) (h 2 2 (by decide) (by decide) (by decide)))) (m2 _ _ (h 0 2 (by decide) (by decide) (by decide)) (bigm' _ _ _ _ (h 1 0 (by decide) (by decide) (by decide)) (g 2 (by decide)) (g 1 (by decide)) (h 2 0 (by decide) (by decide) (by decide))))
  · exact S _ _ _ (m2 _ _ (h 0 0 (by decide) (by decide) (by decide)) (bigm' _ _ _ _ (h 1 1 (by decide) (by decide) (by decide)) (g 2 (by decide)) (g 1 (by decide)) (h 2 1 (by decide) (by decide) (by decide)))) (m2 _ _ (h 0 1 (by decide) (by decide) (by decide)) (bigm _ _ _ _ (g 1 (by decide)) (h 2 0 (by decide) (by decide) (by decide)) (h 1 0 (by decide) (by decide) (by decide)) (g 2 (by decide)))) (m1 _ _ (g 0 (by decide)) (small _ _ _ _ (h 1 0 (by decide) (by decide) (by decide)) (h 2 1 (by decide) (by decide) (by decide)) (h 1 1 (by decide) (by decide) (by decide)) (h 2 0 (by decide) (by decide) (by decide))))
theorem pr6_b {b : Nat → Int32} {x y z : Int32} (hb : ∀ j, j < 6 → bd (b j) 20) (hx : bd x 50) (hy : bd y 50) (hz : bd z 50) : bd (pr6 b x y z) 300000 := by
  have P : ∀ j, j < 6 → ∀ t s : Int32, bd t 50 → bd s 50 → bd (b j * t * s) 50000 := fun j hj t s ht hs => bd_mul (bd_mul (Z := 1000) (hb j hj) ht (by decide) (by decide)) hs (by decide) (by decide)
  exact bd_add (Z := 300000) (bd_add (Z := 250000) (bd_add (Z := 200000) (bd_add (Z := 150000) (bd_add (Z := 100000) (P 0 (by decide) x x hx hx) (P 1 (by decide) x y hx hy) (by decide) (by decide)) (P 2 (by decide) x z hx hz) (by decide) (by decide)) (P 3 (by decide) y y hy hy) (by decide) (by decide)) (P 4 (by decide) y z hy hz) (by decide) (by decide)) (P 5 (by decide) z z hz hz) (by decide) (by decide)
/-- a round's determinants are within bounds -/
theorem dsH_of {v : Nat → Nat → Int32} {w w' : Nat → Nat → Int64} (bl : ∀ i j : Nat, i < 3 → j < 3 → -100 ≤ (w (14 + i) j).toInt ∧ (w (14 + i) j).toInt ≤ 100) (hr : rtP v w' 3) (ho : wO w w') (hg : gvB v) (hd : ldB v) (h2 : sdB v) : ∀ c : Nat, c < 3 → bdl (dsN (tmQ w' 14 17 (c : Int)) 3) 1000000000000 := by
  intro c hc
  refine ds_b hc (fun i j hi hj hn => ?_) (fun i hi => ?_)
  · unfold tmQ
    rw [if_neg (by omega), ho (14 + i) (by omega)]
    exact bl i j hi hj
  · unfold tmQ
    rw [if_pos rfl, hr i (by omega)]
    have b := bd_sub (hg i hi) (pr6_b (fun j hj => h2 i j hi hj) (hd 0 (by decide)) (hd 1 (by decide)) (hd 2 (by decide))) (Z := 2300000) (by decide) (by decide)
    unfold rtV bdl
    rw [il_of rfl]
    exact b
def awN (f : Nat → Int32) : Nat → Int32
  | 0 => 0
  | k + 1 => jmax (awN f k) (jabs (f k))
theorem aw_st {f : Nat → Int32} {g g' d s : Int32} {I J : Int} (hg : g = awN f I.toNat) (h0 : 0 ≤ I) (hJ : J = I + 1) (eg : g' = if g < d then d else g) (ed : d = if 0 ≤ s then s else 0 - s) (hs : s = f I.toNat) : g' = awN f J.toNat := by
  have : J.toNat = I.toNat + 1 := by omega
  rw [this, eg, ed, hs, hg]
  rfl
theorem awN_cg {f g : Nat → Int32} : ∀ n : Nat, (∀ k, k < n → f k = g k) → awN f n = awN g n
  | 0, _ => rfl
  | n + 1, h => by
    show jmax (awN f n) (jabs (f n)) = jmax (awN g n) (jabs (g n))
    rw [awN_cg n (fun k hk => h k (by omega)), h n (by omega)]
def dC (v : Nat → Nat → Int32) (i : Nat) : Int32 := v 11 i - rd9 (v (3 + i)) (v (7 + i)) (v 10 0) (v 10 1) (v 10 2)
theorem dsN_cg {t u : Nat → Nat → Int64} (h : ∀ i j, i < 3 → j < 3 → t i j = u i j) : dsN t 3 = dsN u 3 := by
  have e : ∀ t : Nat → Nat → Int64, dsN t 3 = 0 + t 0 0 * (t 1 1 * t 2 2 - t 1 2 * t 2 1) + t 0 1 * (t 1 2 * t 2 0 - t 1 0 * t 2 2) + t 0 2 * (t 1 0 * t 2 1 - t 1 1 * t 2 0) := fun _ => rfl
  rw [e, e, h 0 0 (by decide) (by decide), h 0 1 (by decide) (by decide), h 0 2 (by decide) (by decide), h 1 0 (by decide) (by decide), h 1 1 (by decide) (by decide), h 1 2 (by decide) (by decide), h 2 0 (by decide) (by decide), h 2 1 (by decide) (by decide), h 2 2 (by decide) (by decide)]
def detC (v : Nat → Nat → Int32) : Int64 := dsN (fun i j => (v (3 + i) j).toInt64) 3
theorem dt_eq {v : Nat → Nat → Int32} {w : Nat → Nat → Int64} (h : lfE v w) : dsN (tmQ w 14 17 (-1)) 3 = detC v := dsN_cg (fun i j hi hj => by unfold tmQ; rw [if_neg (by omega), h i j hi hj])
def nlV (v : Nat → Nat → Int32) (p1 p2 p3 : Int32) : (Nat → Int32) → Nat → Int32 := nlF (fun i j => (v (3 + i) j).toInt64) (fun i => sel3 i p1 p2 p3) (fun i => v (7 + i)) (100 * (detC v).toInt)
def gbE (v vl : Nat → Nat → Int32) (wl : Nat → Nat → Int64) (p1 p2 p3 : Int32) : Prop := (∀ i, i < 3 → vl 11 i = sel3 i p1 p2 p3) ∧ ldB vl ∧ lfE v wl
theorem sdB_f {v v1 : Nat → Nat → Int32} (f : fBk v v1) (h : sdB v) : sdB v1 := fun i j hi hj => by rw [f (7 + i) (by omega) (by omega)]; exact h i j hi hj
theorem nl_step {v vl : Nat → Nat → Int32} {wn : Nat → Nat → Int64} {p1 p2 p3 : Int32} {L : Nat → Int32} {j : Nat} (hj : j < 3) (hL : ∀ i, i < 3 → vl 10 i = L i) (h11 : ∀ i, i < 3 → vl 11 i = sel3 i p1 p2 p3) (hlf : ∀ i j, i < 3 → j < 3 → wn (14 + i) j = (v (3 + i) j).toInt64) (hr : rtP vl wn 3) (f : fBk v vl) : nlC wn (100 * (detC v).toInt) j = nlV v p1 p2 p3 L j := by
  refine congrArg (fun z : Int64 => Int32.ofInt (nrI z.toInt (100 * (detC v).toInt))) (dsN_cg (fun a b ha hb => ?_))
  show (if (b : Int) = (j : Int) then wn 17 a else wn (14 + a) b) = (if b = j then (sel3 a p1 p2 p3 - pr6 (v (7 + a)) (L 0) (L 1) (L 2)).toInt64 else (v (3 + a) b).toInt64)
  by_cases q : b = j
  · rw [if_pos (by omega), if_pos q, hr a (by omega)]
    unfold rtV
    rw [h11 a ha, f (7 + a) (by omega) (by omega), hL 0 (by decide), hL 1 (by decide), hL 2 (by decide)]
  · rw [if_neg (by omega), if_neg q, hlf a b ha hb]
theorem bk_round {v vl vn vm : Nat → Nat → Int32} {wl wn : Nat → Nat → Int64} {p1 p2 p3 y : Int32} {k k' R D : Int} (hD : D = 100 * (detC v).toInt) (hb : bkI (nlV v p1 p2 p3) k (vl 10) (vl 1 3).toInt) (h3 : (vl 1 3).toInt = 0) (hg : gbE v vl wl p1 p2 p3) (f : fBk v vl) (e : vn = va_up vl 10 (flN (nlC wn D) (vl 10) 3)) (hr : rtP vl wn 3) (ho : wO wl wn) (hc : chP (nlC wn D) (vl 10) 3 R) (hy : (y.toInt = 1 ∧ R = 0) ∨ (y.toInt = 0 ∧ R = 1)) (em : vm = gu vn 1 3 y) (h0 : 0 ≤ k) (hk : k' = k + 1) : bkI (nlV v p1 p2 p3) k' (vm 10) (vm 1 3).toInt ∧ gbE v vm wn p1 p2 p3 := by
  subst hD
  obtain ⟨g1, g2, g3⟩ := hg
  have lf : lfE v wn := fun i j hi hj => by rw [ho (14 + i) (by omega)]; exact g3 i j hi hj
  have m10 : vm 10 = flN (nlC wn (100 * (detC v).toInt)) (vl 10) 3 := by
    rw [em, gu_o (by decide), e]
    show va_up vl 10 _ 10 = _
    simp [va_up]
  have m11 : vm 11 = vl 11 := by
    rw [em, gu_o (by decide), e]
    exact up_n (by decide)
  have at10 : ∀ j, j < 3 → vm 10 j = nlC wn (100 * (detC v).toInt) j := fun j hj => by
    rw [m10]
    unfold flN
    rw [if_pos (by omega)]
  have m13 : (vm 1 3).toInt = y.toInt := by rw [em, gu_y]
  rw [h3] at hb
  constructor
  · rw [m13]
    refine bkI_st hb h0 hk (fun j hj => ?_) ?_
    · rw [at10 j hj]
      exact nl_step hj (fun i hi => hb.1 i hi) g1 lf hr f
    · rcases hc with ⟨c1, c2⟩ | ⟨c1, i, c2, c3⟩
      · refine Or.inl ⟨by omega, fun j hj => ?_⟩
        rw [at10 j hj]
        exact c2 j (by omega)
      · refine Or.inr ⟨by omega, fun q => c3 ?_⟩
        have := q i (by omega)
        rw [at10 i (by omega)] at this
        exact this
  · refine ⟨fun i hi => by rw [m11]; exact g1 i hi, fun i hi => ?_, lf⟩
    rw [at10 i hi]
    unfold nlC bd nrI
    rw [ofI_b (clI_b _)]
    exact clI_b _
def bkF (v : Nat → Nat → Int32) (p1 p2 p3 : Int32) (n R : Int) (v' : Nat → Nat → Int32) : Prop := (0 ≤ R ∧ R ≤ n) ∧ bkI (nlV v p1 p2 p3) R (v' 10) (v' 1 3).toInt ∧ (R = n ∨ (v' 1 3).toInt = 1) ∧ v' 1 4 = awN (fun i => sel3 i p1 p2 p3 - rd9 (v (3 + i)) (v (7 + i)) (v' 10 0) (v' 10 1) (v' 10 2)) 3
theorem bkI_1 {nl : (Nat → Int32) → Nat → Int32} {k s : Int} {L : Nat → Int32} (h : bkI nl k L s) (hs : s ≠ 0) : s = 1 := by
  rcases h.2 with ⟨a, _⟩ | ⟨a, _⟩
  · exact absurd a hs
  · exact a
theorem gv_of {v : Nat → Nat → Int32} {p1 p2 p3 : Int32} {A1 A2 A3 : Int} (h : ∀ i, i < 3 → v 11 i = sel3 i p1 p2 p3) (a1 : p1.toInt = A1) (a2 : p2.toInt = A2) (a3 : p3.toInt = A3) (b1 : -2000000 ≤ A1 ∧ A1 ≤ 2000000) (b2 : -2000000 ≤ A2 ∧ A2 ≤ 2000000) (b3 : -2000000 ≤ A3 ∧ A3 ≤ 2000000) : gvB v := fun i hi => by
  rw [h i hi]
  unfold sel3 bd
  split
  · omega
  · split <;> omega
theorem bL_of {v v1 : Nat → Nat → Int32} {w : Nat → Nat → Int64} (Ka : ∀ r j : Nat, r < 3 → j < 3 → -100 ≤ (v1 (3 + r) j).toInt ∧ (v1 (3 + r) j).toInt ≤ 100) (f : fBk v v1) (h : lfE v w) : ∀ i j : Nat, i < 3 → j < 3 → -100 ≤ (w (14 + i) j).toInt ∧ (w (14 + i) j).toInt ≤ 100 := fun i j hi hj => by
  rw [h i j hi hj, il_of rfl, ← f (3 + i) (by omega) (by omega)]
  exact Ka i j hi hj
/-- the model's equations, a column replaced -/
def tmM (w : Nat → Nat → Int64) (J : Nat) (i j : Nat) : Int64 := if j = J then w 110 i else w 109 (3 * i + j)
theorem gul_at {w : Nat → Nat → Int64} {k j : Nat} {x : Int64} {a b : Nat} : gul w k j x a b = if a = k ∧ b = j then x else w a b := by
  by_cases h : a = k
  · subst h
    by_cases h2 : b = j
    · subst h2; simp [gul, va_up]
    · simp [gul, va_up, h2]
  · simp [gul, va_up, h]
theorem gul_n {w : Nat → Nat → Int64} {k j : Nat} {x : Int64} {a b : Nat} (h : a ≠ k ∨ b ≠ j) : gul w k j x a b = w a b := by
  rw [gul_at, if_neg]
  intro q
  omega
theorem gul_y {w : Nat → Nat → Int64} {k j : Nat} {x : Int64} {a b : Nat} (h : a = k ∧ b = j) : gul w k j x a b = x := by rw [gul_at, if_pos h]
theorem rp_det {w w1 : Nat → Nat → Int64} {J : Nat} {x y z : Int64} (hJ : J < 3) (e : w1 = gul (gul (gul w 109 J x) 109 (3 + J) y) 109 (6 + J) z) (hx : x = w 110 0) (hy : y = w 110 1) (hz : z = w 110 2) : detL (w1 109) = dsN (tmM w J) 3 := by
  refine det_eq (fun i j hi hj => ?_)
  unfold tmM
  rw [e]
  by_cases q : j = J
  · rw [if_pos q]
    rcases (show i = 0 ∨ i = 1 ∨ i = 2 by omega) with rfl | rfl | rfl
    · rw [gul_n (by omega), gul_n (by omega), gul_y (by omega), hx]
    · rw [gul_n (by omega), gul_y (by omega), hy]
    · rw [gul_y (by omega), hz]
  · rw [if_neg q, gul_n (by omega), gul_n (by omega), gul_n (by omega)]
theorem rp_back {w w1 w2 : Nat → Nat → Int64} {J : Nat} {x y z a b c : Int64} (hJ : J < 3) (e : w1 = gul (gul (gul w 109 J x) 109 (3 + J) y) 109 (6 + J) z) (e2 : w2 = gul (gul (gul w1 109 J a) 109 (3 + J) b) 109 (6 + J) c) (ha : a = w 109 J) (hb : b = w 109 (3 + J)) (hc : c = w 109 (6 + J)) : w2 = w := by
  funext k j
  rw [e2, e]
  by_cases q : k = 109
  · subst q
    by_cases q1 : j = 6 + J
    · rw [gul_y (by omega), hc, q1]
    · rw [gul_n (by omega)]
      by_cases q2 : j = 3 + J
      · rw [gul_y (by omega), hb, q2]
      · rw [gul_n (by omega)]
        by_cases q3 : j = J
        · rw [gul_y (by omega), ha, q3]
        · rw [gul_n (by omega), gul_n (by omega), gul_n (by omega), gul_n (by omega)]
  · rw [gul_n (by omega), gul_n (by omega), gul_n (by omega), gul_n (by omega), gul_n (by omega), gul_n (by omega)]
/-- the model's rounds -/
def sdM (v : Nat → Nat → Int32) : Prop := ∀ j, j < 18 → bd (v 108 j) 20
def detM (v : Nat → Nat → Int32) : Int64 := dsN (fun i j => (v 107 (3 * i + j)).toInt64) 3
def nlM (v : Nat → Nat → Int32) (p1 p2 p3 : Int32) : (Nat → Int32) → Nat → Int32 := nlF (fun i j => (v 107 (3 * i + j)).toInt64) (fun i => sel3 i p1 p2 p3) (fun i j => v 108 (6 * i + j)) (100 * (detM v).toInt)
def mfE (v : Nat → Nat → Int32) (w : Nat → Nat → Int64) : Prop := ∀ j, j < 9 → w 109 j = (v 107 j).toInt64
def lbM (v : Nat → Nat → Int32) : Prop := ∀ i, i < 3 → bd (v 111 i) 50
def rmV (v V : Nat → Nat → Int32) (p1 p2 p3 : Int32) (i : Nat) : Int32 := sel3 i p1 p2 p3 - pr6 (fun j => v 108 (6 * i + j)) (V 111 0) (V 111 1) (V 111 2)
def rtM (v V : Nat → Nat → Int32) (p1 p2 p3 : Int32) (w : Nat → Nat → Int64) (n : Int) : Prop := ∀ i : Nat, (i : Int) < n → w 110 i = (rmV v V p1 p2 p3 i).toInt64
theorem rtM_0 {v V : Nat → Nat → Int32} {p1 p2 p3 : Int32} {w : Nat → Nat → Int64} : rtM v V p1 p2 p3 w 0 := fun i h => by omega
theorem rm_st {v V : Nat → Nat → Int32} {p1 p2 p3 : Int32} {w w' : Nat → Nat → Int64} {I J : Int} {i : Int32} {x : Int64} (h : rtM v V p1 p2 p3 w I) (e : w' = gul w 110 i.toNatClampNeg x) (hi : i.toInt = I) (h0 : 0 ≤ I) (hJ : J = I + 1) (hx : x = (rmV v V p1 p2 p3 I.toNat).toInt64) : rtM v V p1 p2 p3 w' J := by
  intro k hk
  have hc := cl_of hi h0
  rw [e, gul_s]
  by_cases q : k = i.toNatClampNeg
  · rw [show I.toNat = k by omega] at hx
    simpa [va_up, q] using hx
  · simpa [va_up, q] using h k (by omega)
theorem mfE_st {v : Nat → Nat → Int32} {w w' : Nat → Nat → Int64} {j : Nat} {x : Int64} (h : mfE v w) (e : w' = gul w 110 j x) : mfE v w' := fun k hk => by rw [e, gul_o (by decide)]; exact h k hk
theorem zr_st {V V' : Nat → Nat → Int32} {i : Int32} {I J : Int} (h : ∀ j : Nat, (j : Int) < I → V 111 j = 0) (e : V' = gu V 111 i.toNatClampNeg 0) (hi : i.toInt = I) (h0 : 0 ≤ I) (hJ : J = I + 1) : ∀ j : Nat, (j : Int) < J → V' 111 j = 0 := by
  intro j hj
  have hc := cl_of hi h0
  rw [e]
  by_cases q : j = i.toNatClampNeg
  · rw [gu_y2 (by omega)]
  · rw [gu_n (by omega)]
    exact h j (by omega)
theorem rpE {w w0 : Nat → Nat → Int64} {x : Int64} {A : Int} {J : Nat} (hJ : A.toNat = J) (e : w0 = w) (h : x = dsN (tmM w A.toNat) 3) : x = dsN (tmM w0 J) 3 := by
  subst e
  subst hJ
  exact h
theorem dm_b {v V : Nat → Nat → Int32} {p1 p2 p3 : Int32} {w : Nat → Nat → Int64} {A1 A2 A3 : Int} (Ia : ∀ i : Nat, i < 9 → -100 ≤ (v 107 i).toInt ∧ (v 107 i).toInt ≤ 100) (h9 : mfE v w) (hr : rtM v V p1 p2 p3 w 3) (m2 : sdM v) (hl : lbM V) (a1 : p1.toInt = A1) (a2 : p2.toInt = A2) (a3 : p3.toInt = A3) (b : rF25 A1 A2 A3) : ∀ c : Nat, c < 3 → bdl (dsN (tmM w c) 3) 1000000000000 := by
  intro c hc
  unfold rF25 at b
  refine ds_b hc (fun i j hi hj hn => ?_) (fun i hi => ?_)
  · unfold tmM bdl
    rw [if_neg hn, h9 (3 * i + j) (by omega), il_of rfl]
    exact Ia (3 * i + j) (by omega)
  · unfold tmM bdl
    rw [if_pos rfl, hr i (by omega), il_of rfl]
    have s : bd (sel3 i p1 p2 p3) 2000000 := by
      unfold sel3 bd
      split
      · omega
      · split <;> omega
    exact bd_sub s (pr6_b (fun j hj => m2 (6 * i + j) (by omega)) (hl 0 (by decide)) (hl 1 (by decide)) (hl 2 (by decide))) (Z := 2300000) (by decide) (by decide)
theorem nm_step {v VL : Nat → Nat → Int32} {W0 : Nat → Nat → Int64} {p1 p2 p3 x : Int32} {L : Nat → Int32} {j : Nat} (hj : j < 3) (hL : ∀ i, i < 3 → VL 111 i = L i) (h9 : mfE v W0) (hr : rtM v VL p1 p2 p3 W0 3) (e : x.toInt = nrI (dsN (tmM W0 j) 3).toInt (100 * (detM v).toInt)) : x = nlM v p1 p2 p3 L j := by
  refine i_ext ?_
  unfold nlM nlF
  rw [ofI_b (nrI_b _ _), e]
  refine congrArg (fun z : Int64 => nrI z.toInt (100 * (detM v).toInt)) (dsN_cg (fun a b ha hb => ?_))
  show (if b = j then W0 110 a else W0 109 (3 * a + b)) = (if b = j then (sel3 a p1 p2 p3 - pr6 (fun j => v 108 (6 * a + j)) (L 0) (L 1) (L 2)).toInt64 else (v 107 (3 * a + b)).toInt64)
  by_cases q : b = j
  · rw [if_pos q, if_pos q, hr a (by omega)]
    unfold rmV
    rw [hL 0 (by decide), hL 1 (by decide), hL 2 (by decide)]
  · rw [if_neg q, if_neg q]
    exact h9 (3 * a + b) (by omega)
theorem bm_round {v VL vm : Nat → Nat → Int32} {W0 : Nat → Nat → Int64} {p1 p2 p3 x0 x1 x2 y u : Int32} {k k' X0 X1 X2 : Int} (hb : bkI (nlM v p1 p2 p3) k (VL 111) (VL 106 5).toInt) (h3 : (VL 106 5).toInt = 0) (em : vm = gu (gu (gu (gu (gu VL 106 5 u) 106 5 y) 111 0 x0) 111 1 x1) 111 2 x2) (h9 : mfE v W0) (hr : rtM v VL p1 p2 p3 W0 3) (l0 : x0.toInt = X0) (l1 : x1.toInt = X1) (l2 : x2.toInt = X2) (e0 : X0 = nrI (dsN (tmM W0 0) 3).toInt (100 * (detM v).toInt)) (e1 : X1 = nrI (dsN (tmM W0 1) 3).toInt (100 * (detM v).toInt)) (e2 : X2 = nrI (dsN (tmM W0 2) 3).toInt (100 * (detM v).toInt)) (hy : (y.toInt = 1 ∧ X0 = (VL 111 0).toInt ∧ X1 = (VL 111 1).toInt ∧ X2 = (VL 111 2).toInt) ∨ (y.toInt = 0 ∧ ¬ (X0 = (VL 111 0).toInt ∧ X1 = (VL 111 1).toInt ∧ X2 = (VL 111 2).toInt))) (h0 : 0 ≤ k) (hk : k' = k + 1) : bkI (nlM v p1 p2 p3) k' (vm 111) (vm 106 5).toInt ∧ lbM vm := by
  have m : ∀ j, j < 3 → vm 111 j = sel3 j x0 x1 x2 := by
    intro j hj
    rw [em]
    rcases (show j = 0 ∨ j = 1 ∨ j = 2 by omega) with rfl | rfl | rfl
    · rw [gu_n (by omega), gu_n (by omega), gu_y]; rfl
    · rw [gu_n (by omega), gu_y]; rfl
    · rw [gu_y]; rfl
  have m5 : (vm 106 5).toInt = y.toInt := by rw [em, gu_n (by omega), gu_n (by omega), gu_n (by omega), gu_y]
  rw [h3] at hb
  have st : ∀ j, j < 3 → sel3 j x0 x1 x2 = nlM v p1 p2 p3 (itL (nlM v p1 p2 p3) k.toNat) j := by
    intro j hj
    refine nm_step hj hb.1 h9 hr ?_
    rcases (show j = 0 ∨ j = 1 ∨ j = 2 by omega) with rfl | rfl | rfl
    · exact l0.trans e0
    · exact l1.trans e1
    · exact l2.trans e2
  constructor
  · rw [m5]
    refine bkI_st hb h0 hk (fun j hj => by rw [m j hj]; exact st j hj) ?_
    rcases hy with ⟨a, b⟩ | ⟨a, b⟩
    · refine Or.inl ⟨a, fun j hj => ?_⟩
      rw [m j hj]
      rcases (show j = 0 ∨ j = 1 ∨ j = 2 by omega) with rfl | rfl | rfl
      · exact i_ext (l0.trans b.1)
      · exact i_ext (l1.trans b.2.1)
      · exact i_ext (l2.trans b.2.2)
    · refine Or.inr ⟨a, fun q => b ⟨?_, ?_, ?_⟩⟩
      · have z := q 0 (by decide)
        rw [m 0 (by decide)] at z
        exact l0.symm.trans (congrArg Int32.toInt z)
      · have z := q 1 (by decide)
        rw [m 1 (by decide)] at z
        exact l1.symm.trans (congrArg Int32.toInt z)
      · have z := q 2 (by decide)
        rw [m 2 (by decide)] at z
        exact l2.symm.trans (congrArg Int32.toInt z)
  · intro j hj
    rw [m j hj, st j hj]
    exact nlF_b
def amN (f : Nat → Int32) : Nat → Int32
  | 0 => 0
  | k + 1 => mxM (amN f k) (abM (f k))
theorem am_st {f : Nat → Int32} {V V' : Nat → Nat → Int32} {y g d : Int32} {I J : Int} (h : V 106 6 = amN f I.toNat) (hy : y = mxM (V 106 6) g) (hg : g = abM d) (hd : d = f I.toNat) (e : V' = gu V 106 6 y) (h0 : 0 ≤ I) (hJ : J = I + 1) : V' 106 6 = amN f J.toNat := by
  have : J.toNat = I.toNat + 1 := by omega
  rw [this, e, gu_y, hy, hg, hd, h]
  rfl
def dMo (v : Nat → Nat → Int32) (p1 p2 p3 : Int32) (L : Nat → Int32) (i : Nat) : Int32 := rd9 (fun j => v 107 (3 * i + j)) (fun j => v 108 (6 * i + j)) (L 0) (L 1) (L 2) - sel3 i p1 p2 p3
def bkM (v : Nat → Nat → Int32) (p1 p2 p3 : Int32) (n R : Int) (v' : Nat → Nat → Int32) : Prop := (0 ≤ R ∧ R ≤ n) ∧ bkI (nlM v p1 p2 p3) R (v' 111) (v' 106 5).toInt ∧ (R = n ∨ (v' 106 5).toInt = 1) ∧ v' 106 6 = amN (dMo v p1 p2 p3 (v' 111)) 3
/-- the same both ways round -/
theorem ja_sub (a b : Int32) : jabs (a - b) = abM (b - a) := by
  have e : b - a = -(a - b) := (Int32.neg_sub).symm
  rw [e]
  generalize a - b = x
  have rx := i_rng x
  by_cases q : x.toInt = -2147483648
  · have : x = -2147483648 := i_ext (by rw [q]; decide)
    rw [this]
    decide
  · have n : (-x).toInt = -x.toInt := ia_neg rfl rfl (by omega)
    have z0 : (0 : Int32).toInt = 0 := by decide
    unfold jabs abM
    by_cases p : x.toInt = 0
    · have : x = 0 := i_ext (by rw [p]; decide)
      rw [this]
      decide
    · by_cases h : 0 ≤ x
      · have h' := (fa_le _ _).mp h
        rw [if_pos h, if_pos (by omega)]
        exact i_ext ((ia_neg (x := -(-x)) rfl n (by omega)).trans (by omega)).symm
      · have h' : x.toInt < 0 := by
          by_cases p2 : 0 ≤ x.toInt
          · exact absurd ((fa_le _ _).mpr (by omega)) h
          · omega
        rw [if_neg h, if_neg (by omega)]
        exact i_ext (((ia_sub (x := 0 - x) rfl z0 rfl (by omega) (by omega)).trans (by omega)).trans n.symm)
theorem mx_eq (m x : Int32) : jmax m x = mxM m x := by
  unfold jmax mxM
  by_cases q : m < x
  · rw [if_pos q, if_pos ((fa_lt _ _).mp q)]
  · rw [if_neg q, if_neg (fun z => q ((fa_lt _ _).mpr z))]
theorem aw_am {f g : Nat → Int32} : ∀ n : Nat, (∀ i, i < n → jabs (f i) = abM (g i)) → awN f n = amN g n
  | 0, _ => rfl
  | n + 1, h => by
    show jmax (awN f n) (jabs (f n)) = mxM (amN g n) (abM (g n))
    rw [aw_am n (fun i hi => h i (by omega)), h n (by omega), mx_eq]
