theorem mS_0 {v : Nat → Nat → Int32} (h : mS v) (h0 : (v 106 31).toInt = 0) : (v 106 32).toInt < (v 106 29).toInt := And.left h h0
theorem mS_1 {v : Nat → Nat → Int32} (h : mS v) (h0 : (v 106 31).toInt = 1) : (v 106 27).toInt ≤ (v 106 32).toInt := And.right h h0
def mB (v : Nat → Nat → Int32) : Prop :=
  (0 ≤ (v 106 7).toInt ∧ (v 106 7).toInt ≤ 12) ∧ (0 ≤ (v 106 10).toInt ∧ (v 106 10).toInt ≤ 10) ∧ (0 ≤ (v 106 18).toInt ∧ (v 106 18).toInt ≤ 23) ∧ (0 ≤ (v 106 22).toInt ∧ (v 106 22).toInt ≤ 9) ∧ (1 ≤ (v 106 27).toInt ∧ (v 106 27).toInt ≤ 8) ∧ (1 ≤ (v 106 29).toInt ∧ (v 106 29).toInt ≤ 100) ∧ (0 ≤ (v 106 32).toInt ∧ (v 106 32).toInt ≤ 100) ∧ (0 ≤ (v 106 35).toInt ∧ (v 106 35).toInt ≤ 10) ∧ (∀ i : Nat, i < 9 → -100 ≤ (v 107 i).toInt ∧ (v 107 i).toInt ≤ 100) ∧ (∀ k : Nat, (k : Int) < (v 106 35).toInt → 1 ≤ (v 128 k).toInt ∧ (v 128 k).toInt ≤ 100) ∧ (∀ k : Nat, k < 4 → 0 ≤ (v 132 k).toInt ∧ (v 132 k).toInt ≤ 60) ∧ (∀ q : Nat, (q : Int) < (v 106 22).toInt → (0 ≤ (v 123 q).toInt ∧ (v 123 q).toInt ≤ 23) ∧ (0 ≤ (v 124 q).toInt ∧ (v 124 q).toInt ≤ 9))
def ab (x : Int) : Int := if x < 0 then -x else x
def tn (x : Int) : Int := if 12 < x then 24 - x else x
/-- the moves from angle a, speed b to angle c, speed d -/
def mvI (a b c d : Int) : Int := 3 * tn (ab (a - c)) + 7 * ab (b - d)
/-- some place below n holds no 0 -/
def exL (f : Nat → Int32) (n : Int) : Prop := ∃ k : Nat, (k : Int) < n ∧ f k ≠ 0
theorem exL.mono {f : Nat → Int32} {n m : Int} (h : exL f n) (hm : n ≤ m) : exL f m := by
  obtain ⟨k, h1, h2⟩ := h
  exact ⟨k, by omega, h2⟩
theorem exL_mk {f : Nat → Int32} {i : Int32} {I n : Int} (h : f i.toNatClampNeg ≠ 0) (hi : i.toInt = I) (h0 : 0 ≤ I) (hn : I < n) : exL f n := ⟨i.toNatClampNeg, by have := cl_of hi h0; omega, h⟩
