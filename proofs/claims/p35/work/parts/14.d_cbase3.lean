def dB (c : Prop) (x b : Int) : Prop := c → -b ≤ x ∧ x ≤ b
theorem dB.le {c : Prop} {x b b' : Int} (h : dB c x b) (hb : b ≤ b') : dB c x b' := fun q => by have := h q; omega
def bL (w : Nat → Nat → Int64) : Prop := ∀ i j : Nat, i < 3 → j < 3 → -100 ≤ (w (14 + i) j).toInt ∧ (w (14 + i) j).toInt ≤ 100
theorem detStep {c : Prop} {t1 t2 t3 t4 t0 x1 x2 x3 x4 s s' : Int64} {b : Int} (e1 : x1 = t1 * t2) (e2 : x2 = t3 * t4) (e3 : x3 = x1 - x2) (e4 : x4 = t0 * x3) (e5 : s' = s + x4) (h1 : dB c t1.toInt 100) (h2 : dB c t2.toInt 100) (h3 : dB c t3.toInt 100) (h4 : dB c t4.toInt 100) (h0 : dB c t0.toInt 100) (hs : dB c s.toInt b) (hb : 0 ≤ b ∧ b ≤ 4000000) : dB c s'.toInt (b + 2000000) := by
  intro q
  have a := proB (h0 q) (minB (h1 q) (h2 q) (h3 q) (h4 q))
  have hs := hs q
  have e : s' = s + t0 * (t1 * t2 - t3 * t4) := by rw [e5, e4, e3, e1, e2]
  rw [e, fb_addL (by omega) (by omega)]
  omega
def bP (w : Nat → Nat → Int64) (i0 j0 : Int) : Prop := ∀ i j : Nat, i < 3 → j < 3 → ((i : Int) < i0 ∨ ((i : Int) = i0 ∧ (j : Int) < j0)) → -100 ≤ (w (14 + i) j).toInt ∧ (w (14 + i) j).toInt ≤ 100
theorem bP.next {w : Nat → Nat → Int64} {i0 j0 i1 z : Int} (h : bP w i0 j0) (hj : 3 ≤ j0) (hi : i1 = i0 + 1) (hz : z = 0) : bP w i1 z := fun i j h1 h2 q => h i j h1 h2 (by omega)
theorem bP.eq {w : Nat → Nat → Int64} {i0 j0 z : Int} (h : bP w i0 j0) (hz : z = j0) : bP w i0 z := hz ▸ h
theorem bP.st {w : Nat → Nat → Int64} {i0 j0 j1 : Int} {q : Nat} {j : Int32} {x : Int64} (h : bP w i0 j0) (hq : (q : Int) = 14 + i0) (hj : j.toInt = j0) (h0 : 0 ≤ i0 ∧ 0 ≤ j0) (_ : True) (hx : -100 ≤ x.toInt ∧ x.toInt ≤ 100) (h1 : j1 = j0 + 1) : bP (gul w q j.toNatClampNeg x) i0 j1 := by
  intro i k hi hk hb
  have hc := cl_of hj h0.2
  by_cases e : 14 + i = q
  · rw [e, gul_s]
    by_cases e2 : k = j.toNatClampNeg
    · simpa [va_up, e2] using hx
    · have := h i k hi hk (by omega)
      rw [e] at this
      simpa [va_up, e2] using this
  · rw [gul_o e]
    exact h i k hi hk (by omega)
