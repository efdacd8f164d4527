/-- THE RELATION between the class and the model, part by part -/
def rB (v : Nat → Nat → Int32) : Prop := (∀ i j, i < 3 → j < 3 → v (3 + i) j = v 107 (3 * i + j)) ∧ (∀ i j, i < 3 → j < 6 → v (7 + i) j = v 108 (6 * i + j)) ∧ (∀ i j, i < 3 → j < 6 → bd (v (7 + i) j) 20)
def rK (v : Nat → Nat → Int32) : Prop := v 18 2 = v 106 7 ∧ (∀ k j, k < 12 → j < 3 → v (20 + k) j = v 112 (3 * k + j) ∧ v (33 + k) j = v 113 (3 * k + j)) ∧ (∀ k j, k < 12 → j < 3 → bd (v (20 + k) j) 50 ∧ bd (v (33 + k) j) 2000000)
def rP (v : Nat → Nat → Int32) : Prop := v 66 0 = v 106 22 ∧ (∀ k, k < 9 → v 67 k = v 125 k)
def rT (v : Nat → Nat → Int32) : Prop := v 93 0 = v 106 35 ∧ (∀ k, k < 10 → v 96 k = v 128 k) ∧ (∀ k, k < 10 → v 95 k = v 129 k) ∧ (∀ k, k < 10 → v 94 k = v 130 k) ∧ (∀ k, k < 10 → (v 94 k).toInt ≠ 0 → v 95 k = 0)
def rL (a b : Int32) : Prop := (a.toInt = -1 ∧ b.toInt = -4) ∨ (a = b ∧ 0 ≤ b.toInt ∧ b.toInt ≤ 2)
def rH (v : Nat → Nat → Int32) : Prop := ∀ i, i < 4 → rL (v (98 + 2 * i) 0) (v 131 i) ∧ v (98 + 2 * i) 1 = v 132 i ∧ ∀ j, j < 60 → v (98 + 2 * i + 1) j = v 133 (60 * i + j)
def Rl (v : Nat → Nat → Int32) : Prop := rB v ∧ rK v ∧ rP v ∧ rT v ∧ rH v
/-- what two calls leave as it was -/
def fr2 (lo hi lo' hi' flo fhi : Nat) (v v2 : Nat → Nat → Int32) : Prop := (∀ k, k ≠ 106 → (k < lo ∨ hi ≤ k) → (k < lo' ∨ hi' ≤ k) → v2 k = v k) ∧ (∀ j, (j < flo ∨ fhi ≤ j) → v2 106 j = v 106 j)
theorem fr2_of {lo hi lo' hi' flo fhi : Nat} {v v1 v2 : Nat → Nat → Int32} {w w1 w1' w2 : Nat → Nat → Int64} (a : fC lo hi v w v1 w1) (b : fM lo' hi' flo fhi v1 w1' v2 w2) (h : hi ≤ 106) : fr2 lo hi lo' hi' flo fhi v v2 := ⟨fun k h0 h1 h2 => (b.1 k h0 h2).trans (a.1 k h1), fun j hj => (b.2.1 j hj).trans (congrFun (a.1 106 (by omega)) j)⟩
theorem rB_fr {lo hi lo' hi' flo fhi : Nat} {v v2 : Nat → Nat → Int32} (h : rB v) (f : fr2 lo hi lo' hi' flo fhi v v2) (q : (hi ≤ 3 ∨ 10 ≤ lo) ∧ (hi' ≤ 107 ∨ 109 ≤ lo')) (q2 : (lo' ≤ 10 → hi' ≤ 3) ∧ (109 ≤ hi → 109 ≤ lo) ∧ hi ≤ 106 ∧ (106 ≤ lo')) : rB v2 := by
  refine ⟨fun i j hi hj => ?_, fun i j hi hj => ?_, fun i j hi hj => ?_⟩
  · rw [f.1 (3 + i) (by omega) (by omega) (by omega), f.1 107 (by omega) (by omega) (by omega)]; exact h.1 i j hi hj
  · rw [f.1 (7 + i) (by omega) (by omega) (by omega), f.1 108 (by omega) (by omega) (by omega)]; exact h.2.1 i j hi hj
  · rw [f.1 (7 + i) (by omega) (by omega) (by omega)]; exact h.2.2 i j hi hj
theorem rK_fr {lo hi lo' hi' flo fhi : Nat} {v v2 : Nat → Nat → Int32} (h : rK v) (f : fr2 lo hi lo' hi' flo fhi v v2) (q : (hi ≤ 18 ∨ 45 ≤ lo) ∧ (hi' ≤ 112 ∨ 114 ≤ lo') ∧ (fhi ≤ 7 ∨ 8 ≤ flo)) (q2 : hi ≤ 106 ∧ 106 ≤ lo') : rK v2 := by
  refine ⟨?_, fun k j hk hj => ?_, fun k j hk hj => ?_⟩
  · rw [f.1 18 (by omega) (by omega) (by omega), f.2 7 (by omega)]; exact h.1
  · rw [f.1 (20 + k) (by omega) (by omega) (by omega), f.1 (33 + k) (by omega) (by omega) (by omega), f.1 112 (by omega) (by omega) (by omega), f.1 113 (by omega) (by omega) (by omega)]; exact h.2.1 k j hk hj
  · rw [f.1 (20 + k) (by omega) (by omega) (by omega), f.1 (33 + k) (by omega) (by omega) (by omega)]; exact h.2.2 k j hk hj
theorem rP_fr {lo hi lo' hi' flo fhi : Nat} {v v2 : Nat → Nat → Int32} (h : rP v) (f : fr2 lo hi lo' hi' flo fhi v v2) (q : (hi ≤ 66 ∨ 68 ≤ lo) ∧ (hi' ≤ 125 ∨ 126 ≤ lo') ∧ (fhi ≤ 22 ∨ 23 ≤ flo)) (q2 : hi ≤ 106 ∧ 106 ≤ lo') : rP v2 := by
  refine ⟨?_, fun k hk => ?_⟩
  · rw [f.1 66 (by omega) (by omega) (by omega), f.2 22 (by omega)]; exact h.1
  · rw [f.1 67 (by omega) (by omega) (by omega), f.1 125 (by omega) (by omega) (by omega)]; exact h.2 k hk
theorem rT_fr {lo hi lo' hi' flo fhi : Nat} {v v2 : Nat → Nat → Int32} (h : rT v) (f : fr2 lo hi lo' hi' flo fhi v v2) (q : (hi ≤ 93 ∨ 97 ≤ lo) ∧ (hi' ≤ 128 ∨ 131 ≤ lo') ∧ (fhi ≤ 35 ∨ 36 ≤ flo)) (q2 : hi ≤ 106 ∧ 106 ≤ lo') : rT v2 := by
  unfold rT
  rw [f.1 93 (by omega) (by omega) (by omega), f.2 35 (by omega), f.1 94 (by omega) (by omega) (by omega), f.1 95 (by omega) (by omega) (by omega), f.1 96 (by omega) (by omega) (by omega), f.1 128 (by omega) (by omega) (by omega), f.1 129 (by omega) (by omega) (by omega), f.1 130 (by omega) (by omega) (by omega)]
  exact h
theorem rH_fr {lo hi lo' hi' flo fhi : Nat} {v v2 : Nat → Nat → Int32} (h : rH v) (f : fr2 lo hi lo' hi' flo fhi v v2) (q : (hi ≤ 98 ∨ 106 ≤ lo) ∧ (hi' ≤ 131 ∨ 134 ≤ lo')) (q2 : hi ≤ 106 ∧ 106 ≤ lo') : rH v2 := by
  intro i hi
  rw [f.1 (98 + 2 * i) (by omega) (by omega) (by omega), f.1 (98 + 2 * i + 1) (by omega) (by omega) (by omega), f.1 131 (by omega) (by omega) (by omega), f.1 132 (by omega) (by omega) (by omega), f.1 133 (by omega) (by omega) (by omega)]
  exact h i hi
theorem i_ext {x y : Int32} (h : x.toInt = y.toInt) : x = y := (fa_eq x y).mpr h

theorem pB_first {v : Nat → Nat → Int32} {v1 : Nat → Nat → Int32} {v2 : Nat → Nat → Int32} {w : Nat → Nat → Int64} {r1 : Int32} {r2 : Int32} {p3 : Int32} {A1 : Int} {A2 : Int} {A3 : Int} (h : rB v) (hc : cI v1 ∧ fC 2 6 v w v1 w ∧ ((r1 = 1 ∧ rF1 A1 A2 A3 ∧ v1 = (gu v (3 + A1.toNat) A2.toNat p3)) ∨ (r1 = -1 ∧ ¬ rF1 A1 A2 A3 ∧ v1 = v))) (hm : mI v2 ∧ fM 107 108 0 0 v1 w v2 w ∧ ((r2 = 1 ∧ rF1 A1 A2 A3 ∧ v2 = (gu v1 107 (3 * A1 + A2).toNat p3)) ∨ (r2 = -1 ∧ ¬ rF1 A1 A2 A3 ∧ v2 = v1))) : r1 = r2 ∧ rB v2 := by
  rcases hc.2.2 with ⟨e1, f, e2⟩ | ⟨e1, f, e2⟩ <;> rcases hm.2.2 with ⟨e3, g, e4⟩ | ⟨e3, g, e4⟩
  · refine ⟨e1.trans e3.symm, ?_⟩
    unfold rF1 at f
    rw [e4, e2]
    refine ⟨fun i j hi hj => ?_, fun i j hi hj => ?_, fun i j hi hj => ?_⟩
    · by_cases q : i = A1.toNat ∧ j = A2.toNat
      · rw [gu_n (by omega), gu_y2 (by omega), gu_y2 (by omega)]
      · rw [gu_n (by omega), gu_n (by omega), gu_n (by omega), gu_n (by omega)]; exact h.1 i j hi hj
    · rw [gu_n (by omega), gu_n (by omega), gu_n (by omega), gu_n (by omega)]; exact h.2.1 i j hi hj
    · rw [gu_n (by omega), gu_n (by omega)]; exact h.2.2 i j hi hj
  · exact absurd f g
  · exact absurd g f
  · exact ⟨e1.trans e3.symm, by rw [e4, e2]; exact h⟩
theorem pB_second {v : Nat → Nat → Int32} {v1 : Nat → Nat → Int32} {v2 : Nat → Nat → Int32} {w : Nat → Nat → Int64} {r1 : Int32} {r2 : Int32} {p3 : Int32} {A1 : Int} {A2 : Int} {A3 : Int} (a3 : p3.toInt = A3) (h : rB v) (hc : cI v1 ∧ fC 6 10 v w v1 w ∧ ((r1 = 1 ∧ rF2 A1 A2 A3 ∧ v1 = (gu v (7 + A1.toNat) A2.toNat p3)) ∨ (r1 = -1 ∧ ¬ rF2 A1 A2 A3 ∧ v1 = v))) (hm : mI v2 ∧ fM 108 109 0 0 v1 w v2 w ∧ ((r2 = 1 ∧ rF2 A1 A2 A3 ∧ v2 = (gu v1 108 (6 * A1 + A2).toNat p3)) ∨ (r2 = -1 ∧ ¬ rF2 A1 A2 A3 ∧ v2 = v1))) : r1 = r2 ∧ rB v2 := by
  rcases hc.2.2 with ⟨e1, f, e2⟩ | ⟨e1, f, e2⟩ <;> rcases hm.2.2 with ⟨e3, g, e4⟩ | ⟨e3, g, e4⟩
  · refine ⟨e1.trans e3.symm, ?_⟩
    unfold rF2 at f
    rw [e4, e2]
    refine ⟨fun i j hi hj => ?_, fun i j hi hj => ?_, fun i j hi hj => ?_⟩
    · rw [gu_n (by omega), gu_n (by omega), gu_n (by omega), gu_n (by omega)]; exact h.1 i j hi hj
    · by_cases q : i = A1.toNat ∧ j = A2.toNat
      · rw [gu_n (by omega), gu_y2 (by omega), gu_y2 (by omega)]
      · rw [gu_n (by omega), gu_n (by omega), gu_n (by omega), gu_n (by omega)]; exact h.2.1 i j hi hj
    · rw [gu_n (by omega)]
      by_cases q : i = A1.toNat ∧ j = A2.toNat
      · rw [gu_y2 (by omega)]; exact ⟨by omega, by omega⟩
      · rw [gu_n (by omega)]; exact h.2.2 i j hi hj
  · exact absurd f g
  · exact absurd g f
  · exact ⟨e1.trans e3.symm, by rw [e4, e2]; exact h⟩
theorem rd9_cg {a a' b b' : Nat → Int32} {x y z : Int32} (ha : ∀ j, j < 3 → a j = a' j) (hb : ∀ j, j < 6 → b j = b' j) : rd9 a b x y z = rd9 a' b' x y z := by
  unfold rd9 pr6
  rw [ha 0 (by decide), ha 1 (by decide), ha 2 (by decide), hb 0 (by decide), hb 1 (by decide), hb 2 (by decide), hb 3 (by decide), hb 4 (by decide), hb 5 (by decide)]
theorem pB_reading {v : Nat → Nat → Int32} {r1 : Int32} {r2 : Int32} {p2 : Int32} {p3 : Int32} {p4 : Int32} {A1 : Int} {A2 : Int} {A3 : Int} {A4 : Int} (h : rB v) (hc : (rF4 A1 A2 A3 A4 ∧ r1 = rd9 (v (3 + A1.toNat)) (v (7 + A1.toNat)) p2 p3 p4) ∨ (¬ rF4 A1 A2 A3 A4 ∧ r1 = 9999999)) (hm : (rF4 A1 A2 A3 A4 ∧ r2 = rd9 (fun j => v 107 (3 * A1.toNat + j)) (fun j => v 108 (6 * A1.toNat + j)) p2 p3 p4) ∨ (¬ rF4 A1 A2 A3 A4 ∧ r2 = 9999999)) : r1 = r2 := by
  rcases hc with ⟨f, e1⟩ | ⟨f, e1⟩ <;> rcases hm with ⟨g, e2⟩ | ⟨g, e2⟩
  · rw [e1, e2]
    unfold rF4 at f
    exact rd9_cg (fun j hj => h.1 _ j (by omega) hj) (fun j hj => h.2.1 _ j (by omega) hj)
  · exact absurd f g
  · exact absurd g f
  · rw [e1, e2]
theorem pt_a {v : Nat → Nat → Int32} {n k j : Nat} {p1 p2 p3 p4 p5 p6 q : Int32} (hn : n < 12) (hk : k < 12) (hj : j < 3) : gu (gu (gu (gu (gu (gu (gu v (20 + n) 0 p1) (20 + n) 1 p2) (20 + n) 2 p3) (33 + n) 0 p4) (33 + n) 1 p5) (33 + n) 2 p6) 18 2 q (20 + k) j = if k = n then sel3 j p1 p2 p3 else v (20 + k) j := by
  rw [gu_n (by omega), gu_n (by omega), gu_n (by omega), gu_n (by omega)]
  by_cases e : k = n
  · subst e
    rw [if_pos rfl]
    rcases (show j = 0 ∨ j = 1 ∨ j = 2 by omega) with rfl | rfl | rfl
    · rw [gu_n (by omega), gu_n (by omega), gu_y]; rfl
    · rw [gu_n (by omega), gu_y]; rfl
    · rw [gu_y]; rfl
  · rw [if_neg e, gu_n (by omega), gu_n (by omega), gu_n (by omega)]
theorem pt_b {v : Nat → Nat → Int32} {n k j : Nat} {p1 p2 p3 p4 p5 p6 q : Int32} (hn : n < 12) (hk : k < 12) (hj : j < 3) : gu (gu (gu (gu (gu (gu (gu v (20 + n) 0 p1) (20 + n) 1 p2) (20 + n) 2 p3) (33 + n) 0 p4) (33 + n) 1 p5) (33 + n) 2 p6) 18 2 q (33 + k) j = if k = n then sel3 j p4 p5 p6 else v (33 + k) j := by
  rw [gu_n (by omega)]
  by_cases e : k = n
  · subst e
    rw [if_pos rfl]
    rcases (show j = 0 ∨ j = 1 ∨ j = 2 by omega) with rfl | rfl | rfl
    · rw [gu_n (by omega), gu_n (by omega), gu_y]; rfl
    · rw [gu_n (by omega), gu_y]; rfl
    · rw [gu_y]; rfl
  · rw [if_neg e, gu_n (by omega), gu_n (by omega), gu_n (by omega), gu_n (by omega), gu_n (by omega), gu_n (by omega)]
theorem pt_c {v : Nat → Nat → Int32} {n k j : Nat} {N : Int} {p1 p2 p3 p4 p5 p6 q : Int32} (hN : N = n) (hj : j < 3) : gu (gu (gu (gu (gu (gu (gu v 112 (3 * N).toNat p1) 112 (3 * N + 1).toNat p2) 112 (3 * N + 2).toNat p3) 113 (3 * N).toNat p4) 113 (3 * N + 1).toNat p5) 113 (3 * N + 2).toNat p6) 106 7 q 112 (3 * k + j) = if k = n then sel3 j p1 p2 p3 else v 112 (3 * k + j) := by
  rw [gu_n (by omega), gu_n (by omega), gu_n (by omega), gu_n (by omega)]
  by_cases e : k = n
  · rw [if_pos e]
    rcases (show j = 0 ∨ j = 1 ∨ j = 2 by omega) with rfl | rfl | rfl
    · rw [gu_n (by omega), gu_n (by omega), gu_y2 (by omega)]; rfl
    · rw [gu_n (by omega), gu_y2 (by omega)]; rfl
    · rw [gu_y2 (by omega)]; rfl
  · rw [if_neg e, gu_n (by omega), gu_n (by omega), gu_n (by omega)]
theorem pt_d {v : Nat → Nat → Int32} {n k j : Nat} {N : Int} {p1 p2 p3 p4 p5 p6 q : Int32} (hN : N = n) (hj : j < 3) : gu (gu (gu (gu (gu (gu (gu v 112 (3 * N).toNat p1) 112 (3 * N + 1).toNat p2) 112 (3 * N + 2).toNat p3) 113 (3 * N).toNat p4) 113 (3 * N + 1).toNat p5) 113 (3 * N + 2).toNat p6) 106 7 q 113 (3 * k + j) = if k = n then sel3 j p4 p5 p6 else v 113 (3 * k + j) := by
  rw [gu_n (by omega)]
  by_cases e : k = n
  · rw [if_pos e]
    rcases (show j = 0 ∨ j = 1 ∨ j = 2 by omega) with rfl | rfl | rfl
    · rw [gu_n (by omega), gu_n (by omega), gu_y2 (by omega)]; rfl
    · rw [gu_n (by omega), gu_y2 (by omega)]; rfl
    · rw [gu_y2 (by omega)]; rfl
  · rw [if_neg e, gu_n (by omega), gu_n (by omega), gu_n (by omega), gu_n (by omega), gu_n (by omega), gu_n (by omega)]
theorem sel_bd {j : Nat} {a b c : Int32} {X : Int} (h1 : bd a X) (h2 : bd b X) (h3 : bd c X) : bd (sel3 j a b c) X := by
  unfold sel3
  split
  · exact h1
  · split
    · exact h2
    · exact h3
theorem pK_point {v : Nat → Nat → Int32} {v1 : Nat → Nat → Int32} {v2 : Nat → Nat → Int32} {w : Nat → Nat → Int64} {r1 : Int32} {r2 : Int32} {p1 : Int32} {p2 : Int32} {p3 : Int32} {p4 : Int32} {p5 : Int32} {p6 : Int32} {A1 : Int} {A2 : Int} {A3 : Int} {A4 : Int} {A5 : Int} {A6 : Int} (a1 : p1.toInt = A1) (a2 : p2.toInt = A2) (a3 : p3.toInt = A3) (a4 : p4.toInt = A4) (a5 : p5.toInt = A5) (a6 : p6.toInt = A6) (h : rK v) (mi : mI v) (hc : cI v1 ∧ fC 18 51 v w v1 w ∧ ((¬ rF7 A1 A2 A3 A4 A5 A6 ∧ r1 = -1 ∧ v1 = v) ∨ (rF7 A1 A2 A3 A4 A5 A6 ∧ 12 ≤ (v 18 2).toInt ∧ r1 = -3 ∧ v1 = v) ∨ (rF7 A1 A2 A3 A4 A5 A6 ∧ (v 18 2).toInt < 12 ∧ r1 = v 18 2 + 1 ∧ v1 = (gu (gu (gu (gu (gu (gu (gu v (20 + (v 18 2).toInt.toNat) 0 p1) (20 + (v 18 2).toInt.toNat) 1 p2) (20 + (v 18 2).toInt.toNat) 2 p3) (33 + (v 18 2).toInt.toNat) 0 p4) (33 + (v 18 2).toInt.toNat) 1 p5) (33 + (v 18 2).toInt.toNat) 2 p6) 18 2 (v 18 2 + 1))))) (hm : mI v2 ∧ fM 112 114 7 8 v1 w v2 w ∧ ((¬ rF7 A1 A2 A3 A4 A5 A6 ∧ r2 = -1 ∧ v2 = v1) ∨ (rF7 A1 A2 A3 A4 A5 A6 ∧ 12 ≤ (v1 106 7).toInt ∧ r2 = -3 ∧ v2 = v1) ∨ (rF7 A1 A2 A3 A4 A5 A6 ∧ (v1 106 7).toInt < 12 ∧ r2 = v1 106 7 + 1 ∧ v2 = (gu (gu (gu (gu (gu (gu (gu v1 112 (3 * (v1 106 7).toInt).toNat p1) 112 (3 * (v1 106 7).toInt + 1).toNat p2) 112 (3 * (v1 106 7).toInt + 2).toNat p3) 113 (3 * (v1 106 7).toInt).toNat p4) 113 (3 * (v1 106 7).toInt + 1).toNat p5) 113 (3 * (v1 106 7).toInt + 2).toNat p6) 106 7 (v1 106 7 + 1))))) : r1 = r2 ∧ rK v2 := by
  have e : v1 106 7 = v 18 2 := (congrFun (hc.2.1.1 106 (by decide)) 7).trans h.1.symm
  have e2' : v1 112 = v 112 := hc.2.1.1 112 (by decide)
  have e3' : v1 113 = v 113 := hc.2.1.1 113 (by decide)
  have u : ∀ k, k < 106 → v2 k = v1 k := fun k q => hm.2.1.1 k (by omega) (by omega)
  have b7 : 0 ≤ (v 18 2).toInt ∧ (v 18 2).toInt ≤ 12 := by rw [h.1]; exact mi.1
  rcases hc.2.2 with ⟨f, e1, e2⟩ | ⟨f, c, e1, e2⟩ | ⟨f, c, e1, e2⟩ <;> rcases hm.2.2 with ⟨g, e3, e4⟩ | ⟨g, d, e3, e4⟩ | ⟨g, d, e3, e4⟩
  · exact ⟨e1.trans e3.symm, by rw [e4, e2]; exact h⟩
  · exact absurd g f
  · exact absurd g f
  · exact absurd f g
  · exact ⟨e1.trans e3.symm, by rw [e4, e2]; exact h⟩
  · rw [e] at d; omega
  · exact absurd f g
  · rw [e] at d; omega
  · unfold rF7 at f
    rw [e] at e4
    refine ⟨by rw [e1, e3, e], ?_, fun k j hk hj => ?_, fun k j hk hj => ?_⟩
    · rw [u 18 (by decide), e4, gu_y, e2, gu_y]
    · rw [u (20 + k) (by omega), u (33 + k) (by omega), e4, pt_c (n := (v 18 2).toInt.toNat) (by omega) hj, pt_d (n := (v 18 2).toInt.toNat) (by omega) hj, e2', e3', e2, pt_a (by omega) hk hj, pt_b (by omega) hk hj]
      by_cases q : k = (v 18 2).toInt.toNat
      · rw [if_pos q, if_pos q, if_pos q, if_pos q]; exact ⟨rfl, rfl⟩
      · rw [if_neg q, if_neg q, if_neg q, if_neg q]; exact h.2.1 k j hk hj
    · rw [u (20 + k) (by omega), u (33 + k) (by omega), e2, pt_a (by omega) hk hj, pt_b (by omega) hk hj]
      by_cases q : k = (v 18 2).toInt.toNat
      · rw [if_pos q, if_pos q]
        exact ⟨sel_bd ⟨by omega, by omega⟩ ⟨by omega, by omega⟩ ⟨by omega, by omega⟩, sel_bd ⟨by omega, by omega⟩ ⟨by omega, by omega⟩ ⟨by omega, by omega⟩⟩
      · rw [if_neg q, if_neg q]; exact h.2.2 k j hk hj
theorem pK_forget {v : Nat → Nat → Int32} {v1 : Nat → Nat → Int32} {v2 : Nat → Nat → Int32} {w : Nat → Nat → Int64} {r1 : Int32} {r2 : Int32} (h : rK v) (hc : cI v1 ∧ fC 18 51 v w v1 w ∧ r1 = v 18 2 ∧ v1 = gu v 18 2 0) (hm : mI v2 ∧ fM 112 114 7 8 v1 w v2 w ∧ r2 = v1 106 7 ∧ v2 = gu v1 106 7 0) : r1 = r2 ∧ rK v2 := by
  have e : v1 106 7 = v 18 2 := (congrFun (hc.2.1.1 106 (by decide)) 7).trans h.1.symm
  have e2' : v1 112 = v 112 := hc.2.1.1 112 (by decide)
  have e3' : v1 113 = v 113 := hc.2.1.1 113 (by decide)
  have u : ∀ k, k < 106 → v2 k = v1 k := fun k q => hm.2.1.1 k (by omega) (by omega)
  refine ⟨by rw [hc.2.2.1, hm.2.2.1, e], ?_, fun k j hk hj => ?_, fun k j hk hj => ?_⟩
  · rw [u 18 (by decide), hm.2.2.2, gu_y, hc.2.2.2, gu_y]
  · rw [u (20 + k) (by omega), u (33 + k) (by omega), hm.2.2.2, gu_n (by omega), gu_n (by omega), e2', e3', hc.2.2.2, gu_n (by omega), gu_n (by omega)]; exact h.2.1 k j hk hj
  · rw [u (20 + k) (by omega), u (33 + k) (by omega), hc.2.2.2, gu_n (by omega), gu_n (by omega)]; exact h.2.2 k j hk hj
theorem bd_rd9 {a b : Nat → Int32} {x y z : Int32} (ha : ∀ j, j < 3 → bd (a j) 100) (hb : ∀ j, j < 6 → bd (b j) 20) (hx : bd x 50) (hy : bd y 50) (hz : bd z 50) : bd (rd9 a b x y z) 1800000 := by
  have L : ∀ j, j < 3 → ∀ t : Int32, bd t 50 → bd (a j * t) 5000 := fun j hj t ht => bd_mul (ha j hj) ht (by decide) (by decide)
  have P : ∀ j, j < 6 → ∀ t s : Int32, bd t 50 → bd s 50 → bd (b j * t * s) 50000 := fun j hj t s ht hs => bd_mul (bd_mul (Z := 1000) (hb j hj) ht (by decide) (by decide)) hs (by decide) (by decide)
  have h100 : bd 100 100 := ⟨by decide, by decide⟩
  have q1 : bd (a 0 * x + a 1 * y + a 2 * z) 15000 := bd_add (bd_add (Z := 10000) (L 0 (by decide) x hx) (L 1 (by decide) y hy) (by decide) (by decide)) (L 2 (by decide) z hz) (by decide) (by decide)
  have q2 : bd (pr6 b x y z) 300000 := bd_add (Z := 300000) (bd_add (Z := 250000) (bd_add (Z := 200000) (bd_add (Z := 150000) (bd_add (Z := 100000) (P 0 (by decide) x x hx hx) (P 1 (by decide) x y hx hy) (by decide) (by decide)) (P 2 (by decide) x z hx hz) (by decide) (by decide)) (P 3 (by decide) y y hy hy) (by decide) (by decide)) (P 4 (by decide) y z hy hz) (by decide) (by decide)) (P 5 (by decide) z z hz hz) (by decide) (by decide)
  exact bd_add (bd_mul (Z := 1500000) h100 q1 (by decide) (by decide)) q2 (by decide) (by decide)
theorem md_eq {v : Nat → Nat → Int32} (hB : rB v) (hK : rK v) {i k : Nat} (hi : i < 3) (hk : k < 12) : mdC v i k = mdM v i k := by
  unfold mdC mdM
  rw [rd9_cg (fun j hj => hB.1 i j hi hj) (fun j hj => hB.2.1 i j hi hj), (hK.2.1 k i hk hi).2, (hK.2.1 k 0 hk (by decide)).1, (hK.2.1 k 1 hk (by decide)).1, (hK.2.1 k 2 hk (by decide)).1]
  rfl
theorem md_bd {v : Nat → Nat → Int32} (hB : rB v) (hK : rK v) (ci : cI v) {i k : Nat} (hi : i < 3) (hk : k < 12) : bd (mdC v i k) 3800000 := by
  have Ka := ci.2.2.2.2.2.2.2.2.2.1
  exact bd_sub (hK.2.2 k i hk hi).2 (bd_rd9 (fun j hj => Ka i j hi hj) (fun j hj => hB.2.2 i j hi hj) (hK.2.2 k 0 hk (by decide)).1 (hK.2.2 k 1 hk (by decide)).1 (hK.2.2 k 2 hk (by decide)).1) (by decide) (by decide)
theorem abs_eq {x : Int32} {X : Int} (h : bd x X) (hX : X < 2147483648) : abM x = jabs x ∧ 0 ≤ (jabs x).toInt := by
  unfold abM jabs bd at *
  by_cases q : x.toInt < 0
  · rw [if_pos q, if_neg (by rw [fa_le]; have : (0 : Int32).toInt = 0 := (by decide); omega)]
    have e : (0 : Int32) - x = -x := by simp
    rw [e]
    have e2 : (-x).toInt = -x.toInt := fb_negI (by omega)
    exact ⟨rfl, by omega⟩
  · rw [if_neg q, if_pos (by rw [fa_le]; have : (0 : Int32).toInt = 0 := (by decide); omega)]
    exact ⟨rfl, by omega⟩
theorem ms_eq {v : Nat → Nat → Int32} (hB : rB v) (hK : rK v) (ci : cI v) {i : Nat} (hi : i < 3) : ∀ n : Nat, n < 12 → msC v i (n + 1) = msM v i (n + 1) ∧ 0 ≤ (msC v i (n + 1)).toInt
  | 0, _ => by
    have a := abs_eq (md_bd hB hK ci hi (k := 0) (by decide)) (by decide)
    show jmax 0 (jabs (mdC v i 0)) = mxM (-4) (abM (mdM v i 0)) ∧ 0 ≤ (jmax 0 (jabs (mdC v i 0))).toInt
    rw [← md_eq hB hK hi (by decide), a.1]
    have z : (0 : Int32).toInt = 0 := by decide
    have y : (-4 : Int32).toInt = -4 := by decide
    have e1 : mxM (-4) (jabs (mdC v i 0)) = jabs (mdC v i 0) := by unfold mxM; rw [if_pos (by omega)]
    have e2 : jmax 0 (jabs (mdC v i 0)) = jabs (mdC v i 0) := by
      unfold jmax
      by_cases q : (0 : Int32) < jabs (mdC v i 0)
      · rw [if_pos q]
      · rw [if_neg q]
        rw [fa_lt, z] at q
        exact i_ext (by omega)
    rw [e1, e2]
    exact ⟨rfl, a.2⟩
  | n + 1, hn => by
    have ih := ms_eq hB hK ci hi n (by omega)
    have a := abs_eq (md_bd hB hK ci hi (k := n + 1) (by omega)) (by decide)
    show jmax (msC v i (n + 1)) (jabs (mdC v i (n + 1))) = mxM (msM v i (n + 1)) (abM (mdM v i (n + 1))) ∧ 0 ≤ (jmax (msC v i (n + 1)) (jabs (mdC v i (n + 1)))).toInt
    rw [← md_eq hB hK hi (by omega), a.1, ← ih.1]
    unfold jmax mxM
    by_cases q : msC v i (n + 1) < jabs (mdC v i (n + 1))
    · rw [if_pos q, if_pos ((fa_lt _ _).mp q)]; exact ⟨rfl, a.2⟩
    · rw [if_neg q, if_neg (fun r => q ((fa_lt _ _).mpr r))]; exact ⟨rfl, ih.2⟩
theorem pK_miss {v : Nat → Nat → Int32} {r1 : Int32} {r2 : Int32} {A1 : Int} (hB : rB v) (h : rK v) (ci : cI v) (mi : mI v) (hc : ((¬ (0 ≤ A1 ∧ A1 ≤ 2) ∧ r1 = -1) ∨ ((0 ≤ A1 ∧ A1 ≤ 2) ∧ (v 18 2).toInt = 0 ∧ r1 = -4) ∨ ((0 ≤ A1 ∧ A1 ≤ 2) ∧ (v 18 2).toInt ≠ 0 ∧ r1 = msC v A1.toNat (v 18 2).toInt.toNat))) (hm : ((¬ (0 ≤ A1 ∧ A1 ≤ 2) ∧ r2 = -1) ∨ ((0 ≤ A1 ∧ A1 ≤ 2) ∧ r2 = msM v A1.toNat (v 106 7).toInt.toNat))) : r1 = r2 := by
  have b7 : 0 ≤ (v 18 2).toInt ∧ (v 18 2).toInt ≤ 12 := by rw [h.1]; exact mi.1
  rw [← h.1] at hm
  rcases hc with ⟨f, e1⟩ | ⟨f, c, e1⟩ | ⟨f, c, e1⟩ <;> rcases hm with ⟨g, e3⟩ | ⟨g, e3⟩
  · rw [e1, e3]
  · exact absurd g f
  · exact absurd f g
  · rw [e1, e3, c]; rfl
  · exact absurd f g
  · obtain ⟨n, hn⟩ : ∃ n, (v 18 2).toInt.toNat = n + 1 := ⟨(v 18 2).toInt.toNat - 1, by omega⟩
    rw [e1, e3, hn]
    exact (ms_eq hB h ci (by omega) n (by omega)).1
theorem gu_row {v : Nat → Nat → Int32} {k j : Nat} {x : Int32} {b : Nat} : gu v k j x k b = if b = j then x else v k b := by
  rw [gu_at]
  simp
theorem pP_place {v : Nat → Nat → Int32} {v1 : Nat → Nat → Int32} {v2 : Nat → Nat → Int32} {w : Nat → Nat → Int64} {r1 : Int32} {r2 : Int32} {p1 : Int32} {p2 : Int32} {A1 : Int} {A2 : Int} (h : rP v) (mi : mI v) (hc : cI v1 ∧ fC 66 83 v w v1 w ∧ ((¬ rF19 A1 A2 ∧ r1 = -1 ∧ v1 = v) ∨ (rF19 A1 A2 ∧ 9 ≤ (v 66 0).toInt ∧ r1 = -3 ∧ v1 = v) ∨ (rF19 A1 A2 ∧ (v 66 0).toInt < 9 ∧ r1 = v 66 0 ∧ fP4 (gu (gu (gu (gu (gu v 80 (v 66 0).toInt.toNat p1) 81 (v 66 0).toInt.toNat p2) 67 (v 66 0).toInt.toNat (vp_nar .boolean 0)) 66 0 (v 66 0 + 1)) 66 3 0) v1))) (hm : mI v2 ∧ fM 123 126 22 23 v1 w v2 w ∧ ((¬ rF19 A1 A2 ∧ r2 = -1 ∧ v2 = v1) ∨ (rF19 A1 A2 ∧ (v1 106 22).toInt = 9 ∧ r2 = -3 ∧ v2 = v1) ∨ (rF19 A1 A2 ∧ (v1 106 22).toInt < 9 ∧ r2 = v1 106 22 + 1 - 1 ∧ v2 = (gu (gu (gu (gu v1 123 (v1 106 22).toInt.toNat p1) 124 (v1 106 22).toInt.toNat p2) 125 (v1 106 22).toInt.toNat (vp_nar .boolean 0)) 106 22 (v1 106 22 + 1))))) : r1 = r2 ∧ rP v2 := by
  have e : v1 106 22 = v 66 0 := (congrFun (hc.2.1.1 106 (by decide)) 22).trans h.1.symm
  have e5 : v1 125 = v 125 := hc.2.1.1 125 (by decide)
  have u : v2 66 = v1 66 := hm.2.1.1 66 (by decide) (by decide)
  have u7 : v2 67 = v1 67 := hm.2.1.1 67 (by decide) (by decide)
  have b9 := mi.2.2.2.1
  rw [← h.1] at b9
  rcases hc.2.2 with ⟨f, e1, e2⟩ | ⟨f, c, e1, e2⟩ | ⟨f, c, e1, e2⟩ <;> rcases hm.2.2 with ⟨g, e3, e4⟩ | ⟨g, d, e3, e4⟩ | ⟨g, d, e3, e4⟩
  · exact ⟨e1.trans e3.symm, by rw [e4, e2]; exact h⟩
  · exact absurd g f
  · exact absurd g f
  · exact absurd f g
  · exact ⟨e1.trans e3.symm, by rw [e4, e2]; exact h⟩
  · rw [e] at d; omega
  · exact absurd f g
  · rw [e] at d; omega
  · refine ⟨by rw [e1, e3, e]; simp, ?_, fun k hk => ?_⟩
    · rw [u, e2.1, gu_n (by decide), gu_y, e4, gu_y, e]
    · have L : v2 67 k = if k = (v 66 0).toInt.toNat then vp_nar .boolean 0 else v 67 k := by rw [u7, e2.2.1, gu_n (by omega), gu_n (by omega), gu_row, gu_n (by omega), gu_n (by omega)]
      have R : v2 125 k = if k = (v 66 0).toInt.toNat then vp_nar .boolean 0 else v 125 k := by rw [e4, gu_n (by omega), gu_row, gu_n (by omega), gu_n (by omega), e, e5]
      rw [L, R]
      split
      · rfl
      · exact h.2 k hk
theorem pP_done {v : Nat → Nat → Int32} {v1 : Nat → Nat → Int32} {v2 : Nat → Nat → Int32} {w : Nat → Nat → Int64} {r1 : Int32} {r2 : Int32} {p2 : Int32} {A1 : Int} {A2 : Int} (h : rP v) (mi : mI v) (hc : cI v1 ∧ fC 66 83 v w v1 w ∧ ((¬ (0 ≤ A1 ∧ A1 < (v 66 0).toInt) ∧ r1 = -1 ∧ v1 = v) ∨ (0 ≤ A1 ∧ A1 < (v 66 0).toInt ∧ r1 = lo1 (v 67 A1.toNat) ∧ v1 = (gu (gu v 67 A1.toNat (vp_nar .boolean p2)) 66 3 (plD (v 66 3).toInt (v 67 A1.toNat).toInt A2))))) (hm : mI v2 ∧ fM 123 126 22 23 v1 w v2 w ∧ ((¬ (0 ≤ A1 ∧ A1 < (v1 106 22).toInt) ∧ r2 = -1 ∧ v2 = v1) ∨ (0 ≤ A1 ∧ A1 < (v1 106 22).toInt ∧ r2 = lo1 (v1 125 A1.toNat) ∧ v2 = (gu v1 125 A1.toNat (vp_nar .boolean p2))))) : r1 = r2 ∧ rP v2 := by
  have e : v1 106 22 = v 66 0 := (congrFun (hc.2.1.1 106 (by decide)) 22).trans h.1.symm
  have e5 : v1 125 = v 125 := hc.2.1.1 125 (by decide)
  have u : v2 66 = v1 66 := hm.2.1.1 66 (by decide) (by decide)
  have u7 : v2 67 = v1 67 := hm.2.1.1 67 (by decide) (by decide)
  have b9 := mi.2.2.2.1
  rw [← h.1] at b9
  rcases hc.2.2 with ⟨f, e1, e2⟩ | ⟨f, c, e1, e2⟩ <;> rcases hm.2.2 with ⟨g, e3, e4⟩ | ⟨g, d, e3, e4⟩
  · exact ⟨e1.trans e3.symm, by rw [e4, e2]; exact h⟩
  · rw [e] at d; exact absurd ⟨g, d⟩ f
  · rw [e] at g; exact absurd ⟨f, c⟩ g
  · refine ⟨by rw [e1, e3, e5, h.2 _ (by omega)], ?_, fun k hk => ?_⟩
    · rw [u, e2, gu_n (by omega), gu_n (by omega), e4, gu_n (by omega), e]
    · rw [u7, e2, gu_n (by omega), gu_row, e4, gu_row, e5]
      split
      · rfl
      · exact h.2 k hk
theorem pP_plan {v v1 v2 : Nat → Nat → Int32} {w : Nat → Nat → Int64} (h : rP v) (a : fC 66 83 v w v1 w) (f : fPl v v1) (b : fM 126 127 0 0 v1 w v2 w) : rP v2 := by
  refine ⟨?_, fun k hk => ?_⟩
  · rw [b.1 66 (by decide) (by decide), f.1, b.2.1 22 (by decide), a.1 106 (by decide)]; exact h.1
  · rw [b.1 67 (by decide) (by decide), f.2.1 67 (by decide) (by decide), b.1 125 (by decide) (by decide), a.1 125 (by decide)]; exact h.2 k hk
theorem pT_tube {v : Nat → Nat → Int32} {v1 : Nat → Nat → Int32} {v2 : Nat → Nat → Int32} {w : Nat → Nat → Int64} {r1 : Int32} {r2 : Int32} {p1 : Int32} {A1 : Int} (h : rT v) (mi : mI v) (hc : cI v1 ∧ fC 93 97 v w v1 w ∧ ((¬ (1 ≤ A1 ∧ A1 ≤ 100) ∧ r1 = -1 ∧ v1 = v) ∨ ((1 ≤ A1 ∧ A1 ≤ 100) ∧ 10 ≤ (v 93 0).toInt ∧ r1 = -3 ∧ v1 = v) ∨ ((1 ≤ A1 ∧ A1 ≤ 100) ∧ (v 93 0).toInt < 10 ∧ r1 = v 93 0 + 1 - 1 ∧ v1 = (gu (gu (gu (gu v 96 (v 93 0).toInt.toNat p1) 94 (v 93 0).toInt.toNat (vp_nar .boolean 1)) 95 (v 93 0).toInt.toNat 0) 93 0 (v 93 0 + 1))))) (hm : mI v2 ∧ fM 128 131 35 36 v1 w v2 w ∧ ((¬ (1 ≤ A1 ∧ A1 ≤ 100) ∧ r2 = -1 ∧ v2 = v1) ∨ ((1 ≤ A1 ∧ A1 ≤ 100) ∧ (v1 106 35).toInt = 10 ∧ r2 = -3 ∧ v2 = v1) ∨ ((1 ≤ A1 ∧ A1 ≤ 100) ∧ (v1 106 35).toInt < 10 ∧ r2 = v1 106 35 + 1 - 1 ∧ v2 = (gu (gu (gu (gu v1 128 (v1 106 35).toInt.toNat p1) 129 (v1 106 35).toInt.toNat 0) 130 (v1 106 35).toInt.toNat (vp_nar .boolean 1)) 106 35 (v1 106 35 + 1))))) : r1 = r2 ∧ rT v2 := by
  obtain ⟨h1, h2, h3, h4, h5⟩ := h
  have e : v1 106 35 = v 93 0 := (congrFun (hc.2.1.1 106 (by decide)) 35).trans h1.symm
  have e28 : v1 128 = v 128 := hc.2.1.1 128 (by decide)
  have e29 : v1 129 = v 129 := hc.2.1.1 129 (by decide)
  have e30 : v1 130 = v 130 := hc.2.1.1 130 (by decide)
  have u3 : v2 93 = v1 93 := hm.2.1.1 93 (by decide) (by decide)
  have u4 : v2 94 = v1 94 := hm.2.1.1 94 (by decide) (by decide)
  have u5 : v2 95 = v1 95 := hm.2.1.1 95 (by decide) (by decide)
  have u6 : v2 96 = v1 96 := hm.2.1.1 96 (by decide) (by decide)
  have b9 : 0 ≤ (v 93 0).toInt ∧ (v 93 0).toInt ≤ 10 := by rw [h1]; exact mi.2.2.2.2.2.2.2.2.1
  rcases hc.2.2 with ⟨f, e1, e2⟩ | ⟨f, c, e1, e2⟩ | ⟨f, c, e1, e2⟩ <;> rcases hm.2.2 with ⟨g, e3, e4⟩ | ⟨g, d, e3, e4⟩ | ⟨g, d, e3, e4⟩
  · exact ⟨e1.trans e3.symm, by rw [e4, e2]; exact ⟨h1, h2, h3, h4, h5⟩⟩
  · exact absurd g f
  · exact absurd g f
  · exact absurd f g
  · exact ⟨e1.trans e3.symm, by rw [e4, e2]; exact ⟨h1, h2, h3, h4, h5⟩⟩
  · rw [e] at d; omega
  · exact absurd f g
  · rw [e] at d; omega
  · refine ⟨by rw [e1, e3, e], ?_, fun k hk => ?_, fun k hk => ?_, fun k hk => ?_, fun k hk q => ?_⟩
    · rw [u3, e2, gu_y, e4, gu_y, e]
    · have L : v2 96 k = if k = (v 93 0).toInt.toNat then p1 else v 96 k := by rw [u6, e2, gu_n (by omega), gu_n (by omega), gu_n (by omega), gu_row]
      have R : v2 128 k = if k = (v 93 0).toInt.toNat then p1 else v 128 k := by rw [e4, gu_n (by omega), gu_n (by omega), gu_n (by omega), gu_row, e, e28]
      rw [L, R]
      split
      · rfl
      · exact h2 k hk
    · have L : v2 95 k = if k = (v 93 0).toInt.toNat then 0 else v 95 k := by rw [u5, e2, gu_n (by omega), gu_row, gu_n (by omega), gu_n (by omega)]
      have R : v2 129 k = if k = (v 93 0).toInt.toNat then 0 else v 129 k := by rw [e4, gu_n (by omega), gu_n (by omega), gu_row, gu_n (by omega), e, e29]
      rw [L, R]
      split
      · rfl
      · exact h3 k hk
    · have L : v2 94 k = if k = (v 93 0).toInt.toNat then vp_nar .boolean 1 else v 94 k := by rw [u4, e2, gu_n (by omega), gu_n (by omega), gu_row, gu_n (by omega)]
      have R : v2 130 k = if k = (v 93 0).toInt.toNat then vp_nar .boolean 1 else v 130 k := by rw [e4, gu_n (by omega), gu_row, gu_n (by omega), gu_n (by omega), e, e30]
      rw [L, R]
      split
      · rfl
      · exact h4 k hk
    · rw [u4, e2, gu_n (by omega), gu_n (by omega), gu_row] at q
      rw [u5, e2, gu_n (by omega), gu_row]
      split
      · rfl
      · rw [if_neg (by assumption), gu_n (by omega)] at q
        rw [gu_n (by omega), gu_n (by omega)]
        exact h5 k hk q
theorem nar_0 {p : Int32} (h : p.toInt = 0 ∨ p.toInt = 1) (q : (vp_nar .boolean p).toInt ≠ 0) : p.toInt ≠ 0 := by
  intro h0
  have : p = 0 := i_ext (by rw [h0]; decide)
  rw [this] at q
  exact q (by decide)
theorem pT_press {v : Nat → Nat → Int32} {v1 : Nat → Nat → Int32} {v2 : Nat → Nat → Int32} {w : Nat → Nat → Int64} {r1 : Int32} {r2 : Int32} {p2 : Int32} {p3 : Int32} {A1 : Int} {A2 : Int} {A3 : Int} (a2 : p2.toInt = A2) (bz : A2 = 0 ∨ A2 = 1) (h : rT v) (mi : mI v) (hc : cI v1 ∧ fC 93 97 v w v1 w ∧ ((¬ rF29 A1 A2 A3 (v 93 0).toInt ∧ r1 = -1 ∧ v1 = v) ∨ (rF29 A1 A2 A3 (v 93 0).toInt ∧ r1 = 1 ∧ v1 = (gu (gu v 94 A1.toNat (vp_nar .boolean p2)) 95 A1.toNat (prS A2 p3))))) (hm : mI v2 ∧ fM 128 131 35 36 v1 w v2 w ∧ ((¬ rF29 A1 A2 A3 (v1 106 35).toInt ∧ r2 = -1 ∧ v2 = v1) ∨ (rF29 A1 A2 A3 (v1 106 35).toInt ∧ r2 = 1 ∧ v2 = (gu (gu v1 130 A1.toNat (vp_nar .boolean p2)) 129 A1.toNat (prS A2 p3))))) : r1 = r2 ∧ rT v2 := by
  obtain ⟨h1, h2, h3, h4, h5⟩ := h
  have e : v1 106 35 = v 93 0 := (congrFun (hc.2.1.1 106 (by decide)) 35).trans h1.symm
  have e28 : v1 128 = v 128 := hc.2.1.1 128 (by decide)
  have e29 : v1 129 = v 129 := hc.2.1.1 129 (by decide)
  have e30 : v1 130 = v 130 := hc.2.1.1 130 (by decide)
  have u3 : v2 93 = v1 93 := hm.2.1.1 93 (by decide) (by decide)
  have u4 : v2 94 = v1 94 := hm.2.1.1 94 (by decide) (by decide)
  have u5 : v2 95 = v1 95 := hm.2.1.1 95 (by decide) (by decide)
  have u6 : v2 96 = v1 96 := hm.2.1.1 96 (by decide) (by decide)
  have b9 : 0 ≤ (v 93 0).toInt ∧ (v 93 0).toInt ≤ 10 := by rw [h1]; exact mi.2.2.2.2.2.2.2.2.1
  rcases hc.2.2 with ⟨f, e1, e2⟩ | ⟨f, e1, e2⟩ <;> rcases hm.2.2 with ⟨g, e3, e4⟩ | ⟨g, e3, e4⟩
  · exact ⟨e1.trans e3.symm, by rw [e4, e2]; exact ⟨h1, h2, h3, h4, h5⟩⟩
  · rw [e] at g; exact absurd g f
  · rw [e] at g; exact absurd f g
  · refine ⟨e1.trans e3.symm, ?_, fun k hk => ?_, fun k hk => ?_, fun k hk => ?_, fun k hk q => ?_⟩
    · rw [u3, e2, gu_n (by omega), gu_n (by omega), e4, gu_n (by omega), gu_n (by omega), e]
    · rw [u6, e2, gu_n (by omega), gu_n (by omega), e4, gu_n (by omega), gu_n (by omega), e28]; exact h2 k hk
    · rw [u5, e2, gu_row, e4, gu_row]
      split
      · rfl
      · rw [gu_n (by omega), gu_n (by omega), e29]; exact h3 k hk
    · rw [u4, e2, gu_n (by omega), gu_row, e4, gu_n (by omega), gu_row, e30]
      split
      · rfl
      · exact h4 k hk
    · rw [u4, e2, gu_n (by omega), gu_row] at q
      rw [u5, e2, gu_row]
      split
      · rw [if_pos (by assumption)] at q
        have := nar_0 (by omega) q
        unfold prS
        rw [if_neg (by omega)]
      · rw [if_neg (by assumption)] at q
        rw [gu_n (by omega)]
        exact h5 k hk q
theorem lo1_lost (x : Int32) : (lostOf x).toInt ≠ 0 → prsOf x = 0 := by
  intro h
  unfold prsOf
  unfold lostOf at h
  split
  · rw [if_pos (by assumption)] at h; exact absurd (by decide) h
  · rfl
theorem rL_lane {a b : Int32} (h : rL a b) {x : Int} (hx : 0 ≤ x ∧ x ≤ 2) : ((flL a.toInt x).toInt = 0 ↔ b.toInt = x) ∧ (b.toInt ≠ x → -10 - flL a.toInt x = if b.toInt = -4 then -11 else -13) := by
  rcases h with ⟨h1, h2⟩ | ⟨h1, h2, h3⟩
  · unfold flL
    rw [if_pos h1, h2]
    refine ⟨⟨fun q => absurd q (by decide), fun q => by omega⟩, fun _ => by rfl⟩
  · subst h1
    unfold flL
    rw [if_neg (by omega)]
    by_cases q : a.toInt = x
    · rw [if_pos q]
      exact ⟨⟨fun _ => q, fun _ => by decide⟩, fun n => absurd q n⟩
    · rw [if_neg q]
      exact ⟨⟨fun n => absurd n (by decide), fun n => absurd n q⟩, fun _ => by rw [if_neg (by omega)]; rfl⟩
theorem up_y {v : Nat → Nat → Int32} {k : Nat} {f : Nat → Int32} : va_up v k f k = f := by simp [va_up]
theorem flC_val {lane sz a n : Int} (h : lane ≠ -1) : ((flC lane sz a n).toInt = 0 ↔ (n = 0 ∨ (0 ≤ a ∧ a ≤ sz - n))) ∧ (¬ (n = 0 ∨ (0 ≤ a ∧ a ≤ sz - n)) → flC lane sz a n = 2) := by
  unfold flC
  rw [if_neg h]
  by_cases q : n = 0 ∨ (0 ≤ a ∧ a ≤ sz - n)
  · rw [if_pos q]
    exact ⟨⟨fun _ => q, fun _ => by decide⟩, fun r => absurd q r⟩
  · rw [if_neg q]
    exact ⟨⟨fun r => absurd r (by decide), fun r => absurd r q⟩, fun _ => rfl⟩
theorem flC_n {sz a n : Int} : flC (-1) sz a n = 1 := by unfold flC; rw [if_pos rfl]
theorem flL_0 {lane x : Int} (h : (flL lane x).toInt = 0) : lane ≠ -1 := by
  intro q
  unfold flL at h
  rw [if_pos q] at h
  exact absurd h (by decide)
theorem flN_cg {F G a b : Nat → Int32} {n : Int} {k : Nat} (h1 : (k : Int) < n → F k = G k) (h2 : a k = b k) : flN F a n k = flN G b n k := by
  unfold flN
  split
  · exact h1 (by assumption)
  · exact h2
theorem pT_scan {v : Nat → Nat → Int32} {v1 : Nat → Nat → Int32} {v2 : Nat → Nat → Int32} {w : Nat → Nat → Int64} {r1 : Int32} {r2 : Int32} {A1 : Int} {A2 : Int} {A3 : Int} (h : rT v) (hH : rH v) (mi : mI v) (hc : cI v1 ∧ fC 93 97 v w v1 w ∧ ((¬ rF32 A1 A2 ∧ r1 = -1 ∧ v1 = v) ∨ (rF32 A1 A2 ∧ (flL (v (98 + 2 * A1.toNat) 0).toInt A2).toInt ≠ 0 ∧ r1 = -10 - flL (v (98 + 2 * A1.toNat) 0).toInt A2 ∧ v1 = v) ∨ (rF32 A1 A2 ∧ (flL (v (98 + 2 * A1.toNat) 0).toInt A2).toInt = 0 ∧ (flC (v (98 + 2 * A1.toNat) 0).toInt (v (98 + 2 * A1.toNat) 1).toInt A3 (v 93 0).toInt).toInt ≠ 0 ∧ r1 = -10 - flC (v (98 + 2 * A1.toNat) 0).toInt (v (98 + 2 * A1.toNat) 1).toInt A3 (v 93 0).toInt ∧ v1 = v) ∨ (rF32 A1 A2 ∧ (flL (v (98 + 2 * A1.toNat) 0).toInt A2).toInt = 0 ∧ (flC (v (98 + 2 * A1.toNat) 0).toInt (v (98 + 2 * A1.toNat) 1).toInt A3 (v 93 0).toInt).toInt = 0 ∧ r1 = sumN (fun k => lo1 (v1 94 k)) (v 93 0).toInt.toNat ∧ v1 = va_up (va_up v 94 (flN (fun k => lostOf (v ((98 + 2 * A1.toNat) + 1) (A3.toNat + k))) (v 94) (v 93 0).toInt)) 95 (flN (fun k => prsOf (v ((98 + 2 * A1.toNat) + 1) (A3.toNat + k))) (v 95) (v 93 0).toInt)))) (hm : mI v2 ∧ fM 128 131 35 36 v1 w v2 w ∧ ((¬ rF32 A1 A2 ∧ r2 = -1 ∧ v2 = v1) ∨ (rF32 A1 A2 ∧ (v1 131 A1.toNat).toInt ≠ A2 ∧ (v1 131 A1.toNat).toInt = -4 ∧ r2 = -11 ∧ v2 = v1) ∨ (rF32 A1 A2 ∧ (v1 131 A1.toNat).toInt ≠ A2 ∧ (v1 131 A1.toNat).toInt ≠ -4 ∧ r2 = -13 ∧ v2 = v1) ∨ (rF32 A1 A2 ∧ (v1 131 A1.toNat).toInt = A2 ∧ ¬ ((v1 106 35).toInt ≤ 0 ∨ (0 ≤ A3 ∧ A3 + (v1 106 35).toInt ≤ (v1 132 A1.toNat).toInt)) ∧ r2 = -12 ∧ v2 = v1) ∨ (rF32 A1 A2 ∧ (v1 131 A1.toNat).toInt = A2 ∧ ((v1 106 35).toInt ≤ 0 ∨ (0 ≤ A3 ∧ A3 + (v1 106 35).toInt ≤ (v1 132 A1.toNat).toInt)) ∧ r2 = sumN (fun k => lo1 (v2 130 k)) (v1 106 35).toInt.toNat ∧ v2 = va_up (va_up v1 130 (flN (fun k => lostOf (v1 133 (60 * A1.toNat + (A3.toNat + k)))) (v1 130) (v1 106 35).toInt)) 129 (flN (fun k => prsOf (v1 133 (60 * A1.toNat + (A3.toNat + k)))) (v1 129) (v1 106 35).toInt)))) : r1 = r2 ∧ rT v2 := by
  obtain ⟨h1, h2, h3, h4, h5⟩ := h
  have e : v1 106 35 = v 93 0 := (congrFun (hc.2.1.1 106 (by decide)) 35).trans h1.symm
  have e28 : v1 128 = v 128 := hc.2.1.1 128 (by decide)
  have e29 : v1 129 = v 129 := hc.2.1.1 129 (by decide)
  have e30 : v1 130 = v 130 := hc.2.1.1 130 (by decide)
  have e31 : v1 131 = v 131 := hc.2.1.1 131 (by decide)
  have e32 : v1 132 = v 132 := hc.2.1.1 132 (by decide)
  have e33 : v1 133 = v 133 := hc.2.1.1 133 (by decide)
  have u3 : v2 93 = v1 93 := hm.2.1.1 93 (by decide) (by decide)
  have u4 : v2 94 = v1 94 := hm.2.1.1 94 (by decide) (by decide)
  have u5 : v2 95 = v1 95 := hm.2.1.1 95 (by decide) (by decide)
  have u6 : v2 96 = v1 96 := hm.2.1.1 96 (by decide) (by decide)
  have b9 : 0 ≤ (v 93 0).toInt ∧ (v 93 0).toInt ≤ 10 := by rw [h1]; exact mi.2.2.2.2.2.2.2.2.1
  have hsz := mi.2.2.2.2.2.2.2.2.2.2.2.1
  by_cases F : rF32 A1 A2
  · have FF := F
    unfold rF32 at FF
    obtain ⟨hl, hs, hcl⟩ := hH A1.toNat (by omega)
    have hln := rL_lane hl (x := A2) (by omega)
    have hz := hsz A1.toNat (by omega)
    have es : (v (98 + 2 * A1.toNat) 1).toInt = (v 132 A1.toNat).toInt := by rw [hs]
    rcases hc.2.2 with ⟨f, e1, e2⟩ | ⟨f, c, e1, e2⟩ | ⟨f, c, c2, e1, e2⟩ | ⟨f, c, c2, e1, e2⟩ <;> rcases hm.2.2 with ⟨g, e3, e4⟩ | ⟨g, d, d2, e3, e4⟩ | ⟨g, d, d2, e3, e4⟩ | ⟨g, d, d2, e3, e4⟩ | ⟨g, d, d2, e3, e4⟩
    all_goals first
      | exact absurd F f
      | exact absurd F g
      | skip
    all_goals rw [e31] at d
    all_goals first
      | exact absurd (hln.1.mpr d) c
      | exact absurd (hln.1.mp c) d
      | skip
    · rw [e31] at d2
      exact ⟨by rw [e1, e3, hln.2 d, if_pos d2], by rw [e4, e2]; exact ⟨h1, h2, h3, h4, h5⟩⟩
    · rw [e31] at d2
      exact ⟨by rw [e1, e3, hln.2 d, if_neg d2], by rw [e4, e2]; exact ⟨h1, h2, h3, h4, h5⟩⟩
    · have hv := flC_val (sz := (v (98 + 2 * A1.toNat) 1).toInt) (a := A3) (n := (v 93 0).toInt) (flL_0 c)
      have q : ¬ ((v 93 0).toInt = 0 ∨ (0 ≤ A3 ∧ A3 ≤ (v (98 + 2 * A1.toNat) 1).toInt - (v 93 0).toInt)) := fun r => c2 (hv.1.mpr r)
      exact ⟨by rw [e1, e3, hv.2 q]; rfl, by rw [e4, e2]; exact ⟨h1, h2, h3, h4, h5⟩⟩
    · have hv := flC_val (sz := (v (98 + 2 * A1.toNat) 1).toInt) (a := A3) (n := (v 93 0).toInt) (flL_0 c)
      have q : ¬ ((v 93 0).toInt = 0 ∨ (0 ≤ A3 ∧ A3 ≤ (v (98 + 2 * A1.toNat) 1).toInt - (v 93 0).toInt)) := fun r => c2 (hv.1.mpr r)
      rw [e, e32] at d2
      omega
    · have hv := flC_val (sz := (v (98 + 2 * A1.toNat) 1).toInt) (a := A3) (n := (v 93 0).toInt) (flL_0 c)
      have q := hv.1.mp c2
      rw [e, e32] at d2
      omega
    · have hv := flC_val (sz := (v (98 + 2 * A1.toNat) 1).toInt) (a := A3) (n := (v 93 0).toInt) (flL_0 c)
      have q := hv.1.mp c2
      have w4 : v1 94 = flN (fun k => lostOf (v (98 + 2 * A1.toNat + 1) (A3.toNat + k))) (v 94) (v 93 0).toInt := by rw [e2, up_n (by decide), up_y]
      have w5 : v1 95 = flN (fun k => prsOf (v (98 + 2 * A1.toNat + 1) (A3.toNat + k))) (v 95) (v 93 0).toInt := by rw [e2, up_y]
      have x0 : v2 130 = flN (fun k => lostOf (v 133 (60 * A1.toNat + (A3.toNat + k)))) (v 130) (v 93 0).toInt := by rw [e4, up_n (by decide), up_y, e33, e30, e]
      have x9 : v2 129 = flN (fun k => prsOf (v 133 (60 * A1.toNat + (A3.toNat + k)))) (v 129) (v 93 0).toInt := by rw [e4, up_y, e33, e29, e]
      have k4 : ∀ k, k < 10 → v1 94 k = v2 130 k := fun k hk => by
        rw [w4, x0]
        exact flN_cg (fun hh => by rw [hcl _ (by omega)]) (h4 k hk)
      refine ⟨?_, ?_, fun k hk => ?_, fun k hk => ?_, fun k hk => ?_, fun k hk z => ?_⟩
      · rw [e1, e3, e]
        exact sumN_cg _ (fun k hk => by rw [k4 k (by omega)])
      · rw [u3, e2, up_n (by decide), up_n (by decide), e4, up_n (by decide), up_n (by decide), e]
      · rw [u6, e2, up_n (by decide), up_n (by decide), e4, up_n (by decide), up_n (by decide), e28]; exact h2 k hk
      · rw [u5, w5, x9]
        exact flN_cg (fun hh => by rw [hcl _ (by omega)]) (h3 k hk)
      · rw [u4]; exact k4 k hk
      · rw [u4, w4] at z
        rw [u5, w5]
        unfold flN at z ⊢
        split
        · rw [if_pos (by assumption)] at z; exact lo1_lost _ z
        · rw [if_neg (by assumption)] at z; exact h5 k hk z
  · rcases hc.2.2 with ⟨f, e1, e2⟩ | ⟨f, c, e1, e2⟩ | ⟨f, c, c2, e1, e2⟩ | ⟨f, c, c2, e1, e2⟩ <;> rcases hm.2.2 with ⟨g, e3, e4⟩ | ⟨g, d, d2, e3, e4⟩ | ⟨g, d, d2, e3, e4⟩ | ⟨g, d, d2, e3, e4⟩ | ⟨g, d, d2, e3, e4⟩
    all_goals first
      | exact absurd f F
      | exact absurd g F
      | exact ⟨e1.trans e3.symm, by rw [e4, e2]; exact ⟨h1, h2, h3, h4, h5⟩⟩
theorem pT_force {v : Nat → Nat → Int32} {r1 : Int32} {r2 : Int32} (h : rT v) (mi : mI v) (hc : r1 = sumN (fun k => v 96 k * v 95 k) (v 93 0).toInt.toNat) (hm : r2 = sumN (fcM v) (v 106 35).toInt.toNat) : r1 = r2 := by
  obtain ⟨h1, h2, h3, h4, h5⟩ := h
  have b9 := mi.2.2.2.2.2.2.2.2.1
  rw [hc, hm, h1]
  refine sumN_cg _ (fun k hk => ?_)
  unfold fcM
  have hk : k < 10 := by omega
  split
  · rw [h2 k hk, h3 k hk]
  · have := h5 k hk (by rw [h4 k hk]; assumption)
    rw [this]
    simp
theorem flR_in {F old : Nat → Int32} {a b : Int} {k : Nat} (h : a ≤ (k : Int) ∧ (k : Int) < b) : flR F old a b k = F k := by unfold flR; rw [if_pos h]
theorem flR_out {F old : Nat → Int32} {a b : Int} {k : Nat} (h : ¬ (a ≤ (k : Int) ∧ (k : Int) < b)) : flR F old a b k = old k := by unfold flR; rw [if_neg h]
theorem pH_sheet {v : Nat → Nat → Int32} {v1 : Nat → Nat → Int32} {v2 : Nat → Nat → Int32} {w : Nat → Nat → Int64} {r1 : Int32} {r2 : Int32} {p2 : Int32} {p3 : Int32} {A1 : Int} {A2 : Int} {A3 : Int} (a2 : p2.toInt = A2) (h : rH v) (hc : cI v1 ∧ fC 97 106 v w v1 w ∧ ((¬ rF30 A1 A2 A3 ∧ r1 = -1 ∧ v1 = v) ∨ (rF30 A1 A2 A3 ∧ A3 < 0 ∧ r1 = -10 - 4 ∧ v1 = v) ∨ (rF30 A1 A2 A3 ∧ 0 ≤ A3 ∧ r1 = 1 ∧ v1 = va_up (gu (gu v (98 + 2 * A1.toNat) 0 p2) (98 + 2 * A1.toNat) 1 p3) ((98 + 2 * A1.toNat) + 1) (flR (fun _ => 0) (v ((98 + 2 * A1.toNat) + 1)) 0 60)))) (hm : mI v2 ∧ fM 131 134 0 0 v1 w v2 w ∧ ((¬ rF30 A1 A2 A3 ∧ r2 = -1 ∧ v2 = v1) ∨ (rF30 A1 A2 A3 ∧ A3 < 0 ∧ r2 = -14 ∧ v2 = v1) ∨ (rF30 A1 A2 A3 ∧ 0 ≤ A3 ∧ r2 = 1 ∧ v2 = va_up (gu (gu v1 131 A1.toNat p2) 132 A1.toNat p3) 133 (flR (fun _ => 0) (v1 133) (60 * A1) (60 * A1 + 60))))) : r1 = r2 ∧ rH v2 := by
  have e31 : v1 131 = v 131 := hc.2.1.1 131 (by decide)
  have e32 : v1 132 = v 132 := hc.2.1.1 132 (by decide)
  have e33 : v1 133 = v 133 := hc.2.1.1 133 (by decide)
  have u : ∀ k, 98 ≤ k → k < 106 → v2 k = v1 k := fun k q1 q2 => hm.2.1.1 k (by omega) (by omega)
  rcases hc.2.2 with ⟨f, e1, e2⟩ | ⟨f, c, e1, e2⟩ | ⟨f, c, e1, e2⟩ <;> rcases hm.2.2 with ⟨g, e3, e4⟩ | ⟨g, d, e3, e4⟩ | ⟨g, d, e3, e4⟩
  · exact ⟨e1.trans e3.symm, by rw [e4, e2]; exact h⟩
  · exact absurd g f
  · exact absurd g f
  · exact absurd f g
  · exact ⟨by rw [e1, e3]; rfl, by rw [e4, e2]; exact h⟩
  · omega
  · exact absurd f g
  · omega
  · refine ⟨e1.trans e3.symm, fun i hi => ?_⟩
    unfold rF30 at f
    rw [u (98 + 2 * i) (by omega) (by omega), u (98 + 2 * i + 1) (by omega) (by omega)]
    by_cases q : i = A1.toNat
    · subst q
      have x0 : v1 (98 + 2 * A1.toNat) 0 = p2 := by rw [e2, up_n (by omega), gu_n (by omega), gu_y]
      have x1 : v1 (98 + 2 * A1.toNat) 1 = p3 := by rw [e2, up_n (by omega), gu_y]
      have x2 : v1 (98 + 2 * A1.toNat + 1) = flR (fun _ => 0) (v (98 + 2 * A1.toNat + 1)) 0 60 := by rw [e2, up_y]
      have y0 : v2 131 A1.toNat = p2 := by rw [e4, up_n (by omega), gu_n (by omega), gu_y]
      have y1 : v2 132 A1.toNat = p3 := by rw [e4, up_n (by omega), gu_y]
      have y2 : v2 133 = flR (fun _ => 0) (v1 133) (60 * A1) (60 * A1 + 60) := by rw [e4, up_y]
      rw [x0, x1, x2, y0, y1, y2]
      exact ⟨Or.inr ⟨rfl, by omega, by omega⟩, rfl, fun j hj => by rw [flR_in (by omega), flR_in (by omega)]⟩
    · have x0 : v1 (98 + 2 * i) = v (98 + 2 * i) := by rw [e2, up_n (by omega), gu_o (by omega), gu_o (by omega)]
      have x2 : v1 (98 + 2 * i + 1) = v (98 + 2 * i + 1) := by rw [e2, up_n (by omega), gu_o (by omega), gu_o (by omega)]
      have y0 : v2 131 i = v 131 i := by rw [e4, up_n (by omega), gu_n (by omega), gu_n (by omega), e31]
      have y1 : v2 132 i = v 132 i := by rw [e4, up_n (by omega), gu_n (by omega), gu_n (by omega), e32]
      have y2 : v2 133 = flR (fun _ => 0) (v1 133) (60 * A1) (60 * A1 + 60) := by rw [e4, up_y]
      rw [x0, x2, y0, y1, y2]
      exact ⟨(h i hi).1, (h i hi).2.1, fun j hj => by rw [flR_out (by omega), e33]; exact (h i hi).2.2 j hj⟩
theorem pH_lay {v : Nat → Nat → Int32} {v1 : Nat → Nat → Int32} {v2 : Nat → Nat → Int32} {w : Nat → Nat → Int64} {r1 : Int32} {r2 : Int32} {p3 : Int32} {A1 : Int} {A2 : Int} (h : rH v) (mi : mI v) (hc : cI v1 ∧ fC 97 106 v w v1 w ∧ ((¬ (0 ≤ A1 ∧ A1 ≤ 3) ∧ r1 = -1 ∧ v1 = v) ∨ ((0 ≤ A1 ∧ A1 ≤ 3) ∧ (flC (v (98 + 2 * A1.toNat) 0).toInt (v (98 + 2 * A1.toNat) 1).toInt A2 1).toInt ≠ 0 ∧ r1 = -10 - flC (v (98 + 2 * A1.toNat) 0).toInt (v (98 + 2 * A1.toNat) 1).toInt A2 1 ∧ v1 = v) ∨ ((0 ≤ A1 ∧ A1 ≤ 3) ∧ (flC (v (98 + 2 * A1.toNat) 0).toInt (v (98 + 2 * A1.toNat) 1).toInt A2 1).toInt = 0 ∧ r1 = 1 ∧ v1 = gu v ((98 + 2 * A1.toNat) + 1) A2.toNat (cvt (v (98 + 2 * A1.toNat) 0).toInt p3)))) (hm : mI v2 ∧ fM 131 134 0 0 v1 w v2 w ∧ ((¬ (0 ≤ A1 ∧ A1 ≤ 3) ∧ r2 = -1 ∧ v2 = v1) ∨ ((0 ≤ A1 ∧ A1 ≤ 3) ∧ (v1 131 A1.toNat).toInt = -4 ∧ r2 = -11 ∧ v2 = v1) ∨ ((0 ≤ A1 ∧ A1 ≤ 3) ∧ (v1 131 A1.toNat).toInt ≠ -4 ∧ ¬ (0 ≤ A2 ∧ A2 ≤ (v1 132 A1.toNat).toInt - 1) ∧ r2 = -12 ∧ v2 = v1) ∨ ((0 ≤ A1 ∧ A1 ≤ 3) ∧ (v1 131 A1.toNat).toInt ≠ -4 ∧ (0 ≤ A2 ∧ A2 ≤ (v1 132 A1.toNat).toInt - 1) ∧ r2 = 1 ∧ v2 = (gu v1 133 (60 * A1 + A2).toNat (cvt (v1 131 A1.toNat).toInt p3))))) : r1 = r2 ∧ rH v2 := by
  have e31 : v1 131 = v 131 := hc.2.1.1 131 (by decide)
  have e32 : v1 132 = v 132 := hc.2.1.1 132 (by decide)
  have e33 : v1 133 = v 133 := hc.2.1.1 133 (by decide)
  have u : ∀ k, 98 ≤ k → k < 106 → v2 k = v1 k := fun k q1 q2 => hm.2.1.1 k (by omega) (by omega)
  have hsz := mi.2.2.2.2.2.2.2.2.2.2.2.1
  by_cases F : 0 ≤ A1 ∧ A1 ≤ 3
  · obtain ⟨hl, hs, hcl⟩ := h A1.toNat (by omega)
    have hz := hsz A1.toNat (by omega)
    have es : (v (98 + 2 * A1.toNat) 1).toInt = (v 132 A1.toNat).toInt := by rw [hs]
    have key : ((v 131 A1.toNat).toInt = -4 ∧ (v (98 + 2 * A1.toNat) 0).toInt = -1) ∨ ((v 131 A1.toNat).toInt ≠ -4 ∧ (v (98 + 2 * A1.toNat) 0).toInt ≠ -1 ∧ v (98 + 2 * A1.toNat) 0 = v 131 A1.toNat) := by
      rcases hl with ⟨q1, q2⟩ | ⟨q1, q2, q3⟩
      · exact Or.inl ⟨q2, q1⟩
      · exact Or.inr ⟨by omega, by rw [q1]; omega, q1⟩
    rcases hc.2.2 with ⟨f, e1, e2⟩ | ⟨f, c, e1, e2⟩ | ⟨f, c, e1, e2⟩ <;> rcases hm.2.2 with ⟨g, e3, e4⟩ | ⟨g, d, e3, e4⟩ | ⟨g, d, d2, e3, e4⟩ | ⟨g, d, d2, e3, e4⟩
    all_goals first
      | exact absurd F f
      | exact absurd F g
      | skip
    all_goals rw [e31] at d
    · rcases key with ⟨q1, q2⟩ | ⟨q1, q2, q3⟩
      · exact ⟨by rw [e1, e3, q2, flC_n]; rfl, by rw [e4, e2]; exact h⟩
      · exact absurd d q1
    · rcases key with ⟨q1, q2⟩ | ⟨q1, q2, q3⟩
      · exact absurd q1 d
      · have hv := flC_val (sz := (v (98 + 2 * A1.toNat) 1).toInt) (a := A2) (n := 1) q2
        exact ⟨by rw [e1, e3, hv.2 (fun r => c (hv.1.mpr r))]; rfl, by rw [e4, e2]; exact h⟩
    · rcases key with ⟨q1, q2⟩ | ⟨q1, q2, q3⟩
      · exact absurd q1 d
      · have hv := flC_val (sz := (v (98 + 2 * A1.toNat) 1).toInt) (a := A2) (n := 1) q2
        rw [e32] at d2
        exact absurd (hv.1.mpr (by omega)) c
    · rcases key with ⟨q1, q2⟩ | ⟨q1, q2, q3⟩
      · rw [q2, flC_n] at c; exact absurd c (by decide)
      · exact absurd d q1
    · rcases key with ⟨q1, q2⟩ | ⟨q1, q2, q3⟩
      · exact absurd q1 d
      · have hv := flC_val (sz := (v (98 + 2 * A1.toNat) 1).toInt) (a := A2) (n := 1) q2
        have := hv.1.mp c
        rw [e32] at d2
        omega
    · rcases key with ⟨q1, q2⟩ | ⟨q1, q2, q3⟩
      · exact absurd q1 d
      · refine ⟨e1.trans e3.symm, fun i hi => ?_⟩
        rw [e32] at d2
        have x0 : v1 (98 + 2 * i) = v (98 + 2 * i) := by rw [e2, gu_o (by omega)]
        have y0 : v2 131 = v 131 := by rw [e4, gu_o (by omega), e31]
        have y1 : v2 132 = v 132 := by rw [e4, gu_o (by omega), e32]
        rw [u (98 + 2 * i) (by omega) (by omega), u (98 + 2 * i + 1) (by omega) (by omega), x0, y0, y1]
        refine ⟨(h i hi).1, (h i hi).2.1, fun j hj => ?_⟩
        rw [e2, e4, q3, e31]
        by_cases q : i = A1.toNat ∧ j = A2.toNat
        · rw [gu_y2 (by omega), gu_y2 (by omega)]
        · rw [gu_n (by omega), gu_n (by omega), e33]; exact (h i hi).2.2 j hj
  · rcases hc.2.2 with ⟨f, e1, e2⟩ | ⟨f, c, e1, e2⟩ | ⟨f, c, e1, e2⟩ <;> rcases hm.2.2 with ⟨g, e3, e4⟩ | ⟨g, d, e3, e4⟩ | ⟨g, d, d2, e3, e4⟩ | ⟨g, d, d2, e3, e4⟩
    all_goals first
      | exact absurd f F
      | exact absurd g F
      | exact ⟨e1.trans e3.symm, by rw [e4, e2]; exact h⟩
theorem rB_back {v v1 v2 : Nat → Nat → Int32} {w w1 w2 : Nat → Nat → Int64} (h : rB v) (f : fC 1 18 v w v1 w1 ∧ fBk v v1) (b : fM 109 112 5 7 v1 w1 v2 w2) : rB v2 := by
  refine ⟨fun i j hi hj => ?_, fun i j hi hj => ?_, fun i j hi hj => ?_⟩
  · rw [b.1 (3 + i) (by omega) (by omega), f.2 (3 + i) (by omega) (by omega), b.1 107 (by omega) (by omega), f.1.1 107 (by omega)]; exact h.1 i j hi hj
  · rw [b.1 (7 + i) (by omega) (by omega), f.2 (7 + i) (by omega) (by omega), b.1 108 (by omega) (by omega), f.1.1 108 (by omega)]; exact h.2.1 i j hi hj
  · rw [b.1 (7 + i) (by omega) (by omega), f.2 (7 + i) (by omega) (by omega)]; exact h.2.2 i j hi hj

set_option maxHeartbeats 1000000 in
theorem pr_first  {v : Nat → Nat → Int32} {v1 : Nat → Nat → Int32} {v2 : Nat → Nat → Int32} {w : Nat → Nat → Int64} {r1 : Int32} {r2 : Int32} {p1 : Int32} {A1 : Int} (a1 : p1.toInt = A1) {p2 : Int32} {A2 : Int} (a2 : p2.toInt = A2) {p3 : Int32} {A3 : Int} (a3 : p3.toInt = A3) (rl : Rl v) (ci : cI v) (mi : mI v) (hc : cI v1 ∧ fC 2 6 v w v1 w ∧ ((r1 = 1 ∧ rF1 A1 A2 A3 ∧ v1 = (gu v (3 + A1.toNat) A2.toNat p3)) ∨ (r1 = -1 ∧ ¬ rF1 A1 A2 A3 ∧ v1 = v))) (hm : mI v2 ∧ fM 107 108 0 0 v1 w v2 w ∧ ((r2 = 1 ∧ rF1 A1 A2 A3 ∧ v2 = (gu v1 107 (3 * A1 + A2).toNat p3)) ∨ (r2 = -1 ∧ ¬ rF1 A1 A2 A3 ∧ v2 = v1))) : r1 = r2 ∧ Rl v2 := by
  have F : fr2 2 6 107 108 0 0 v v2 := fr2_of (w := w) (w1 := w) (w1' := w) (w2 := w) hc.2.1 hm.2.1 (by decide)
  obtain ⟨hB, hK, hP, hT, hH⟩ := id rl
  exact ⟨(pB_first hB hc hm).1, (pB_first hB hc hm).2, (rK_fr hK F (by decide) (by decide)), (rP_fr hP F (by decide) (by decide)), (rT_fr hT F (by decide) (by decide)), (rH_fr hH F (by decide) (by decide))⟩

set_option maxHeartbeats 1000000 in
theorem pr_second  {v : Nat → Nat → Int32} {v1 : Nat → Nat → Int32} {v2 : Nat → Nat → Int32} {w : Nat → Nat → Int64} {r1 : Int32} {r2 : Int32} {p1 : Int32} {A1 : Int} (a1 : p1.toInt = A1) {p2 : Int32} {A2 : Int} (a2 : p2.toInt = A2) {p3 : Int32} {A3 : Int} (a3 : p3.toInt = A3) (rl : Rl v) (ci : cI v) (mi : mI v) (hc : cI v1 ∧ fC 6 10 v w v1 w ∧ ((r1 = 1 ∧ rF2 A1 A2 A3 ∧ v1 = (gu v (7 + A1.toNat) A2.toNat p3)) ∨ (r1 = -1 ∧ ¬ rF2 A1 A2 A3 ∧ v1 = v))) (hm : mI v2 ∧ fM 108 109 0 0 v1 w v2 w ∧ ((r2 = 1 ∧ rF2 A1 A2 A3 ∧ v2 = (gu v1 108 (6 * A1 + A2).toNat p3)) ∨ (r2 = -1 ∧ ¬ rF2 A1 A2 A3 ∧ v2 = v1))) : r1 = r2 ∧ Rl v2 := by
  have F : fr2 6 10 108 109 0 0 v v2 := fr2_of (w := w) (w1 := w) (w1' := w) (w2 := w) hc.2.1 hm.2.1 (by decide)
  obtain ⟨hB, hK, hP, hT, hH⟩ := id rl
  exact ⟨(pB_second a3 hB hc hm).1, (pB_second a3 hB hc hm).2, (rK_fr hK F (by decide) (by decide)), (rP_fr hP F (by decide) (by decide)), (rT_fr hT F (by decide) (by decide)), (rH_fr hH F (by decide) (by decide))⟩

set_option maxHeartbeats 1000000 in
theorem pr_reading  {v : Nat → Nat → Int32} {r1 : Int32} {r2 : Int32} {p1 : Int32} {A1 : Int} (a1 : p1.toInt = A1) {p2 : Int32} {A2 : Int} (a2 : p2.toInt = A2) {p3 : Int32} {A3 : Int} (a3 : p3.toInt = A3) {p4 : Int32} {A4 : Int} (a4 : p4.toInt = A4) (rl : Rl v) (ci : cI v) (mi : mI v) (hc : (rF4 A1 A2 A3 A4 ∧ r1 = rd9 (v (3 + A1.toNat)) (v (7 + A1.toNat)) p2 p3 p4) ∨ (¬ rF4 A1 A2 A3 A4 ∧ r1 = 9999999)) (hm : (rF4 A1 A2 A3 A4 ∧ r2 = rd9 (fun j => v 107 (3 * A1.toNat + j)) (fun j => v 108 (6 * A1.toNat + j)) p2 p3 p4) ∨ (¬ rF4 A1 A2 A3 A4 ∧ r2 = 9999999)) : r1 = r2 ∧ Rl v := by
  obtain ⟨hB, hK, hP, hT, hH⟩ := id rl
  exact ⟨(pB_reading hB hc hm), hB, hK, hP, hT, hH⟩

set_option maxHeartbeats 1000000 in
theorem pr_back  {v : Nat → Nat → Int32} {v1 : Nat → Nat → Int32} {v2 : Nat → Nat → Int32} {w : Nat → Nat → Int64} {w1 : Nat → Nat → Int64} {w2 : Nat → Nat → Int64} (rl : Rl v) (ci : cI v) (mi : mI v) (hc : cI v1 ∧ fC 1 18 v w v1 w1 ∧ fBk v v1) (hm : mI v2 ∧ fM 109 112 5 7 v1 w1 v2 w2) : Rl v2 := by
  have F : fr2 1 18 109 112 5 7 v v2 := fr2_of (w := w) (w1 := w1) (w1' := w1) (w2 := w2) hc.2.1 hm.2 (by decide)
  obtain ⟨hB, hK, hP, hT, hH⟩ := id rl
  exact ⟨(rB_back hB hc.2 hm.2), (rK_fr hK F (by decide) (by decide)), (rP_fr hP F (by decide) (by decide)), (rT_fr hT F (by decide) (by decide)), (rH_fr hH F (by decide) (by decide))⟩

set_option maxHeartbeats 1000000 in
theorem pr_found  {v : Nat → Nat → Int32} (rl : Rl v) (ci : cI v) (mi : mI v) (hc : True) (hm : True) : Rl v := by
  obtain ⟨hB, hK, hP, hT, hH⟩ := id rl
  exact ⟨hB, hK, hP, hT, hH⟩

set_option maxHeartbeats 1000000 in
theorem pr_point  {v : Nat → Nat → Int32} {v1 : Nat → Nat → Int32} {v2 : Nat → Nat → Int32} {w : Nat → Nat → Int64} {r1 : Int32} {r2 : Int32} {p1 : Int32} {A1 : Int} (a1 : p1.toInt = A1) {p2 : Int32} {A2 : Int} (a2 : p2.toInt = A2) {p3 : Int32} {A3 : Int} (a3 : p3.toInt = A3) {p4 : Int32} {A4 : Int} (a4 : p4.toInt = A4) {p5 : Int32} {A5 : Int} (a5 : p5.toInt = A5) {p6 : Int32} {A6 : Int} (a6 : p6.toInt = A6) (rl : Rl v) (ci : cI v) (mi : mI v) (hc : cI v1 ∧ fC 18 51 v w v1 w ∧ ((¬ rF7 A1 A2 A3 A4 A5 A6 ∧ r1 = -1 ∧ v1 = v) ∨ (rF7 A1 A2 A3 A4 A5 A6 ∧ 12 ≤ (v 18 2).toInt ∧ r1 = -3 ∧ v1 = v) ∨ (rF7 A1 A2 A3 A4 A5 A6 ∧ (v 18 2).toInt < 12 ∧ r1 = v 18 2 + 1 ∧ v1 = (gu (gu (gu (gu (gu (gu (gu v (20 + (v 18 2).toInt.toNat) 0 p1) (20 + (v 18 2).toInt.toNat) 1 p2) (20 + (v 18 2).toInt.toNat) 2 p3) (33 + (v 18 2).toInt.toNat) 0 p4) (33 + (v 18 2).toInt.toNat) 1 p5) (33 + (v 18 2).toInt.toNat) 2 p6) 18 2 (v 18 2 + 1))))) (hm : mI v2 ∧ fM 112 114 7 8 v1 w v2 w ∧ ((¬ rF7 A1 A2 A3 A4 A5 A6 ∧ r2 = -1 ∧ v2 = v1) ∨ (rF7 A1 A2 A3 A4 A5 A6 ∧ 12 ≤ (v1 106 7).toInt ∧ r2 = -3 ∧ v2 = v1) ∨ (rF7 A1 A2 A3 A4 A5 A6 ∧ (v1 106 7).toInt < 12 ∧ r2 = v1 106 7 + 1 ∧ v2 = (gu (gu (gu (gu (gu (gu (gu v1 112 (3 * (v1 106 7).toInt).toNat p1) 112 (3 * (v1 106 7).toInt + 1).toNat p2) 112 (3 * (v1 106 7).toInt + 2).toNat p3) 113 (3 * (v1 106 7).toInt).toNat p4) 113 (3 * (v1 106 7).toInt + 1).toNat p5) 113 (3 * (v1 106 7).toInt + 2).toNat p6) 106 7 (v1 106 7 + 1))))) : r1 = r2 ∧ Rl v2 := by
  have F : fr2 18 51 112 114 7 8 v v2 := fr2_of (w := w) (w1 := w) (w1' := w) (w2 := w) hc.2.1 hm.2.1 (by decide)
  obtain ⟨hB, hK, hP, hT, hH⟩ := id rl
  exact ⟨(pK_point a1 a2 a3 a4 a5 a6 hK mi hc hm).1, (rB_fr hB F (by decide) (by decide)), (pK_point a1 a2 a3 a4 a5 a6 hK mi hc hm).2, (rP_fr hP F (by decide) (by decide)), (rT_fr hT F (by decide) (by decide)), (rH_fr hH F (by decide) (by decide))⟩

set_option maxHeartbeats 1000000 in
theorem pr_fit  {v : Nat → Nat → Int32} {w : Nat → Nat → Int64} {w1 : Nat → Nat → Int64} {w2 : Nat → Nat → Int64} (rl : Rl v) (ci : cI v) (mi : mI v) (hc : cI v ∧ fC 18 51 v w v w1) (hm : mI v ∧ fM 109 111 0 0 v w1 v w2) : Rl v := by
  have F : fr2 18 51 109 111 0 0 v v := fr2_of (w := w) (w1 := w1) (w1' := w1) (w2 := w2) hc.2 hm.2 (by decide)
  obtain ⟨hB, hK, hP, hT, hH⟩ := id rl
  exact ⟨hB, hK, hP, hT, hH⟩

set_option maxHeartbeats 1000000 in
theorem pr_miss  {v : Nat → Nat → Int32} {r1 : Int32} {r2 : Int32} {p1 : Int32} {A1 : Int} (a1 : p1.toInt = A1) (rl : Rl v) (ci : cI v) (mi : mI v) (hc : ((¬ (0 ≤ A1 ∧ A1 ≤ 2) ∧ r1 = -1) ∨ ((0 ≤ A1 ∧ A1 ≤ 2) ∧ (v 18 2).toInt = 0 ∧ r1 = -4) ∨ ((0 ≤ A1 ∧ A1 ≤ 2) ∧ (v 18 2).toInt ≠ 0 ∧ r1 = msC v A1.toNat (v 18 2).toInt.toNat))) (hm : ((¬ (0 ≤ A1 ∧ A1 ≤ 2) ∧ r2 = -1) ∨ ((0 ≤ A1 ∧ A1 ≤ 2) ∧ r2 = msM v A1.toNat (v 106 7).toInt.toNat))) : r1 = r2 ∧ Rl v := by
  obtain ⟨hB, hK, hP, hT, hH⟩ := id rl
  exact ⟨(pK_miss hB hK ci mi hc hm), hB, hK, hP, hT, hH⟩

set_option maxHeartbeats 1000000 in
theorem pr_forget  {v : Nat → Nat → Int32} {v1 : Nat → Nat → Int32} {v2 : Nat → Nat → Int32} {w : Nat → Nat → Int64} {r1 : Int32} {r2 : Int32} (rl : Rl v) (ci : cI v) (mi : mI v) (hc : cI v1 ∧ fC 18 51 v w v1 w ∧ r1 = v 18 2 ∧ v1 = gu v 18 2 0) (hm : mI v2 ∧ fM 112 114 7 8 v1 w v2 w ∧ r2 = v1 106 7 ∧ v2 = gu v1 106 7 0) : r1 = r2 ∧ Rl v2 := by
  have F : fr2 18 51 112 114 7 8 v v2 := fr2_of (w := w) (w1 := w) (w1' := w) (w2 := w) hc.2.1 hm.2.1 (by decide)
  obtain ⟨hB, hK, hP, hT, hH⟩ := id rl
  exact ⟨(pK_forget hK hc hm).1, (rB_fr hB F (by decide) (by decide)), (pK_forget hK hc hm).2, (rP_fr hP F (by decide) (by decide)), (rT_fr hT F (by decide) (by decide)), (rH_fr hH F (by decide) (by decide))⟩

set_option maxHeartbeats 1000000 in
theorem pr_correct  {v : Nat → Nat → Int32} {v1 : Nat → Nat → Int32} {v2 : Nat → Nat → Int32} {w : Nat → Nat → Int64} (rl : Rl v) (ci : cI v) (mi : mI v) (hc : cI v1 ∧ fC 51 66 v w v1 w) (hm : mI v2 ∧ fM 114 123 10 19 v1 w v2 w) : Rl v2 := by
  have F : fr2 51 66 114 123 10 19 v v2 := fr2_of (w := w) (w1 := w) (w1' := w) (w2 := w) hc.2 hm.2 (by decide)
  obtain ⟨hB, hK, hP, hT, hH⟩ := id rl
  exact ⟨(rB_fr hB F (by decide) (by decide)), (rK_fr hK F (by decide) (by decide)), (rP_fr hP F (by decide) (by decide)), (rT_fr hT F (by decide) (by decide)), (rH_fr hH F (by decide) (by decide))⟩

set_option maxHeartbeats 1000000 in
theorem pr_turn  {v : Nat → Nat → Int32} {v1 : Nat → Nat → Int32} {v2 : Nat → Nat → Int32} {w : Nat → Nat → Int64} (rl : Rl v) (ci : cI v) (mi : mI v) (hc : cI v1 ∧ fC 51 66 v w v1 w) (hm : mI v2 ∧ fM 114 123 10 19 v1 w v2 w) : Rl v2 := by
  have F : fr2 51 66 114 123 10 19 v v2 := fr2_of (w := w) (w1 := w) (w1' := w) (w2 := w) hc.2 hm.2 (by decide)
  obtain ⟨hB, hK, hP, hT, hH⟩ := id rl
  exact ⟨(rB_fr hB F (by decide) (by decide)), (rK_fr hK F (by decide) (by decide)), (rP_fr hP F (by decide) (by decide)), (rT_fr hT F (by decide) (by decide)), (rH_fr hH F (by decide) (by decide))⟩

set_option maxHeartbeats 1000000 in
theorem pr_swap  {v : Nat → Nat → Int32} {v2 : Nat → Nat → Int32} {w : Nat → Nat → Int64} {sg1 : Nat → Nat} (rl : Rl v) (ci : cI v) (mi : mI v) (hc : cI v ∧ fC 51 66 v w v w ∧ cG sg1) (hm : mI v2 ∧ fM 114 123 10 19 v w v2 w) : Rl v2 := by
  have F : fr2 51 66 114 123 10 19 v v2 := fr2_of (w := w) (w1 := w) (w1' := w) (w2 := w) hc.2.1 hm.2 (by decide)
  obtain ⟨hB, hK, hP, hT, hH⟩ := id rl
  exact ⟨(rB_fr hB F (by decide) (by decide)), (rK_fr hK F (by decide) (by decide)), (rP_fr hP F (by decide) (by decide)), (rT_fr hT F (by decide) (by decide)), (rH_fr hH F (by decide) (by decide))⟩

set_option maxHeartbeats 1000000 in
theorem pr_drop  {v : Nat → Nat → Int32} {v1 : Nat → Nat → Int32} {v2 : Nat → Nat → Int32} {w : Nat → Nat → Int64} (rl : Rl v) (ci : cI v) (mi : mI v) (hc : cI v1 ∧ fC 51 66 v w v1 w) (hm : mI v2 ∧ fM 114 123 10 19 v1 w v2 w) : Rl v2 := by
  have F : fr2 51 66 114 123 10 19 v v2 := fr2_of (w := w) (w1 := w) (w1' := w) (w2 := w) hc.2 hm.2 (by decide)
  obtain ⟨hB, hK, hP, hT, hH⟩ := id rl
  exact ⟨(rB_fr hB F (by decide) (by decide)), (rK_fr hK F (by decide) (by decide)), (rP_fr hP F (by decide) (by decide)), (rT_fr hT F (by decide) (by decide)), (rH_fr hH F (by decide) (by decide))⟩

set_option maxHeartbeats 1000000 in
theorem pr_raw  {v : Nat → Nat → Int32} {v1 : Nat → Nat → Int32} {v2 : Nat → Nat → Int32} {w : Nat → Nat → Int64} {r1 : Int32} {r2 : Int32} {p1 : Int32} {A1 : Int} (a1 : p1.toInt = A1) {p2 : Int32} {A2 : Int} (a2 : p2.toInt = A2) {p3 : Int32} {A3 : Int} (a3 : p3.toInt = A3) {p4 : Int32} {A4 : Int} (a4 : p4.toInt = A4) {p5 : Int32} {A5 : Int} (a5 : p5.toInt = A5) (rl : Rl v) (ci : cI v) (mi : mI v) (hc : cI v1 ∧ fC 51 66 v w v1 w ∧ ((r1 = 1 ∧ rF15 A1 A2 A3 A4 A5) ∨ (r1 = -1 ∧ ¬ rF15 A1 A2 A3 A4 A5))) (hm : mI v2 ∧ fM 114 123 10 19 v1 w v2 w ∧ ((r2 = 1 ∧ rF15 A1 A2 A3 A4 A5) ∨ (r2 = -1 ∧ ¬ rF15 A1 A2 A3 A4 A5))) : r1 = r2 ∧ Rl v2 := by
  have F : fr2 51 66 114 123 10 19 v v2 := fr2_of (w := w) (w1 := w) (w1' := w) (w2 := w) hc.2.1 hm.2.1 (by decide)
  obtain ⟨hB, hK, hP, hT, hH⟩ := id rl
  exact ⟨(rF_eq hc.2.2 hm.2.2), (rB_fr hB F (by decide) (by decide)), (rK_fr hK F (by decide) (by decide)), (rP_fr hP F (by decide) (by decide)), (rT_fr hT F (by decide) (by decide)), (rH_fr hH F (by decide) (by decide))⟩

set_option maxHeartbeats 1000000 in
theorem pr_corrected  {v : Nat → Nat → Int32} {w : Nat → Nat → Int64} {w1 : Nat → Nat → Int64} {w2 : Nat → Nat → Int64} (rl : Rl v) (ci : cI v) (mi : mI v) (hc : cI v ∧ fC 51 66 v w v w1) (hm : mI v ∧ fM 114 123 10 19 v w1 v w2) : Rl v := by
  have F : fr2 51 66 114 123 10 19 v v := fr2_of (w := w) (w1 := w1) (w1' := w1) (w2 := w2) hc.2 hm.2 (by decide)
  obtain ⟨hB, hK, hP, hT, hH⟩ := id rl
  exact ⟨hB, hK, hP, hT, hH⟩

set_option maxHeartbeats 1000000 in
theorem pr_touches  {v : Nat → Nat → Int32} {v2 : Nat → Nat → Int32} {w : Nat → Nat → Int64} {w1 : Nat → Nat → Int64} {w2 : Nat → Nat → Int64} (rl : Rl v) (ci : cI v) (mi : mI v) (hc : cI v ∧ fC 51 66 v w v w1) (hm : mI v2 ∧ fM 114 123 10 19 v w1 v2 w2) : Rl v2 := by
  have F : fr2 51 66 114 123 10 19 v v2 := fr2_of (w := w) (w1 := w1) (w1' := w1) (w2 := w2) hc.2 hm.2 (by decide)
  obtain ⟨hB, hK, hP, hT, hH⟩ := id rl
  exact ⟨(rB_fr hB F (by decide) (by decide)), (rK_fr hK F (by decide) (by decide)), (rP_fr hP F (by decide) (by decide)), (rT_fr hT F (by decide) (by decide)), (rH_fr hH F (by decide) (by decide))⟩

set_option maxHeartbeats 1000000 in
theorem pr_minds  {v : Nat → Nat → Int32} {v2 : Nat → Nat → Int32} {w : Nat → Nat → Int64} {w1 : Nat → Nat → Int64} {w2 : Nat → Nat → Int64} (rl : Rl v) (ci : cI v) (mi : mI v) (hc : cI v ∧ fC 51 66 v w v w1) (hm : mI v2 ∧ fM 114 123 10 19 v w1 v2 w2) : Rl v2 := by
  have F : fr2 51 66 114 123 10 19 v v2 := fr2_of (w := w) (w1 := w1) (w1' := w1) (w2 := w2) hc.2 hm.2 (by decide)
  obtain ⟨hB, hK, hP, hT, hH⟩ := id rl
  exact ⟨(rB_fr hB F (by decide) (by decide)), (rK_fr hK F (by decide) (by decide)), (rP_fr hP F (by decide) (by decide)), (rT_fr hT F (by decide) (by decide)), (rH_fr hH F (by decide) (by decide))⟩

set_option maxHeartbeats 1000000 in
theorem pr_place  {v : Nat → Nat → Int32} {v1 : Nat → Nat → Int32} {v2 : Nat → Nat → Int32} {w : Nat → Nat → Int64} {r1 : Int32} {r2 : Int32} {p1 : Int32} {A1 : Int} (a1 : p1.toInt = A1) {p2 : Int32} {A2 : Int} (a2 : p2.toInt = A2) (rl : Rl v) (ci : cI v) (mi : mI v) (hc : cI v1 ∧ fC 66 83 v w v1 w ∧ ((¬ rF19 A1 A2 ∧ r1 = -1 ∧ v1 = v) ∨ (rF19 A1 A2 ∧ 9 ≤ (v 66 0).toInt ∧ r1 = -3 ∧ v1 = v) ∨ (rF19 A1 A2 ∧ (v 66 0).toInt < 9 ∧ r1 = v 66 0 ∧ fP4 (gu (gu (gu (gu (gu v 80 (v 66 0).toInt.toNat p1) 81 (v 66 0).toInt.toNat p2) 67 (v 66 0).toInt.toNat (vp_nar .boolean 0)) 66 0 (v 66 0 + 1)) 66 3 0) v1))) (hm : mI v2 ∧ fM 123 126 22 23 v1 w v2 w ∧ ((¬ rF19 A1 A2 ∧ r2 = -1 ∧ v2 = v1) ∨ (rF19 A1 A2 ∧ (v1 106 22).toInt = 9 ∧ r2 = -3 ∧ v2 = v1) ∨ (rF19 A1 A2 ∧ (v1 106 22).toInt < 9 ∧ r2 = v1 106 22 + 1 - 1 ∧ v2 = (gu (gu (gu (gu v1 123 (v1 106 22).toInt.toNat p1) 124 (v1 106 22).toInt.toNat p2) 125 (v1 106 22).toInt.toNat (vp_nar .boolean 0)) 106 22 (v1 106 22 + 1))))) : r1 = r2 ∧ Rl v2 := by
  have F : fr2 66 83 123 126 22 23 v v2 := fr2_of (w := w) (w1 := w) (w1' := w) (w2 := w) hc.2.1 hm.2.1 (by decide)
  obtain ⟨hB, hK, hP, hT, hH⟩ := id rl
  exact ⟨(pP_place hP mi hc hm).1, (rB_fr hB F (by decide) (by decide)), (rK_fr hK F (by decide) (by decide)), (pP_place hP mi hc hm).2, (rT_fr hT F (by decide) (by decide)), (rH_fr hH F (by decide) (by decide))⟩

set_option maxHeartbeats 1000000 in
theorem pr_done  {v : Nat → Nat → Int32} {v1 : Nat → Nat → Int32} {v2 : Nat → Nat → Int32} {w : Nat → Nat → Int64} {r1 : Int32} {r2 : Int32} {p1 : Int32} {A1 : Int} (a1 : p1.toInt = A1) {p2 : Int32} {A2 : Int} (a2 : p2.toInt = A2) (bz : A2 = 0 ∨ A2 = 1) (rl : Rl v) (ci : cI v) (mi : mI v) (hc : cI v1 ∧ fC 66 83 v w v1 w ∧ ((¬ (0 ≤ A1 ∧ A1 < (v 66 0).toInt) ∧ r1 = -1 ∧ v1 = v) ∨ (0 ≤ A1 ∧ A1 < (v 66 0).toInt ∧ r1 = lo1 (v 67 A1.toNat) ∧ v1 = (gu (gu v 67 A1.toNat (vp_nar .boolean p2)) 66 3 (plD (v 66 3).toInt (v 67 A1.toNat).toInt A2))))) (hm : mI v2 ∧ fM 123 126 22 23 v1 w v2 w ∧ ((¬ (0 ≤ A1 ∧ A1 < (v1 106 22).toInt) ∧ r2 = -1 ∧ v2 = v1) ∨ (0 ≤ A1 ∧ A1 < (v1 106 22).toInt ∧ r2 = lo1 (v1 125 A1.toNat) ∧ v2 = (gu v1 125 A1.toNat (vp_nar .boolean p2))))) : r1 = r2 ∧ Rl v2 := by
  have F : fr2 66 83 123 126 22 23 v v2 := fr2_of (w := w) (w1 := w) (w1' := w) (w2 := w) hc.2.1 hm.2.1 (by decide)
  obtain ⟨hB, hK, hP, hT, hH⟩ := id rl
  exact ⟨(pP_done hP mi hc hm).1, (rB_fr hB F (by decide) (by decide)), (rK_fr hK F (by decide) (by decide)), (pP_done hP mi hc hm).2, (rT_fr hT F (by decide) (by decide)), (rH_fr hH F (by decide) (by decide))⟩

set_option maxHeartbeats 1000000 in
theorem pr_moves  {v : Nat → Nat → Int32} (rl : Rl v) (ci : cI v) (mi : mI v) (hc : True) (hm : True) : Rl v := by
  obtain ⟨hB, hK, hP, hT, hH⟩ := id rl
  exact ⟨hB, hK, hP, hT, hH⟩

set_option maxHeartbeats 1000000 in
theorem pr_least  {v : Nat → Nat → Int32} {v1 : Nat → Nat → Int32} {v2 : Nat → Nat → Int32} {w : Nat → Nat → Int64} (rl : Rl v) (ci : cI v) (mi : mI v) (hc : cI v1 ∧ fC 66 83 v w v1 w ∧ fPl v v1) (hm : mI v2 ∧ fM 126 127 0 0 v1 w v2 w) : Rl v2 := by
  have F : fr2 66 83 126 127 0 0 v v2 := fr2_of (w := w) (w1 := w) (w1' := w) (w2 := w) hc.2.1 hm.2 (by decide)
  obtain ⟨hB, hK, hP, hT, hH⟩ := id rl
  exact ⟨(rB_fr hB F (by decide) (by decide)), (rK_fr hK F (by decide) (by decide)), (pP_plan hP hc.2.1 hc.2.2 hm.2), (rT_fr hT F (by decide) (by decide)), (rH_fr hH F (by decide) (by decide))⟩

set_option maxHeartbeats 1000000 in
theorem pr_order  {v : Nat → Nat → Int32} {v1 : Nat → Nat → Int32} {v2 : Nat → Nat → Int32} {w : Nat → Nat → Int64} (rl : Rl v) (ci : cI v) (mi : mI v) (hc : cI v1 ∧ fC 66 83 v w v1 w ∧ fPl v v1) (hm : mI v2 ∧ fM 126 127 0 0 v1 w v2 w) : Rl v2 := by
  have F : fr2 66 83 126 127 0 0 v v2 := fr2_of (w := w) (w1 := w) (w1' := w) (w2 := w) hc.2.1 hm.2 (by decide)
  obtain ⟨hB, hK, hP, hT, hH⟩ := id rl
  exact ⟨(rB_fr hB F (by decide) (by decide)), (rK_fr hK F (by decide) (by decide)), (pP_plan hP hc.2.1 hc.2.2 hm.2), (rT_fr hT F (by decide) (by decide)), (rH_fr hH F (by decide) (by decide))⟩

set_option maxHeartbeats 1000000 in
theorem pr_rule  {v : Nat → Nat → Int32} {v1 : Nat → Nat → Int32} {v2 : Nat → Nat → Int32} {w : Nat → Nat → Int64} {r1 : Int32} {r2 : Int32} {p1 : Int32} {A1 : Int} (a1 : p1.toInt = A1) {p2 : Int32} {A2 : Int} (a2 : p2.toInt = A2) {p3 : Int32} {A3 : Int} (a3 : p3.toInt = A3) {p4 : Int32} {A4 : Int} (a4 : p4.toInt = A4) (rl : Rl v) (ci : cI v) (mi : mI v) (hc : cI v1 ∧ fC 83 93 v w v1 w ∧ ((r1 = 1 ∧ rF24 A1 A2 A3 A4) ∨ (r1 = -1 ∧ ¬ rF24 A1 A2 A3 A4))) (hm : mI v2 ∧ fM 127 128 27 34 v1 w v2 w ∧ ((r2 = 1 ∧ rF24 A1 A2 A3 A4) ∨ (r2 = -1 ∧ ¬ rF24 A1 A2 A3 A4))) : r1 = r2 ∧ Rl v2 := by
  have F : fr2 83 93 127 128 27 34 v v2 := fr2_of (w := w) (w1 := w) (w1' := w) (w2 := w) hc.2.1 hm.2.1 (by decide)
  obtain ⟨hB, hK, hP, hT, hH⟩ := id rl
  exact ⟨(rF_eq hc.2.2 hm.2.2), (rB_fr hB F (by decide) (by decide)), (rK_fr hK F (by decide) (by decide)), (rP_fr hP F (by decide) (by decide)), (rT_fr hT F (by decide) (by decide)), (rH_fr hH F (by decide) (by decide))⟩

set_option maxHeartbeats 1000000 in
theorem pr_come  {v : Nat → Nat → Int32} {v1 : Nat → Nat → Int32} {v2 : Nat → Nat → Int32} {w : Nat → Nat → Int64} (rl : Rl v) (ci : cI v) (mi : mI v) (hc : cI v1 ∧ fC 83 93 v w v1 w) (hm : mI v2 ∧ fM 127 128 27 34 v1 w v2 w) : Rl v2 := by
  have F : fr2 83 93 127 128 27 34 v v2 := fr2_of (w := w) (w1 := w) (w1' := w) (w2 := w) hc.2 hm.2 (by decide)
  obtain ⟨hB, hK, hP, hT, hH⟩ := id rl
  exact ⟨(rB_fr hB F (by decide) (by decide)), (rK_fr hK F (by decide) (by decide)), (rP_fr hP F (by decide) (by decide)), (rT_fr hT F (by decide) (by decide)), (rH_fr hH F (by decide) (by decide))⟩

set_option maxHeartbeats 1000000 in
theorem pr_settled  {v : Nat → Nat → Int32} (rl : Rl v) (ci : cI v) (mi : mI v) (hc : True) (hm : True) : Rl v := by
  obtain ⟨hB, hK, hP, hT, hH⟩ := id rl
  exact ⟨hB, hK, hP, hT, hH⟩

set_option maxHeartbeats 1000000 in
theorem pr_anew  {v : Nat → Nat → Int32} {v1 : Nat → Nat → Int32} {v2 : Nat → Nat → Int32} {w : Nat → Nat → Int64} (rl : Rl v) (ci : cI v) (mi : mI v) (hc : cI v1 ∧ fC 83 93 v w v1 w) (hm : mI v2 ∧ fM 127 128 27 34 v1 w v2 w) : Rl v2 := by
  have F : fr2 83 93 127 128 27 34 v v2 := fr2_of (w := w) (w1 := w) (w1' := w) (w2 := w) hc.2 hm.2 (by decide)
  obtain ⟨hB, hK, hP, hT, hH⟩ := id rl
  exact ⟨(rB_fr hB F (by decide) (by decide)), (rK_fr hK F (by decide) (by decide)), (rP_fr hP F (by decide) (by decide)), (rT_fr hT F (by decide) (by decide)), (rH_fr hH F (by decide) (by decide))⟩

set_option maxHeartbeats 1000000 in
theorem pr_tube  {v : Nat → Nat → Int32} {v1 : Nat → Nat → Int32} {v2 : Nat → Nat → Int32} {w : Nat → Nat → Int64} {r1 : Int32} {r2 : Int32} {p1 : Int32} {A1 : Int} (a1 : p1.toInt = A1) (rl : Rl v) (ci : cI v) (mi : mI v) (hc : cI v1 ∧ fC 93 97 v w v1 w ∧ ((¬ (1 ≤ A1 ∧ A1 ≤ 100) ∧ r1 = -1 ∧ v1 = v) ∨ ((1 ≤ A1 ∧ A1 ≤ 100) ∧ 10 ≤ (v 93 0).toInt ∧ r1 = -3 ∧ v1 = v) ∨ ((1 ≤ A1 ∧ A1 ≤ 100) ∧ (v 93 0).toInt < 10 ∧ r1 = v 93 0 + 1 - 1 ∧ v1 = (gu (gu (gu (gu v 96 (v 93 0).toInt.toNat p1) 94 (v 93 0).toInt.toNat (vp_nar .boolean 1)) 95 (v 93 0).toInt.toNat 0) 93 0 (v 93 0 + 1))))) (hm : mI v2 ∧ fM 128 131 35 36 v1 w v2 w ∧ ((¬ (1 ≤ A1 ∧ A1 ≤ 100) ∧ r2 = -1 ∧ v2 = v1) ∨ ((1 ≤ A1 ∧ A1 ≤ 100) ∧ (v1 106 35).toInt = 10 ∧ r2 = -3 ∧ v2 = v1) ∨ ((1 ≤ A1 ∧ A1 ≤ 100) ∧ (v1 106 35).toInt < 10 ∧ r2 = v1 106 35 + 1 - 1 ∧ v2 = (gu (gu (gu (gu v1 128 (v1 106 35).toInt.toNat p1) 129 (v1 106 35).toInt.toNat 0) 130 (v1 106 35).toInt.toNat (vp_nar .boolean 1)) 106 35 (v1 106 35 + 1))))) : r1 = r2 ∧ Rl v2 := by
  have F : fr2 93 97 128 131 35 36 v v2 := fr2_of (w := w) (w1 := w) (w1' := w) (w2 := w) hc.2.1 hm.2.1 (by decide)
  obtain ⟨hB, hK, hP, hT, hH⟩ := id rl
  exact ⟨(pT_tube hT mi hc hm).1, (rB_fr hB F (by decide) (by decide)), (rK_fr hK F (by decide) (by decide)), (rP_fr hP F (by decide) (by decide)), (pT_tube hT mi hc hm).2, (rH_fr hH F (by decide) (by decide))⟩

set_option maxHeartbeats 1000000 in
theorem pr_press  {v : Nat → Nat → Int32} {v1 : Nat → Nat → Int32} {v2 : Nat → Nat → Int32} {w : Nat → Nat → Int64} {r1 : Int32} {r2 : Int32} {p1 : Int32} {A1 : Int} (a1 : p1.toInt = A1) {p2 : Int32} {A2 : Int} (a2 : p2.toInt = A2) {p3 : Int32} {A3 : Int} (a3 : p3.toInt = A3) (bz : A2 = 0 ∨ A2 = 1) (rl : Rl v) (ci : cI v) (mi : mI v) (hc : cI v1 ∧ fC 93 97 v w v1 w ∧ ((¬ rF29 A1 A2 A3 (v 93 0).toInt ∧ r1 = -1 ∧ v1 = v) ∨ (rF29 A1 A2 A3 (v 93 0).toInt ∧ r1 = 1 ∧ v1 = (gu (gu v 94 A1.toNat (vp_nar .boolean p2)) 95 A1.toNat (prS A2 p3))))) (hm : mI v2 ∧ fM 128 131 35 36 v1 w v2 w ∧ ((¬ rF29 A1 A2 A3 (v1 106 35).toInt ∧ r2 = -1 ∧ v2 = v1) ∨ (rF29 A1 A2 A3 (v1 106 35).toInt ∧ r2 = 1 ∧ v2 = (gu (gu v1 130 A1.toNat (vp_nar .boolean p2)) 129 A1.toNat (prS A2 p3))))) : r1 = r2 ∧ Rl v2 := by
  have F : fr2 93 97 128 131 35 36 v v2 := fr2_of (w := w) (w1 := w) (w1' := w) (w2 := w) hc.2.1 hm.2.1 (by decide)
  obtain ⟨hB, hK, hP, hT, hH⟩ := id rl
  exact ⟨(pT_press a2 bz hT mi hc hm).1, (rB_fr hB F (by decide) (by decide)), (rK_fr hK F (by decide) (by decide)), (rP_fr hP F (by decide) (by decide)), (pT_press a2 bz hT mi hc hm).2, (rH_fr hH F (by decide) (by decide))⟩

set_option maxHeartbeats 1000000 in
theorem pr_sheet  {v : Nat → Nat → Int32} {v1 : Nat → Nat → Int32} {v2 : Nat → Nat → Int32} {w : Nat → Nat → Int64} {r1 : Int32} {r2 : Int32} {p1 : Int32} {A1 : Int} (a1 : p1.toInt = A1) {p2 : Int32} {A2 : Int} (a2 : p2.toInt = A2) {p3 : Int32} {A3 : Int} (a3 : p3.toInt = A3) (rl : Rl v) (ci : cI v) (mi : mI v) (hc : cI v1 ∧ fC 97 106 v w v1 w ∧ ((¬ rF30 A1 A2 A3 ∧ r1 = -1 ∧ v1 = v) ∨ (rF30 A1 A2 A3 ∧ A3 < 0 ∧ r1 = -10 - 4 ∧ v1 = v) ∨ (rF30 A1 A2 A3 ∧ 0 ≤ A3 ∧ r1 = 1 ∧ v1 = va_up (gu (gu v (98 + 2 * A1.toNat) 0 p2) (98 + 2 * A1.toNat) 1 p3) ((98 + 2 * A1.toNat) + 1) (flR (fun _ => 0) (v ((98 + 2 * A1.toNat) + 1)) 0 60)))) (hm : mI v2 ∧ fM 131 134 0 0 v1 w v2 w ∧ ((¬ rF30 A1 A2 A3 ∧ r2 = -1 ∧ v2 = v1) ∨ (rF30 A1 A2 A3 ∧ A3 < 0 ∧ r2 = -14 ∧ v2 = v1) ∨ (rF30 A1 A2 A3 ∧ 0 ≤ A3 ∧ r2 = 1 ∧ v2 = va_up (gu (gu v1 131 A1.toNat p2) 132 A1.toNat p3) 133 (flR (fun _ => 0) (v1 133) (60 * A1) (60 * A1 + 60))))) : r1 = r2 ∧ Rl v2 := by
  have F : fr2 97 106 131 134 0 0 v v2 := fr2_of (w := w) (w1 := w) (w1' := w) (w2 := w) hc.2.1 hm.2.1 (by decide)
  obtain ⟨hB, hK, hP, hT, hH⟩ := id rl
  exact ⟨(pH_sheet a2 hH hc hm).1, (rB_fr hB F (by decide) (by decide)), (rK_fr hK F (by decide) (by decide)), (rP_fr hP F (by decide) (by decide)), (rT_fr hT F (by decide) (by decide)), (pH_sheet a2 hH hc hm).2⟩

set_option maxHeartbeats 1000000 in
theorem pr_lay  {v : Nat → Nat → Int32} {v1 : Nat → Nat → Int32} {v2 : Nat → Nat → Int32} {w : Nat → Nat → Int64} {r1 : Int32} {r2 : Int32} {p1 : Int32} {A1 : Int} (a1 : p1.toInt = A1) {p2 : Int32} {A2 : Int} (a2 : p2.toInt = A2) {p3 : Int32} {A3 : Int} (a3 : p3.toInt = A3) (rl : Rl v) (ci : cI v) (mi : mI v) (hc : cI v1 ∧ fC 97 106 v w v1 w ∧ ((¬ (0 ≤ A1 ∧ A1 ≤ 3) ∧ r1 = -1 ∧ v1 = v) ∨ ((0 ≤ A1 ∧ A1 ≤ 3) ∧ (flC (v (98 + 2 * A1.toNat) 0).toInt (v (98 + 2 * A1.toNat) 1).toInt A2 1).toInt ≠ 0 ∧ r1 = -10 - flC (v (98 + 2 * A1.toNat) 0).toInt (v (98 + 2 * A1.toNat) 1).toInt A2 1 ∧ v1 = v) ∨ ((0 ≤ A1 ∧ A1 ≤ 3) ∧ (flC (v (98 + 2 * A1.toNat) 0).toInt (v (98 + 2 * A1.toNat) 1).toInt A2 1).toInt = 0 ∧ r1 = 1 ∧ v1 = gu v ((98 + 2 * A1.toNat) + 1) A2.toNat (cvt (v (98 + 2 * A1.toNat) 0).toInt p3)))) (hm : mI v2 ∧ fM 131 134 0 0 v1 w v2 w ∧ ((¬ (0 ≤ A1 ∧ A1 ≤ 3) ∧ r2 = -1 ∧ v2 = v1) ∨ ((0 ≤ A1 ∧ A1 ≤ 3) ∧ (v1 131 A1.toNat).toInt = -4 ∧ r2 = -11 ∧ v2 = v1) ∨ ((0 ≤ A1 ∧ A1 ≤ 3) ∧ (v1 131 A1.toNat).toInt ≠ -4 ∧ ¬ (0 ≤ A2 ∧ A2 ≤ (v1 132 A1.toNat).toInt - 1) ∧ r2 = -12 ∧ v2 = v1) ∨ ((0 ≤ A1 ∧ A1 ≤ 3) ∧ (v1 131 A1.toNat).toInt ≠ -4 ∧ (0 ≤ A2 ∧ A2 ≤ (v1 132 A1.toNat).toInt - 1) ∧ r2 = 1 ∧ v2 = (gu v1 133 (60 * A1 + A2).toNat (cvt (v1 131 A1.toNat).toInt p3))))) : r1 = r2 ∧ Rl v2 := by
  have F : fr2 97 106 131 134 0 0 v v2 := fr2_of (w := w) (w1 := w) (w1' := w) (w2 := w) hc.2.1 hm.2.1 (by decide)
  obtain ⟨hB, hK, hP, hT, hH⟩ := id rl
  exact ⟨(pH_lay hH mi hc hm).1, (rB_fr hB F (by decide) (by decide)), (rK_fr hK F (by decide) (by decide)), (rP_fr hP F (by decide) (by decide)), (rT_fr hT F (by decide) (by decide)), (pH_lay hH mi hc hm).2⟩

set_option maxHeartbeats 1000000 in
theorem pr_scan  {v : Nat → Nat → Int32} {v1 : Nat → Nat → Int32} {v2 : Nat → Nat → Int32} {w : Nat → Nat → Int64} {r1 : Int32} {r2 : Int32} {p1 : Int32} {A1 : Int} (a1 : p1.toInt = A1) {p2 : Int32} {A2 : Int} (a2 : p2.toInt = A2) {p3 : Int32} {A3 : Int} (a3 : p3.toInt = A3) (rl : Rl v) (ci : cI v) (mi : mI v) (hc : cI v1 ∧ fC 93 97 v w v1 w ∧ ((¬ rF32 A1 A2 ∧ r1 = -1 ∧ v1 = v) ∨ (rF32 A1 A2 ∧ (flL (v (98 + 2 * A1.toNat) 0).toInt A2).toInt ≠ 0 ∧ r1 = -10 - flL (v (98 + 2 * A1.toNat) 0).toInt A2 ∧ v1 = v) ∨ (rF32 A1 A2 ∧ (flL (v (98 + 2 * A1.toNat) 0).toInt A2).toInt = 0 ∧ (flC (v (98 + 2 * A1.toNat) 0).toInt (v (98 + 2 * A1.toNat) 1).toInt A3 (v 93 0).toInt).toInt ≠ 0 ∧ r1 = -10 - flC (v (98 + 2 * A1.toNat) 0).toInt (v (98 + 2 * A1.toNat) 1).toInt A3 (v 93 0).toInt ∧ v1 = v) ∨ (rF32 A1 A2 ∧ (flL (v (98 + 2 * A1.toNat) 0).toInt A2).toInt = 0 ∧ (flC (v (98 + 2 * A1.toNat) 0).toInt (v (98 + 2 * A1.toNat) 1).toInt A3 (v 93 0).toInt).toInt = 0 ∧ r1 = sumN (fun k => lo1 (v1 94 k)) (v 93 0).toInt.toNat ∧ v1 = va_up (va_up v 94 (flN (fun k => lostOf (v ((98 + 2 * A1.toNat) + 1) (A3.toNat + k))) (v 94) (v 93 0).toInt)) 95 (flN (fun k => prsOf (v ((98 + 2 * A1.toNat) + 1) (A3.toNat + k))) (v 95) (v 93 0).toInt)))) (hm : mI v2 ∧ fM 128 131 35 36 v1 w v2 w ∧ ((¬ rF32 A1 A2 ∧ r2 = -1 ∧ v2 = v1) ∨ (rF32 A1 A2 ∧ (v1 131 A1.toNat).toInt ≠ A2 ∧ (v1 131 A1.toNat).toInt = -4 ∧ r2 = -11 ∧ v2 = v1) ∨ (rF32 A1 A2 ∧ (v1 131 A1.toNat).toInt ≠ A2 ∧ (v1 131 A1.toNat).toInt ≠ -4 ∧ r2 = -13 ∧ v2 = v1) ∨ (rF32 A1 A2 ∧ (v1 131 A1.toNat).toInt = A2 ∧ ¬ ((v1 106 35).toInt ≤ 0 ∨ (0 ≤ A3 ∧ A3 + (v1 106 35).toInt ≤ (v1 132 A1.toNat).toInt)) ∧ r2 = -12 ∧ v2 = v1) ∨ (rF32 A1 A2 ∧ (v1 131 A1.toNat).toInt = A2 ∧ ((v1 106 35).toInt ≤ 0 ∨ (0 ≤ A3 ∧ A3 + (v1 106 35).toInt ≤ (v1 132 A1.toNat).toInt)) ∧ r2 = sumN (fun k => lo1 (v2 130 k)) (v1 106 35).toInt.toNat ∧ v2 = va_up (va_up v1 130 (flN (fun k => lostOf (v1 133 (60 * A1.toNat + (A3.toNat + k)))) (v1 130) (v1 106 35).toInt)) 129 (flN (fun k => prsOf (v1 133 (60 * A1.toNat + (A3.toNat + k)))) (v1 129) (v1 106 35).toInt)))) : r1 = r2 ∧ Rl v2 := by
  have F : fr2 93 97 128 131 35 36 v v2 := fr2_of (w := w) (w1 := w) (w1' := w) (w2 := w) hc.2.1 hm.2.1 (by decide)
  obtain ⟨hB, hK, hP, hT, hH⟩ := id rl
  exact ⟨(pT_scan hT hH mi hc hm).1, (rB_fr hB F (by decide) (by decide)), (rK_fr hK F (by decide) (by decide)), (rP_fr hP F (by decide) (by decide)), (pT_scan hT hH mi hc hm).2, (rH_fr hH F (by decide) (by decide))⟩

set_option maxHeartbeats 1000000 in
theorem pr_force  {v : Nat → Nat → Int32} {r1 : Int32} {r2 : Int32} (rl : Rl v) (ci : cI v) (mi : mI v) (hc : r1 = sumN (fun k => v 96 k * v 95 k) (v 93 0).toInt.toNat) (hm : r2 = sumN (fcM v) (v 106 35).toInt.toNat) : r1 = r2 ∧ Rl v := by
  obtain ⟨hB, hK, hP, hT, hH⟩ := id rl
  exact ⟨(pT_force hT mi hc hm), hB, hK, hP, hT, hH⟩

set_option maxHeartbeats 1000000 in
theorem pr_check  {v : Nat → Nat → Int32} (rl : Rl v) (ci : cI v) (mi : mI v) (hc : True) (hm : True) : Rl v := by
  obtain ⟨hB, hK, hP, hT, hH⟩ := id rl
  exact ⟨hB, hK, hP, hT, hH⟩

set_option maxHeartbeats 1000000 in
theorem pr_fill  {v : Nat → Nat → Int32} (rl : Rl v) (ci : cI v) (mi : mI v) (hc : True) (hm : True) : Rl v := by
  obtain ⟨hB, hK, hP, hT, hH⟩ := id rl
  exact ⟨hB, hK, hP, hT, hH⟩

set_option maxHeartbeats 1000000 in
theorem pr_count  {v : Nat → Nat → Int32} (rl : Rl v) (ci : cI v) (mi : mI v) (hc : True) (hm : True) : Rl v := by
  obtain ⟨hB, hK, hP, hT, hH⟩ := id rl
  exact ⟨hB, hK, hP, hT, hH⟩
