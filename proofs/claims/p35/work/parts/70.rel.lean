/-- THE RELATION between the class and the model, part by part -/
def rB (v : Nat → Nat → Int32) : Prop := (∀ i j, i < 3 → j < 3 → v (3 + i) j = v 107 (3 * i + j)) ∧ (∀ i j, i < 3 → j < 6 → v (7 + i) j = v 108 (6 * i + j)) ∧ (∀ i j, i < 3 → j < 6 → bd (v (7 + i) j) 20)
def rK (v : Nat → Nat → Int32) : Prop := v 18 2 = v 106 7 ∧ (∀ k j, k < 12 → j < 3 → v (20 + k) j = v 112 (3 * k + j) ∧ v (33 + k) j = v 113 (3 * k + j)) ∧ (∀ k j, k < 12 → j < 3 → bd (v (20 + k) j) 50 ∧ bd (v (33 + k) j) 2000000)
def inP (n : Int) (p : Nat) : Prop := (p : Int) < n ∨ p = 9
def rP (v : Nat → Nat → Int32) : Prop := v 66 0 = v 106 22 ∧ (∀ k, k < 9 → v 67 k = v 125 k) ∧ (∀ k : Nat, (k : Int) < (v 66 0).toInt → v 80 k = v 123 k ∧ v 81 k = v 124 k) ∧ (v 80 9 = 0 ∧ v 81 9 = 0) ∧ (∀ p, p < 10 → v (69 + p) p = 0) ∧ (∀ p q, inP (v 66 0).toInt p → inP (v 66 0).toInt q → p ≠ q → (v (69 + p) q).toInt = mvI (v 80 p).toInt (v 81 p).toInt (v 80 q).toInt (v 81 q).toInt)
theorem rP_cg {v v2 : Nat → Nat → Int32} (h : rP v) (e0 : v2 66 0 = v 66 0) (e1 : v2 106 22 = v 106 22) (e2 : ∀ k, 67 ≤ k → k < 79 → v2 k = v k) (e3 : v2 80 = v 80) (e4 : v2 81 = v 81) (e5 : v2 123 = v 123) (e6 : v2 124 = v 124) (e7 : v2 125 = v 125) (hn : (v 66 0).toInt ≤ 9) : rP v2 := by
  obtain ⟨h1, h2, h3, h4, h5, h6⟩ := h
  refine ⟨by rw [e0, e1]; exact h1, fun k hk => by rw [e2 67 (by omega) (by omega), e7]; exact h2 k hk, fun k hk => ?_, by rw [e3, e4]; exact h4, fun p hp => by rw [e2 (69 + p) (by omega) (by omega)]; exact h5 p hp, fun p q a b c => ?_⟩
  · rw [e0] at hk
    rw [e3, e4, e5, e6]
    exact h3 k hk
  · rw [e0] at a b
    have ha : p < 10 := by unfold inP at a; omega
    rw [e3, e4, e2 (69 + p) (by omega) (by omega)]
    exact h6 p q a b c
def rT (v : Nat → Nat → Int32) : Prop := v 93 0 = v 106 35 ∧ (∀ k, k < 10 → v 96 k = v 128 k) ∧ (∀ k, k < 10 → v 95 k = v 129 k) ∧ (∀ k, k < 10 → v 94 k = v 130 k) ∧ (∀ k, k < 10 → (v 94 k).toInt ≠ 0 → v 95 k = 0) ∧ (∀ k, k < 10 → bd (v 95 k) 1000)
def rL (a b : Int32) : Prop := (a.toInt = -1 ∧ b.toInt = -4) ∨ (a = b ∧ 0 ≤ b.toInt ∧ b.toInt ≤ 2)
def rH (v : Nat → Nat → Int32) : Prop := ∀ i, i < 4 → rL (v (98 + 2 * i) 0) (v 131 i) ∧ v (98 + 2 * i) 1 = v 132 i ∧ ∀ j, j < 60 → v (98 + 2 * i + 1) j = v 133 (60 * i + j)
def rS (v : Nat → Nat → Int32) : Prop := (∀ j, j < 7 → v 83 j = v 106 (27 + j)) ∧ (∀ k j : Nat, (k : Int) < (v 83 5).toInt → (v 83 5).toInt ≤ (k : Int) + 8 → j < 3 → v (85 + k % 8) j = v 127 (3 * k + j) ∧ bd (v 127 (3 * k + j)) 2000000) ∧ ((v 83 4).toInt = 0 → v 83 6 = -4)
def rF (v : Nat → Nat → Int32) : Prop := (∀ j, j < 3 → v 10 j = v 111 j) ∧ (v 1 3).toInt = (v 106 5).toInt ∧ ((v 106 5).toInt = 0 ∨ (v 106 5).toInt = 1) ∧ v 1 4 = v 106 6
def plW (v : Nat → Nat → Int32) : Prop := ∃ T, gTb (cM v) (v 106 22).toInt.toNat (opN (v 125) (v 106 22).toInt.toNat) T ∧ ltT (cM v) (v 106 22).toInt.toNat (opN (v 125) (v 106 22).toInt.toNat) T (v 66 5).toInt ∧ (v 66 4).toInt = (pcN (opN (v 125) (v 106 22).toInt.toNat) 9 : Int) ∧ grR (cM v) (v 106 22).toInt.toNat (opN (v 125) (v 106 22).toInt.toNat) T (rwC v) (pcN (opN (v 125) (v 106 22).toInt.toNat) 9) ∧ rwP v (pcN (opN (v 125) (v 106 22).toInt.toNat) 9)
def rW (v : Nat → Nat → Int32) : Prop := z82 v ∧ ((v 66 3).toInt ≠ 0 → plW v)
def Rl (v : Nat → Nat → Int32) : Prop := rB v ∧ rK v ∧ rP v ∧ rT v ∧ rH v ∧ rS v ∧ rF v ∧ rW v
/-- what two calls leave as it was -/
def fr2 (lo hi lo' hi' flo fhi : Nat) (v v2 : Nat → Nat → Int32) : Prop := (∀ k, k ≠ 106 → (k < lo ∨ hi ≤ k) → (k < lo' ∨ hi' ≤ k) → v2 k = v k) ∧ (∀ j, (j < flo ∨ fhi ≤ j) → v2 106 j = v 106 j)
theorem fr2_of {lo hi lo' hi' flo fhi : Nat} {v v1 v2 : Nat → Nat → Int32} {w w1 w1' w2 : Nat → Nat → Int64} (a : fC lo hi v w v1 w1) (b : fM lo' hi' flo fhi v1 w1' v2 w2) (h : hi ≤ 106) : fr2 lo hi lo' hi' flo fhi v v2 := ⟨fun k h0 h1 h2 => (b.1 k h0 h2).trans (a.1 k h1), fun j hj => (b.2.1 j hj).trans (congrFun (a.1 106 (by omega)) j)⟩
theorem rB_fr {lo hi lo' hi' flo fhi : Nat} {v v2 : Nat → Nat → Int32} (h : rB v) (f : fr2 lo hi lo' hi' flo fhi v v2) (q : (hi ≤ 3 ∨ 10 ≤ lo) ∧ (hi' ≤ 107 ∨ 109 ≤ lo')) (q2 : (lo' ≤ 10 → hi' ≤ 3) ∧ (109 ≤ hi → 109 ≤ lo) ∧ hi ≤ 106 ∧ (106 ≤ lo')) : rB v2 := by
  refine ⟨fun i j hi hj => ?_, fun i j hi hj => ?_, fun i j hi hj => ?_⟩
  · rw [f.1 (3 + i) (by omega) (by omega) (by omega), f.1 107 (by omega) (by omega) (by omega)]; exact h.1 i j hi hj
  · rw [f.1 (7 + i) (by omega) (by omega) (by omega), f.1 108 (by omega) (by omega) (by omega)]; exact h.2.1 i j hi hj
  · rw [f.1 (7 + i) (by omega) (by omega) (by omega)]; exact h.2.2 i j hi hj
theorem rK_fr {lo hi lo' hi' flo fhi : Nat} {v v2 : Nat → Nat → Int32} (h : rK v) (f : fr2 lo hi lo' hi' flo fhi v v2) (q : (hi ≤ 18 ∨ 45 ≤ lo) ∧ (hi' ≤ 112 ∨ 114 ≤ lo') ∧ (fhi ≤ 7 ∨ 8 ≤ flo)) (q2 : hi ≤ 106 ∧ 106 ≤ lo') : rK v2 := by
  refine ⟨?_, fun k j hk hj => ?_, fun k j hk hj => ?_⟩
  · rw [f.1 18 (by omega) (by omega) (by omega), f.2 7 (by omega)]; exact h.1
  · rw [f.1 (20 + k) (by omega) (by omega) (by omega), f.1 (33 + k) (by omega) (by omega) (by omega), f.1 112 (by omega) (by omega) (by omega), f.1 113 (by omega) (by omega) (by omega)]; exact h.2.1 k j hk hj
  · rw [f.1 (20 + k) (by omega) (by omega) (by omega), f.1 (33 + k) (by omega) (by omega) (by omega)]; exact h.2.2 k j hk hj
theorem rP_fr {lo hi lo' hi' flo fhi : Nat} {v v2 : Nat → Nat → Int32} (h : rP v) (ci : cI v) (f : fr2 lo hi lo' hi' flo fhi v v2) (q : (hi ≤ 66 ∨ 82 ≤ lo) ∧ (hi' ≤ 123 ∨ 126 ≤ lo') ∧ (fhi ≤ 22 ∨ 23 ≤ flo)) (q2 : hi ≤ 106 ∧ 106 ≤ lo') : rP v2 :=
  rP_cg h (by rw [f.1 66 (by omega) (by omega) (by omega)]) (f.2 22 (by omega)) (fun k a b => f.1 k (by omega) (by omega) (by omega)) (f.1 80 (by omega) (by omega) (by omega)) (f.1 81 (by omega) (by omega) (by omega)) (f.1 123 (by omega) (by omega) (by omega)) (f.1 124 (by omega) (by omega) (by omega)) (f.1 125 (by omega) (by omega) (by omega)) ci.2.2.1.2
theorem rT_fr {lo hi lo' hi' flo fhi : Nat} {v v2 : Nat → Nat → Int32} (h : rT v) (f : fr2 lo hi lo' hi' flo fhi v v2) (q : (hi ≤ 93 ∨ 97 ≤ lo) ∧ (hi' ≤ 128 ∨ 131 ≤ lo') ∧ (fhi ≤ 35 ∨ 36 ≤ flo)) (q2 : hi ≤ 106 ∧ 106 ≤ lo') : rT v2 := by
  unfold rT
  rw [f.1 93 (by omega) (by omega) (by omega), f.2 35 (by omega), f.1 94 (by omega) (by omega) (by omega), f.1 95 (by omega) (by omega) (by omega), f.1 96 (by omega) (by omega) (by omega), f.1 128 (by omega) (by omega) (by omega), f.1 129 (by omega) (by omega) (by omega), f.1 130 (by omega) (by omega) (by omega)]
  exact h
theorem rH_fr {lo hi lo' hi' flo fhi : Nat} {v v2 : Nat → Nat → Int32} (h : rH v) (f : fr2 lo hi lo' hi' flo fhi v v2) (q : (hi ≤ 98 ∨ 106 ≤ lo) ∧ (hi' ≤ 131 ∨ 134 ≤ lo')) (q2 : hi ≤ 106 ∧ 106 ≤ lo') : rH v2 := by
  intro i hi
  rw [f.1 (98 + 2 * i) (by omega) (by omega) (by omega), f.1 (98 + 2 * i + 1) (by omega) (by omega) (by omega), f.1 131 (by omega) (by omega) (by omega), f.1 132 (by omega) (by omega) (by omega), f.1 133 (by omega) (by omega) (by omega)]
  exact h i hi
theorem rS_fr {lo hi lo' hi' flo fhi : Nat} {v v2 : Nat → Nat → Int32} (h : rS v) (f : fr2 lo hi lo' hi' flo fhi v v2) (q : (hi ≤ 83 ∨ 93 ≤ lo) ∧ (hi' ≤ 127 ∨ 128 ≤ lo') ∧ (fhi ≤ 27 ∨ 34 ≤ flo)) (q2 : hi ≤ 106 ∧ 106 ≤ lo') : rS v2 := by
  have e : v2 83 = v 83 := f.1 83 (by omega) (by omega) (by omega)
  have e7 : v2 127 = v 127 := f.1 127 (by omega) (by omega) (by omega)
  refine ⟨fun j hj => ?_, fun k j a b c => ?_, ?_⟩
  · rw [e, f.2 (27 + j) (by omega)]; exact h.1 j hj
  · rw [e] at a b
    rw [f.1 (85 + k % 8) (by omega) (by omega) (by omega), e7]; exact h.2.1 k j a b c
  · rw [e]; exact h.2.2
theorem bp_of {v : Nat → Nat → Int32} (h : Rl v) : bPr v := h.2.2.2.1.2.2.2.2.2
theorem bm_of {v : Nat → Nat → Int32} (h : Rl v) : bM v := fun k hk => by rw [← h.2.2.2.1.2.2.1 k hk]; exact h.2.2.2.1.2.2.2.2.2 k hk
theorem rF_fr {lo hi lo' hi' flo fhi : Nat} {v v2 : Nat → Nat → Int32} (h : rF v) (f : fr2 lo hi lo' hi' flo fhi v v2) (q : (hi ≤ 1 ∨ 11 ≤ lo ∨ (2 ≤ lo ∧ hi ≤ 10)) ∧ (hi' ≤ 111 ∨ 112 ≤ lo') ∧ (fhi ≤ 5 ∨ 7 ≤ flo)) (q2 : hi ≤ 106 ∧ 106 ≤ lo') : rF v2 := by
  unfold rF
  rw [f.1 10 (by omega) (by omega) (by omega), f.1 1 (by omega) (by omega) (by omega), f.1 111 (by omega) (by omega) (by omega), f.2 5 (by omega), f.2 6 (by omega)]
  exact h
theorem h2_of {v : Nat → Nat → Int32} (h : Rl v) : sdB v := h.1.2.2
theorem m2_of {v v1 : Nat → Nat → Int32} {w w1 : Nat → Nat → Int64} {lo hi : Nat} (h : Rl v) (f : fC lo hi v w v1 w1) (hh : hi ≤ 106) : sdM v1 := fun j hj => by
  rw [f.1 108 (by omega)]
  have e := h.1.2.1 (j / 6) (j % 6) (by omega) (by omega)
  have b := h.1.2.2 (j / 6) (j % 6) (by omega) (by omega)
  rw [show 6 * (j / 6) + j % 6 = j by omega] at e
  rw [← e]
  exact b

theorem pB_first {v : Nat → Nat → Int32} {v1 : Nat → Nat → Int32} {v2 : Nat → Nat → Int32} {w : Nat → Nat → Int64} {r1 : Int32} {r2 : Int32} {p3 : Int32} {A1 : Int} {A2 : Int} {A3 : Int} (h : rB v) (hc : cI v1 ∧ fC 2 6 v w v1 w ∧ ((r1 = 1 ∧ rF1 A1 A2 A3 ∧ v1 = (gu v (3 + A1.toNat) A2.toNat p3)) ∨ (r1 = -1 ∧ ¬ rF1 A1 A2 A3 ∧ v1 = v))) (hm : mI v2 ∧ fM 107 108 0 0 v1 w v2 w ∧ ((r2 = 1 ∧ rF1 A1 A2 A3 ∧ v2 = (gu v1 107 (3 * A1 + A2).toNat p3)) ∨ (r2 = -1 ∧ ¬ rF1 A1 A2 A3 ∧ v2 = v1))) : r1 = r2 ∧ rB v2 := by
  rcases hc.2.2 with ⟨e1, f, e2⟩ | ⟨e1, f, e2⟩ <;> rcases hm.2.2 with ⟨e3, g, e4⟩ | ⟨e3, g, e4⟩
  · refine ⟨e1.trans e3.symm, ?_⟩
    unfold rF1 at f
    rw [e4, e2]
    refine ⟨fun i j hi hj => ?_, fun i j hi hj => ?_, fun i j hi hj => ?_⟩
    · by_cases q : i = A1.toNat ∧ j = A2.toNat
      · rw [gu_n (by omega), gu_y2 (by omega), gu_y2 (by omega)]
      · rw [gu_n (by omega), gu_n (by omega), gu_n (by omega), gu_n (by omega)]; exact h.1 i j hi hj
    · rw [gu_n (by omega), gu_n (by omega), gu_n (by omega), gu_n (by omega)]; exact h.2.1 i j hi hj
    · rw [gu_n (by omega), gu_n (by omega)]; exact h.2.2 i j hi hj
  · exact absurd f g
  · exact absurd g f
  · exact ⟨e1.trans e3.symm, by rw [e4, e2]; exact h⟩
theorem pB_second {v : Nat → Nat → Int32} {v1 : Nat → Nat → Int32} {v2 : Nat → Nat → Int32} {w : Nat → Nat → Int64} {r1 : Int32} {r2 : Int32} {p3 : Int32} {A1 : Int} {A2 : Int} {A3 : Int} (a3 : p3.toInt = A3) (h : rB v) (hc : cI v1 ∧ fC 6 10 v w v1 w ∧ ((r1 = 1 ∧ rF2 A1 A2 A3 ∧ v1 = (gu v (7 + A1.toNat) A2.toNat p3)) ∨ (r1 = -1 ∧ ¬ rF2 A1 A2 A3 ∧ v1 = v))) (hm : mI v2 ∧ fM 108 109 0 0 v1 w v2 w ∧ ((r2 = 1 ∧ rF2 A1 A2 A3 ∧ v2 = (gu v1 108 (6 * A1 + A2).toNat p3)) ∨ (r2 = -1 ∧ ¬ rF2 A1 A2 A3 ∧ v2 = v1))) : r1 = r2 ∧ rB v2 := by
  rcases hc.2.2 with ⟨e1, f, e2⟩ | ⟨e1, f, e2⟩ <;> rcases hm.2.2 with ⟨e3, g, e4⟩ | ⟨e3, g, e4⟩
  · refine ⟨e1.trans e3.symm, ?_⟩
    unfold rF2 at f
    rw [e4, e2]
    refine ⟨fun i j hi hj => ?_, fun i j hi hj => ?_, fun i j hi hj => ?_⟩
    · rw [gu_n (by omega), gu_n (by omega), gu_n (by omega), gu_n (by omega)]; exact h.1 i j hi hj
    · by_cases q : i = A1.toNat ∧ j = A2.toNat
      · rw [gu_n (by omega), gu_y2 (by omega), gu_y2 (by omega)]
      · rw [gu_n (by omega), gu_n (by omega), gu_n (by omega), gu_n (by omega)]; exact h.2.1 i j hi hj
    · rw [gu_n (by omega)]
      by_cases q : i = A1.toNat ∧ j = A2.toNat
      · rw [gu_y2 (by omega)]; exact ⟨by omega, by omega⟩
      · rw [gu_n (by omega)]; exact h.2.2 i j hi hj
  · exact absurd f g
  · exact absurd g f
  · exact ⟨e1.trans e3.symm, by rw [e4, e2]; exact h⟩
theorem rd9_cg {a a' b b' : Nat → Int32} {x y z : Int32} (ha : ∀ j, j < 3 → a j = a' j) (hb : ∀ j, j < 6 → b j = b' j) : rd9 a b x y z = rd9 a' b' x y z := by
  unfold rd9 pr6
  rw [ha 0 (by decide), ha 1 (by decide), ha 2 (by decide), hb 0 (by decide), hb 1 (by decide), hb 2 (by decide), hb 3 (by decide), hb 4 (by decide), hb 5 (by decide)]
theorem pB_reading {v : Nat → Nat → Int32} {r1 : Int32} {r2 : Int32} {p2 : Int32} {p3 : Int32} {p4 : Int32} {A1 : Int} {A2 : Int} {A3 : Int} {A4 : Int} (h : rB v) (hc : (rF4 A1 A2 A3 A4 ∧ r1 = rd9 (v (3 + A1.toNat)) (v (7 + A1.toNat)) p2 p3 p4) ∨ (¬ rF4 A1 A2 A3 A4 ∧ r1 = 9999999)) (hm : (rF4 A1 A2 A3 A4 ∧ r2 = rd9 (fun j => v 107 (3 * A1.toNat + j)) (fun j => v 108 (6 * A1.toNat + j)) p2 p3 p4) ∨ (¬ rF4 A1 A2 A3 A4 ∧ r2 = 9999999)) : r1 = r2 := by
  rcases hc with ⟨f, e1⟩ | ⟨f, e1⟩ <;> rcases hm with ⟨g, e2⟩ | ⟨g, e2⟩
  · rw [e1, e2]
    unfold rF4 at f
    exact rd9_cg (fun j hj => h.1 _ j (by omega) hj) (fun j hj => h.2.1 _ j (by omega) hj)
  · exact absurd f g
  · exact absurd g f
  · rw [e1, e2]
theorem pt_a {v : Nat → Nat → Int32} {n k j : Nat} {p1 p2 p3 p4 p5 p6 q : Int32} (hn : n < 12) (hk : k < 12) (hj : j < 3) : gu (gu (gu (gu (gu (gu (gu v (20 + n) 0 p1) (20 + n) 1 p2) (20 + n) 2 p3) (33 + n) 0 p4) (33 + n) 1 p5) (33 + n) 2 p6) 18 2 q (20 + k) j = if k = n then sel3 j p1 p2 p3 else v (20 + k) j := by
  rw [gu_n (by omega), gu_n (by omega), gu_n (by omega), gu_n (by omega)]
  by_cases e : k = n
  · subst e
    rw [if_pos rfl]
    rcases (show j = 0 ∨ j = 1 ∨ j = 2 by omega) with rfl | rfl | rfl
    · rw [gu_n (by omega), gu_n (by omega), gu_y]; rfl
    · rw [gu_n (by omega), gu_y]; rfl
    · rw [gu_y]; rfl
  · rw [if_neg e, gu_n (by omega), gu_n (by omega), gu_n (by omega)]
theorem pt_b {v : Nat → Nat → Int32} {n k j : Nat} {p1 p2 p3 p4 p5 p6 q : Int32} (hn : n < 12) (hk : k < 12) (hj : j < 3) : gu (gu (gu (gu (gu (gu (gu v (20 + n) 0 p1) (20 + n) 1 p2) (20 + n) 2 p3) (33 + n) 0 p4) (33 + n) 1 p5) (33 + n) 2 p6) 18 2 q (33 + k) j = if k = n then sel3 j p4 p5 p6 else v (33 + k) j := by
  rw [gu_n (by omega)]
  by_cases e : k = n
  · subst e
    rw [if_pos rfl]
    rcases (show j = 0 ∨ j = 1 ∨ j = 2 by omega) with rfl | rfl | rfl
    · rw [gu_n (by omega), gu_n (by omega), gu_y]; rfl
    · rw [gu_n (by omega), gu_y]; rfl
    · rw [gu_y]; rfl
  · rw [if_neg e, gu_n (by omega), gu_n (by omega), gu_n (by omega), gu_n (by omega), gu_n (by omega), gu_n (by omega)]
theorem pt_c {v : Nat → Nat → Int32} {n k j : Nat} {N : Int} {p1 p2 p3 p4 p5 p6 q : Int32} (hN : N = n) (hj : j < 3) : gu (gu (gu (gu (gu (gu (gu v 112 (3 * N).toNat p1) 112 (3 * N + 1).toNat p2) 112 (3 * N + 2).toNat p3) 113 (3 * N).toNat p4) 113 (3 * N + 1).toNat p5) 113 (3 * N + 2).toNat p6) 106 7 q 112 (3 * k + j) = if k = n then sel3 j p1 p2 p3 else v 112 (3 * k + j) := by
  rw [gu_n (by omega), gu_n (by omega), gu_n (by omega), gu_n (by omega)]
  by_cases e : k = n
  · rw [if_pos e]
    rcases (show j = 0 ∨ j = 1 ∨ j = 2 by omega) with rfl | rfl | rfl
    · rw [gu_n (by omega), gu_n (by omega), gu_y2 (by omega)]; rfl
    · rw [gu_n (by omega), gu_y2 (by omega)]; rfl
    · rw [gu_y2 (by omega)]; rfl
  · rw [if_neg e, gu_n (by omega), gu_n (by omega), gu_n (by omega)]
theorem pt_d {v : Nat → Nat → Int32} {n k j : Nat} {N : Int} {p1 p2 p3 p4 p5 p6 q : Int32} (hN : N = n) (hj : j < 3) : gu (gu (gu (gu (gu (gu (gu v 112 (3 * N).toNat p1) 112 (3 * N + 1).toNat p2) 112 (3 * N + 2).toNat p3) 113 (3 * N).toNat p4) 113 (3 * N + 1).toNat p5) 113 (3 * N + 2).toNat p6) 106 7 q 113 (3 * k + j) = if k = n then sel3 j p4 p5 p6 else v 113 (3 * k + j) := by
  rw [gu_n (by omega)]
  by_cases e : k = n
  · rw [if_pos e]
    rcases (show j = 0 ∨ j = 1 ∨ j = 2 by omega) with rfl | rfl | rfl
    · rw [gu_n (by omega), gu_n (by omega), gu_y2 (by omega)]; rfl
    · rw [gu_n (by omega), gu_y2 (by omega)]; rfl
    · rw [gu_y2 (by omega)]; rfl
  · rw [if_neg e, gu_n (by omega), gu_n (by omega), gu_n (by omega), gu_n (by omega), gu_n (by omega), gu_n (by omega)]
theorem sel_bd {j : Nat} {a b c : Int32} {X : Int} (h1 : bd a X) (h2 : bd b X) (h3 : bd c X) : bd (sel3 j a b c) X := by
  unfold sel3
  split
  · exact h1
  · split
    · exact h2
    · exact h3
theorem pK_point {v : Nat → Nat → Int32} {v1 : Nat → Nat → Int32} {v2 : Nat → Nat → Int32} {w : Nat → Nat → Int64} {r1 : Int32} {r2 : Int32} {p1 : Int32} {p2 : Int32} {p3 : Int32} {p4 : Int32} {p5 : Int32} {p6 : Int32} {A1 : Int} {A2 : Int} {A3 : Int} {A4 : Int} {A5 : Int} {A6 : Int} (a1 : p1.toInt = A1) (a2 : p2.toInt = A2) (a3 : p3.toInt = A3) (a4 : p4.toInt = A4) (a5 : p5.toInt = A5) (a6 : p6.toInt = A6) (h : rK v) (mi : mI v) (hc : cI v1 ∧ fC 18 51 v w v1 w ∧ ((¬ rF7 A1 A2 A3 A4 A5 A6 ∧ r1 = -1 ∧ v1 = v) ∨ (rF7 A1 A2 A3 A4 A5 A6 ∧ 12 ≤ (v 18 2).toInt ∧ r1 = -3 ∧ v1 = v) ∨ (rF7 A1 A2 A3 A4 A5 A6 ∧ (v 18 2).toInt < 12 ∧ r1 = v 18 2 + 1 ∧ v1 = (gu (gu (gu (gu (gu (gu (gu v (20 + (v 18 2).toInt.toNat) 0 p1) (20 + (v 18 2).toInt.toNat) 1 p2) (20 + (v 18 2).toInt.toNat) 2 p3) (33 + (v 18 2).toInt.toNat) 0 p4) (33 + (v 18 2).toInt.toNat) 1 p5) (33 + (v 18 2).toInt.toNat) 2 p6) 18 2 (v 18 2 + 1))))) (hm : mI v2 ∧ fM 112 114 7 8 v1 w v2 w ∧ ((¬ rF7 A1 A2 A3 A4 A5 A6 ∧ r2 = -1 ∧ v2 = v1) ∨ (rF7 A1 A2 A3 A4 A5 A6 ∧ 12 ≤ (v1 106 7).toInt ∧ r2 = -3 ∧ v2 = v1) ∨ (rF7 A1 A2 A3 A4 A5 A6 ∧ (v1 106 7).toInt < 12 ∧ r2 = v1 106 7 + 1 ∧ v2 = (gu (gu (gu (gu (gu (gu (gu v1 112 (3 * (v1 106 7).toInt).toNat p1) 112 (3 * (v1 106 7).toInt + 1).toNat p2) 112 (3 * (v1 106 7).toInt + 2).toNat p3) 113 (3 * (v1 106 7).toInt).toNat p4) 113 (3 * (v1 106 7).toInt + 1).toNat p5) 113 (3 * (v1 106 7).toInt + 2).toNat p6) 106 7 (v1 106 7 + 1))))) : r1 = r2 ∧ rK v2 := by
  have e : v1 106 7 = v 18 2 := (congrFun (hc.2.1.1 106 (by decide)) 7).trans h.1.symm
  have e2' : v1 112 = v 112 := hc.2.1.1 112 (by decide)
  have e3' : v1 113 = v 113 := hc.2.1.1 113 (by decide)
  have u : ∀ k, k < 106 → v2 k = v1 k := fun k q => hm.2.1.1 k (by omega) (by omega)
  have b7 : 0 ≤ (v 18 2).toInt ∧ (v 18 2).toInt ≤ 12 := by rw [h.1]; exact mi.1
  rcases hc.2.2 with ⟨f, e1, e2⟩ | ⟨f, c, e1, e2⟩ | ⟨f, c, e1, e2⟩ <;> rcases hm.2.2 with ⟨g, e3, e4⟩ | ⟨g, d, e3, e4⟩ | ⟨g, d, e3, e4⟩
  · exact ⟨e1.trans e3.symm, by rw [e4, e2]; exact h⟩
  · exact absurd g f
  · exact absurd g f
  · exact absurd f g
  · exact ⟨e1.trans e3.symm, by rw [e4, e2]; exact h⟩
  · rw [e] at d; omega
  · exact absurd f g
  · rw [e] at d; omega
  · unfold rF7 at f
    rw [e] at e4
    refine ⟨by rw [e1, e3, e], ?_, fun k j hk hj => ?_, fun k j hk hj => ?_⟩
    · rw [u 18 (by decide), e4, gu_y, e2, gu_y]
    · rw [u (20 + k) (by omega), u (33 + k) (by omega), e4, pt_c (n := (v 18 2).toInt.toNat) (by omega) hj, pt_d (n := (v 18 2).toInt.toNat) (by omega) hj, e2', e3', e2, pt_a (by omega) hk hj, pt_b (by omega) hk hj]
      by_cases q : k = (v 18 2).toInt.toNat
      · rw [if_pos q, if_pos q, if_pos q, if_pos q]; exact ⟨rfl, rfl⟩
      · rw [if_neg q, if_neg q, if_neg q, if_neg q]; exact h.2.1 k j hk hj
    · rw [u (20 + k) (by omega), u (33 + k) (by omega), e2, pt_a (by omega) hk hj, pt_b (by omega) hk hj]
      by_cases q : k = (v 18 2).toInt.toNat
      · rw [if_pos q, if_pos q]
        exact ⟨sel_bd ⟨by omega, by omega⟩ ⟨by omega, by omega⟩ ⟨by omega, by omega⟩, sel_bd ⟨by omega, by omega⟩ ⟨by omega, by omega⟩ ⟨by omega, by omega⟩⟩
      · rw [if_neg q, if_neg q]; exact h.2.2 k j hk hj
theorem pK_forget {v : Nat → Nat → Int32} {v1 : Nat → Nat → Int32} {v2 : Nat → Nat → Int32} {w : Nat → Nat → Int64} {r1 : Int32} {r2 : Int32} (h : rK v) (hc : cI v1 ∧ fC 18 51 v w v1 w ∧ r1 = v 18 2 ∧ v1 = gu v 18 2 0) (hm : mI v2 ∧ fM 112 114 7 8 v1 w v2 w ∧ r2 = v1 106 7 ∧ v2 = gu v1 106 7 0) : r1 = r2 ∧ rK v2 := by
  have e : v1 106 7 = v 18 2 := (congrFun (hc.2.1.1 106 (by decide)) 7).trans h.1.symm
  have e2' : v1 112 = v 112 := hc.2.1.1 112 (by decide)
  have e3' : v1 113 = v 113 := hc.2.1.1 113 (by decide)
  have u : ∀ k, k < 106 → v2 k = v1 k := fun k q => hm.2.1.1 k (by omega) (by omega)
  refine ⟨by rw [hc.2.2.1, hm.2.2.1, e], ?_, fun k j hk hj => ?_, fun k j hk hj => ?_⟩
  · rw [u 18 (by decide), hm.2.2.2, gu_y, hc.2.2.2, gu_y]
  · rw [u (20 + k) (by omega), u (33 + k) (by omega), hm.2.2.2, gu_n (by omega), gu_n (by omega), e2', e3', hc.2.2.2, gu_n (by omega), gu_n (by omega)]; exact h.2.1 k j hk hj
  · rw [u (20 + k) (by omega), u (33 + k) (by omega), hc.2.2.2, gu_n (by omega), gu_n (by omega)]; exact h.2.2 k j hk hj
theorem bd_rd9 {a b : Nat → Int32} {x y z : Int32} (ha : ∀ j, j < 3 → bd (a j) 100) (hb : ∀ j, j < 6 → bd (b j) 20) (hx : bd x 50) (hy : bd y 50) (hz : bd z 50) : bd (rd9 a b x y z) 1800000 := by
  have L : ∀ j, j < 3 → ∀ t : Int32, bd t 50 → bd (a j * t) 5000 := fun j hj t ht => bd_mul (ha j hj) ht (by decide) (by decide)
  have P : ∀ j, j < 6 → ∀ t s : Int32, bd t 50 → bd s 50 → bd (b j * t * s) 50000 := fun j hj t s ht hs => bd_mul (bd_mul (Z := 1000) (hb j hj) ht (by decide) (by decide)) hs (by decide) (by decide)
  have h100 : bd 100 100 := ⟨by decide, by decide⟩
  have q1 : bd (a 0 * x + a 1 * y + a 2 * z) 15000 := bd_add (bd_add (Z := 10000) (L 0 (by decide) x hx) (L 1 (by decide) y hy) (by decide) (by decide)) (L 2 (by decide) z hz) (by decide) (by decide)
  have q2 : bd (pr6 b x y z) 300000 := bd_add (Z := 300000) (bd_add (Z := 250000) (bd_add (Z := 200000) (bd_add (Z := 150000) (bd_add (Z := 100000) (P 0 (by decide) x x hx hx) (P 1 (by decide) x y hx hy) (by decide) (by decide)) (P 2 (by decide) x z hx hz) (by decide) (by decide)) (P 3 (by decide) y y hy hy) (by decide) (by decide)) (P 4 (by decide) y z hy hz) (by decide) (by decide)) (P 5 (by decide) z z hz hz) (by decide) (by decide)
  exact bd_add (bd_mul (Z := 1500000) h100 q1 (by decide) (by decide)) q2 (by decide) (by decide)
theorem md_eq {v : Nat → Nat → Int32} (hB : rB v) (hK : rK v) {i k : Nat} (hi : i < 3) (hk : k < 12) : mdC v i k = mdM v i k := by
  unfold mdC mdM
  rw [rd9_cg (fun j hj => hB.1 i j hi hj) (fun j hj => hB.2.1 i j hi hj), (hK.2.1 k i hk hi).2, (hK.2.1 k 0 hk (by decide)).1, (hK.2.1 k 1 hk (by decide)).1, (hK.2.1 k 2 hk (by decide)).1]
  rfl
theorem md_bd {v : Nat → Nat → Int32} (hB : rB v) (hK : rK v) (ci : cI v) {i k : Nat} (hi : i < 3) (hk : k < 12) : bd (mdC v i k) 3800000 := by
  have Ka := ci.2.2.2.2.2.2.2.2.2.1
  exact bd_sub (hK.2.2 k i hk hi).2 (bd_rd9 (fun j hj => Ka i j hi hj) (fun j hj => hB.2.2 i j hi hj) (hK.2.2 k 0 hk (by decide)).1 (hK.2.2 k 1 hk (by decide)).1 (hK.2.2 k 2 hk (by decide)).1) (by decide) (by decide)
theorem abs_eq {x : Int32} {X : Int} (h : bd x X) (hX : X < 2147483648) : abM x = jabs x ∧ 0 ≤ (jabs x).toInt := by
  unfold abM jabs bd at *
  by_cases q : x.toInt < 0
  · rw [if_pos q, if_neg (by rw [fa_le]; have : (0 : Int32).toInt = 0 := (by decide); omega)]
    have e : (0 : Int32) - x = -x := by simp
    rw [e]
    have e2 : (-x).toInt = -x.toInt := fb_negI (by omega)
    exact ⟨rfl, by omega⟩
  · rw [if_neg q, if_pos (by rw [fa_le]; have : (0 : Int32).toInt = 0 := (by decide); omega)]
    exact ⟨rfl, by omega⟩
theorem ms_eq {v : Nat → Nat → Int32} (hB : rB v) (hK : rK v) (ci : cI v) {i : Nat} (hi : i < 3) : ∀ n : Nat, n < 12 → msC v i (n + 1) = msM v i (n + 1) ∧ 0 ≤ (msC v i (n + 1)).toInt
  | 0, _ => by
    have a := abs_eq (md_bd hB hK ci hi (k := 0) (by decide)) (by decide)
    show jmax 0 (jabs (mdC v i 0)) = mxM (-4) (abM (mdM v i 0)) ∧ 0 ≤ (jmax 0 (jabs (mdC v i 0))).toInt
    rw [← md_eq hB hK hi (by decide), a.1]
    have z : (0 : Int32).toInt = 0 := by decide
    have y : (-4 : Int32).toInt = -4 := by decide
    have e1 : mxM (-4) (jabs (mdC v i 0)) = jabs (mdC v i 0) := by unfold mxM; rw [if_pos (by omega)]
    have e2 : jmax 0 (jabs (mdC v i 0)) = jabs (mdC v i 0) := by
      unfold jmax
      by_cases q : (0 : Int32) < jabs (mdC v i 0)
      · rw [if_pos q]
      · rw [if_neg q]
        rw [fa_lt, z] at q
        exact i_ext (by omega)
    rw [e1, e2]
    exact ⟨rfl, a.2⟩
  | n + 1, hn => by
    have ih := ms_eq hB hK ci hi n (by omega)
    have a := abs_eq (md_bd hB hK ci hi (k := n + 1) (by omega)) (by decide)
    show jmax (msC v i (n + 1)) (jabs (mdC v i (n + 1))) = mxM (msM v i (n + 1)) (abM (mdM v i (n + 1))) ∧ 0 ≤ (jmax (msC v i (n + 1)) (jabs (mdC v i (n + 1)))).toInt
    rw [← md_eq hB hK hi (by omega), a.1, ← ih.1]
    unfold jmax mxM
    by_cases q : msC v i (n + 1) < jabs (mdC v i (n + 1))
    · rw [if_pos q, if_pos ((fa_lt _ _).mp q)]; exact ⟨rfl, a.2⟩
    · rw [if_neg q, if_neg (fun r => q ((fa_lt _ _).mpr r))]; exact ⟨rfl, ih.2⟩
theorem pK_miss {v : Nat → Nat → Int32} {r1 : Int32} {r2 : Int32} {A1 : Int} (hB : rB v) (h : rK v) (ci : cI v) (mi : mI v) (hc : ((¬ (0 ≤ A1 ∧ A1 ≤ 2) ∧ r1 = -1) ∨ ((0 ≤ A1 ∧ A1 ≤ 2) ∧ (v 18 2).toInt = 0 ∧ r1 = -4) ∨ ((0 ≤ A1 ∧ A1 ≤ 2) ∧ (v 18 2).toInt ≠ 0 ∧ r1 = msC v A1.toNat (v 18 2).toInt.toNat))) (hm : ((¬ (0 ≤ A1 ∧ A1 ≤ 2) ∧ r2 = -1) ∨ ((0 ≤ A1 ∧ A1 ≤ 2) ∧ r2 = msM v A1.toNat (v 106 7).toInt.toNat))) : r1 = r2 := by
  have b7 : 0 ≤ (v 18 2).toInt ∧ (v 18 2).toInt ≤ 12 := by rw [h.1]; exact mi.1
  rw [← h.1] at hm
  rcases hc with ⟨f, e1⟩ | ⟨f, c, e1⟩ | ⟨f, c, e1⟩ <;> rcases hm with ⟨g, e3⟩ | ⟨g, e3⟩
  · rw [e1, e3]
  · exact absurd g f
  · exact absurd f g
  · rw [e1, e3, c]; rfl
  · exact absurd f g
  · obtain ⟨n, hn⟩ : ∃ n, (v 18 2).toInt.toNat = n + 1 := ⟨(v 18 2).toInt.toNat - 1, by omega⟩
    rw [e1, e3, hn]
    exact (ms_eq hB h ci (by omega) n (by omega)).1
theorem gu_row {v : Nat → Nat → Int32} {k j : Nat} {x : Int32} {b : Nat} : gu v k j x k b = if b = j then x else v k b := by
  rw [gu_at]
  simp
theorem jabs_I {x : Int32} {X : Int} (h : bd x X) (hX : X < 2147483648) : (jabs x).toInt = ab x.toInt := by
  have a := abs_eq h hX
  rw [← a.1]
  unfold abM ab
  unfold bd at h
  split
  · exact fb_negI (by omega)
  · rfl
theorem mvC_I {a b c d : Int32} (ha : 0 ≤ a.toInt ∧ a.toInt ≤ 23) (hb : 0 ≤ b.toInt ∧ b.toInt ≤ 9) (hc : 0 ≤ c.toInt ∧ c.toInt ≤ 23) (hd : 0 ≤ d.toInt ∧ d.toInt ≤ 9) : (mvC a b c d).toInt = mvI a.toInt b.toInt c.toInt d.toInt := by
  have e1 : (a - c).toInt = a.toInt - c.toInt := fb_subI (by omega) (by omega)
  have e2 : (b - d).toInt = b.toInt - d.toInt := fb_subI (by omega) (by omega)
  have j1 : (jabs (a - c)).toInt = ab (a.toInt - c.toInt) := by rw [← e1]; exact jabs_I (X := 23) ⟨by omega, by omega⟩ (by decide)
  have j2 : (jabs (b - d)).toInt = ab (b.toInt - d.toInt) := by rw [← e2]; exact jabs_I (X := 9) ⟨by omega, by omega⟩ (by decide)
  have r1 : 0 ≤ ab (a.toInt - c.toInt) ∧ ab (a.toInt - c.toInt) ≤ 23 := by unfold ab; split <;> omega
  have r2 : 0 ≤ ab (b.toInt - d.toInt) ∧ ab (b.toInt - d.toInt) ≤ 9 := by unfold ab; split <;> omega
  have z24 : (24 : Int32).toInt = 24 := by decide
  have z3 : (3 : Int32).toInt = 3 := by decide
  have z7 : (7 : Int32).toInt = 7 := by decide
  have m1 : (24 - jabs (a - c)).toInt = 24 - ab (a.toInt - c.toInt) := ia_sub rfl z24 j1 (by omega) (by omega)
  have m2 : (jmin (jabs (a - c)) (24 - jabs (a - c))).toInt = tn (ab (a.toInt - c.toInt)) := by
    unfold jmin tn
    by_cases q : 24 - jabs (a - c) < jabs (a - c)
    · rw [if_pos q]
      rw [fa_lt, m1, j1] at q
      rw [if_pos (by omega), m1]
    · rw [if_neg q]
      rw [fa_lt, m1, j1] at q
      rw [if_neg (by omega), j1]
  have r3 : 0 ≤ tn (ab (a.toInt - c.toInt)) ∧ tn (ab (a.toInt - c.toInt)) ≤ 12 := by unfold tn; split <;> omega
  have m3 : (3 * jmin (jabs (a - c)) (24 - jabs (a - c))).toInt = 3 * tn (ab (a.toInt - c.toInt)) := ia_mul rfl z3 m2 (by omega) (by omega)
  have m4 : (7 * jabs (b - d)).toInt = 7 * ab (b.toInt - d.toInt) := ia_mul rfl z7 j2 (by omega) (by omega)
  exact ia_add rfl m3 m4 (by omega) (by omega)
theorem ab_sym (x y : Int) : ab (x - y) = ab (y - x) := by unfold ab; split <;> split <;> omega
theorem mvI_sym (a b c d : Int) : mvI a b c d = mvI c d a b := by unfold mvI; rw [ab_sym a c, ab_sym b d]
theorem mvI_0 (a b : Int) : mvI a b a b = 0 := by
  unfold mvI
  rw [Int.sub_self, Int.sub_self]
  decide
theorem pP_place {v : Nat → Nat → Int32} {v1 : Nat → Nat → Int32} {v2 : Nat → Nat → Int32} {w : Nat → Nat → Int64} {r1 : Int32} {r2 : Int32} {p1 : Int32} {p2 : Int32} {A1 : Int} {A2 : Int} (a1 : p1.toInt = A1) (a2 : p2.toInt = A2) (h : rP v) (mi : mI v) (hc : cI v1 ∧ fC 66 83 v w v1 w ∧ ((¬ rF19 A1 A2 ∧ r1 = -1 ∧ v1 = v) ∨ (rF19 A1 A2 ∧ 9 ≤ (v 66 0).toInt ∧ r1 = -3 ∧ v1 = v) ∨ (rF19 A1 A2 ∧ (v 66 0).toInt < 9 ∧ r1 = v 66 0 ∧ fP4 (gu (gu (gu (gu (gu v 80 (v 66 0).toInt.toNat p1) 81 (v 66 0).toInt.toNat p2) 67 (v 66 0).toInt.toNat (vp_nar .boolean 0)) 66 0 (v 66 0 + 1)) 66 3 0) v1 ∧ mxF (gu (gu (gu (gu (gu v 80 (v 66 0).toInt.toNat p1) 81 (v 66 0).toInt.toNat p2) 67 (v 66 0).toInt.toNat (vp_nar .boolean 0)) 66 0 (v 66 0 + 1)) 66 3 0) v1 (v 66 0).toInt.toNat ∧ v1 82 = v 82))) (hm : mI v2 ∧ fM 123 126 22 23 v1 w v2 w ∧ ((¬ rF19 A1 A2 ∧ r2 = -1 ∧ v2 = v1) ∨ (rF19 A1 A2 ∧ (v1 106 22).toInt = 9 ∧ r2 = -3 ∧ v2 = v1) ∨ (rF19 A1 A2 ∧ (v1 106 22).toInt < 9 ∧ r2 = v1 106 22 + 1 - 1 ∧ v2 = (gu (gu (gu (gu v1 123 (v1 106 22).toInt.toNat p1) 124 (v1 106 22).toInt.toNat p2) 125 (v1 106 22).toInt.toNat (vp_nar .boolean 0)) 106 22 (v1 106 22 + 1))))) : r1 = r2 ∧ rP v2 := by
  obtain ⟨h1, h2, h3, h4, h5, h6⟩ := h
  have e : v1 106 22 = v 66 0 := (congrFun (hc.2.1.1 106 (by decide)) 22).trans h1.symm
  have e3' : v1 123 = v 123 := hc.2.1.1 123 (by decide)
  have e4' : v1 124 = v 124 := hc.2.1.1 124 (by decide)
  have e5 : v1 125 = v 125 := hc.2.1.1 125 (by decide)
  have u : ∀ k, k < 106 → v2 k = v1 k := fun k q => hm.2.1.1 k (by omega) (by omega)
  have b9 := mi.2.2.2.1
  rw [← h1] at b9
  have hA := mi.2.2.2.2.2.2.2.2.2.2.2.2
  rw [← h1] at hA
  rcases hc.2.2 with ⟨f, e1, e2⟩ | ⟨f, c, e1, e2⟩ | ⟨f, c, e1, e2, x2, -⟩ <;> rcases hm.2.2 with ⟨g, e3, e4⟩ | ⟨g, d, e3, e4⟩ | ⟨g, d, e3, e4⟩
  · exact ⟨e1.trans e3.symm, by rw [e4, e2]; exact ⟨h1, h2, h3, h4, h5, h6⟩⟩
  · exact absurd g f
  · exact absurd g f
  · exact absurd f g
  · exact ⟨e1.trans e3.symm, by rw [e4, e2]; exact ⟨h1, h2, h3, h4, h5, h6⟩⟩
  · rw [e] at d; omega
  · exact absurd f g
  · rw [e] at d; omega
  · unfold rF19 at f
    obtain ⟨N, hN⟩ : ∃ N, N = (v 66 0).toInt.toNat := ⟨_, rfl⟩
    rw [← hN] at e2 x2
    rw [e, ← hN] at e4
    have i1 : (v 66 0 + 1).toInt = (v 66 0).toInt + 1 := ia_add rfl rfl (by decide) (by omega) (by omega)
    have y0 : v2 66 0 = v 66 0 + 1 := by rw [u 66 (by decide), e2.1, gu_n (by decide), gu_y]
    have y67 : ∀ k, v2 67 k = if k = N then vp_nar .boolean 0 else v 67 k := fun k => by rw [u 67 (by decide), e2.2.1, gu_n (by omega), gu_n (by omega), gu_row, gu_n (by omega), gu_n (by omega)]
    have y80 : ∀ k, v2 80 k = if k = N then p1 else v 80 k := fun k => by rw [u 80 (by decide), e2.2.2.1, gu_n (by omega), gu_n (by omega), gu_n (by omega), gu_n (by omega), gu_row]
    have y81 : ∀ k, v2 81 k = if k = N then p2 else v 81 k := fun k => by rw [u 81 (by decide), e2.2.2.2, gu_n (by omega), gu_n (by omega), gu_n (by omega), gu_row, gu_n (by omega)]
    have z80 : ∀ k, (gu (gu (gu (gu (gu v 80 N p1) 81 N p2) 67 N (vp_nar .boolean 0)) 66 0 (v 66 0 + 1)) 66 3 0) 80 k = v2 80 k := fun k => by rw [u 80 (by decide), e2.2.2.1]
    have z81 : ∀ k, (gu (gu (gu (gu (gu v 80 N p1) 81 N p2) 67 N (vp_nar .boolean 0)) 66 0 (v 66 0 + 1)) 66 3 0) 81 k = v2 81 k := fun k => by rw [u 81 (by decide), e2.2.2.2]
    have zr : ∀ a b, a < 10 → (gu (gu (gu (gu (gu v 80 N p1) 81 N p2) 67 N (vp_nar .boolean 0)) 66 0 (v 66 0 + 1)) 66 3 0) (69 + a) b = v (69 + a) b := fun a b ha => by rw [gu_n (by omega), gu_n (by omega), gu_n (by omega), gu_n (by omega), gu_n (by omega)]
    have mx : ∀ a b, a < 10 → b < 10 → v2 (69 + a) b = if (a = N ∧ (b < N ∨ b = 9)) ∨ (b = N ∧ (a < N ∨ a = 9)) then mvC (v2 80 N) (v2 81 N) (v2 80 (if a = N then b else a)) (v2 81 (if a = N then b else a)) else v (69 + a) b := fun a b ha hb => by
      rw [u (69 + a) (by omega), x2 a b ha hb, z80, z81, z80, z81, zr a b ha]
    have bA : ∀ k, inP ((v 66 0).toInt + 1) k → (0 ≤ (v2 80 k).toInt ∧ (v2 80 k).toInt ≤ 23) ∧ (0 ≤ (v2 81 k).toInt ∧ (v2 81 k).toInt ≤ 9) := fun k hk => by
      rw [y80, y81]
      by_cases q : k = N
      · rw [if_pos q, if_pos q]; exact ⟨by omega, by omega⟩
      · rw [if_neg q, if_neg q]
        unfold inP at hk
        by_cases q2 : (k : Int) < (v 66 0).toInt
        · rw [(h3 k q2).1, (h3 k q2).2]; exact hA k q2
        · have k9 : k = 9 := by omega
          rw [k9, h4.1, h4.2]
          decide
    refine ⟨by rw [e1, e3, e]; simp, ?_, fun k hk => ?_, fun k hk => ?_, ?_, fun p hp => ?_, fun p q a b c => ?_⟩
    · rw [y0, e4, gu_y]
    · have R : v2 125 k = if k = N then vp_nar .boolean 0 else v 125 k := by rw [e4, gu_n (by omega), gu_row, gu_n (by omega), gu_n (by omega), e5]
      rw [y67, R]
      split
      · rfl
      · exact h2 k hk
    · rw [y0, i1] at hk
      have R3 : v2 123 k = if k = N then p1 else v 123 k := by rw [e4, gu_n (by omega), gu_n (by omega), gu_n (by omega), gu_row, e3']
      have R4 : v2 124 k = if k = N then p2 else v 124 k := by rw [e4, gu_n (by omega), gu_n (by omega), gu_row, gu_n (by omega), e4']
      rw [y80, y81, R3, R4]
      split
      · exact ⟨rfl, rfl⟩
      · exact h3 k (by omega)
    · rw [y80, y81, if_neg (by omega), if_neg (by omega)]; exact h4
    · rw [mx p p hp hp, if_neg (by omega)]; exact h5 p hp
    · rw [y0, i1] at a b
      have ha : p < 10 := by unfold inP at a; omega
      have hb : q < 10 := by unfold inP at b; omega
      rw [mx p q ha hb]
      by_cases q1 : p = N
      · have iN : inP ((v 66 0).toInt + 1) N := by unfold inP; omega
        rw [if_pos (by unfold inP at b; omega), if_pos q1, mvC_I (bA N iN).1 (bA N iN).2 (bA q b).1 (bA q b).2, q1]
      · by_cases q2 : q = N
        · have iN : inP ((v 66 0).toInt + 1) N := by unfold inP; omega
          rw [if_pos (by unfold inP at a; omega), if_neg q1, mvC_I (bA N iN).1 (bA N iN).2 (bA p a).1 (bA p a).2, q2, mvI_sym]
        · rw [if_neg (by omega), y80, y81, y80, y81, if_neg q1, if_neg q1, if_neg q2, if_neg q2]
          exact h6 p q (by unfold inP at a ⊢; omega) (by unfold inP at b ⊢; omega) c
theorem pP_done {v : Nat → Nat → Int32} {v1 : Nat → Nat → Int32} {v2 : Nat → Nat → Int32} {w : Nat → Nat → Int64} {r1 : Int32} {r2 : Int32} {p2 : Int32} {A1 : Int} {A2 : Int} (h : rP v) (mi : mI v) (ci : cI v) (hc : cI v1 ∧ fC 66 83 v w v1 w ∧ ((¬ (0 ≤ A1 ∧ A1 < (v 66 0).toInt) ∧ r1 = -1 ∧ v1 = v) ∨ (0 ≤ A1 ∧ A1 < (v 66 0).toInt ∧ r1 = lo1 (v 67 A1.toNat) ∧ v1 = (gu (gu v 67 A1.toNat (vp_nar .boolean p2)) 66 3 (plD (v 66 3).toInt (v 67 A1.toNat).toInt A2))))) (hm : mI v2 ∧ fM 123 126 22 23 v1 w v2 w ∧ ((¬ (0 ≤ A1 ∧ A1 < (v1 106 22).toInt) ∧ r2 = -1 ∧ v2 = v1) ∨ (0 ≤ A1 ∧ A1 < (v1 106 22).toInt ∧ r2 = lo1 (v1 125 A1.toNat) ∧ v2 = (gu v1 125 A1.toNat (vp_nar .boolean p2))))) : r1 = r2 ∧ rP v2 := by
  have e : v1 106 22 = v 66 0 := (congrFun (hc.2.1.1 106 (by decide)) 22).trans h.1.symm
  have e3' : v1 123 = v 123 := hc.2.1.1 123 (by decide)
  have e4' : v1 124 = v 124 := hc.2.1.1 124 (by decide)
  have e5 : v1 125 = v 125 := hc.2.1.1 125 (by decide)
  have u : ∀ k, k < 106 → v2 k = v1 k := fun k q => hm.2.1.1 k (by omega) (by omega)
  have b9 := mi.2.2.2.1
  rw [← h.1] at b9
  rcases hc.2.2 with ⟨f, e1, e2⟩ | ⟨f, c, e1, e2⟩ <;> rcases hm.2.2 with ⟨g, e3, e4⟩ | ⟨g, d, e3, e4⟩
  · exact ⟨e1.trans e3.symm, by rw [e4, e2]; exact h⟩
  · rw [e] at d; exact absurd ⟨g, d⟩ f
  · rw [e] at g; exact absurd ⟨f, c⟩ g
  · have hw : ∀ k, k < 106 → k ≠ 66 → k ≠ 67 → v2 k = v k := fun k q1 q2 q3 => by rw [u k q1, e2, gu_o q2, gu_o q3]
    have w0 : v2 66 0 = v 66 0 := by rw [u 66 (by decide), e2, gu_n (by omega), gu_n (by omega)]
    have w22 : v2 106 22 = v 66 0 := by rw [e4, gu_n (by omega), e]
    have w3 : v2 123 = v 123 := by rw [e4, gu_o (by decide), e3']
    have w4 : v2 124 = v 124 := by rw [e4, gu_o (by decide), e4']
    obtain ⟨h1, h2, h3, h4, h5, h6⟩ := h
    refine ⟨by rw [e1, e3, e5, h2 _ (by omega)], ?_, fun k hk => ?_, fun k hk => ?_, ?_, fun p hp => ?_, fun p q a b c => ?_⟩
    · rw [w0, w22]
    · rw [u 67 (by decide), e2, gu_n (by omega), gu_row, e4, gu_row, e5]
      split
      · rfl
      · exact h2 k hk
    · rw [w0] at hk
      rw [hw 80 (by decide) (by decide) (by decide), hw 81 (by decide) (by decide) (by decide), w3, w4]; exact h3 k hk
    · rw [hw 80 (by decide) (by decide) (by decide), hw 81 (by decide) (by decide) (by decide)]; exact h4
    · rw [hw (69 + p) (by omega) (by omega) (by omega)]; exact h5 p hp
    · rw [w0] at a b
      have ha : p < 10 := by unfold inP at a; omega
      rw [hw 80 (by decide) (by decide) (by decide), hw 81 (by decide) (by decide) (by decide), hw (69 + p) (by omega) (by omega) (by omega)]; exact h6 p q a b c
theorem pP_plan {v v1 v2 : Nat → Nat → Int32} {w : Nat → Nat → Int64} (h : rP v) (ci : cI v) (a : fC 66 83 v w v1 w) (f : fPl v v1) (b : fM 126 127 0 0 v1 w v2 w) : rP v2 :=
  rP_cg h ((congrFun (b.1 66 (by decide) (by decide)) 0).trans f.1) ((b.2.1 22 (by decide)).trans (congrFun (a.1 106 (by decide)) 22)) (fun k q1 q2 => (b.1 k (by omega) (by omega)).trans (f.2.1 k q1 q2)) ((b.1 80 (by decide) (by decide)).trans f.2.2.1) ((b.1 81 (by decide) (by decide)).trans f.2.2.2) ((b.1 123 (by decide) (by decide)).trans (a.1 123 (by decide))) ((b.1 124 (by decide) (by decide)).trans (a.1 124 (by decide))) ((b.1 125 (by decide) (by decide)).trans (a.1 125 (by decide))) ci.2.2.1.2
theorem pP_moves {v : Nat → Nat → Int32} {r1 : Int32} {r2 : Int32} {A1 : Int} {A2 : Int} (h : rP v) (ci : cI v) (hc : ((¬ ((0 ≤ A1 ∧ A1 < (v 66 0).toInt) ∧ (0 ≤ A2 ∧ A2 < (v 66 0).toInt)) ∧ r1 = -1) ∨ ((0 ≤ A1 ∧ A1 < (v 66 0).toInt) ∧ (0 ≤ A2 ∧ A2 < (v 66 0).toInt) ∧ r1 = v (69 + A1.toNat) A2.toNat))) (hm : (¬ ((0 ≤ A1 ∧ A1 < (v 106 22).toInt) ∧ (0 ≤ A2 ∧ A2 < (v 106 22).toInt)) ∧ r2 = -1) ∨ (((0 ≤ A1 ∧ A1 < (v 106 22).toInt) ∧ (0 ≤ A2 ∧ A2 < (v 106 22).toInt)) ∧ r2.toInt = mvI (v 123 A1.toNat).toInt (v 124 A1.toNat).toInt (v 123 A2.toNat).toInt (v 124 A2.toNat).toInt)) : r1 = r2 := by
  obtain ⟨h1, h2, h3, h4, h5, h6⟩ := h
  rw [← h1] at hm
  rcases hc with ⟨f, e1⟩ | ⟨f, f2, e1⟩ <;> rcases hm with ⟨g, e2⟩ | ⟨⟨g, g2⟩, e2⟩
  · rw [e1, e2]
  · exact absurd ⟨g, g2⟩ f
  · exact absurd ⟨f, f2⟩ g
  · have n9 := ci.2.2.1.2
    refine i_ext ?_
    rw [e2, e1]
    obtain ⟨x1, x2⟩ := h3 A1.toNat (by omega)
    obtain ⟨y1, y2⟩ := h3 A2.toNat (by omega)
    rw [← x1, ← x2, ← y1, ← y2]
    by_cases q : A1.toNat = A2.toNat
    · rw [q, mvI_0, h5 _ (by omega)]; decide
    · exact h6 _ _ (Or.inl (by omega)) (Or.inl (by omega)) q
theorem pT_tube {v : Nat → Nat → Int32} {v1 : Nat → Nat → Int32} {v2 : Nat → Nat → Int32} {w : Nat → Nat → Int64} {r1 : Int32} {r2 : Int32} {p1 : Int32} {A1 : Int} (h : rT v) (mi : mI v) (hc : cI v1 ∧ fC 93 97 v w v1 w ∧ ((¬ (1 ≤ A1 ∧ A1 ≤ 100) ∧ r1 = -1 ∧ v1 = v) ∨ ((1 ≤ A1 ∧ A1 ≤ 100) ∧ 10 ≤ (v 93 0).toInt ∧ r1 = -3 ∧ v1 = v) ∨ ((1 ≤ A1 ∧ A1 ≤ 100) ∧ (v 93 0).toInt < 10 ∧ r1 = v 93 0 + 1 - 1 ∧ v1 = (gu (gu (gu (gu v 96 (v 93 0).toInt.toNat p1) 94 (v 93 0).toInt.toNat (vp_nar .boolean 1)) 95 (v 93 0).toInt.toNat 0) 93 0 (v 93 0 + 1))))) (hm : mI v2 ∧ fM 128 131 35 36 v1 w v2 w ∧ ((¬ (1 ≤ A1 ∧ A1 ≤ 100) ∧ r2 = -1 ∧ v2 = v1) ∨ ((1 ≤ A1 ∧ A1 ≤ 100) ∧ (v1 106 35).toInt = 10 ∧ r2 = -3 ∧ v2 = v1) ∨ ((1 ≤ A1 ∧ A1 ≤ 100) ∧ (v1 106 35).toInt < 10 ∧ r2 = v1 106 35 + 1 - 1 ∧ v2 = (gu (gu (gu (gu v1 128 (v1 106 35).toInt.toNat p1) 129 (v1 106 35).toInt.toNat 0) 130 (v1 106 35).toInt.toNat (vp_nar .boolean 1)) 106 35 (v1 106 35 + 1))))) : r1 = r2 ∧ rT v2 := by
  obtain ⟨h1, h2, h3, h4, h5, h6⟩ := h
  have e : v1 106 35 = v 93 0 := (congrFun (hc.2.1.1 106 (by decide)) 35).trans h1.symm
  have e28 : v1 128 = v 128 := hc.2.1.1 128 (by decide)
  have e29 : v1 129 = v 129 := hc.2.1.1 129 (by decide)
  have e30 : v1 130 = v 130 := hc.2.1.1 130 (by decide)
  have u3 : v2 93 = v1 93 := hm.2.1.1 93 (by decide) (by decide)
  have u4 : v2 94 = v1 94 := hm.2.1.1 94 (by decide) (by decide)
  have u5 : v2 95 = v1 95 := hm.2.1.1 95 (by decide) (by decide)
  have u6 : v2 96 = v1 96 := hm.2.1.1 96 (by decide) (by decide)
  have b9 : 0 ≤ (v 93 0).toInt ∧ (v 93 0).toInt ≤ 10 := by rw [h1]; exact mi.2.2.2.2.2.2.2.2.1
  rcases hc.2.2 with ⟨f, e1, e2⟩ | ⟨f, c, e1, e2⟩ | ⟨f, c, e1, e2⟩ <;> rcases hm.2.2 with ⟨g, e3, e4⟩ | ⟨g, d, e3, e4⟩ | ⟨g, d, e3, e4⟩
  · exact ⟨e1.trans e3.symm, by rw [e4, e2]; exact ⟨h1, h2, h3, h4, h5, h6⟩⟩
  · exact absurd g f
  · exact absurd g f
  · exact absurd f g
  · exact ⟨e1.trans e3.symm, by rw [e4, e2]; exact ⟨h1, h2, h3, h4, h5, h6⟩⟩
  · rw [e] at d; omega
  · exact absurd f g
  · rw [e] at d; omega
  · refine ⟨by rw [e1, e3, e], ?_, fun k hk => ?_, fun k hk => ?_, fun k hk => ?_, fun k hk q => ?_, fun k hk => ?_⟩
    · rw [u3, e2, gu_y, e4, gu_y, e]
    · have L : v2 96 k = if k = (v 93 0).toInt.toNat then p1 else v 96 k := by rw [u6, e2, gu_n (by omega), gu_n (by omega), gu_n (by omega), gu_row]
      have R : v2 128 k = if k = (v 93 0).toInt.toNat then p1 else v 128 k := by rw [e4, gu_n (by omega), gu_n (by omega), gu_n (by omega), gu_row, e, e28]
      rw [L, R]
      split
      · rfl
      · exact h2 k hk
    · have L : v2 95 k = if k = (v 93 0).toInt.toNat then 0 else v 95 k := by rw [u5, e2, gu_n (by omega), gu_row, gu_n (by omega), gu_n (by omega)]
      have R : v2 129 k = if k = (v 93 0).toInt.toNat then 0 else v 129 k := by rw [e4, gu_n (by omega), gu_n (by omega), gu_row, gu_n (by omega), e, e29]
      rw [L, R]
      split
      · rfl
      · exact h3 k hk
    · have L : v2 94 k = if k = (v 93 0).toInt.toNat then vp_nar .boolean 1 else v 94 k := by rw [u4, e2, gu_n (by omega), gu_n (by omega), gu_row, gu_n (by omega)]
      have R : v2 130 k = if k = (v 93 0).toInt.toNat then vp_nar .boolean 1 else v 130 k := by rw [e4, gu_n (by omega), gu_row, gu_n (by omega), gu_n (by omega), e, e30]
      rw [L, R]
      split
      · rfl
      · exact h4 k hk
    · rw [u4, e2, gu_n (by omega), gu_n (by omega), gu_row] at q
      rw [u5, e2, gu_n (by omega), gu_row]
      split
      · rfl
      · rw [if_neg (by assumption), gu_n (by omega)] at q
        rw [gu_n (by omega), gu_n (by omega)]
        exact h5 k hk q
    · rw [u5, e2, gu_n (by omega), gu_row]
      split
      · exact ⟨by decide, by decide⟩
      · rw [gu_n (by omega), gu_n (by omega)]; exact h6 k hk
theorem nar_0 {p : Int32} (h : p.toInt = 0 ∨ p.toInt = 1) (q : (vp_nar .boolean p).toInt ≠ 0) : p.toInt ≠ 0 := by
  intro h0
  have : p = 0 := i_ext (by rw [h0]; decide)
  rw [this] at q
  exact q (by decide)
theorem pT_press {v : Nat → Nat → Int32} {v1 : Nat → Nat → Int32} {v2 : Nat → Nat → Int32} {w : Nat → Nat → Int64} {r1 : Int32} {r2 : Int32} {p2 : Int32} {p3 : Int32} {A1 : Int} {A2 : Int} {A3 : Int} (a2 : p2.toInt = A2) (a3 : p3.toInt = A3) (bz : A2 = 0 ∨ A2 = 1) (h : rT v) (mi : mI v) (hc : cI v1 ∧ fC 93 97 v w v1 w ∧ ((¬ rF29 A1 A2 A3 (v 93 0).toInt ∧ r1 = -1 ∧ v1 = v) ∨ (rF29 A1 A2 A3 (v 93 0).toInt ∧ r1 = 1 ∧ v1 = (gu (gu v 94 A1.toNat (vp_nar .boolean p2)) 95 A1.toNat (prS A2 p3))))) (hm : mI v2 ∧ fM 128 131 35 36 v1 w v2 w ∧ ((¬ rF29 A1 A2 A3 (v1 106 35).toInt ∧ r2 = -1 ∧ v2 = v1) ∨ (rF29 A1 A2 A3 (v1 106 35).toInt ∧ r2 = 1 ∧ v2 = (gu (gu v1 130 A1.toNat (vp_nar .boolean p2)) 129 A1.toNat (prS A2 p3))))) : r1 = r2 ∧ rT v2 := by
  obtain ⟨h1, h2, h3, h4, h5, h6⟩ := h
  have e : v1 106 35 = v 93 0 := (congrFun (hc.2.1.1 106 (by decide)) 35).trans h1.symm
  have e28 : v1 128 = v 128 := hc.2.1.1 128 (by decide)
  have e29 : v1 129 = v 129 := hc.2.1.1 129 (by decide)
  have e30 : v1 130 = v 130 := hc.2.1.1 130 (by decide)
  have u3 : v2 93 = v1 93 := hm.2.1.1 93 (by decide) (by decide)
  have u4 : v2 94 = v1 94 := hm.2.1.1 94 (by decide) (by decide)
  have u5 : v2 95 = v1 95 := hm.2.1.1 95 (by decide) (by decide)
  have u6 : v2 96 = v1 96 := hm.2.1.1 96 (by decide) (by decide)
  have b9 : 0 ≤ (v 93 0).toInt ∧ (v 93 0).toInt ≤ 10 := by rw [h1]; exact mi.2.2.2.2.2.2.2.2.1
  rcases hc.2.2 with ⟨f, e1, e2⟩ | ⟨f, e1, e2⟩ <;> rcases hm.2.2 with ⟨g, e3, e4⟩ | ⟨g, e3, e4⟩
  · exact ⟨e1.trans e3.symm, by rw [e4, e2]; exact ⟨h1, h2, h3, h4, h5, h6⟩⟩
  · rw [e] at g; exact absurd g f
  · rw [e] at g; exact absurd f g
  · refine ⟨e1.trans e3.symm, ?_, fun k hk => ?_, fun k hk => ?_, fun k hk => ?_, fun k hk q => ?_, fun k hk => ?_⟩
    · rw [u3, e2, gu_n (by omega), gu_n (by omega), e4, gu_n (by omega), gu_n (by omega), e]
    · rw [u6, e2, gu_n (by omega), gu_n (by omega), e4, gu_n (by omega), gu_n (by omega), e28]; exact h2 k hk
    · rw [u5, e2, gu_row, e4, gu_row]
      split
      · rfl
      · rw [gu_n (by omega), gu_n (by omega), e29]; exact h3 k hk
    · rw [u4, e2, gu_n (by omega), gu_row, e4, gu_n (by omega), gu_row, e30]
      split
      · rfl
      · exact h4 k hk
    · rw [u4, e2, gu_n (by omega), gu_row] at q
      rw [u5, e2, gu_row]
      split
      · rw [if_pos (by assumption)] at q
        have := nar_0 (by omega) q
        unfold prS
        rw [if_neg (by omega)]
      · rw [if_neg (by assumption)] at q
        rw [gu_n (by omega)]
        exact h5 k hk q
    · rw [u5, e2, gu_row]
      split
      · unfold prS
        unfold rF29 at f
        split
        · exact ⟨by omega, by omega⟩
        · exact ⟨by decide, by decide⟩
      · rw [gu_n (by omega)]; exact h6 k hk
theorem prs_bd (x : Int32) : bd (prsOf x) 1000 := by
  unfold prsOf
  split
  · exact (by assumption)
  · exact ⟨by decide, by decide⟩
theorem lo1_lost (x : Int32) : (lostOf x).toInt ≠ 0 → prsOf x = 0 := by
  intro h
  unfold prsOf
  unfold lostOf at h
  split
  · rw [if_pos (by assumption)] at h; exact absurd (by decide) h
  · rfl
theorem rL_lane {a b : Int32} (h : rL a b) {x : Int} (hx : 0 ≤ x ∧ x ≤ 2) : ((flL a.toInt x).toInt = 0 ↔ b.toInt = x) ∧ (b.toInt ≠ x → -10 - flL a.toInt x = if b.toInt = -4 then -11 else -13) := by
  rcases h with ⟨h1, h2⟩ | ⟨h1, h2, h3⟩
  · unfold flL
    rw [if_pos h1, h2]
    refine ⟨⟨fun q => absurd q (by decide), fun q => by omega⟩, fun _ => by rfl⟩
  · subst h1
    unfold flL
    rw [if_neg (by omega)]
    by_cases q : a.toInt = x
    · rw [if_pos q]
      exact ⟨⟨fun _ => q, fun _ => by decide⟩, fun n => absurd q n⟩
    · rw [if_neg q]
      exact ⟨⟨fun n => absurd n (by decide), fun n => absurd n q⟩, fun _ => by rw [if_neg (by omega)]; rfl⟩
theorem up_y {v : Nat → Nat → Int32} {k : Nat} {f : Nat → Int32} : va_up v k f k = f := by simp [va_up]
theorem flC_val {lane sz a n : Int} (h : lane ≠ -1) : ((flC lane sz a n).toInt = 0 ↔ (n = 0 ∨ (0 ≤ a ∧ a ≤ sz - n))) ∧ (¬ (n = 0 ∨ (0 ≤ a ∧ a ≤ sz - n)) → flC lane sz a n = 2) := by
  unfold flC
  rw [if_neg h]
  by_cases q : n = 0 ∨ (0 ≤ a ∧ a ≤ sz - n)
  · rw [if_pos q]
    exact ⟨⟨fun _ => q, fun _ => by decide⟩, fun r => absurd q r⟩
  · rw [if_neg q]
    exact ⟨⟨fun r => absurd r (by decide), fun r => absurd r q⟩, fun _ => rfl⟩
theorem flC_n {sz a n : Int} : flC (-1) sz a n = 1 := by unfold flC; rw [if_pos rfl]
theorem flL_0 {lane x : Int} (h : (flL lane x).toInt = 0) : lane ≠ -1 := by
  intro q
  unfold flL at h
  rw [if_pos q] at h
  exact absurd h (by decide)
theorem flN_cg {F G a b : Nat → Int32} {n : Int} {k : Nat} (h1 : (k : Int) < n → F k = G k) (h2 : a k = b k) : flN F a n k = flN G b n k := by
  unfold flN
  split
  · exact h1 (by assumption)
  · exact h2
theorem pT_scan {v : Nat → Nat → Int32} {v1 : Nat → Nat → Int32} {v2 : Nat → Nat → Int32} {w : Nat → Nat → Int64} {r1 : Int32} {r2 : Int32} {A1 : Int} {A2 : Int} {A3 : Int} (h : rT v) (hH : rH v) (mi : mI v) (hc : cI v1 ∧ fC 93 97 v w v1 w ∧ ((¬ rF32 A1 A2 ∧ r1 = -1 ∧ v1 = v) ∨ (rF32 A1 A2 ∧ (flL (v (98 + 2 * A1.toNat) 0).toInt A2).toInt ≠ 0 ∧ r1 = -10 - flL (v (98 + 2 * A1.toNat) 0).toInt A2 ∧ v1 = v) ∨ (rF32 A1 A2 ∧ (flL (v (98 + 2 * A1.toNat) 0).toInt A2).toInt = 0 ∧ (flC (v (98 + 2 * A1.toNat) 0).toInt (v (98 + 2 * A1.toNat) 1).toInt A3 (v 93 0).toInt).toInt ≠ 0 ∧ r1 = -10 - flC (v (98 + 2 * A1.toNat) 0).toInt (v (98 + 2 * A1.toNat) 1).toInt A3 (v 93 0).toInt ∧ v1 = v) ∨ (rF32 A1 A2 ∧ (flL (v (98 + 2 * A1.toNat) 0).toInt A2).toInt = 0 ∧ (flC (v (98 + 2 * A1.toNat) 0).toInt (v (98 + 2 * A1.toNat) 1).toInt A3 (v 93 0).toInt).toInt = 0 ∧ r1 = sumN (fun k => lo1 (v1 94 k)) (v 93 0).toInt.toNat ∧ v1 = va_up (va_up v 94 (flN (fun k => lostOf (v ((98 + 2 * A1.toNat) + 1) (A3.toNat + k))) (v 94) (v 93 0).toInt)) 95 (flN (fun k => prsOf (v ((98 + 2 * A1.toNat) + 1) (A3.toNat + k))) (v 95) (v 93 0).toInt)))) (hm : mI v2 ∧ fM 128 131 35 36 v1 w v2 w ∧ ((¬ rF32 A1 A2 ∧ r2 = -1 ∧ v2 = v1) ∨ (rF32 A1 A2 ∧ (v1 131 A1.toNat).toInt ≠ A2 ∧ (v1 131 A1.toNat).toInt = -4 ∧ r2 = -11 ∧ v2 = v1) ∨ (rF32 A1 A2 ∧ (v1 131 A1.toNat).toInt ≠ A2 ∧ (v1 131 A1.toNat).toInt ≠ -4 ∧ r2 = -13 ∧ v2 = v1) ∨ (rF32 A1 A2 ∧ (v1 131 A1.toNat).toInt = A2 ∧ ¬ ((v1 106 35).toInt ≤ 0 ∨ (0 ≤ A3 ∧ A3 + (v1 106 35).toInt ≤ (v1 132 A1.toNat).toInt)) ∧ r2 = -12 ∧ v2 = v1) ∨ (rF32 A1 A2 ∧ (v1 131 A1.toNat).toInt = A2 ∧ ((v1 106 35).toInt ≤ 0 ∨ (0 ≤ A3 ∧ A3 + (v1 106 35).toInt ≤ (v1 132 A1.toNat).toInt)) ∧ r2 = sumN (fun k => lo1 (v2 130 k)) (v1 106 35).toInt.toNat ∧ v2 = va_up (va_up v1 130 (flN (fun k => lostOf (v1 133 (60 * A1.toNat + (A3.toNat + k)))) (v1 130) (v1 106 35).toInt)) 129 (flN (fun k => prsOf (v1 133 (60 * A1.toNat + (A3.toNat + k)))) (v1 129) (v1 106 35).toInt)))) : r1 = r2 ∧ rT v2 := by
  obtain ⟨h1, h2, h3, h4, h5, h6⟩ := h
  have e : v1 106 35 = v 93 0 := (congrFun (hc.2.1.1 106 (by decide)) 35).trans h1.symm
  have e28 : v1 128 = v 128 := hc.2.1.1 128 (by decide)
  have e29 : v1 129 = v 129 := hc.2.1.1 129 (by decide)
  have e30 : v1 130 = v 130 := hc.2.1.1 130 (by decide)
  have e31 : v1 131 = v 131 := hc.2.1.1 131 (by decide)
  have e32 : v1 132 = v 132 := hc.2.1.1 132 (by decide)
  have e33 : v1 133 = v 133 := hc.2.1.1 133 (by decide)
  have u3 : v2 93 = v1 93 := hm.2.1.1 93 (by decide) (by decide)
  have u4 : v2 94 = v1 94 := hm.2.1.1 94 (by decide) (by decide)
  have u5 : v2 95 = v1 95 := hm.2.1.1 95 (by decide) (by decide)
  have u6 : v2 96 = v1 96 := hm.2.1.1 96 (by decide) (by decide)
  have b9 : 0 ≤ (v 93 0).toInt ∧ (v 93 0).toInt ≤ 10 := by rw [h1]; exact mi.2.2.2.2.2.2.2.2.1
  have hsz := mi.2.2.2.2.2.2.2.2.2.2.2.1
  by_cases F : rF32 A1 A2
  · have FF := F
    unfold rF32 at FF
    obtain ⟨hl, hs, hcl⟩ := hH A1.toNat (by omega)
    have hln := rL_lane hl (x := A2) (by omega)
    have hz := hsz A1.toNat (by omega)
    have es : (v (98 + 2 * A1.toNat) 1).toInt = (v 132 A1.toNat).toInt := by rw [hs]
    rcases hc.2.2 with ⟨f, e1, e2⟩ | ⟨f, c, e1, e2⟩ | ⟨f, c, c2, e1, e2⟩ | ⟨f, c, c2, e1, e2⟩ <;> rcases hm.2.2 with ⟨g, e3, e4⟩ | ⟨g, d, d2, e3, e4⟩ | ⟨g, d, d2, e3, e4⟩ | ⟨g, d, d2, e3, e4⟩ | ⟨g, d, d2, e3, e4⟩
    all_goals first
      | exact absurd F f
      | exact absurd F g
      | skip
    all_goals rw [e31] at d
    all_goals first
      | exact absurd (hln.1.mpr d) c
      | exact absurd (hln.1.mp c) d
      | skip
    · rw [e31] at d2
      exact ⟨by rw [e1, e3, hln.2 d, if_pos d2], by rw [e4, e2]; exact ⟨h1, h2, h3, h4, h5, h6⟩⟩
    · rw [e31] at d2
      exact ⟨by rw [e1, e3, hln.2 d, if_neg d2], by rw [e4, e2]; exact ⟨h1, h2, h3, h4, h5, h6⟩⟩
    · have hv := flC_val (sz := (v (98 + 2 * A1.toNat) 1).toInt) (a := A3) (n := (v 93 0).toInt) (flL_0 c)
      have q : ¬ ((v 93 0).toInt = 0 ∨ (0 ≤ A3 ∧ A3 ≤ (v (98 + 2 * A1.toNat) 1).toInt - (v 93 0).toInt)) := fun r => c2 (hv.1.mpr r)
      exact ⟨by rw [e1, e3, hv.2 q]; rfl, by rw [e4, e2]; exact ⟨h1, h2, h3, h4, h5, h6⟩⟩
    · have hv := flC_val (sz := (v (98 + 2 * A1.toNat) 1).toInt) (a := A3) (n := (v 93 0).toInt) (flL_0 c)
      have q : ¬ ((v 93 0).toInt = 0 ∨ (0 ≤ A3 ∧ A3 ≤ (v (98 + 2 * A1.toNat) 1).toInt - (v 93 0).toInt)) := fun r => c2 (hv.1.mpr r)
      rw [e, e32] at d2
      omega
    · have hv := flC_val (sz := (v (98 + 2 * A1.toNat) 1).toInt) (a := A3) (n := (v 93 0).toInt) (flL_0 c)
      have q := hv.1.mp c2
      rw [e, e32] at d2
      omega
    · have hv := flC_val (sz := (v (98 + 2 * A1.toNat) 1).toInt) (a := A3) (n := (v 93 0).toInt) (flL_0 c)
      have q := hv.1.mp c2
      have w4 : v1 94 = flN (fun k => lostOf (v (98 + 2 * A1.toNat + 1) (A3.toNat + k))) (v 94) (v 93 0).toInt := by rw [e2, up_n (by decide), up_y]
      have w5 : v1 95 = flN (fun k => prsOf (v (98 + 2 * A1.toNat + 1) (A3.toNat + k))) (v 95) (v 93 0).toInt := by rw [e2, up_y]
      have x0 : v2 130 = flN (fun k => lostOf (v 133 (60 * A1.toNat + (A3.toNat + k)))) (v 130) (v 93 0).toInt := by rw [e4, up_n (by decide), up_y, e33, e30, e]
      have x9 : v2 129 = flN (fun k => prsOf (v 133 (60 * A1.toNat + (A3.toNat + k)))) (v 129) (v 93 0).toInt := by rw [e4, up_y, e33, e29, e]
      have k4 : ∀ k, k < 10 → v1 94 k = v2 130 k := fun k hk => by
        rw [w4, x0]
        exact flN_cg (fun hh => by rw [hcl _ (by omega)]) (h4 k hk)
      refine ⟨?_, ?_, fun k hk => ?_, fun k hk => ?_, fun k hk => ?_, fun k hk z => ?_, fun k hk => ?_⟩
      · rw [e1, e3, e]
        exact sumN_cg _ (fun k hk => by rw [k4 k (by omega)])
      · rw [u3, e2, up_n (by decide), up_n (by decide), e4, up_n (by decide), up_n (by decide), e]
      · rw [u6, e2, up_n (by decide), up_n (by decide), e4, up_n (by decide), up_n (by decide), e28]; exact h2 k hk
      · rw [u5, w5, x9]
        exact flN_cg (fun hh => by rw [hcl _ (by omega)]) (h3 k hk)
      · rw [u4]; exact k4 k hk
      · rw [u4, w4] at z
        rw [u5, w5]
        unfold flN at z ⊢
        split
        · rw [if_pos (by assumption)] at z; exact lo1_lost _ z
        · rw [if_neg (by assumption)] at z; exact h5 k hk z
      · rw [u5, w5]
        unfold flN
        split
        · exact prs_bd _
        · exact h6 k hk
  · rcases hc.2.2 with ⟨f, e1, e2⟩ | ⟨f, c, e1, e2⟩ | ⟨f, c, c2, e1, e2⟩ | ⟨f, c, c2, e1, e2⟩ <;> rcases hm.2.2 with ⟨g, e3, e4⟩ | ⟨g, d, d2, e3, e4⟩ | ⟨g, d, d2, e3, e4⟩ | ⟨g, d, d2, e3, e4⟩ | ⟨g, d, d2, e3, e4⟩
    all_goals first
      | exact absurd f F
      | exact absurd g F
      | exact ⟨e1.trans e3.symm, by rw [e4, e2]; exact ⟨h1, h2, h3, h4, h5, h6⟩⟩
theorem pT_force {v : Nat → Nat → Int32} {r1 : Int32} {r2 : Int32} (h : rT v) (mi : mI v) (hc : r1 = sumN (fun k => v 96 k * v 95 k) (v 93 0).toInt.toNat) (hm : r2 = sumN (fcM v) (v 106 35).toInt.toNat) : r1 = r2 := by
  obtain ⟨h1, h2, h3, h4, h5, h6⟩ := h
  have b9 := mi.2.2.2.2.2.2.2.2.1
  rw [hc, hm, h1]
  refine sumN_cg _ (fun k hk => ?_)
  unfold fcM
  have hk : k < 10 := by omega
  split
  · rw [h2 k hk, h3 k hk]
  · have := h5 k hk (by rw [h4 k hk]; assumption)
    rw [this]
    simp
theorem flR_in {F old : Nat → Int32} {a b : Int} {k : Nat} (h : a ≤ (k : Int) ∧ (k : Int) < b) : flR F old a b k = F k := by unfold flR; rw [if_pos h]
theorem flR_out {F old : Nat → Int32} {a b : Int} {k : Nat} (h : ¬ (a ≤ (k : Int) ∧ (k : Int) < b)) : flR F old a b k = old k := by unfold flR; rw [if_neg h]
theorem pH_sheet {v : Nat → Nat → Int32} {v1 : Nat → Nat → Int32} {v2 : Nat → Nat → Int32} {w : Nat → Nat → Int64} {r1 : Int32} {r2 : Int32} {p2 : Int32} {p3 : Int32} {A1 : Int} {A2 : Int} {A3 : Int} (a2 : p2.toInt = A2) (h : rH v) (hc : cI v1 ∧ fC 97 106 v w v1 w ∧ ((¬ rF30 A1 A2 A3 ∧ r1 = -1 ∧ v1 = v) ∨ (rF30 A1 A2 A3 ∧ A3 < 0 ∧ r1 = -10 - 4 ∧ v1 = v) ∨ (rF30 A1 A2 A3 ∧ 0 ≤ A3 ∧ r1 = 1 ∧ v1 = va_up (gu (gu v (98 + 2 * A1.toNat) 0 p2) (98 + 2 * A1.toNat) 1 p3) ((98 + 2 * A1.toNat) + 1) (flR (fun _ => 0) (v ((98 + 2 * A1.toNat) + 1)) 0 60)))) (hm : mI v2 ∧ fM 131 134 0 0 v1 w v2 w ∧ ((¬ rF30 A1 A2 A3 ∧ r2 = -1 ∧ v2 = v1) ∨ (rF30 A1 A2 A3 ∧ A3 < 0 ∧ r2 = -14 ∧ v2 = v1) ∨ (rF30 A1 A2 A3 ∧ 0 ≤ A3 ∧ r2 = 1 ∧ v2 = va_up (gu (gu v1 131 A1.toNat p2) 132 A1.toNat p3) 133 (flR (fun _ => 0) (v1 133) (60 * A1) (60 * A1 + 60))))) : r1 = r2 ∧ rH v2 := by
  have e31 : v1 131 = v 131 := hc.2.1.1 131 (by decide)
  have e32 : v1 132 = v 132 := hc.2.1.1 132 (by decide)
  have e33 : v1 133 = v 133 := hc.2.1.1 133 (by decide)
  have u : ∀ k, 98 ≤ k → k < 106 → v2 k = v1 k := fun k q1 q2 => hm.2.1.1 k (by omega) (by omega)
  rcases hc.2.2 with ⟨f, e1, e2⟩ | ⟨f, c, e1, e2⟩ | ⟨f, c, e1, e2⟩ <;> rcases hm.2.2 with ⟨g, e3, e4⟩ | ⟨g, d, e3, e4⟩ | ⟨g, d, e3, e4⟩
  · exact ⟨e1.trans e3.symm, by rw [e4, e2]; exact h⟩
  · exact absurd g f
  · exact absurd g f
  · exact absurd f g
  · exact ⟨by rw [e1, e3]; rfl, by rw [e4, e2]; exact h⟩
  · omega
  · exact absurd f g
  · omega
  · refine ⟨e1.trans e3.symm, fun i hi => ?_⟩
    unfold rF30 at f
    rw [u (98 + 2 * i) (by omega) (by omega), u (98 + 2 * i + 1) (by omega) (by omega)]
    by_cases q : i = A1.toNat
    · subst q
      have x0 : v1 (98 + 2 * A1.toNat) 0 = p2 := by rw [e2, up_n (by omega), gu_n (by omega), gu_y]
      have x1 : v1 (98 + 2 * A1.toNat) 1 = p3 := by rw [e2, up_n (by omega), gu_y]
      have x2 : v1 (98 + 2 * A1.toNat + 1) = flR (fun _ => 0) (v (98 + 2 * A1.toNat + 1)) 0 60 := by rw [e2, up_y]
      have y0 : v2 131 A1.toNat = p2 := by rw [e4, up_n (by omega), gu_n (by omega), gu_y]
      have y1 : v2 132 A1.toNat = p3 := by rw [e4, up_n (by omega), gu_y]
      have y2 : v2 133 = flR (fun _ => 0) (v1 133) (60 * A1) (60 * A1 + 60) := by rw [e4, up_y]
      rw [x0, x1, x2, y0, y1, y2]
      exact ⟨Or.inr ⟨rfl, by omega, by omega⟩, rfl, fun j hj => by rw [flR_in (by omega), flR_in (by omega)]⟩
    · have x0 : v1 (98 + 2 * i) = v (98 + 2 * i) := by rw [e2, up_n (by omega), gu_o (by omega), gu_o (by omega)]
      have x2 : v1 (98 + 2 * i + 1) = v (98 + 2 * i + 1) := by rw [e2, up_n (by omega), gu_o (by omega), gu_o (by omega)]
      have y0 : v2 131 i = v 131 i := by rw [e4, up_n (by omega), gu_n (by omega), gu_n (by omega), e31]
      have y1 : v2 132 i = v 132 i := by rw [e4, up_n (by omega), gu_n (by omega), gu_n (by omega), e32]
      have y2 : v2 133 = flR (fun _ => 0) (v1 133) (60 * A1) (60 * A1 + 60) := by rw [e4, up_y]
      rw [x0, x2, y0, y1, y2]
      exact ⟨(h i hi).1, (h i hi).2.1, fun j hj => by rw [flR_out (by omega), e33]; exact (h i hi).2.2 j hj⟩
theorem pH_lay {v : Nat → Nat → Int32} {v1 : Nat → Nat → Int32} {v2 : Nat → Nat → Int32} {w : Nat → Nat → Int64} {r1 : Int32} {r2 : Int32} {p3 : Int32} {A1 : Int} {A2 : Int} (h : rH v) (mi : mI v) (hc : cI v1 ∧ fC 97 106 v w v1 w ∧ ((¬ (0 ≤ A1 ∧ A1 ≤ 3) ∧ r1 = -1 ∧ v1 = v) ∨ ((0 ≤ A1 ∧ A1 ≤ 3) ∧ (flC (v (98 + 2 * A1.toNat) 0).toInt (v (98 + 2 * A1.toNat) 1).toInt A2 1).toInt ≠ 0 ∧ r1 = -10 - flC (v (98 + 2 * A1.toNat) 0).toInt (v (98 + 2 * A1.toNat) 1).toInt A2 1 ∧ v1 = v) ∨ ((0 ≤ A1 ∧ A1 ≤ 3) ∧ (flC (v (98 + 2 * A1.toNat) 0).toInt (v (98 + 2 * A1.toNat) 1).toInt A2 1).toInt = 0 ∧ r1 = 1 ∧ v1 = gu v ((98 + 2 * A1.toNat) + 1) A2.toNat (cvt (v (98 + 2 * A1.toNat) 0).toInt p3)))) (hm : mI v2 ∧ fM 131 134 0 0 v1 w v2 w ∧ ((¬ (0 ≤ A1 ∧ A1 ≤ 3) ∧ r2 = -1 ∧ v2 = v1) ∨ ((0 ≤ A1 ∧ A1 ≤ 3) ∧ (v1 131 A1.toNat).toInt = -4 ∧ r2 = -11 ∧ v2 = v1) ∨ ((0 ≤ A1 ∧ A1 ≤ 3) ∧ (v1 131 A1.toNat).toInt ≠ -4 ∧ ¬ (0 ≤ A2 ∧ A2 ≤ (v1 132 A1.toNat).toInt - 1) ∧ r2 = -12 ∧ v2 = v1) ∨ ((0 ≤ A1 ∧ A1 ≤ 3) ∧ (v1 131 A1.toNat).toInt ≠ -4 ∧ (0 ≤ A2 ∧ A2 ≤ (v1 132 A1.toNat).toInt - 1) ∧ r2 = 1 ∧ v2 = (gu v1 133 (60 * A1 + A2).toNat (cvt (v1 131 A1.toNat).toInt p3))))) : r1 = r2 ∧ rH v2 := by
  have e31 : v1 131 = v 131 := hc.2.1.1 131 (by decide)
  have e32 : v1 132 = v 132 := hc.2.1.1 132 (by decide)
  have e33 : v1 133 = v 133 := hc.2.1.1 133 (by decide)
  have u : ∀ k, 98 ≤ k → k < 106 → v2 k = v1 k := fun k q1 q2 => hm.2.1.1 k (by omega) (by omega)
  have hsz := mi.2.2.2.2.2.2.2.2.2.2.2.1
  by_cases F : 0 ≤ A1 ∧ A1 ≤ 3
  · obtain ⟨hl, hs, hcl⟩ := h A1.toNat (by omega)
    have hz := hsz A1.toNat (by omega)
    have es : (v (98 + 2 * A1.toNat) 1).toInt = (v 132 A1.toNat).toInt := by rw [hs]
    have key : ((v 131 A1.toNat).toInt = -4 ∧ (v (98 + 2 * A1.toNat) 0).toInt = -1) ∨ ((v 131 A1.toNat).toInt ≠ -4 ∧ (v (98 + 2 * A1.toNat) 0).toInt ≠ -1 ∧ v (98 + 2 * A1.toNat) 0 = v 131 A1.toNat) := by
      rcases hl with ⟨q1, q2⟩ | ⟨q1, q2, q3⟩
      · exact Or.inl ⟨q2, q1⟩
      · exact Or.inr ⟨by omega, by rw [q1]; omega, q1⟩
    rcases hc.2.2 with ⟨f, e1, e2⟩ | ⟨f, c, e1, e2⟩ | ⟨f, c, e1, e2⟩ <;> rcases hm.2.2 with ⟨g, e3, e4⟩ | ⟨g, d, e3, e4⟩ | ⟨g, d, d2, e3, e4⟩ | ⟨g, d, d2, e3, e4⟩
    all_goals first
      | exact absurd F f
      | exact absurd F g
      | skip
    all_goals rw [e31] at d
    · rcases key with ⟨q1, q2⟩ | ⟨q1, q2, q3⟩
      · exact ⟨by rw [e1, e3, q2, flC_n]; rfl, by rw [e4, e2]; exact h⟩
      · exact absurd d q1
    · rcases key with ⟨q1, q2⟩ | ⟨q1, q2, q3⟩
      · exact absurd q1 d
      · have hv := flC_val (sz := (v (98 + 2 * A1.toNat) 1).toInt) (a := A2) (n := 1) q2
        exact ⟨by rw [e1, e3, hv.2 (fun r => c (hv.1.mpr r))]; rfl, by rw [e4, e2]; exact h⟩
    · rcases key with ⟨q1, q2⟩ | ⟨q1, q2, q3⟩
      · exact absurd q1 d
      · have hv := flC_val (sz := (v (98 + 2 * A1.toNat) 1).toInt) (a := A2) (n := 1) q2
        rw [e32] at d2
        exact absurd (hv.1.mpr (by omega)) c
    · rcases key with ⟨q1, q2⟩ | ⟨q1, q2, q3⟩
      · rw [q2, flC_n] at c; exact absurd c (by decide)
      · exact absurd d q1
    · rcases key with ⟨q1, q2⟩ | ⟨q1, q2, q3⟩
      · exact absurd q1 d
      · have hv := flC_val (sz := (v (98 + 2 * A1.toNat) 1).toInt) (a := A2) (n := 1) q2
        have := hv.1.mp c
        rw [e32] at d2
        omega
    · rcases key with ⟨q1, q2⟩ | ⟨q1, q2, q3⟩
      · exact absurd q1 d
      · refine ⟨e1.trans e3.symm, fun i hi => ?_⟩
        rw [e32] at d2
        have x0 : v1 (98 + 2 * i) = v (98 + 2 * i) := by rw [e2, gu_o (by omega)]
        have y0 : v2 131 = v 131 := by rw [e4, gu_o (by omega), e31]
        have y1 : v2 132 = v 132 := by rw [e4, gu_o (by omega), e32]
        rw [u (98 + 2 * i) (by omega) (by omega), u (98 + 2 * i + 1) (by omega) (by omega), x0, y0, y1]
        refine ⟨(h i hi).1, (h i hi).2.1, fun j hj => ?_⟩
        rw [e2, e4, q3, e31]
        by_cases q : i = A1.toNat ∧ j = A2.toNat
        · rw [gu_y2 (by omega), gu_y2 (by omega)]
        · rw [gu_n (by omega), gu_n (by omega), e33]; exact (h i hi).2.2 j hj
  · rcases hc.2.2 with ⟨f, e1, e2⟩ | ⟨f, c, e1, e2⟩ | ⟨f, c, e1, e2⟩ <;> rcases hm.2.2 with ⟨g, e3, e4⟩ | ⟨g, d, e3, e4⟩ | ⟨g, d, d2, e3, e4⟩ | ⟨g, d, d2, e3, e4⟩
    all_goals first
      | exact absurd f F
      | exact absurd g F
      | exact ⟨e1.trans e3.symm, by rw [e4, e2]; exact h⟩
theorem rB_back {v v1 v2 : Nat → Nat → Int32} {w w1 w2 : Nat → Nat → Int64} (h : rB v) (f : fC 1 18 v w v1 w1 ∧ fBk v v1) (b : fM 109 112 5 7 v1 w1 v2 w2) : rB v2 := by
  refine ⟨fun i j hi hj => ?_, fun i j hi hj => ?_, fun i j hi hj => ?_⟩
  · rw [b.1 (3 + i) (by omega) (by omega), f.2 (3 + i) (by omega) (by omega), b.1 107 (by omega) (by omega), f.1.1 107 (by omega)]; exact h.1 i j hi hj
  · rw [b.1 (7 + i) (by omega) (by omega), f.2 (7 + i) (by omega) (by omega), b.1 108 (by omega) (by omega), f.1.1 108 (by omega)]; exact h.2.1 i j hi hj
  · rw [b.1 (7 + i) (by omega) (by omega), f.2 (7 + i) (by omega) (by omega)]; exact h.2.2 i j hi hj
theorem pS_rule {v : Nat → Nat → Int32} {v1 : Nat → Nat → Int32} {v2 : Nat → Nat → Int32} {w : Nat → Nat → Int64} {r1 : Int32} {r2 : Int32} {p1 : Int32} {p2 : Int32} {p3 : Int32} {p4 : Int32} {A1 : Int} {A2 : Int} {A3 : Int} {A4 : Int} (hc : cI v1 ∧ fC 83 93 v w v1 w ∧ ((¬ rF24 A1 A2 A3 A4 ∧ r1 = -1 ∧ v1 = v) ∨ (rF24 A1 A2 A3 A4 ∧ r1 = 1 ∧ v1 = (gu (gu (gu (gu (gu (gu (gu v 83 0 p1) 83 1 p2) 83 2 p3) 83 3 p4) 83 4 0) 83 5 0) 83 6 (-4))))) (hm : mI v2 ∧ fM 127 128 27 34 v1 w v2 w ∧ ((¬ rF24 A1 A2 A3 A4 ∧ r2 = -1 ∧ v2 = v1) ∨ (rF24 A1 A2 A3 A4 ∧ r2 = 1 ∧ v2 = (gu (gu (gu (gu (gu (gu (gu v1 106 27 p1) 106 28 p2) 106 29 p3) 106 30 p4) 106 31 0) 106 32 0) 106 33 (-4))))) : r1 = r2 ∧ (rS v → rS v2) := by
  have u : v2 83 = v1 83 := hm.2.1.1 83 (by decide) (by decide)
  rcases hc.2.2 with ⟨f, e1, e2⟩ | ⟨f, e1, e2⟩ <;> rcases hm.2.2 with ⟨g, e3, e4⟩ | ⟨g, e3, e4⟩
  · exact ⟨e1.trans e3.symm, fun h => by rw [e4, e2]; exact h⟩
  · exact absurd g f
  · exact absurd f g
  · have z5 : v2 83 5 = 0 := by rw [u, e2]; rfl
    refine ⟨e1.trans e3.symm, fun _ => ⟨fun j hj => ?_, fun k j a b c => ?_, fun _ => ?_⟩⟩
    · rw [u]
      rcases (show j = 0 ∨ j = 1 ∨ j = 2 ∨ j = 3 ∨ j = 4 ∨ j = 5 ∨ j = 6 by omega) with rfl | rfl | rfl | rfl | rfl | rfl | rfl <;> (rw [e2, e4]; rfl)
    · rw [z5] at a
      have : (0 : Int32).toInt = 0 := by decide
      omega
    · rw [u, e2]; rfl
theorem pS_anew {v : Nat → Nat → Int32} {v1 : Nat → Nat → Int32} {v2 : Nat → Nat → Int32} {w : Nat → Nat → Int64} {r1 : Int32} {r2 : Int32} (h : rS v) (hc : cI v1 ∧ fC 83 93 v w v1 w ∧ r1 = v 83 5 ∧ v1 = (gu (gu (gu v 83 4 0) 83 5 0) 83 6 (-4))) (hm : mI v2 ∧ fM 127 128 27 34 v1 w v2 w ∧ r2 = v1 106 32 ∧ v2 = (gu (gu (gu v1 106 31 0) 106 32 0) 106 33 (-4))) : r1 = r2 ∧ rS v2 := by
  have u : v2 83 = v1 83 := hm.2.1.1 83 (by decide) (by decide)
  have e6 : v1 106 = v 106 := hc.2.1.1 106 (by decide)
  have e2 := hc.2.2.2
  have e4 := hm.2.2.2
  have z5 : v2 83 5 = 0 := by rw [u, e2]; rfl
  refine ⟨by rw [hc.2.2.1, hm.2.2.1, e6]; exact h.1 5 (by decide), fun j hj => ?_, fun k j a b c => ?_, fun _ => ?_⟩
  · rcases (show j = 4 ∨ j = 5 ∨ j = 6 ∨ j < 4 by omega) with rfl | rfl | rfl | q
    · rw [u, e2, e4]; rfl
    · rw [u, e2, e4]; rfl
    · rw [u, e2, e4]; rfl
    · rw [u, e2, gu_n (by omega), gu_n (by omega), gu_n (by omega), e4, gu_n (by omega), gu_n (by omega), gu_n (by omega), e6]; exact h.1 j hj
  · rw [z5] at a
    have : (0 : Int32).toInt = 0 := by decide
    omega
  · rw [u, e2]; rfl
theorem sumN_rev {f : Nat → Int32} : ∀ n : Nat, sumN (fun k => f (n - 1 - k)) n = sumN f n
  | 0 => rfl
  | n + 1 => by
    have split : ∀ (g : Nat → Int32) (m : Nat), sumN g (m + 1) = g 0 + sumN (fun k => g (k + 1)) m := by
      intro g m
      induction m with
      | zero => show (0 : Int32) + g 0 = g 0 + 0; simp
      | succ m ih =>
        show sumN g (m + 1) + g (m + 1) = g 0 + (sumN (fun k => g (k + 1)) m + g (m + 1))
        rw [ih, Int32.add_assoc]
    rw [split]
    have e : sumN (fun k => f (n + 1 - 1 - (k + 1))) n = sumN (fun k => f (n - 1 - k)) n := sumN_cg n (fun k hk => by congr 1; omega)
    rw [e, sumN_rev n]
    show f (n + 1 - 1 - 0) + sumN f n = sumN f n + f n
    rw [Int32.add_comm]
    congr 1
theorem ag_eq {v : Nat → Nat → Int32} (h : rS v) {a i : Nat} (h1 : 1 ≤ a) (h8 : a ≤ 8) (hc : (a : Int) ≤ (v 83 5).toInt) (hi : i < 3) : agC v i a = v 127 (3 * ((v 83 5).toInt - a) + i).toNat ∧ bd (v 127 (3 * ((v 83 5).toInt - a) + i).toNat) 2000000 := by
  have q := h.2.1 ((v 83 5).toInt - a).toNat i (by omega) (by omega) hi
  unfold agC rgC
  rw [show (3 * ((v 83 5).toInt - (a : Int)) + (i : Int)).toNat = 3 * ((v 83 5).toInt - a).toNat + i by omega, show (((v 83 5).toInt - (a : Int)) % 8).toNat = ((v 83 5).toInt - a).toNat % 8 by omega]
  exact q
theorem pS_settled {v : Nat → Nat → Int32} {r1 : Int32} {r2 : Int32} {A1 : Int} (h : rS v) (ci : cI v) (mi : mI v) (hc : (3 ≤ A1 ∧ A1 ≤ 5 ∧ (v 83 4).toInt = 1 ∧ r1 = sumN (fun k => agC v (A1 - 3).toNat (k + 1)) (v 83 0).toInt.toNat) ∨ (3 ≤ A1 ∧ A1 ≤ 5 ∧ (v 83 4).toInt ≠ 1 ∧ r1 = 0) ∨ (A1 = 0 ∧ r1 = v 83 4) ∨ (A1 = 1 ∧ r1 = v 83 5) ∨ (A1 = 2 ∧ r1 = v 83 6) ∨ ((A1 < 0 ∨ 5 < A1) ∧ r1 = -1)) (hm : (3 ≤ A1 ∧ A1 ≤ 5 ∧ (v 106 31).toInt = 1 ∧ r2 = sumN (gM v (A1 - 3)) (v 106 27).toInt.toNat) ∨ (3 ≤ A1 ∧ A1 ≤ 5 ∧ (v 106 31).toInt ≠ 1 ∧ r2 = 0) ∨ (A1 = 0 ∧ r2 = v 106 31) ∨ (A1 = 1 ∧ r2 = v 106 32) ∨ (A1 = 2 ∧ r2 = v 106 33) ∨ ((A1 < 0 ∨ 5 < A1) ∧ r2 = -1)) : r1 = r2 := by
  have e4 : v 106 31 = v 83 4 := (h.1 4 (by decide)).symm
  have e5 : v 106 32 = v 83 5 := (h.1 5 (by decide)).symm
  have e6 : v 106 33 = v 83 6 := (h.1 6 (by decide)).symm
  have e0 : v 106 27 = v 83 0 := (h.1 0 (by decide)).symm
  have hn := mi.2.2.2.2.1
  have hS := mi.2.2.2.2.2.2.2.1
  rw [e4, e0] at hm
  rw [e5, e6] at hm
  rw [e0] at hn
  rcases hc with ⟨f, g, c, e1⟩ | ⟨f, g, c, e1⟩ | ⟨f, e1⟩ | ⟨f, e1⟩ | ⟨f, e1⟩ | ⟨f, e1⟩ <;> rcases hm with ⟨f', g', c', e3⟩ | ⟨f', g', c', e3⟩ | ⟨f', e3⟩ | ⟨f', e3⟩ | ⟨f', e3⟩ | ⟨f', e3⟩ <;> first | (exact e1.trans e3.symm) | (exfalso; omega) | skip
  have hle := mS_1 hS (by rw [e4]; exact c)
  rw [e0, e5] at hle
  rw [e1, e3, ← sumN_rev (f := gM v (A1 - 3))]
  refine sumN_cg _ (fun k hk => ?_)
  rw [(ag_eq h (a := k + 1) (i := (A1 - 3).toNat) (by omega) (by omega) (by omega) (by omega)).1]
  unfold gM
  rw [e5, e0]
  congr 1
  omega
theorem far_iff {L x : Int32} (h : bd x 2000000) : farM L x ↔ far L x := by
  unfold farM far
  have a := abs_eq h (by decide)
  have e : (jabs x).toInt = if x.toInt < 0 then -x.toInt else x.toInt := by
    rw [← a.1]
    unfold abM
    split
    · exact fb_negI (by unfold bd at h; omega)
    · rfl
  have n : (-x).toInt = -x.toInt := fb_negI (by unfold bd at h; omega)
  rw [e, n]
  split <;> omega
theorem loN_c {f : Nat → Int32} : ∀ n : Nat, (∀ a, 1 ≤ a → a ≤ n + 1 → bd (f a) 2000000) → (∃ a, 1 ≤ a ∧ a ≤ n + 1 ∧ loN f (n + 1) = f a) ∧ ∀ a, 1 ≤ a → a ≤ n + 1 → (loN f (n + 1)).toInt ≤ (f a).toInt
  | 0, h => by
    have b := h 1 (by decide) (by decide)
    have e : loN f 1 = f 1 := by
      show jmin 2000000 (f 1) = f 1
      unfold jmin
      split
      · rfl
      · rename_i q
        rw [fa_lt] at q
        have z : (2000000 : Int32).toInt = 2000000 := by decide
        unfold bd at b
        exact i_ext (by omega)
    refine ⟨⟨1, by decide, by decide, e⟩, fun a h1 h2 => ?_⟩
    have : a = 1 := by omega
    subst this
    rw [e]
    exact Int.le_refl _
  | n + 1, h => by
    obtain ⟨⟨a, h1, h2, h3⟩, h4⟩ := loN_c n (fun a q1 q2 => h a q1 (by omega))
    show (∃ a, 1 ≤ a ∧ a ≤ n + 2 ∧ jmin (loN f (n + 1)) (f (n + 2)) = f a) ∧ ∀ a, 1 ≤ a → a ≤ n + 2 → (jmin (loN f (n + 1)) (f (n + 2))).toInt ≤ (f a).toInt
    unfold jmin
    by_cases q : f (n + 2) < loN f (n + 1)
    · rw [if_pos q]
      rw [fa_lt] at q
      refine ⟨⟨n + 2, by omega, by omega, rfl⟩, fun b q1 q2 => ?_⟩
      by_cases e : b = n + 2
      · subst e; exact Int.le_refl _
      · have := h4 b q1 (by omega); omega
    · rw [if_neg q]
      rw [fa_lt] at q
      refine ⟨⟨a, h1, by omega, h3⟩, fun b q1 q2 => ?_⟩
      by_cases e : b = n + 2
      · subst e; omega
      · exact h4 b q1 (by omega)
theorem hiN_c {f : Nat → Int32} : ∀ n : Nat, (∀ a, 1 ≤ a → a ≤ n + 1 → bd (f a) 2000000) → (∃ a, 1 ≤ a ∧ a ≤ n + 1 ∧ hiN f (n + 1) = f a) ∧ ∀ a, 1 ≤ a → a ≤ n + 1 → (f a).toInt ≤ (hiN f (n + 1)).toInt
  | 0, h => by
    have b := h 1 (by decide) (by decide)
    have e : hiN f 1 = f 1 := by
      show jmax (-2000000) (f 1) = f 1
      unfold jmax
      split
      · rfl
      · rename_i q
        rw [fa_lt] at q
        have z : (-2000000 : Int32).toInt = -2000000 := by decide
        unfold bd at b
        exact i_ext (by omega)
    refine ⟨⟨1, by decide, by decide, e⟩, fun a h1 h2 => ?_⟩
    have : a = 1 := by omega
    subst this
    rw [e]
    exact Int.le_refl _
  | n + 1, h => by
    obtain ⟨⟨a, h1, h2, h3⟩, h4⟩ := hiN_c n (fun a q1 q2 => h a q1 (by omega))
    show (∃ a, 1 ≤ a ∧ a ≤ n + 2 ∧ jmax (hiN f (n + 1)) (f (n + 2)) = f a) ∧ ∀ a, 1 ≤ a → a ≤ n + 2 → (f a).toInt ≤ (jmax (hiN f (n + 1)) (f (n + 2))).toInt
    unfold jmax
    by_cases q : hiN f (n + 1) < f (n + 2)
    · rw [if_pos q]
      rw [fa_lt] at q
      refine ⟨⟨n + 2, by omega, by omega, rfl⟩, fun b q1 q2 => ?_⟩
      by_cases e : b = n + 2
      · subst e; exact Int.le_refl _
      · have := h4 b q1 (by omega); omega
    · rw [if_neg q]
      rw [fa_lt] at q
      refine ⟨⟨a, h1, by omega, h3⟩, fun b q1 q2 => ?_⟩
      by_cases e : b = n + 2
      · subst e; omega
      · exact h4 b q1 (by omega)
theorem loM_c {g : Nat → Int32} {x : Int32} : ∀ n : Nat, (loM g x n = x ∨ ∃ k, k < n ∧ loM g x n = g k) ∧ (loM g x n).toInt ≤ x.toInt ∧ ∀ k, k < n → (loM g x n).toInt ≤ (g k).toInt
  | 0 => ⟨Or.inl rfl, Int.le_refl _, fun k h => by omega⟩
  | n + 1 => by
    obtain ⟨h1, h2, h3⟩ := loM_c (g := g) (x := x) n
    show (mnM (loM g x n) (g n) = x ∨ ∃ k, k < n + 1 ∧ mnM (loM g x n) (g n) = g k) ∧ (mnM (loM g x n) (g n)).toInt ≤ x.toInt ∧ ∀ k, k < n + 1 → (mnM (loM g x n) (g n)).toInt ≤ (g k).toInt
    unfold mnM
    by_cases q : (g n).toInt < (loM g x n).toInt
    · rw [if_pos q]
      refine ⟨Or.inr ⟨n, by omega, rfl⟩, by omega, fun k hk => ?_⟩
      by_cases e : k = n
      · subst e; exact Int.le_refl _
      · have := h3 k (by omega); omega
    · rw [if_neg q]
      refine ⟨h1.elim Or.inl (fun ⟨k, a, b⟩ => Or.inr ⟨k, by omega, b⟩), h2, fun k hk => ?_⟩
      by_cases e : k = n
      · subst e; omega
      · exact h3 k (by omega)
theorem hiM_c {g : Nat → Int32} {x : Int32} : ∀ n : Nat, (hiM g x n = x ∨ ∃ k, k < n ∧ hiM g x n = g k) ∧ x.toInt ≤ (hiM g x n).toInt ∧ ∀ k, k < n → (g k).toInt ≤ (hiM g x n).toInt
  | 0 => ⟨Or.inl rfl, Int.le_refl _, fun k h => by omega⟩
  | n + 1 => by
    obtain ⟨h1, h2, h3⟩ := hiM_c (g := g) (x := x) n
    show (mxM (hiM g x n) (g n) = x ∨ ∃ k, k < n + 1 ∧ mxM (hiM g x n) (g n) = g k) ∧ x.toInt ≤ (mxM (hiM g x n) (g n)).toInt ∧ ∀ k, k < n + 1 → (g k).toInt ≤ (mxM (hiM g x n) (g n)).toInt
    unfold mxM
    by_cases q : (hiM g x n).toInt < (g n).toInt
    · rw [if_pos q]
      refine ⟨Or.inr ⟨n, by omega, rfl⟩, by omega, fun k hk => ?_⟩
      by_cases e : k = n
      · subst e; exact Int.le_refl _
      · have := h3 k (by omega); omega
    · rw [if_neg q]
      refine ⟨h1.elim Or.inl (fun ⟨k, a, b⟩ => Or.inr ⟨k, by omega, b⟩), h2, fun k hk => ?_⟩
      by_cases e : k = n
      · subst e; omega
      · exact h3 k (by omega)
/-- the two ways of the least and the greatest of the latest readings -/
theorem mm_eq {f g : Nat → Int32} {x : Int32} {n : Nat} (hb : ∀ a, 1 ≤ a → a ≤ n + 1 → bd (f a) 2000000) (hx : x = f 1) (hg : ∀ k, k < n + 1 → g k = f (n + 1 - k)) : loN f (n + 1) = loM g x (n + 1) ∧ hiN f (n + 1) = hiM g x (n + 1) := by
  have fg : ∀ a, 1 ≤ a → a ≤ n + 1 → f a = g (n + 1 - a) := fun a h1 h2 => by rw [hg _ (by omega)]; congr 1; omega
  constructor
  · obtain ⟨⟨a, a1, a2, a3⟩, a4⟩ := loN_c n hb
    obtain ⟨b1, b2, b3⟩ := loM_c (g := g) (x := x) (n + 1)
    have le1 : (loM g x (n + 1)).toInt ≤ (loN f (n + 1)).toInt := by rw [a3, fg a a1 a2]; exact b3 _ (by omega)
    have le2 : (loN f (n + 1)).toInt ≤ (loM g x (n + 1)).toInt := by
      rcases b1 with e | ⟨k, k1, k2⟩
      · rw [e, hx]; exact a4 1 (by omega) (by omega)
      · rw [k2, hg k k1]; exact a4 _ (by omega) (by omega)
    exact i_ext (by omega)
  · obtain ⟨⟨a, a1, a2, a3⟩, a4⟩ := hiN_c n hb
    obtain ⟨b1, b2, b3⟩ := hiM_c (g := g) (x := x) (n + 1)
    have le1 : (hiN f (n + 1)).toInt ≤ (hiM g x (n + 1)).toInt := by rw [a3, fg a a1 a2]; exact b3 _ (by omega)
    have le2 : (hiM g x (n + 1)).toInt ≤ (hiN f (n + 1)).toInt := by
      rcases b1 with e | ⟨k, k1, k2⟩
      · rw [e, hx]; exact a4 1 (by omega) (by omega)
      · rw [k2, hg k k1]; exact a4 _ (by omega) (by omega)
    exact i_ext (by omega)
theorem sp_eq {v w : Nat → Nat → Int32} {i : Nat} (h0 : v 83 0 = w 106 27) (h5 : v 83 5 = w 106 32) (hn : 1 ≤ (v 83 0).toInt ∧ (v 83 0).toInt ≤ 8) (hle : (v 83 0).toInt ≤ (v 83 5).toInt) (hr : ∀ a : Nat, 1 ≤ a → (a : Int) ≤ (v 83 0).toInt → agC v i a = w 127 (3 * ((v 83 5).toInt - a) + i).toNat ∧ bd (w 127 (3 * ((v 83 5).toInt - a) + i).toNat) 2000000) : spC v i = spM w i := by
  unfold spC spM
  rw [← h0, ← h5]
  obtain ⟨n, hN⟩ : ∃ n, (v 83 0).toInt.toNat = n + 1 := ⟨(v 83 0).toInt.toNat - 1, by omega⟩
  rw [hN]
  have q := mm_eq (f := agC v i) (g := gM w i) (x := w 127 (3 * ((v 83 5).toInt - 1) + (i : Int)).toNat) (n := n) (fun a a1 a2 => by rw [(hr a a1 (by omega)).1]; exact (hr a a1 (by omega)).2) (hr 1 (by omega) (by omega)).1.symm (fun k hk => by
    rw [(hr (n + 1 - k) (by omega) (by omega)).1]
    unfold gM
    rw [← h0, ← h5]
    congr 1
    omega)
  rw [q.1, q.2]
theorem stS_u {b s t : Int32} {P Q : Prop} {c m : Int} (h : stS b s P c m) (g : stS b t Q c m) (e : P ↔ Q) : s = t := by
  rcases h with ⟨h1, h2⟩ | ⟨h1, h2, h3⟩ | ⟨h1, h2, h3, h4⟩ | ⟨h1, h2, h3, h4⟩ <;> rcases g with ⟨g1, g2⟩ | ⟨g1, g2, g3⟩ | ⟨g1, g2, g3, g4⟩ | ⟨g1, g2, g3, g4⟩ <;> first | (exact h2.trans g2.symm) | (exact h3.trans g3.symm) | (exact h4.trans g4.symm) | (exfalso; omega) | (exact absurd (e.mp h2) g2) | (exact absurd (e.mpr g2) h2)
theorem stS_0 {b s : Int32} {P : Prop} {c m : Int} (h : stS b s P c m) (hs : s.toInt = 0) : b = -4 := by
  rcases h with ⟨h1, h2⟩ | ⟨h1, h2, h3⟩ | ⟨h1, h2, h3, h4⟩ | ⟨h1, h2, h3, h4⟩
  · rw [h2] at hs; exact absurd hs (by decide)
  · rw [h3] at hs; exact absurd hs (by decide)
  · rw [h4] at hs; exact absurd hs (by decide)
  · exact i_ext (h1.trans (by decide))
theorem pS_come {v : Nat → Nat → Int32} {v1 : Nat → Nat → Int32} {v2 : Nat → Nat → Int32} {w : Nat → Nat → Int64} {r1 : Int32} {r2 : Int32} {p1 : Int32} {p2 : Int32} {p3 : Int32} {A1 : Int} {A2 : Int} {A3 : Int} (a1 : p1.toInt = A1) (a2 : p2.toInt = A2) (a3 : p3.toInt = A3) (h : rS v) (ci : cI v) (mi : mI v) (hc : cI v1 ∧ fC 83 93 v w v1 w ∧ ((¬ rF25 A1 A2 A3 ∧ r1 = -1 ∧ v1 = v) ∨ (rF25 A1 A2 A3 ∧ (v 83 4).toInt ≠ 0 ∧ r1 = -2 ∧ v1 = v) ∨ (rF25 A1 A2 A3 ∧ (v 83 4).toInt = 0 ∧ ∃ (v3 : Nat → Nat → Int32) (b s : Int32), v3 = gu (gu (tk3 v (85 + ((v 83 5).toInt % 8).toNat) p1 p2 p3) 83 5 (v 83 5 + 1)) 83 6 b ∧ fst3 (fun j => far (v 83 3) (sel3 j p1 p2 p3)) (-4) b.toInt ∧ stS b s (stC v3) (v3 83 5).toInt (v3 83 2).toInt ∧ r1 = s ∧ v1 = gu v3 83 4 s))) (hm : mI v2 ∧ fM 127 128 27 34 v1 w v2 w ∧ ((¬ rF25 A1 A2 A3 ∧ r2 = -1 ∧ v2 = v1) ∨ (rF25 A1 A2 A3 ∧ (v1 106 31).toInt ≠ 0 ∧ r2 = -2 ∧ v2 = v1) ∨ (rF25 A1 A2 A3 ∧ (v1 106 31).toInt = 0 ∧ ∃ (v3 : Nat → Nat → Int32) (b s : Int32), v3 = gu (cmB v1 p1 p2 p3) 106 33 b ∧ fst3 (fun j => farM (v1 106 30) (sel3 j p1 p2 p3)) (v1 106 33).toInt b.toInt ∧ stS b s (stM v3) (v3 106 32).toInt (v3 106 29).toInt ∧ r2 = s ∧ v2 = gu v3 106 31 s))) : r1 = r2 ∧ rS v2 := by
  have u : ∀ k, k < 106 → v2 k = v1 k := fun k q => hm.2.1.1 k (by omega) (by omega)
  have e6 : v1 106 = v 106 := hc.2.1.1 106 (by decide)
  have e7 : v1 127 = v 127 := hc.2.1.1 127 (by decide)
  have c4 : v 106 31 = v 83 4 := (h.1 4 (by decide)).symm
  rcases hc.2.2 with ⟨f, e1, e2⟩ | ⟨f, c, e1, e2⟩ | ⟨f, c, v3, b, s, h3, hb, hs, hr, hv⟩ <;> rcases hm.2.2 with ⟨g, e3, e4⟩ | ⟨g, d, e3, e4⟩ | ⟨g, d, w3, b', s', g3, gb, gs, gr, gv⟩
  · exact ⟨e1.trans e3.symm, by rw [e4, e2]; exact h⟩
  · exact absurd g f
  · exact absurd g f
  · exact absurd f g
  · exact ⟨e1.trans e3.symm, by rw [e4, e2]; exact h⟩
  · rw [e6, c4] at d; exact absurd d c
  · exact absurd f g
  · rw [e6, c4] at d; exact absurd c d
  · unfold rF25 at f
    have hn : 1 ≤ (v 83 0).toInt ∧ (v 83 0).toInt ≤ 8 := ci.2.2.2.2.1
    have hc5 : 0 ≤ (v 83 5).toInt ∧ (v 83 5).toInt ≤ 100 := ci.2.2.2.2.2.2.1
    have hS := ci.2.2.2.2.2.2.2.1
    have hlt := cS_0 hS c
    have hm2 : (v 83 2).toInt ≤ 100 := ci.2.2.2.2.2.1.2
    have P : ∀ j, j < 3 → bd (sel3 j p1 p2 p3) 2000000 := fun j _ => sel_bd ⟨by omega, by omega⟩ ⟨by omega, by omega⟩ ⟨by omega, by omega⟩
    have q83 : ∀ j, j ≠ 4 → j ≠ 5 → j ≠ 6 → v3 83 j = v 83 j := fun j x y z => by rw [h3, gu_n (by omega), gu_n (by omega), tk3_out (by omega)]
    have q5 : v3 83 5 = v 83 5 + 1 := by rw [h3, gu_n (by decide), gu_y]
    have i5 : (v 83 5 + 1).toInt = (v 83 5).toInt + 1 := ia_add rfl rfl (by decide) (by omega) (by omega)
    have w6 : ∀ j, j ≠ 32 → j ≠ 33 → w3 106 j = v 106 j := fun j x y => by rw [g3, gu_n (by omega), cmB_o x, e6]
    have w32 : w3 106 32 = v 83 5 + 1 := by rw [g3, gu_n (by decide), cmB_32, e6, ← h.1 5 (by decide)]
    have ec : (v1 106 32).toInt = (v 83 5).toInt := by rw [e6, ← h.1 5 (by decide)]
    have wr : ∀ k j : Nat, j < 3 → w3 127 (3 * k + j) = if k = (v 83 5).toInt.toNat then sel3 j p1 p2 p3 else v 127 (3 * k + j) := fun k j hj => by
      rw [g3, gu_n (by omega), cmB_row (by omega) hj, ec, e7]
    have vr : ∀ k j : Nat, (k : Int) < (v 83 5).toInt + 1 → (v 83 5).toInt + 1 ≤ (k : Int) + 8 → j < 3 → v3 (85 + k % 8) j = w3 127 (3 * k + j) ∧ bd (w3 127 (3 * k + j)) 2000000 := fun k j x y hj => by
      rw [wr k j hj, h3, gu_n (by omega), gu_n (by omega)]
      by_cases q : k = (v 83 5).toInt.toNat
      · rw [if_pos q, show 85 + k % 8 = 85 + ((v 83 5).toInt % 8).toNat by omega, tk3_in hj]
        exact ⟨rfl, P j hj⟩
      · rw [if_neg q, tk3_out (by omega)]
        exact h.2.1 k j (by omega) (by omega) hj
    have hb4 : (v 106 33).toInt = -4 := by rw [← h.1 6 (by decide), h.2.2 c]; decide
    have bb : b = b' := by
      refine i_ext (fst3_u hb ?_)
      rw [e6, hb4] at gb
      refine fst3_cg gb (fun j hj => ?_)
      show farM (v 106 30) (sel3 j p1 p2 p3) ↔ far (v 83 3) (sel3 j p1 p2 p3)
      rw [far_iff (P j hj), ← h.1 3 (by decide)]
    subst bb
    have st : stC v3 ↔ stM w3 := by
      have k0 : v3 83 0 = w3 106 27 := by rw [q83 0 (by decide) (by decide) (by decide), w6 27 (by decide) (by decide)]; exact h.1 0 (by decide)
      have k5 : v3 83 5 = w3 106 32 := by rw [q5, w32]
      have k1 : v3 83 1 = w3 106 28 := by rw [q83 1 (by decide) (by decide) (by decide), w6 28 (by decide) (by decide)]; exact h.1 1 (by decide)
      have j0 : (v3 83 0).toInt = (v 83 0).toInt := by rw [q83 0 (by decide) (by decide) (by decide)]
      have j5 : (v3 83 5).toInt = (v 83 5).toInt + 1 := by rw [q5, i5]
      have sp : ∀ i, i < 3 → (v3 83 0).toInt ≤ (v3 83 5).toInt → spC v3 i = spM w3 i := fun i hi hle => by
        refine sp_eq k0 k5 (by omega) hle (fun a x y => ?_)
        have z := vr ((v3 83 5).toInt - a).toNat i (by omega) (by omega) hi
        unfold agC rgC
        rw [show (3 * ((v3 83 5).toInt - (a : Int)) + (i : Int)).toNat = 3 * ((v3 83 5).toInt - a).toNat + i by omega, show (((v3 83 5).toInt - (a : Int)) % 8).toNat = ((v3 83 5).toInt - a).toNat % 8 by omega]
        exact z
      constructor
      · rintro ⟨x, y⟩
        refine ⟨by rw [← k0, ← k5]; exact x, fun i hi => ?_⟩
        rw [← sp i (by omega) x, ← k1]
        exact y i hi
      · rintro ⟨x, y⟩
        have x' : (v3 83 0).toInt ≤ (v3 83 5).toInt := by rw [k0, k5]; exact x
        refine ⟨x', fun i hi => ?_⟩
        rw [sp i (by omega) x', k1]
        exact y i hi
    have ss : s = s' := by
      rw [q5, q83 2 (by decide) (by decide) (by decide)] at hs
      rw [w32, w6 29 (by decide) (by decide), ← h.1 2 (by decide)] at gs
      exact stS_u hs gs st
    subst ss
    have y6 : v3 83 6 = b := by rw [h3, gu_y]
    have w33 : w3 106 33 = b := by rw [g3, gu_y]
    refine ⟨hr.trans gr.symm, fun j hj => ?_, fun k j x y hj => ?_, fun x => ?_⟩
    · rw [u 83 (by decide), hv, gv]
      rcases (show j = 4 ∨ j = 5 ∨ j = 6 ∨ j < 4 by omega) with rfl | rfl | rfl | q
      · rw [gu_y, gu_y]
      · rw [gu_n (by decide), gu_n (by decide), q5, w32]
      · rw [gu_n (by decide), gu_n (by decide), y6, w33]
      · rw [gu_n (by omega), gu_n (by omega), q83 j (by omega) (by omega) (by omega), w6 (27 + j) (by omega) (by omega)]; exact h.1 j hj
    · rw [u 83 (by decide), hv, gu_n (by decide), q5, i5] at x y
      rw [u (85 + k % 8) (by omega), hv, gu_n (by omega), gv, gu_n (by omega)]
      exact vr k j x y hj
    · rw [u 83 (by decide), hv, gu_y] at x
      rw [u 83 (by decide), hv, gu_n (by decide), y6]
      exact stS_0 hs x

theorem lc_eq {v : Nat → Nat → Int32} (h : rT v) (hn : (v 106 35).toInt ≤ 10) : sumN (fun k => lo1 (v 94 k)) (v 93 0).toInt.toNat = sumN (fun k => lo1 (v 130 k)) (v 106 35).toInt.toNat := by
  rw [h.1]
  exact sumN_cg _ (fun k hk => by rw [h.2.2.2.1 k (by omega)])
theorem su_eq {v : Nat → Nat → Int32} (h : rT v) (hn : (v 106 35).toInt ≤ 10) : sumN (fun k => v 96 k * v 95 k) (v 93 0).toInt.toNat = sumN (fcM v) (v 106 35).toInt.toNat := by
  obtain ⟨h1, h2, h3, h4, h5, h6⟩ := h
  rw [h1]
  refine sumN_cg _ (fun k hk => ?_)
  unfold fcM
  have hk : k < 10 := by omega
  split
  · rw [h2 k hk, h3 k hk]
  · have := h5 k hk (by rw [h4 k hk]; assumption)
    rw [this]
    simp
theorem pT_check {v : Nat → Nat → Int32} {r1 : Int32} {r2 : Int32} {A1 : Int} {A2 : Int} (h : rT v) (mi : mI v) (hc : (¬ rF34 A1 A2 ∧ r1 = -1) ∨ (rF34 A1 A2 ∧ 0 < (sumN (fun k => lo1 (v 94 k)) (v 93 0).toInt.toNat).toInt ∧ r1 = -2) ∨ (rF34 A1 A2 ∧ (sumN (fun k => lo1 (v 94 k)) (v 93 0).toInt.toNat).toInt ≤ 0 ∧ ((-A2 ≤ A1 - (sumN (fun k => v 96 k * v 95 k) (v 93 0).toInt.toNat).toInt ∧ A1 - (sumN (fun k => v 96 k * v 95 k) (v 93 0).toInt.toNat).toInt ≤ A2 ∧ r1 = 0) ∨ (¬ (-A2 ≤ A1 - (sumN (fun k => v 96 k * v 95 k) (v 93 0).toInt.toNat).toInt ∧ A1 - (sumN (fun k => v 96 k * v 95 k) (v 93 0).toInt.toNat).toInt ≤ A2) ∧ ckR (fun k => cmQ (v 96 k).toInt (v 95 k).toInt (A1 - (sumN (fun k => v 96 k * v 95 k) (v 93 0).toInt.toNat).toInt) A2) (v 93 0).toInt r1.toInt)))) (hm : (¬ rF34 A1 A2 ∧ r2 = -1) ∨ (rF34 A1 A2 ∧ 0 < (sumN (fun k => lo1 (v 130 k)) (v 106 35).toInt.toNat).toInt ∧ r2 = -2) ∨ (rF34 A1 A2 ∧ (sumN (fun k => lo1 (v 130 k)) (v 106 35).toInt.toNat).toInt ≤ 0 ∧ ((-A2 ≤ A1 - (sumN (fcM v) (v 106 35).toInt.toNat).toInt ∧ A1 - (sumN (fcM v) (v 106 35).toInt.toNat).toInt ≤ A2 ∧ r2 = 0) ∨ (¬ (-A2 ≤ A1 - (sumN (fcM v) (v 106 35).toInt.toNat).toInt ∧ A1 - (sumN (fcM v) (v 106 35).toInt.toNat).toInt ≤ A2) ∧ ckR (fun k => cmQ (v 128 k).toInt (v 129 k).toInt (A1 - (sumN (fcM v) (v 106 35).toInt.toNat).toInt) A2) (v 106 35).toInt r2.toInt)))) : r1 = r2 := by
  have n10 := mi.2.2.2.2.2.2.2.2.1
  rw [← lc_eq h n10.2, ← su_eq h n10.2] at hm
  rcases hc with ⟨f, e1⟩ | ⟨f, c, e1⟩ | ⟨f, c, e1⟩ <;> rcases hm with ⟨g, e2⟩ | ⟨g, d, e2⟩ | ⟨g, d, e2⟩
  · rw [e1, e2]
  · exact absurd g f
  · exact absurd g f
  · exact absurd f g
  · rw [e1, e2]
  · omega
  · exact absurd f g
  · omega
  · rcases e1 with ⟨x1, x2, x3⟩ | ⟨x1, x2⟩ <;> rcases e2 with ⟨y1, y2, y3⟩ | ⟨y1, y2⟩
    · rw [x3, y3]
    · exact absurd ⟨x1, x2⟩ y1
    · exact absurd ⟨y1, y2⟩ x1
    · refine i_ext ?_
      rw [← h.1] at y2
      have n11 : (v 93 0).toInt ≤ 10 := by rw [h.1]; exact n10.2
      refine ckR_u x2 y2 (fun j hj => ?_)
      show cmQ (v 96 j).toInt (v 95 j).toInt _ _ ↔ cmQ (v 128 j).toInt (v 129 j).toInt _ _
      rw [h.2.1 j (by omega), h.2.2.1 j (by omega)]
theorem nl_cg {f g : Nat → Int32} {n : Int} (h : nlL f n) (e : ∀ k : Nat, (k : Int) < n → f k = g k) : nlL g n := fun j hj => by rw [← e j hj]; exact h j hj
theorem fs_cg {f g : Nat → Int32} {n : Int} {k : Nat} (h : fsL f n k) (e : ∀ k : Nat, (k : Int) < n → f k = g k) : fsL g n k := ⟨h.1, by rw [← e k h.1]; exact h.2.1, fun j hj => by rw [← e j (by have := h.1; omega)]; exact h.2.2 j hj⟩
theorem pT_fill {v : Nat → Nat → Int32} {r1 : Int32} {r2 : Int32} {A1 : Int} (h : rT v) (mi : mI v) (hc : (¬ (-2000000 ≤ A1 ∧ A1 ≤ 2000000) ∧ r1 = -1) ∨ ((-2000000 ≤ A1 ∧ A1 ≤ 2000000) ∧ (sumN (fun k => lo1 (v 94 k)) (v 93 0).toInt.toNat).toInt ≠ 1 ∧ r1 = -2) ∨ ((-2000000 ≤ A1 ∧ A1 ≤ 2000000) ∧ (sumN (fun k => lo1 (v 94 k)) (v 93 0).toInt.toNat).toInt = 1 ∧ ((∃ k : Nat, fsL (v 94) (v 93 0).toInt k ∧ r1.toInt = plR (plV (v 96 k).toInt (A1 - (sumN (fun k => v 96 k * v 95 k) (v 93 0).toInt.toNat).toInt))) ∨ (nlL (v 94) (v 93 0).toInt ∧ r1 = -4)))) (hm : (¬ (-2000000 ≤ A1 ∧ A1 ≤ 2000000) ∧ r2 = -1) ∨ ((-2000000 ≤ A1 ∧ A1 ≤ 2000000) ∧ (sumN (fun k => lo1 (v 130 k)) (v 106 35).toInt.toNat).toInt ≠ 1 ∧ r2 = -2) ∨ ((-2000000 ≤ A1 ∧ A1 ≤ 2000000) ∧ (sumN (fun k => lo1 (v 130 k)) (v 106 35).toInt.toNat).toInt = 1 ∧ ((∃ k : Nat, fsL (v 130) (v 106 35).toInt k ∧ r2.toInt = plR (plV (v 128 k).toInt (A1 - (sumN (fcM v) (v 106 35).toInt.toNat).toInt))) ∨ (nlL (v 130) (v 106 35).toInt ∧ r2 = -4)))) : r1 = r2 := by
  have n10 := mi.2.2.2.2.2.2.2.2.1
  rw [← lc_eq h n10.2, ← su_eq h n10.2] at hm
  rcases hc with ⟨f, e1⟩ | ⟨f, c, e1⟩ | ⟨f, c, e1⟩ <;> rcases hm with ⟨g, e2⟩ | ⟨g, d, e2⟩ | ⟨g, d, e2⟩
  · rw [e1, e2]
  · exact absurd g f
  · exact absurd g f
  · exact absurd f g
  · rw [e1, e2]
  · omega
  · exact absurd f g
  · omega
  · rw [← h.1] at e2
    have n11 : (v 93 0).toInt ≤ 10 := by rw [h.1]; exact n10.2
    have ee : ∀ k : Nat, (k : Int) < (v 93 0).toInt → v 94 k = v 130 k := fun k hk => h.2.2.2.1 k (by omega)
    rcases e1 with ⟨k, x1, x2⟩ | ⟨x1, x2⟩ <;> rcases e2 with ⟨l, y1, y2⟩ | ⟨y1, y2⟩
    · have := fsL_u (fs_cg x1 ee) y1
      subst this
      refine i_ext ?_
      rw [x2, y2, h.2.1 k (by have := x1.1; omega)]
    · exact absurd (y1 k x1.1) (fs_cg x1 ee).2.1
    · exact absurd ((nl_cg x1 ee) l y1.1) y1.2.1
    · rw [x2, y2]
theorem pr6_cg {b b' : Nat → Int32} {x y z : Int32} (hb : ∀ j, j < 6 → b j = b' j) : pr6 b x y z = pr6 b' x y z := by
  unfold pr6
  rw [hb 0 (by decide), hb 1 (by decide), hb 2 (by decide), hb 3 (by decide), hb 4 (by decide), hb 5 (by decide)]
theorem det_rl {v v1 : Nat → Nat → Int32} (h : rB v) (e7 : v1 107 = v 107) : detM v1 = detC v := by
  unfold detM detC
  refine dsN_cg (fun i j hi hj => ?_)
  show (v1 107 (3 * i + j)).toInt64 = (v (3 + i) j).toInt64
  rw [e7, h.1 i j hi hj]
theorem nl_rl {v v1 : Nat → Nat → Int32} {p1 p2 p3 : Int32} (h : rB v) (e7 : v1 107 = v 107) (e8 : v1 108 = v 108) : nlM v1 p1 p2 p3 = nlV v p1 p2 p3 := by
  funext L j
  unfold nlM nlV nlF
  rw [det_rl h e7]
  refine congrArg (fun z : Int64 => Int32.ofInt (nrI z.toInt (100 * (detC v).toInt))) (dsN_cg (fun a b ha hb => ?_))
  show (if b = j then (sel3 a p1 p2 p3 - pr6 (fun j => v1 108 (6 * a + j)) (L 0) (L 1) (L 2)).toInt64 else (v1 107 (3 * a + b)).toInt64) = (if b = j then (sel3 a p1 p2 p3 - pr6 (v (7 + a)) (L 0) (L 1) (L 2)).toInt64 else (v (3 + a) b).toInt64)
  rw [pr6_cg (b := fun j => v1 108 (6 * a + j)) (b' := v (7 + a)) (fun i hi => by rw [e8, h.2.1 a i ha hi]), e7, h.1 a b ha hb]
theorem pF_back {v : Nat → Nat → Int32} {v1 : Nat → Nat → Int32} {v2 : Nat → Nat → Int32} {w : Nat → Nat → Int64} {w1 : Nat → Nat → Int64} {w2 : Nat → Nat → Int64} {r1 : Int32} {r2 : Int32} {p1 : Int32} {p2 : Int32} {p3 : Int32} {A1 : Int} {A2 : Int} {A3 : Int} {A4 : Int} (h : rB v) (hF : rF v) (hc : cI v1 ∧ fC 1 18 v w v1 w1 ∧ fBk v v1 ∧ ((¬ (rF25 A1 A2 A3 ∧ 1 ≤ A4 ∧ A4 ≤ 50) ∧ r1 = -1 ∧ v1 = v) ∨ ((rF25 A1 A2 A3 ∧ 1 ≤ A4 ∧ A4 ≤ 50) ∧ (((detC v).toInt = 0 ∧ r1 = -2 ∧ v1 = v) ∨ ((detC v).toInt ≠ 0 ∧ bkF v p1 p2 p3 A4 r1.toInt v1))))) (hm : mI v2 ∧ fM 109 112 5 7 v1 w1 v2 w2 ∧ ((¬ (rF25 A1 A2 A3 ∧ 1 ≤ A4 ∧ A4 ≤ 50) ∧ r2 = -1 ∧ v2 = v1) ∨ ((rF25 A1 A2 A3 ∧ 1 ≤ A4 ∧ A4 ≤ 50) ∧ (((detM v1).toInt = 0 ∧ r2 = -2 ∧ v2 = v1) ∨ ((detM v1).toInt ≠ 0 ∧ bkM v1 p1 p2 p3 A4 r2.toInt v2))))) : r1 = r2 ∧ rF v2 := by
  have e7 : v1 107 = v 107 := hc.2.1.1 107 (by decide)
  have e8 : v1 108 = v 108 := hc.2.1.1 108 (by decide)
  have g1 : v2 1 = v1 1 := hm.2.1.1 1 (by decide) (by decide)
  have g10 : v2 10 = v1 10 := hm.2.1.1 10 (by decide) (by decide)
  have d := det_rl h e7
  rcases hc.2.2.2 with ⟨a, b, c⟩ | ⟨a, b⟩ <;> rcases hm.2.2 with ⟨a', b', c'⟩ | ⟨a', b'⟩
  · exact ⟨b.trans b'.symm, by rw [c', c]; exact hF⟩
  · exact absurd a' a
  · exact absurd a a'
  · rw [d] at b'
    rcases b with ⟨x, y, z⟩ | ⟨x, y⟩ <;> rcases b' with ⟨x', y', z'⟩ | ⟨x', y'⟩
    · exact ⟨y.trans y'.symm, by rw [z', z]; exact hF⟩
    · exact absurd x x'
    · exact absurd x' x
    · obtain ⟨y1, y2, y3, y4⟩ := y
      obtain ⟨z1, z2, z3, z4⟩ := y'
      rw [nl_rl h e7 e8] at z2
      obtain ⟨u1, u2, u3⟩ := bkI_u y2 z2 y1 z1 y3 z3
      refine ⟨i_ext u1, ?_, ?_, ?_, ?_⟩
      · intro j hj
        rw [g10]
        exact u3 j hj
      · rw [g1]
        exact u2
      · rcases z2.2 with ⟨q, _⟩ | ⟨q, _⟩
        · exact Or.inl q
        · exact Or.inr q
      · rw [g1, y4, z4]
        refine aw_am 3 (fun i hi => ?_)
        show jabs (sel3 i p1 p2 p3 - rd9 (v (3 + i)) (v (7 + i)) (v1 10 0) (v1 10 1) (v1 10 2)) = abM (rd9 (fun j => v1 107 (3 * i + j)) (fun j => v1 108 (6 * i + j)) (v2 111 0) (v2 111 1) (v2 111 2) - sel3 i p1 p2 p3)
        rw [ja_sub, ← u3 0 (by decide), ← u3 1 (by decide), ← u3 2 (by decide), e7, e8, rd9_cg (a := v (3 + i)) (a' := fun j => v 107 (3 * i + j)) (b := v (7 + i)) (b' := fun j => v 108 (6 * i + j)) (fun j hj => h.1 i j hi hj) (fun j hj => h.2.1 i j hi hj)]
theorem pF_found {v : Nat → Nat → Int32} {r1 : Int32} {r2 : Int32} {A1 : Int} (h : rF v) (hc : ((0 ≤ A1 ∧ A1 ≤ 2) ∧ r1 = v 10 A1.toNat) ∨ (A1 = 3 ∧ r1 = lo1 (v 1 3)) ∨ (A1 = 4 ∧ r1 = v 1 4) ∨ ((A1 < 0 ∨ 4 < A1) ∧ r1 = 0)) (hm : ((0 ≤ A1 ∧ A1 ≤ 2) ∧ r2 = v 111 A1.toNat) ∨ (A1 = 3 ∧ r2 = v 106 5) ∨ (A1 = 4 ∧ r2 = v 106 6) ∨ ((A1 < 0 ∨ 4 < A1) ∧ r2 = 0)) : r1 = r2 := by
  rcases hc with ⟨a, b⟩ | ⟨a, b⟩ | ⟨a, b⟩ | ⟨a, b⟩ <;> rcases hm with ⟨a', b'⟩ | ⟨a', b'⟩ | ⟨a', b'⟩ | ⟨a', b'⟩ <;> first | (exfalso; omega) | skip
  · rw [b, b']
    exact h.1 _ (by omega)
  · rw [b, b']
    have h3 := h.2.1
    unfold lo1
    rcases h.2.2.1 with q | q
    · rw [if_pos (by omega)]
      exact i_ext (by rw [q]; decide)
    · rw [if_neg (by omega)]
      exact i_ext (by rw [q]; decide)
  · rw [b, b']
    exact h.2.2.2
  · rw [b, b']
theorem cM_cg {v v2 : Nat → Nat → Int32} (e3 : v2 123 = v 123) (e4 : v2 124 = v 124) : cM v2 = cM v := by
  funext f q
  unfold cM csI
  rw [e3, e4]
theorem plW_cg {v v2 : Nat → Nat → Int32} (h : plW v) (e5 : v2 66 5 = v 66 5) (e4 : v2 66 4 = v 66 4) (e79 : v2 79 = v 79) (e22 : v2 106 22 = v 106 22) (e123 : v2 123 = v 123) (e124 : v2 124 = v 124) (eo : opN (v2 125) (v 106 22).toInt.toNat = opN (v 125) (v 106 22).toInt.toNat) : plW v2 := by
  obtain ⟨T, a, b, c, d, e⟩ := h
  have er : rwC v2 = rwC v := by
    funext k
    unfold rwC
    rw [e79]
  refine ⟨T, ?_, ?_, ?_, ?_, ?_⟩
  · rw [cM_cg e123 e124, e22, eo]; exact a
  · rw [cM_cg e123 e124, e22, eo, e5]; exact b
  · rw [e22, eo, e4]; exact c
  · rw [cM_cg e123 e124, e22, eo, er]; exact d
  · rw [e22, eo]
    intro k hk
    rw [e79]
    exact e k hk
theorem rW_fr {lo hi lo' hi' flo fhi : Nat} {v v2 : Nat → Nat → Int32} (h : rW v) (f : fr2 lo hi lo' hi' flo fhi v v2) (q : (hi ≤ 66 ∨ 83 ≤ lo) ∧ (hi' ≤ 123 ∨ 126 ≤ lo') ∧ (fhi ≤ 22 ∨ 23 ≤ flo)) (q2 : hi ≤ 106 ∧ 106 ≤ lo') : rW v2 := by
  have e66 : v2 66 = v 66 := f.1 66 (by omega) (by omega) (by omega)
  have e82 : v2 82 = v 82 := f.1 82 (by omega) (by omega) (by omega)
  refine ⟨fun k hk => by rw [e82]; exact h.1 k hk, fun z => ?_⟩
  rw [e66] at z
  exact plW_cg (h.2 z) (by rw [e66]) (by rw [e66]) (f.1 79 (by omega) (by omega) (by omega)) (f.2 22 (by omega)) (f.1 123 (by omega) (by omega) (by omega)) (f.1 124 (by omega) (by omega) (by omega)) (by rw [f.1 125 (by omega) (by omega) (by omega)])
theorem mvI_b {a b c d : Int} (ha : 0 ≤ a ∧ a ≤ 23) (hb : 0 ≤ b ∧ b ≤ 9) (hc : 0 ≤ c ∧ c ≤ 23) (hd : 0 ≤ d ∧ d ≤ 9) : 0 ≤ mvI a b c d ∧ mvI a b c d ≤ 99 := by
  unfold mvI tn ab
  by_cases h1 : a - c < 0 <;> by_cases h2 : b - d < 0 <;> simp only [h1, h2, if_true, if_false] <;> split <;> omega
/-- the class's costs are the model's -/
theorem cC_M {v : Nat → Nat → Int32} (h : rP v) (mi : mI v) : cEq (cC v) (cM v) (v 106 22).toInt.toNat := by
  obtain ⟨h1, h2, h3, h4, h5, h6⟩ := h
  intro f q hf hq ne
  have n9 := mi.2.2.2.1
  rw [← h1] at n9 hf hq
  have iq : inP (v 66 0).toInt q := Or.inl (by omega)
  have if_ : inP (v 66 0).toInt f := by
    unfold inP
    omega
  have e := h6 f q if_ iq ne
  have eq := h3 q (by omega)
  show (v (69 + f) q).toInt = cM v f q
  rw [e, eq.1, eq.2]
  by_cases z : f = 9
  · rw [z, cM_9, h4.1, h4.2]
    unfold csI
    rw [if_pos rfl]
    rfl
  · have ef := h3 f (by omega)
    rw [cM_f z, ef.1, ef.2]
    unfold csI
    rw [if_neg (by omega)]
    simp
theorem cM_b {v : Nat → Nat → Int32} (mi : mI v) {f q : Nat} (hf : f < (v 106 22).toInt.toNat ∨ f = 9) (hq : q < (v 106 22).toInt.toNat) : 0 ≤ cM v f q ∧ cM v f q ≤ 99 := by
  have hA := mi.2.2.2.2.2.2.2.2.2.2.2.2
  have n9 := mi.2.2.2.1
  have aq := hA q (by omega)
  by_cases z : f = 9
  · rw [z, cM_9]
    unfold csI
    rw [if_pos rfl]
    exact mvI_b (by decide) (by decide) aq.1 aq.2
  · have af := hA f (by omega)
    rw [cM_f z]
    unfold csI
    rw [if_neg (by omega)]
    simp only [Int.toNat_natCast]
    exact mvI_b af.1 af.2 aq.1 aq.2
theorem hm_of {v : Nat → Nat → Int32} (h : Rl v) (mi : mI v) : mvB v := by
  have hP := h.2.2.1
  have e := cC_M hP mi
  have n9 := mi.2.2.2.1
  intro f q hf hq
  rw [hP.1] at hf hq
  by_cases z : f = q
  · have : cC v f q = 0 := by
      unfold cC
      rw [z, hP.2.2.2.2.1 q (by omega)]
      rfl
    rw [this]
    omega
  · rw [e f q (by omega) (by omega) z]
    exact cM_b mi (by omega) (by omega)
theorem hz_of {v : Nat → Nat → Int32} (h : Rl v) : z82 v := h.2.2.2.2.2.2.2.1
theorem op_rl {v : Nat → Nat → Int32} (h : rP v) (mi : mI v) : opA v = opN (v 125) (v 106 22).toInt.toNat := by
  have n9 := mi.2.2.2.1
  unfold opA
  rw [h.1]
  exact opN_cg _ (fun k hk => by rw [h.2.1 k (by omega)])
/-- a plan stands behind the class's call -/
theorem plW_1 {v v1 : Nat → Nat → Int32} {w w1 : Nat → Nat → Int64} (h : rP v) (mi : mI v) (hW : rW v) (a : fC 66 83 v w v1 w1) (p : ((v 66 3).toInt ≠ 0 ∧ v1 = v) ∨ ((v 66 3).toInt = 0 ∧ plC v v1)) : z82 v1 ∧ plW v1 := by
  rcases p with ⟨x, y⟩ | ⟨x, y⟩
  · rw [y]; exact ⟨hW.1, hW.2 x⟩
  · obtain ⟨⟨y1, y2⟩, y3, y4, y5, y6, y7⟩ := y
    have n9 := mi.2.2.2.1
    have e := cC_M h mi
    have eM : cM v1 = cM v := cM_cg (a.1 123 (by decide)) (a.1 124 (by decide))
    have e22 : v1 106 22 = v 106 22 := congrFun (a.1 106 (by decide)) 22
    have e125 : v1 125 = v 125 := a.1 125 (by decide)
    rw [op_rl h mi, h.1] at y3 y4 y6
    rw [op_rl h mi] at y5 y7
    refine ⟨y1, tC v1, ?_, ?_, ?_, ?_, ?_⟩
    · rw [eM, e22, e125]; exact gT_cc e y3
    · rw [eM, e22, e125]; exact lt_cc e (by omega) y4
    · rw [e22, e125]; exact y5
    · rw [eM, e22, e125]; exact gr_cc (by omega) (opN_9 _ (by omega)) e y6
    · rw [e22, e125]; exact y7
theorem pW_k {v1 v2 : Nat → Nat → Int32} {w1 w2 : Nat → Nat → Int64} (b : fM 126 127 0 0 v1 w1 v2 w2) (h : z82 v1 ∧ plW v1) : rW v2 := by
  have e66 : v2 66 = v1 66 := b.1 66 (by decide) (by decide)
  refine ⟨fun k hk => by rw [b.1 82 (by decide) (by decide)]; exact h.1 k hk, fun _ => ?_⟩
  exact plW_cg h.2 (by rw [e66]) (by rw [e66]) (b.1 79 (by decide) (by decide)) (b.2.1 22 (by decide)) (b.1 123 (by decide) (by decide)) (b.1 124 (by decide) (by decide)) (by rw [b.1 125 (by decide) (by decide)])
theorem pW_least {v : Nat → Nat → Int32} {v1 : Nat → Nat → Int32} {v2 : Nat → Nat → Int32} {w : Nat → Nat → Int64} {r1 : Int32} {r2 : Int32} (hP : rP v) (hW : rW v) (mi : mI v) (hc : cI v1 ∧ fC 66 83 v w v1 w ∧ fPl v v1 ∧ r1 = v1 66 5 ∧ (((v 66 3).toInt ≠ 0 ∧ v1 = v) ∨ ((v 66 3).toInt = 0 ∧ plC v v1))) (hm : mI v2 ∧ fM 126 127 0 0 v1 w v2 w ∧ gTb (cM v2) (v1 106 22).toInt.toNat (opN (v1 125) (v1 106 22).toInt.toNat) (lsI v2) ∧ ltT (cM v2) (v1 106 22).toInt.toNat (opN (v1 125) (v1 106 22).toInt.toNat) (lsI v2) r2.toInt) : r1 = r2 ∧ rW v2 := by
  have P := plW_1 hP mi hW hc.2.1 hc.2.2.2.2
  refine ⟨?_, pW_k hm.2.1 P⟩
  obtain ⟨T, a, b, c, d, e⟩ := P.2
  have n9 := mi.2.2.2.1
  have e22 : v1 106 22 = v 106 22 := congrFun (hc.2.1.1 106 (by decide)) 22
  have eM : cM v2 = cM v1 := cM_cg (hm.2.1.1 123 (by decide) (by decide)) (hm.2.1.1 124 (by decide) (by decide))
  have g1 := hm.2.2.1
  have g2 := hm.2.2.2
  rw [eM] at g1 g2
  rw [hc.2.2.2.1]
  exact i_ext (lt_u (by rw [e22]; omega) (opN_9 _ (by rw [e22]; omega)) (fun _ _ _ _ _ => rfl) a g1 b g2)
theorem pW_order {v : Nat → Nat → Int32} {v1 : Nat → Nat → Int32} {v2 : Nat → Nat → Int32} {w : Nat → Nat → Int64} {r1 : Int32} {r2 : Int32} {A1 : Int} (hP : rP v) (hW : rW v) (mi : mI v) (hc : cI v1 ∧ fC 66 83 v w v1 w ∧ fPl v v1 ∧ ((A1 < 0 ∧ r1 = -1 ∧ v1 = v) ∨ (0 ≤ A1 ∧ (((v 66 3).toInt ≠ 0 ∧ v1 = v) ∨ ((v 66 3).toInt = 0 ∧ plC v v1)) ∧ ((A1 < (v1 66 4).toInt ∧ r1 = v1 79 A1.toNat) ∨ ((v1 66 4).toInt ≤ A1 ∧ r1 = -4))))) (hm : mI v2 ∧ fM 126 127 0 0 v1 w v2 w ∧ ((A1 < 0 ∧ r2 = -1) ∨ (0 ≤ A1 ∧ gTb (cM v2) (v1 106 22).toInt.toNat (opN (v1 125) (v1 106 22).toInt.toNat) (lsI v2) ∧ grX (cM v2) (v1 106 22).toInt.toNat (opN (v1 125) (v1 106 22).toInt.toNat) (lsI v2) A1.toNat r2.toInt))) : r1 = r2 ∧ rW v2 := by
  have n9 := mi.2.2.2.1
  have e22 : v1 106 22 = v 106 22 := congrFun (hc.2.1.1 106 (by decide)) 22
  have eM : cM v2 = cM v1 := cM_cg (hm.2.1.1 123 (by decide) (by decide)) (hm.2.1.1 124 (by decide) (by decide))
  rcases hc.2.2.2 with ⟨x1, x2, x3⟩ | ⟨x1, x2, x3⟩ <;> rcases hm.2.2 with ⟨y1, y2⟩ | ⟨y1, y2, y3⟩
  · refine ⟨x2.trans y2.symm, ?_⟩
    have b := hm.2.1
    rw [x3] at b
    have e66 : v2 66 = v 66 := b.1 66 (by decide) (by decide)
    refine ⟨fun k hk => by rw [b.1 82 (by decide) (by decide)]; exact hW.1 k hk, fun z => ?_⟩
    rw [e66] at z
    exact plW_cg (hW.2 z) (by rw [e66]) (by rw [e66]) (b.1 79 (by decide) (by decide)) (b.2.1 22 (by decide)) (b.1 123 (by decide) (by decide)) (b.1 124 (by decide) (by decide)) (by rw [b.1 125 (by decide) (by decide)])
  · omega
  · omega
  · have P := plW_1 hP mi hW hc.2.1 x2
    refine ⟨?_, pW_k hm.2.1 P⟩
    obtain ⟨T, a, b, c, d, e⟩ := P.2
    rw [eM] at y2 y3
    have q := pl_row (by rw [e22]; omega) (opN_9 _ (by rw [e22]; omega)) (fun _ _ _ _ _ => rfl) a y2 d y3
    rcases x3 with ⟨z1, z2⟩ | ⟨z1, z2⟩
    · have p := e A1.toNat (by omega)
      rcases q with ⟨q1, q2⟩ | ⟨q1, q2⟩
      · refine i_ext ?_
        rw [z2, q2]
        unfold rwC
        omega
      · omega
    · rcases q with ⟨q1, q2⟩ | ⟨q1, q2⟩
      · omega
      · exact i_ext (by rw [z2, q2]; decide)
theorem pW_place {v : Nat → Nat → Int32} {v1 : Nat → Nat → Int32} {v2 : Nat → Nat → Int32} {w : Nat → Nat → Int64} {r1 : Int32} {r2 : Int32} {p1 : Int32} {p2 : Int32} {A1 : Int} {A2 : Int} (hP : rP v) (hW : rW v) (hc : cI v1 ∧ fC 66 83 v w v1 w ∧ ((¬ rF19 A1 A2 ∧ r1 = -1 ∧ v1 = v) ∨ (rF19 A1 A2 ∧ 9 ≤ (v 66 0).toInt ∧ r1 = -3 ∧ v1 = v) ∨ (rF19 A1 A2 ∧ (v 66 0).toInt < 9 ∧ r1 = v 66 0 ∧ fP4 (gu (gu (gu (gu (gu v 80 (v 66 0).toInt.toNat p1) 81 (v 66 0).toInt.toNat p2) 67 (v 66 0).toInt.toNat (vp_nar .boolean 0)) 66 0 (v 66 0 + 1)) 66 3 0) v1 ∧ mxF (gu (gu (gu (gu (gu v 80 (v 66 0).toInt.toNat p1) 81 (v 66 0).toInt.toNat p2) 67 (v 66 0).toInt.toNat (vp_nar .boolean 0)) 66 0 (v 66 0 + 1)) 66 3 0) v1 (v 66 0).toInt.toNat ∧ v1 82 = v 82))) (hm : mI v2 ∧ fM 123 126 22 23 v1 w v2 w ∧ ((¬ rF19 A1 A2 ∧ r2 = -1 ∧ v2 = v1) ∨ (rF19 A1 A2 ∧ (v1 106 22).toInt = 9 ∧ r2 = -3 ∧ v2 = v1) ∨ (rF19 A1 A2 ∧ (v1 106 22).toInt < 9 ∧ r2 = v1 106 22 + 1 - 1 ∧ v2 = (gu (gu (gu (gu v1 123 (v1 106 22).toInt.toNat p1) 124 (v1 106 22).toInt.toNat p2) 125 (v1 106 22).toInt.toNat (vp_nar .boolean 0)) 106 22 (v1 106 22 + 1))))) : rW v2 := by
  have e : v1 106 22 = v 66 0 := (congrFun (hc.2.1.1 106 (by decide)) 22).trans hP.1.symm
  have u : ∀ k, k < 106 → v2 k = v1 k := fun k q => hm.2.1.1 k (by omega) (by omega)
  rcases hc.2.2 with ⟨f, e1, e2⟩ | ⟨f, c, e1, e2⟩ | ⟨f, c, e1, e2, x2, x3⟩
  · rcases hm.2.2 with ⟨g, e3, e4⟩ | ⟨g, d, e3, e4⟩ | ⟨g, d, e3, e4⟩
    · rw [e4, e2]; exact hW
    · exact absurd g f
    · exact absurd g f
  · rcases hm.2.2 with ⟨g, e3, e4⟩ | ⟨g, d, e3, e4⟩ | ⟨g, d, e3, e4⟩
    · exact absurd f g
    · rw [e4, e2]; exact hW
    · rw [e] at d; omega
  · refine ⟨fun k hk => by rw [u 82 (by decide), x3]; exact hW.1 k hk, fun z => absurd ?_ z⟩
    rw [u 66 (by decide), e2.1, gu_y]
    decide
theorem pW_done {v : Nat → Nat → Int32} {v1 : Nat → Nat → Int32} {v2 : Nat → Nat → Int32} {w : Nat → Nat → Int64} {r1 : Int32} {r2 : Int32} {p2 : Int32} {A1 : Int} {A2 : Int} (a2 : p2.toInt = A2) (bz : A2 = 0 ∨ A2 = 1) (hP : rP v) (mi : mI v) (hW : rW v) (hc : cI v1 ∧ fC 66 83 v w v1 w ∧ ((¬ (0 ≤ A1 ∧ A1 < (v 66 0).toInt) ∧ r1 = -1 ∧ v1 = v) ∨ (0 ≤ A1 ∧ A1 < (v 66 0).toInt ∧ r1 = lo1 (v 67 A1.toNat) ∧ v1 = (gu (gu v 67 A1.toNat (vp_nar .boolean p2)) 66 3 (plD (v 66 3).toInt (v 67 A1.toNat).toInt A2))))) (hm : mI v2 ∧ fM 123 126 22 23 v1 w v2 w ∧ ((¬ (0 ≤ A1 ∧ A1 < (v1 106 22).toInt) ∧ r2 = -1 ∧ v2 = v1) ∨ (0 ≤ A1 ∧ A1 < (v1 106 22).toInt ∧ r2 = lo1 (v1 125 A1.toNat) ∧ v2 = (gu v1 125 A1.toNat (vp_nar .boolean p2))))) : rW v2 := by
  have u : ∀ k, k < 106 → v2 k = v1 k := fun k q => hm.2.1.1 k (by omega) (by omega)
  have n9 := mi.2.2.2.1
  have e22 : v1 106 22 = v 106 22 := congrFun (hc.2.1.1 106 (by decide)) 22
  rcases hc.2.2 with ⟨f, e1, e2⟩ | ⟨f, c, e1, e2⟩ <;> rcases hm.2.2 with ⟨g, e3, e4⟩ | ⟨g, d, e3, e4⟩
  · rw [e4, e2]; exact hW
  · rw [e22, ← hP.1] at d; exact absurd ⟨g, d⟩ f
  · rw [e22, ← hP.1] at g; exact absurd ⟨f, c⟩ g
  · refine ⟨fun k hk => by rw [u 82 (by decide), e2, gu_o (by decide), gu_o (by decide)]; exact hW.1 k hk, fun z => ?_⟩
    have s3 : v2 66 3 = plD (v 66 3).toInt (v 67 A1.toNat).toInt A2 := by rw [u 66 (by decide), e2, gu_y]
    rw [s3] at z
    by_cases pz : (v 66 3).toInt ≠ 0 ∧ (v 67 A1.toNat).toInt = A2
    · refine plW_cg (hW.2 pz.1) ?_ ?_ ?_ ?_ ?_ ?_ ?_
      · rw [u 66 (by decide), e2, gu_n (by decide), gu_n (Or.inl (by decide))]
      · rw [u 66 (by decide), e2, gu_n (by decide), gu_n (Or.inl (by decide))]
      · rw [u 79 (by decide), e2, gu_o (by decide), gu_o (by decide)]
      · rw [e4, gu_n (Or.inl (by decide)), e22]
      · rw [e4, gu_o (by decide), hc.2.1.1 123 (by decide)]
      · rw [e4, gu_o (by decide), hc.2.1.1 124 (by decide)]
      · refine opN_cg _ (fun k hk => ?_)
        by_cases q : k = A1.toNat
        · have b01 : p2 = 0 ∨ p2 = 1 := by
            rcases bz with q1 | q1
            · exact Or.inl (i_ext (by rw [a2, q1]; decide))
            · exact Or.inr (i_ext (by rw [a2, q1]; decide))
          rw [e4, gu_y2 ⟨rfl, q⟩, nar01 b01, a2, q, ← hP.2.1 A1.toNat (by omega), pz.2]
        · rw [e4, gu_n (Or.inr q), hc.2.1.1 125 (by decide)]
    · exfalso
      apply z
      unfold plD
      rw [if_neg pz]
      decide
theorem cf_L {v : Nat → Nat → Int32} (h : rK v) (mi : mI v) {a b : Nat} (ha : a < 3) (hb : b < 3) : cfL v a b = mfL v (v 106 7).toInt.toNat a b := by
  have n12 := mi.1
  unfold cfL mfL
  rw [h.1]
  exact SL_cg _ (fun k hk => ⟨(h.2.1 k a (by omega) ha).1, (h.2.1 k b (by omega) hb).1⟩)
theorem cf_R {v : Nat → Nat → Int32} (h : rK v) (mi : mI v) {i a : Nat} (hi : i < 3) (ha : a < 3) : cfR v i a = mfR v i (v 106 7).toInt.toNat a := by
  have n12 := mi.1
  unfold cfR mfR
  rw [h.1]
  exact SR_cg _ (fun k hk => ⟨(h.2.1 k a (by omega) ha).1, (h.2.1 k i (by omega) hi).2⟩)
theorem cf_I {v : Nat → Nat → Int32} (h : rK v) (mi : mI v) {a b : Nat} (ha : a < 3) (hb : b < 3) : (cfL v a b).toInt = dot (fun k => (v (20 + k) a).toInt) (fun k => (v (20 + k) b).toInt) (v 18 2).toInt.toNat ∧ bdl (cfL v a b) 30000 := by
  have n12 := mi.1
  have e := h.1
  rw [← e] at n12
  have s := SL_I (f := fun k => v (20 + k) a) (g := fun k => v (20 + k) b) (v 18 2).toInt.toNat (by omega) (fun k hk => ⟨(h.2.2 k a (by omega) ha).1, (h.2.2 k b (by omega) hb).1⟩)
  exact ⟨s.1, bdl_le s.2 (by omega)⟩
theorem cf_Rb {v : Nat → Nat → Int32} (h : rK v) (mi : mI v) {i a : Nat} (hi : i < 3) (ha : a < 3) : bdl (cfR v i a) 1200000000 := by
  have n12 := mi.1
  have e := h.1
  rw [← e] at n12
  exact bdl_le (SR_b (f := fun k => v (20 + k) a) (g := fun k => v (33 + k) i) (v 18 2).toInt.toNat (by omega) (fun k hk => ⟨(h.2.2 k a (by omega) ha).1, (h.2.2 k i (by omega) hi).2⟩)) (by omega)
theorem cf_D {v : Nat → Nat → Int32} (h : rK v) (mi : mI v) : 0 ≤ (dsN (cfL v) 3).toInt ∧ (dsN (cfL v) 3).toInt ≤ 162000000000000 := by
  have s := ds_I (t := cfL v) (fun i j hi hj => (cf_I h mi hi hj).2)
  refine ⟨?_, s.2.2⟩
  rw [s.1, (cf_I h mi (a := 0) (b := 0) (by decide) (by decide)).1, (cf_I h mi (a := 0) (b := 1) (by decide) (by decide)).1, (cf_I h mi (a := 0) (b := 2) (by decide) (by decide)).1, (cf_I h mi (a := 1) (b := 0) (by decide) (by decide)).1, (cf_I h mi (a := 1) (b := 1) (by decide) (by decide)).1, (cf_I h mi (a := 1) (b := 2) (by decide) (by decide)).1, (cf_I h mi (a := 2) (b := 0) (by decide) (by decide)).1, (cf_I h mi (a := 2) (b := 1) (by decide) (by decide)).1, (cf_I h mi (a := 2) (b := 2) (by decide) (by decide)).1]
  exact gram
theorem pK_fit {v : Nat → Nat → Int32} {w w1 w2 : Nat → Nat → Int64} {r1 r2 : Int64} {A1 A2 A3 : Int} (h : rK v) (mi : mI v) (hc : cI v ∧ fC 18 51 v w v w1 ∧ ((¬ ((0 ≤ A1 ∧ A1 ≤ 2) ∧ (0 ≤ A2 ∧ A2 ≤ 2) ∧ (0 ≤ A3 ∧ A3 ≤ 1)) ∧ r1 = -1000000000000) ∨ (((0 ≤ A1 ∧ A1 ≤ 2) ∧ (0 ≤ A2 ∧ A2 ≤ 2) ∧ (0 ≤ A3 ∧ A3 ≤ 1)) ∧ ftC (dsN (cfL v) 3) (fNm (cfL v) (cfR v A1.toNat) A2.toNat) (if A3 = 0 then 1 else 0) r1))) (hm : mI v ∧ fM 109 111 0 0 v w1 v w2 ∧ ((¬ ((0 ≤ A1 ∧ A1 ≤ 2) ∧ (0 ≤ A2 ∧ A2 ≤ 2) ∧ (0 ≤ A3 ∧ A3 ≤ 1)) ∧ r2 = -1000000000000) ∨ (((0 ≤ A1 ∧ A1 ≤ 2) ∧ (0 ≤ A2 ∧ A2 ≤ 2) ∧ (0 ≤ A3 ∧ A3 ≤ 1)) ∧ ftM (dsN (mfL v (v 106 7).toInt.toNat) 3) (fNm (mfL v (v 106 7).toInt.toNat) (mfR v A1.toNat (v 106 7).toInt.toNat) A2.toNat) A3 r2))) : r1 = r2 := by
  rcases hc.2.2 with ⟨a, b⟩ | ⟨a, b⟩ <;> rcases hm.2.2 with ⟨a', b'⟩ | ⟨a', b'⟩
  · rw [b, b']
  · exact absurd a' a
  · exact absurd a a'
  · have eD : dsN (mfL v (v 106 7).toInt.toNat) 3 = dsN (cfL v) 3 := dsN_cg (fun i j hi hj => (cf_L h mi hi hj).symm)
    have eN : fNm (mfL v (v 106 7).toInt.toNat) (mfR v A1.toNat (v 106 7).toInt.toNat) A2.toNat = fNm (cfL v) (cfR v A1.toNat) A2.toNat := dsN_cg (fun i j hi hj => by
      show (if j = A2.toNat then mfR v A1.toNat (v 106 7).toInt.toNat i else mfL v (v 106 7).toInt.toNat i j) = (if j = A2.toNat then cfR v A1.toNat i else cfL v i j)
      rw [cf_L h mi hi hj, cf_R h mi (by omega) hi])
    rw [eD, eN] at b'
    refine ft_eq (cf_D h mi) ?_ b b'
    refine ds_b2 (c := A2.toNat) (by omega) (fun i j hi hj hn => ?_) (fun i hi => ?_)
    · show bdl (if j = A2.toNat then cfR v A1.toNat i else cfL v i j) 30000
      rw [if_neg hn]
      exact (cf_I h mi hi hj).2
    · show bdl (if A2.toNat = A2.toNat then cfR v A1.toNat i else cfL v i A2.toNat) 1200000000
      rw [if_pos rfl]
      exact cf_Rb h mi (by omega) hi

set_option maxHeartbeats 1000000 in
theorem pr_first  {v : Nat → Nat → Int32} {v1 : Nat → Nat → Int32} {v2 : Nat → Nat → Int32} {w : Nat → Nat → Int64} {r1 : Int32} {r2 : Int32} {p1 : Int32} {A1 : Int} (a1 : p1.toInt = A1) {p2 : Int32} {A2 : Int} (a2 : p2.toInt = A2) {p3 : Int32} {A3 : Int} (a3 : p3.toInt = A3) (rl : Rl v) (ci : cI v) (mi : mI v) (hc : cI v1 ∧ fC 2 6 v w v1 w ∧ ((r1 = 1 ∧ rF1 A1 A2 A3 ∧ v1 = (gu v (3 + A1.toNat) A2.toNat p3)) ∨ (r1 = -1 ∧ ¬ rF1 A1 A2 A3 ∧ v1 = v))) (hm : mI v2 ∧ fM 107 108 0 0 v1 w v2 w ∧ ((r2 = 1 ∧ rF1 A1 A2 A3 ∧ v2 = (gu v1 107 (3 * A1 + A2).toNat p3)) ∨ (r2 = -1 ∧ ¬ rF1 A1 A2 A3 ∧ v2 = v1))) : r1 = r2 ∧ Rl v2 := by
  have F : fr2 2 6 107 108 0 0 v v2 := fr2_of (w := w) (w1 := w) (w1' := w) (w2 := w) hc.2.1 hm.2.1 (by decide)
  obtain ⟨hB, hK, hP, hT, hH, hS, hF, hW⟩ := id rl
  exact ⟨(pB_first hB hc hm).1, (pB_first hB hc hm).2, (rK_fr hK F (by decide) (by decide)), (rP_fr hP ci F (by decide) (by decide)), (rT_fr hT F (by decide) (by decide)), (rH_fr hH F (by decide) (by decide)), (rS_fr hS F (by decide) (by decide)), (rF_fr hF F (by decide) (by decide)), (rW_fr hW F (by decide) (by decide))⟩

set_option maxHeartbeats 1000000 in
theorem pr_second  {v : Nat → Nat → Int32} {v1 : Nat → Nat → Int32} {v2 : Nat → Nat → Int32} {w : Nat → Nat → Int64} {r1 : Int32} {r2 : Int32} {p1 : Int32} {A1 : Int} (a1 : p1.toInt = A1) {p2 : Int32} {A2 : Int} (a2 : p2.toInt = A2) {p3 : Int32} {A3 : Int} (a3 : p3.toInt = A3) (rl : Rl v) (ci : cI v) (mi : mI v) (hc : cI v1 ∧ fC 6 10 v w v1 w ∧ ((r1 = 1 ∧ rF2 A1 A2 A3 ∧ v1 = (gu v (7 + A1.toNat) A2.toNat p3)) ∨ (r1 = -1 ∧ ¬ rF2 A1 A2 A3 ∧ v1 = v))) (hm : mI v2 ∧ fM 108 109 0 0 v1 w v2 w ∧ ((r2 = 1 ∧ rF2 A1 A2 A3 ∧ v2 = (gu v1 108 (6 * A1 + A2).toNat p3)) ∨ (r2 = -1 ∧ ¬ rF2 A1 A2 A3 ∧ v2 = v1))) : r1 = r2 ∧ Rl v2 := by
  have F : fr2 6 10 108 109 0 0 v v2 := fr2_of (w := w) (w1 := w) (w1' := w) (w2 := w) hc.2.1 hm.2.1 (by decide)
  obtain ⟨hB, hK, hP, hT, hH, hS, hF, hW⟩ := id rl
  exact ⟨(pB_second a3 hB hc hm).1, (pB_second a3 hB hc hm).2, (rK_fr hK F (by decide) (by decide)), (rP_fr hP ci F (by decide) (by decide)), (rT_fr hT F (by decide) (by decide)), (rH_fr hH F (by decide) (by decide)), (rS_fr hS F (by decide) (by decide)), (rF_fr hF F (by decide) (by decide)), (rW_fr hW F (by decide) (by decide))⟩

set_option maxHeartbeats 1000000 in
theorem pr_reading  {v : Nat → Nat → Int32} {r1 : Int32} {r2 : Int32} {p1 : Int32} {A1 : Int} (a1 : p1.toInt = A1) {p2 : Int32} {A2 : Int} (a2 : p2.toInt = A2) {p3 : Int32} {A3 : Int} (a3 : p3.toInt = A3) {p4 : Int32} {A4 : Int} (a4 : p4.toInt = A4) (rl : Rl v) (ci : cI v) (mi : mI v) (hc : (rF4 A1 A2 A3 A4 ∧ r1 = rd9 (v (3 + A1.toNat)) (v (7 + A1.toNat)) p2 p3 p4) ∨ (¬ rF4 A1 A2 A3 A4 ∧ r1 = 9999999)) (hm : (rF4 A1 A2 A3 A4 ∧ r2 = rd9 (fun j => v 107 (3 * A1.toNat + j)) (fun j => v 108 (6 * A1.toNat + j)) p2 p3 p4) ∨ (¬ rF4 A1 A2 A3 A4 ∧ r2 = 9999999)) : r1 = r2 ∧ Rl v := by
  obtain ⟨hB, hK, hP, hT, hH, hS, hF, hW⟩ := id rl
  exact ⟨(pB_reading hB hc hm), hB, hK, hP, hT, hH, hS, hF, hW⟩

set_option maxHeartbeats 1000000 in
theorem pr_back  {v : Nat → Nat → Int32} {v1 : Nat → Nat → Int32} {v2 : Nat → Nat → Int32} {w : Nat → Nat → Int64} {w1 : Nat → Nat → Int64} {w2 : Nat → Nat → Int64} {r1 : Int32} {r2 : Int32} {p1 : Int32} {A1 : Int} (a1 : p1.toInt = A1) {p2 : Int32} {A2 : Int} (a2 : p2.toInt = A2) {p3 : Int32} {A3 : Int} (a3 : p3.toInt = A3) {p4 : Int32} {A4 : Int} (a4 : p4.toInt = A4) (rl : Rl v) (ci : cI v) (mi : mI v) (hc : cI v1 ∧ fC 1 18 v w v1 w1 ∧ fBk v v1 ∧ ((¬ (rF25 A1 A2 A3 ∧ 1 ≤ A4 ∧ A4 ≤ 50) ∧ r1 = -1 ∧ v1 = v) ∨ ((rF25 A1 A2 A3 ∧ 1 ≤ A4 ∧ A4 ≤ 50) ∧ (((detC v).toInt = 0 ∧ r1 = -2 ∧ v1 = v) ∨ ((detC v).toInt ≠ 0 ∧ bkF v p1 p2 p3 A4 r1.toInt v1))))) (hm : mI v2 ∧ fM 109 112 5 7 v1 w1 v2 w2 ∧ ((¬ (rF25 A1 A2 A3 ∧ 1 ≤ A4 ∧ A4 ≤ 50) ∧ r2 = -1 ∧ v2 = v1) ∨ ((rF25 A1 A2 A3 ∧ 1 ≤ A4 ∧ A4 ≤ 50) ∧ (((detM v1).toInt = 0 ∧ r2 = -2 ∧ v2 = v1) ∨ ((detM v1).toInt ≠ 0 ∧ bkM v1 p1 p2 p3 A4 r2.toInt v2))))) : r1 = r2 ∧ Rl v2 := by
  have F : fr2 1 18 109 112 5 7 v v2 := fr2_of (w := w) (w1 := w1) (w1' := w1) (w2 := w2) hc.2.1 hm.2.1 (by decide)
  obtain ⟨hB, hK, hP, hT, hH, hS, hF, hW⟩ := id rl
  exact ⟨(pF_back hB hF hc hm).1, (rB_back hB ⟨hc.2.1, hc.2.2.1⟩ hm.2.1), (rK_fr hK F (by decide) (by decide)), (rP_fr hP ci F (by decide) (by decide)), (rT_fr hT F (by decide) (by decide)), (rH_fr hH F (by decide) (by decide)), (rS_fr hS F (by decide) (by decide)), (pF_back hB hF hc hm).2, (rW_fr hW F (by decide) (by decide))⟩

set_option maxHeartbeats 1000000 in
theorem pr_found  {v : Nat → Nat → Int32} {r1 : Int32} {r2 : Int32} {p1 : Int32} {A1 : Int} (a1 : p1.toInt = A1) (rl : Rl v) (ci : cI v) (mi : mI v) (hc : ((0 ≤ A1 ∧ A1 ≤ 2) ∧ r1 = v 10 A1.toNat) ∨ (A1 = 3 ∧ r1 = lo1 (v 1 3)) ∨ (A1 = 4 ∧ r1 = v 1 4) ∨ ((A1 < 0 ∨ 4 < A1) ∧ r1 = 0)) (hm : ((0 ≤ A1 ∧ A1 ≤ 2) ∧ r2 = v 111 A1.toNat) ∨ (A1 = 3 ∧ r2 = v 106 5) ∨ (A1 = 4 ∧ r2 = v 106 6) ∨ ((A1 < 0 ∨ 4 < A1) ∧ r2 = 0)) : r1 = r2 ∧ Rl v := by
  obtain ⟨hB, hK, hP, hT, hH, hS, hF, hW⟩ := id rl
  exact ⟨(pF_found hF hc hm), hB, hK, hP, hT, hH, hS, hF, hW⟩

set_option maxHeartbeats 1000000 in
theorem pr_point  {v : Nat → Nat → Int32} {v1 : Nat → Nat → Int32} {v2 : Nat → Nat → Int32} {w : Nat → Nat → Int64} {r1 : Int32} {r2 : Int32} {p1 : Int32} {A1 : Int} (a1 : p1.toInt = A1) {p2 : Int32} {A2 : Int} (a2 : p2.toInt = A2) {p3 : Int32} {A3 : Int} (a3 : p3.toInt = A3) {p4 : Int32} {A4 : Int} (a4 : p4.toInt = A4) {p5 : Int32} {A5 : Int} (a5 : p5.toInt = A5) {p6 : Int32} {A6 : Int} (a6 : p6.toInt = A6) (rl : Rl v) (ci : cI v) (mi : mI v) (hc : cI v1 ∧ fC 18 51 v w v1 w ∧ ((¬ rF7 A1 A2 A3 A4 A5 A6 ∧ r1 = -1 ∧ v1 = v) ∨ (rF7 A1 A2 A3 A4 A5 A6 ∧ 12 ≤ (v 18 2).toInt ∧ r1 = -3 ∧ v1 = v) ∨ (rF7 A1 A2 A3 A4 A5 A6 ∧ (v 18 2).toInt < 12 ∧ r1 = v 18 2 + 1 ∧ v1 = (gu (gu (gu (gu (gu (gu (gu v (20 + (v 18 2).toInt.toNat) 0 p1) (20 + (v 18 2).toInt.toNat) 1 p2) (20 + (v 18 2).toInt.toNat) 2 p3) (33 + (v 18 2).toInt.toNat) 0 p4) (33 + (v 18 2).toInt.toNat) 1 p5) (33 + (v 18 2).toInt.toNat) 2 p6) 18 2 (v 18 2 + 1))))) (hm : mI v2 ∧ fM 112 114 7 8 v1 w v2 w ∧ ((¬ rF7 A1 A2 A3 A4 A5 A6 ∧ r2 = -1 ∧ v2 = v1) ∨ (rF7 A1 A2 A3 A4 A5 A6 ∧ 12 ≤ (v1 106 7).toInt ∧ r2 = -3 ∧ v2 = v1) ∨ (rF7 A1 A2 A3 A4 A5 A6 ∧ (v1 106 7).toInt < 12 ∧ r2 = v1 106 7 + 1 ∧ v2 = (gu (gu (gu (gu (gu (gu (gu v1 112 (3 * (v1 106 7).toInt).toNat p1) 112 (3 * (v1 106 7).toInt + 1).toNat p2) 112 (3 * (v1 106 7).toInt + 2).toNat p3) 113 (3 * (v1 106 7).toInt).toNat p4) 113 (3 * (v1 106 7).toInt + 1).toNat p5) 113 (3 * (v1 106 7).toInt + 2).toNat p6) 106 7 (v1 106 7 + 1))))) : r1 = r2 ∧ Rl v2 := by
  have F : fr2 18 51 112 114 7 8 v v2 := fr2_of (w := w) (w1 := w) (w1' := w) (w2 := w) hc.2.1 hm.2.1 (by decide)
  obtain ⟨hB, hK, hP, hT, hH, hS, hF, hW⟩ := id rl
  exact ⟨(pK_point a1 a2 a3 a4 a5 a6 hK mi hc hm).1, (rB_fr hB F (by decide) (by decide)), (pK_point a1 a2 a3 a4 a5 a6 hK mi hc hm).2, (rP_fr hP ci F (by decide) (by decide)), (rT_fr hT F (by decide) (by decide)), (rH_fr hH F (by decide) (by decide)), (rS_fr hS F (by decide) (by decide)), (rF_fr hF F (by decide) (by decide)), (rW_fr hW F (by decide) (by decide))⟩

set_option maxHeartbeats 1000000 in
theorem pr_fit  {v : Nat → Nat → Int32} {w : Nat → Nat → Int64} {w1 : Nat → Nat → Int64} {w2 : Nat → Nat → Int64} {r1 : Int64} {r2 : Int64} {p1 : Int32} {A1 : Int} (a1 : p1.toInt = A1) {p2 : Int32} {A2 : Int} (a2 : p2.toInt = A2) {p3 : Int32} {A3 : Int} (a3 : p3.toInt = A3) (rl : Rl v) (ci : cI v) (mi : mI v) (hc : cI v ∧ fC 18 51 v w v w1 ∧ ((¬ ((0 ≤ A1 ∧ A1 ≤ 2) ∧ (0 ≤ A2 ∧ A2 ≤ 2) ∧ (0 ≤ A3 ∧ A3 ≤ 1)) ∧ r1 = -1000000000000) ∨ (((0 ≤ A1 ∧ A1 ≤ 2) ∧ (0 ≤ A2 ∧ A2 ≤ 2) ∧ (0 ≤ A3 ∧ A3 ≤ 1)) ∧ ftC (dsN (cfL v) 3) (fNm (cfL v) (cfR v A1.toNat) A2.toNat) (if A3 = 0 then 1 else 0) r1))) (hm : mI v ∧ fM 109 111 0 0 v w1 v w2 ∧ ((¬ ((0 ≤ A1 ∧ A1 ≤ 2) ∧ (0 ≤ A2 ∧ A2 ≤ 2) ∧ (0 ≤ A3 ∧ A3 ≤ 1)) ∧ r2 = -1000000000000) ∨ (((0 ≤ A1 ∧ A1 ≤ 2) ∧ (0 ≤ A2 ∧ A2 ≤ 2) ∧ (0 ≤ A3 ∧ A3 ≤ 1)) ∧ ftM (dsN (mfL v (v 106 7).toInt.toNat) 3) (fNm (mfL v (v 106 7).toInt.toNat) (mfR v A1.toNat (v 106 7).toInt.toNat) A2.toNat) A3 r2))) : r1 = r2 ∧ Rl v := by
  have F : fr2 18 51 109 111 0 0 v v := fr2_of (w := w) (w1 := w1) (w1' := w1) (w2 := w2) hc.2.1 hm.2.1 (by decide)
  obtain ⟨hB, hK, hP, hT, hH, hS, hF, hW⟩ := id rl
  exact ⟨(pK_fit hK mi hc hm), hB, hK, hP, hT, hH, hS, hF, hW⟩

set_option maxHeartbeats 1000000 in
theorem pr_miss  {v : Nat → Nat → Int32} {r1 : Int32} {r2 : Int32} {p1 : Int32} {A1 : Int} (a1 : p1.toInt = A1) (rl : Rl v) (ci : cI v) (mi : mI v) (hc : ((¬ (0 ≤ A1 ∧ A1 ≤ 2) ∧ r1 = -1) ∨ ((0 ≤ A1 ∧ A1 ≤ 2) ∧ (v 18 2).toInt = 0 ∧ r1 = -4) ∨ ((0 ≤ A1 ∧ A1 ≤ 2) ∧ (v 18 2).toInt ≠ 0 ∧ r1 = msC v A1.toNat (v 18 2).toInt.toNat))) (hm : ((¬ (0 ≤ A1 ∧ A1 ≤ 2) ∧ r2 = -1) ∨ ((0 ≤ A1 ∧ A1 ≤ 2) ∧ r2 = msM v A1.toNat (v 106 7).toInt.toNat))) : r1 = r2 ∧ Rl v := by
  obtain ⟨hB, hK, hP, hT, hH, hS, hF, hW⟩ := id rl
  exact ⟨(pK_miss hB hK ci mi hc hm), hB, hK, hP, hT, hH, hS, hF, hW⟩

set_option maxHeartbeats 1000000 in
theorem pr_forget  {v : Nat → Nat → Int32} {v1 : Nat → Nat → Int32} {v2 : Nat → Nat → Int32} {w : Nat → Nat → Int64} {r1 : Int32} {r2 : Int32} (rl : Rl v) (ci : cI v) (mi : mI v) (hc : cI v1 ∧ fC 18 51 v w v1 w ∧ r1 = v 18 2 ∧ v1 = gu v 18 2 0) (hm : mI v2 ∧ fM 112 114 7 8 v1 w v2 w ∧ r2 = v1 106 7 ∧ v2 = gu v1 106 7 0) : r1 = r2 ∧ Rl v2 := by
  have F : fr2 18 51 112 114 7 8 v v2 := fr2_of (w := w) (w1 := w) (w1' := w) (w2 := w) hc.2.1 hm.2.1 (by decide)
  obtain ⟨hB, hK, hP, hT, hH, hS, hF, hW⟩ := id rl
  exact ⟨(pK_forget hK hc hm).1, (rB_fr hB F (by decide) (by decide)), (pK_forget hK hc hm).2, (rP_fr hP ci F (by decide) (by decide)), (rT_fr hT F (by decide) (by decide)), (rH_fr hH F (by decide) (by decide)), (rS_fr hS F (by decide) (by decide)), (rF_fr hF F (by decide) (by decide)), (rW_fr hW F (by decide) (by decide))⟩

set_option maxHeartbeats 1000000 in
theorem pr_correct  {v : Nat → Nat → Int32} {v1 : Nat → Nat → Int32} {v2 : Nat → Nat → Int32} {w : Nat → Nat → Int64} (rl : Rl v) (ci : cI v) (mi : mI v) (hc : cI v1 ∧ fC 51 66 v w v1 w) (hm : mI v2 ∧ fM 114 123 10 19 v1 w v2 w) : Rl v2 := by
  have F : fr2 51 66 114 123 10 19 v v2 := fr2_of (w := w) (w1 := w) (w1' := w) (w2 := w) hc.2 hm.2 (by decide)
  obtain ⟨hB, hK, hP, hT, hH, hS, hF, hW⟩ := id rl
  exact ⟨(rB_fr hB F (by decide) (by decide)), (rK_fr hK F (by decide) (by decide)), (rP_fr hP ci F (by decide) (by decide)), (rT_fr hT F (by decide) (by decide)), (rH_fr hH F (by decide) (by decide)), (rS_fr hS F (by decide) (by decide)), (rF_fr hF F (by decide) (by decide)), (rW_fr hW F (by decide) (by decide))⟩

set_option maxHeartbeats 1000000 in
theorem pr_turn  {v : Nat → Nat → Int32} {v1 : Nat → Nat → Int32} {v2 : Nat → Nat → Int32} {w : Nat → Nat → Int64} (rl : Rl v) (ci : cI v) (mi : mI v) (hc : cI v1 ∧ fC 51 66 v w v1 w) (hm : mI v2 ∧ fM 114 123 10 19 v1 w v2 w) : Rl v2 := by
  have F : fr2 51 66 114 123 10 19 v v2 := fr2_of (w := w) (w1 := w) (w1' := w) (w2 := w) hc.2 hm.2 (by decide)
  obtain ⟨hB, hK, hP, hT, hH, hS, hF, hW⟩ := id rl
  exact ⟨(rB_fr hB F (by decide) (by decide)), (rK_fr hK F (by decide) (by decide)), (rP_fr hP ci F (by decide) (by decide)), (rT_fr hT F (by decide) (by decide)), (rH_fr hH F (by decide) (by decide)), (rS_fr hS F (by decide) (by decide)), (rF_fr hF F (by decide) (by decide)), (rW_fr hW F (by decide) (by decide))⟩

set_option maxHeartbeats 1000000 in
theorem pr_swap  {v : Nat → Nat → Int32} {v2 : Nat → Nat → Int32} {w : Nat → Nat → Int64} {sg1 : Nat → Nat} (rl : Rl v) (ci : cI v) (mi : mI v) (hc : cI v ∧ fC 51 66 v w v w ∧ cG sg1) (hm : mI v2 ∧ fM 114 123 10 19 v w v2 w) : Rl v2 := by
  have F : fr2 51 66 114 123 10 19 v v2 := fr2_of (w := w) (w1 := w) (w1' := w) (w2 := w) hc.2.1 hm.2 (by decide)
  obtain ⟨hB, hK, hP, hT, hH, hS, hF, hW⟩ := id rl
  exact ⟨(rB_fr hB F (by decide) (by decide)), (rK_fr hK F (by decide) (by decide)), (rP_fr hP ci F (by decide) (by decide)), (rT_fr hT F (by decide) (by decide)), (rH_fr hH F (by decide) (by decide)), (rS_fr hS F (by decide) (by decide)), (rF_fr hF F (by decide) (by decide)), (rW_fr hW F (by decide) (by decide))⟩

set_option maxHeartbeats 1000000 in
theorem pr_drop  {v : Nat → Nat → Int32} {v1 : Nat → Nat → Int32} {v2 : Nat → Nat → Int32} {w : Nat → Nat → Int64} (rl : Rl v) (ci : cI v) (mi : mI v) (hc : cI v1 ∧ fC 51 66 v w v1 w) (hm : mI v2 ∧ fM 114 123 10 19 v1 w v2 w) : Rl v2 := by
  have F : fr2 51 66 114 123 10 19 v v2 := fr2_of (w := w) (w1 := w) (w1' := w) (w2 := w) hc.2 hm.2 (by decide)
  obtain ⟨hB, hK, hP, hT, hH, hS, hF, hW⟩ := id rl
  exact ⟨(rB_fr hB F (by decide) (by decide)), (rK_fr hK F (by decide) (by decide)), (rP_fr hP ci F (by decide) (by decide)), (rT_fr hT F (by decide) (by decide)), (rH_fr hH F (by decide) (by decide)), (rS_fr hS F (by decide) (by decide)), (rF_fr hF F (by decide) (by decide)), (rW_fr hW F (by decide) (by decide))⟩

set_option maxHeartbeats 1000000 in
theorem pr_raw  {v : Nat → Nat → Int32} {v1 : Nat → Nat → Int32} {v2 : Nat → Nat → Int32} {w : Nat → Nat → Int64} {r1 : Int32} {r2 : Int32} {p1 : Int32} {A1 : Int} (a1 : p1.toInt = A1) {p2 : Int32} {A2 : Int} (a2 : p2.toInt = A2) {p3 : Int32} {A3 : Int} (a3 : p3.toInt = A3) {p4 : Int32} {A4 : Int} (a4 : p4.toInt = A4) {p5 : Int32} {A5 : Int} (a5 : p5.toInt = A5) (rl : Rl v) (ci : cI v) (mi : mI v) (hc : cI v1 ∧ fC 51 66 v w v1 w ∧ ((r1 = 1 ∧ rF15 A1 A2 A3 A4 A5) ∨ (r1 = -1 ∧ ¬ rF15 A1 A2 A3 A4 A5))) (hm : mI v2 ∧ fM 114 123 10 19 v1 w v2 w ∧ ((r2 = 1 ∧ rF15 A1 A2 A3 A4 A5) ∨ (r2 = -1 ∧ ¬ rF15 A1 A2 A3 A4 A5))) : r1 = r2 ∧ Rl v2 := by
  have F : fr2 51 66 114 123 10 19 v v2 := fr2_of (w := w) (w1 := w) (w1' := w) (w2 := w) hc.2.1 hm.2.1 (by decide)
  obtain ⟨hB, hK, hP, hT, hH, hS, hF, hW⟩ := id rl
  exact ⟨(rF_eq hc.2.2 hm.2.2), (rB_fr hB F (by decide) (by decide)), (rK_fr hK F (by decide) (by decide)), (rP_fr hP ci F (by decide) (by decide)), (rT_fr hT F (by decide) (by decide)), (rH_fr hH F (by decide) (by decide)), (rS_fr hS F (by decide) (by decide)), (rF_fr hF F (by decide) (by decide)), (rW_fr hW F (by decide) (by decide))⟩

set_option maxHeartbeats 1000000 in
theorem pr_corrected  {v : Nat → Nat → Int32} {w : Nat → Nat → Int64} {w1 : Nat → Nat → Int64} {w2 : Nat → Nat → Int64} (rl : Rl v) (ci : cI v) (mi : mI v) (hc : cI v ∧ fC 51 66 v w v w1) (hm : mI v ∧ fM 114 123 10 19 v w1 v w2) : Rl v := by
  have F : fr2 51 66 114 123 10 19 v v := fr2_of (w := w) (w1 := w1) (w1' := w1) (w2 := w2) hc.2 hm.2 (by decide)
  obtain ⟨hB, hK, hP, hT, hH, hS, hF, hW⟩ := id rl
  exact ⟨hB, hK, hP, hT, hH, hS, hF, hW⟩

set_option maxHeartbeats 1000000 in
theorem pr_touches  {v : Nat → Nat → Int32} {v2 : Nat → Nat → Int32} {w : Nat → Nat → Int64} {w1 : Nat → Nat → Int64} {w2 : Nat → Nat → Int64} (rl : Rl v) (ci : cI v) (mi : mI v) (hc : cI v ∧ fC 51 66 v w v w1) (hm : mI v2 ∧ fM 114 123 10 19 v w1 v2 w2) : Rl v2 := by
  have F : fr2 51 66 114 123 10 19 v v2 := fr2_of (w := w) (w1 := w1) (w1' := w1) (w2 := w2) hc.2 hm.2 (by decide)
  obtain ⟨hB, hK, hP, hT, hH, hS, hF, hW⟩ := id rl
  exact ⟨(rB_fr hB F (by decide) (by decide)), (rK_fr hK F (by decide) (by decide)), (rP_fr hP ci F (by decide) (by decide)), (rT_fr hT F (by decide) (by decide)), (rH_fr hH F (by decide) (by decide)), (rS_fr hS F (by decide) (by decide)), (rF_fr hF F (by decide) (by decide)), (rW_fr hW F (by decide) (by decide))⟩

set_option maxHeartbeats 1000000 in
theorem pr_minds  {v : Nat → Nat → Int32} {v2 : Nat → Nat → Int32} {w : Nat → Nat → Int64} {w1 : Nat → Nat → Int64} {w2 : Nat → Nat → Int64} (rl : Rl v) (ci : cI v) (mi : mI v) (hc : cI v ∧ fC 51 66 v w v w1) (hm : mI v2 ∧ fM 114 123 10 19 v w1 v2 w2) : Rl v2 := by
  have F : fr2 51 66 114 123 10 19 v v2 := fr2_of (w := w) (w1 := w1) (w1' := w1) (w2 := w2) hc.2 hm.2 (by decide)
  obtain ⟨hB, hK, hP, hT, hH, hS, hF, hW⟩ := id rl
  exact ⟨(rB_fr hB F (by decide) (by decide)), (rK_fr hK F (by decide) (by decide)), (rP_fr hP ci F (by decide) (by decide)), (rT_fr hT F (by decide) (by decide)), (rH_fr hH F (by decide) (by decide)), (rS_fr hS F (by decide) (by decide)), (rF_fr hF F (by decide) (by decide)), (rW_fr hW F (by decide) (by decide))⟩

set_option maxHeartbeats 1000000 in
theorem pr_place  {v : Nat → Nat → Int32} {v1 : Nat → Nat → Int32} {v2 : Nat → Nat → Int32} {w : Nat → Nat → Int64} {r1 : Int32} {r2 : Int32} {p1 : Int32} {A1 : Int} (a1 : p1.toInt = A1) {p2 : Int32} {A2 : Int} (a2 : p2.toInt = A2) (rl : Rl v) (ci : cI v) (mi : mI v) (hc : cI v1 ∧ fC 66 83 v w v1 w ∧ ((¬ rF19 A1 A2 ∧ r1 = -1 ∧ v1 = v) ∨ (rF19 A1 A2 ∧ 9 ≤ (v 66 0).toInt ∧ r1 = -3 ∧ v1 = v) ∨ (rF19 A1 A2 ∧ (v 66 0).toInt < 9 ∧ r1 = v 66 0 ∧ fP4 (gu (gu (gu (gu (gu v 80 (v 66 0).toInt.toNat p1) 81 (v 66 0).toInt.toNat p2) 67 (v 66 0).toInt.toNat (vp_nar .boolean 0)) 66 0 (v 66 0 + 1)) 66 3 0) v1 ∧ mxF (gu (gu (gu (gu (gu v 80 (v 66 0).toInt.toNat p1) 81 (v 66 0).toInt.toNat p2) 67 (v 66 0).toInt.toNat (vp_nar .boolean 0)) 66 0 (v 66 0 + 1)) 66 3 0) v1 (v 66 0).toInt.toNat ∧ v1 82 = v 82))) (hm : mI v2 ∧ fM 123 126 22 23 v1 w v2 w ∧ ((¬ rF19 A1 A2 ∧ r2 = -1 ∧ v2 = v1) ∨ (rF19 A1 A2 ∧ (v1 106 22).toInt = 9 ∧ r2 = -3 ∧ v2 = v1) ∨ (rF19 A1 A2 ∧ (v1 106 22).toInt < 9 ∧ r2 = v1 106 22 + 1 - 1 ∧ v2 = (gu (gu (gu (gu v1 123 (v1 106 22).toInt.toNat p1) 124 (v1 106 22).toInt.toNat p2) 125 (v1 106 22).toInt.toNat (vp_nar .boolean 0)) 106 22 (v1 106 22 + 1))))) : r1 = r2 ∧ Rl v2 := by
  have F : fr2 66 83 123 126 22 23 v v2 := fr2_of (w := w) (w1 := w) (w1' := w) (w2 := w) hc.2.1 hm.2.1 (by decide)
  obtain ⟨hB, hK, hP, hT, hH, hS, hF, hW⟩ := id rl
  exact ⟨(pP_place a1 a2 hP mi hc hm).1, (rB_fr hB F (by decide) (by decide)), (rK_fr hK F (by decide) (by decide)), (pP_place a1 a2 hP mi hc hm).2, (rT_fr hT F (by decide) (by decide)), (rH_fr hH F (by decide) (by decide)), (rS_fr hS F (by decide) (by decide)), (rF_fr hF F (by decide) (by decide)), (pW_place hP hW hc hm)⟩

set_option maxHeartbeats 1000000 in
theorem pr_done  {v : Nat → Nat → Int32} {v1 : Nat → Nat → Int32} {v2 : Nat → Nat → Int32} {w : Nat → Nat → Int64} {r1 : Int32} {r2 : Int32} {p1 : Int32} {A1 : Int} (a1 : p1.toInt = A1) {p2 : Int32} {A2 : Int} (a2 : p2.toInt = A2) (bz : A2 = 0 ∨ A2 = 1) (rl : Rl v) (ci : cI v) (mi : mI v) (hc : cI v1 ∧ fC 66 83 v w v1 w ∧ ((¬ (0 ≤ A1 ∧ A1 < (v 66 0).toInt) ∧ r1 = -1 ∧ v1 = v) ∨ (0 ≤ A1 ∧ A1 < (v 66 0).toInt ∧ r1 = lo1 (v 67 A1.toNat) ∧ v1 = (gu (gu v 67 A1.toNat (vp_nar .boolean p2)) 66 3 (plD (v 66 3).toInt (v 67 A1.toNat).toInt A2))))) (hm : mI v2 ∧ fM 123 126 22 23 v1 w v2 w ∧ ((¬ (0 ≤ A1 ∧ A1 < (v1 106 22).toInt) ∧ r2 = -1 ∧ v2 = v1) ∨ (0 ≤ A1 ∧ A1 < (v1 106 22).toInt ∧ r2 = lo1 (v1 125 A1.toNat) ∧ v2 = (gu v1 125 A1.toNat (vp_nar .boolean p2))))) : r1 = r2 ∧ Rl v2 := by
  have F : fr2 66 83 123 126 22 23 v v2 := fr2_of (w := w) (w1 := w) (w1' := w) (w2 := w) hc.2.1 hm.2.1 (by decide)
  obtain ⟨hB, hK, hP, hT, hH, hS, hF, hW⟩ := id rl
  exact ⟨(pP_done hP mi ci hc hm).1, (rB_fr hB F (by decide) (by decide)), (rK_fr hK F (by decide) (by decide)), (pP_done hP mi ci hc hm).2, (rT_fr hT F (by decide) (by decide)), (rH_fr hH F (by decide) (by decide)), (rS_fr hS F (by decide) (by decide)), (rF_fr hF F (by decide) (by decide)), (pW_done a2 bz hP mi hW hc hm)⟩

set_option maxHeartbeats 1000000 in
theorem pr_moves  {v : Nat → Nat → Int32} {r1 : Int32} {r2 : Int32} {p1 : Int32} {A1 : Int} (a1 : p1.toInt = A1) {p2 : Int32} {A2 : Int} (a2 : p2.toInt = A2) (rl : Rl v) (ci : cI v) (mi : mI v) (hc : ((¬ ((0 ≤ A1 ∧ A1 < (v 66 0).toInt) ∧ (0 ≤ A2 ∧ A2 < (v 66 0).toInt)) ∧ r1 = -1) ∨ ((0 ≤ A1 ∧ A1 < (v 66 0).toInt) ∧ (0 ≤ A2 ∧ A2 < (v 66 0).toInt) ∧ r1 = v (69 + A1.toNat) A2.toNat))) (hm : (¬ ((0 ≤ A1 ∧ A1 < (v 106 22).toInt) ∧ (0 ≤ A2 ∧ A2 < (v 106 22).toInt)) ∧ r2 = -1) ∨ (((0 ≤ A1 ∧ A1 < (v 106 22).toInt) ∧ (0 ≤ A2 ∧ A2 < (v 106 22).toInt)) ∧ r2.toInt = mvI (v 123 A1.toNat).toInt (v 124 A1.toNat).toInt (v 123 A2.toNat).toInt (v 124 A2.toNat).toInt)) : r1 = r2 ∧ Rl v := by
  obtain ⟨hB, hK, hP, hT, hH, hS, hF, hW⟩ := id rl
  exact ⟨(pP_moves hP ci hc hm), hB, hK, hP, hT, hH, hS, hF, hW⟩

set_option maxHeartbeats 1000000 in
theorem pr_least  {v : Nat → Nat → Int32} {v1 : Nat → Nat → Int32} {v2 : Nat → Nat → Int32} {w : Nat → Nat → Int64} {r1 : Int32} {r2 : Int32} (rl : Rl v) (ci : cI v) (mi : mI v) (hc : cI v1 ∧ fC 66 83 v w v1 w ∧ fPl v v1 ∧ r1 = v1 66 5 ∧ (((v 66 3).toInt ≠ 0 ∧ v1 = v) ∨ ((v 66 3).toInt = 0 ∧ plC v v1))) (hm : mI v2 ∧ fM 126 127 0 0 v1 w v2 w ∧ gTb (cM v2) (v1 106 22).toInt.toNat (opN (v1 125) (v1 106 22).toInt.toNat) (lsI v2) ∧ ltT (cM v2) (v1 106 22).toInt.toNat (opN (v1 125) (v1 106 22).toInt.toNat) (lsI v2) r2.toInt) : r1 = r2 ∧ Rl v2 := by
  have F : fr2 66 83 126 127 0 0 v v2 := fr2_of (w := w) (w1 := w) (w1' := w) (w2 := w) hc.2.1 hm.2.1 (by decide)
  obtain ⟨hB, hK, hP, hT, hH, hS, hF, hW⟩ := id rl
  exact ⟨(pW_least hP hW mi hc hm).1, (rB_fr hB F (by decide) (by decide)), (rK_fr hK F (by decide) (by decide)), (pP_plan hP ci hc.2.1 hc.2.2.1 hm.2.1), (rT_fr hT F (by decide) (by decide)), (rH_fr hH F (by decide) (by decide)), (rS_fr hS F (by decide) (by decide)), (rF_fr hF F (by decide) (by decide)), (pW_least hP hW mi hc hm).2⟩

set_option maxHeartbeats 1000000 in
theorem pr_order  {v : Nat → Nat → Int32} {v1 : Nat → Nat → Int32} {v2 : Nat → Nat → Int32} {w : Nat → Nat → Int64} {r1 : Int32} {r2 : Int32} {p1 : Int32} {A1 : Int} (a1 : p1.toInt = A1) (rl : Rl v) (ci : cI v) (mi : mI v) (hc : cI v1 ∧ fC 66 83 v w v1 w ∧ fPl v v1 ∧ ((A1 < 0 ∧ r1 = -1 ∧ v1 = v) ∨ (0 ≤ A1 ∧ (((v 66 3).toInt ≠ 0 ∧ v1 = v) ∨ ((v 66 3).toInt = 0 ∧ plC v v1)) ∧ ((A1 < (v1 66 4).toInt ∧ r1 = v1 79 A1.toNat) ∨ ((v1 66 4).toInt ≤ A1 ∧ r1 = -4))))) (hm : mI v2 ∧ fM 126 127 0 0 v1 w v2 w ∧ ((A1 < 0 ∧ r2 = -1) ∨ (0 ≤ A1 ∧ gTb (cM v2) (v1 106 22).toInt.toNat (opN (v1 125) (v1 106 22).toInt.toNat) (lsI v2) ∧ grX (cM v2) (v1 106 22).toInt.toNat (opN (v1 125) (v1 106 22).toInt.toNat) (lsI v2) A1.toNat r2.toInt))) : r1 = r2 ∧ Rl v2 := by
  have F : fr2 66 83 126 127 0 0 v v2 := fr2_of (w := w) (w1 := w) (w1' := w) (w2 := w) hc.2.1 hm.2.1 (by decide)
  obtain ⟨hB, hK, hP, hT, hH, hS, hF, hW⟩ := id rl
  exact ⟨(pW_order hP hW mi hc hm).1, (rB_fr hB F (by decide) (by decide)), (rK_fr hK F (by decide) (by decide)), (pP_plan hP ci hc.2.1 hc.2.2.1 hm.2.1), (rT_fr hT F (by decide) (by decide)), (rH_fr hH F (by decide) (by decide)), (rS_fr hS F (by decide) (by decide)), (rF_fr hF F (by decide) (by decide)), (pW_order hP hW mi hc hm).2⟩

set_option maxHeartbeats 1000000 in
theorem pr_rule  {v : Nat → Nat → Int32} {v1 : Nat → Nat → Int32} {v2 : Nat → Nat → Int32} {w : Nat → Nat → Int64} {r1 : Int32} {r2 : Int32} {p1 : Int32} {A1 : Int} (a1 : p1.toInt = A1) {p2 : Int32} {A2 : Int} (a2 : p2.toInt = A2) {p3 : Int32} {A3 : Int} (a3 : p3.toInt = A3) {p4 : Int32} {A4 : Int} (a4 : p4.toInt = A4) (rl : Rl v) (ci : cI v) (mi : mI v) (hc : cI v1 ∧ fC 83 93 v w v1 w ∧ ((¬ rF24 A1 A2 A3 A4 ∧ r1 = -1 ∧ v1 = v) ∨ (rF24 A1 A2 A3 A4 ∧ r1 = 1 ∧ v1 = (gu (gu (gu (gu (gu (gu (gu v 83 0 p1) 83 1 p2) 83 2 p3) 83 3 p4) 83 4 0) 83 5 0) 83 6 (-4))))) (hm : mI v2 ∧ fM 127 128 27 34 v1 w v2 w ∧ ((¬ rF24 A1 A2 A3 A4 ∧ r2 = -1 ∧ v2 = v1) ∨ (rF24 A1 A2 A3 A4 ∧ r2 = 1 ∧ v2 = (gu (gu (gu (gu (gu (gu (gu v1 106 27 p1) 106 28 p2) 106 29 p3) 106 30 p4) 106 31 0) 106 32 0) 106 33 (-4))))) : r1 = r2 ∧ Rl v2 := by
  have F : fr2 83 93 127 128 27 34 v v2 := fr2_of (w := w) (w1 := w) (w1' := w) (w2 := w) hc.2.1 hm.2.1 (by decide)
  obtain ⟨hB, hK, hP, hT, hH, hS, hF, hW⟩ := id rl
  exact ⟨(pS_rule hc hm).1, (rB_fr hB F (by decide) (by decide)), (rK_fr hK F (by decide) (by decide)), (rP_fr hP ci F (by decide) (by decide)), (rT_fr hT F (by decide) (by decide)), (rH_fr hH F (by decide) (by decide)), ((pS_rule hc hm).2 hS), (rF_fr hF F (by decide) (by decide)), (rW_fr hW F (by decide) (by decide))⟩

set_option maxHeartbeats 1000000 in
theorem pr_come  {v : Nat → Nat → Int32} {v1 : Nat → Nat → Int32} {v2 : Nat → Nat → Int32} {w : Nat → Nat → Int64} {r1 : Int32} {r2 : Int32} {p1 : Int32} {A1 : Int} (a1 : p1.toInt = A1) {p2 : Int32} {A2 : Int} (a2 : p2.toInt = A2) {p3 : Int32} {A3 : Int} (a3 : p3.toInt = A3) (rl : Rl v) (ci : cI v) (mi : mI v) (hc : cI v1 ∧ fC 83 93 v w v1 w ∧ ((¬ rF25 A1 A2 A3 ∧ r1 = -1 ∧ v1 = v) ∨ (rF25 A1 A2 A3 ∧ (v 83 4).toInt ≠ 0 ∧ r1 = -2 ∧ v1 = v) ∨ (rF25 A1 A2 A3 ∧ (v 83 4).toInt = 0 ∧ ∃ (v3 : Nat → Nat → Int32) (b s : Int32), v3 = gu (gu (tk3 v (85 + ((v 83 5).toInt % 8).toNat) p1 p2 p3) 83 5 (v 83 5 + 1)) 83 6 b ∧ fst3 (fun j => far (v 83 3) (sel3 j p1 p2 p3)) (-4) b.toInt ∧ stS b s (stC v3) (v3 83 5).toInt (v3 83 2).toInt ∧ r1 = s ∧ v1 = gu v3 83 4 s))) (hm : mI v2 ∧ fM 127 128 27 34 v1 w v2 w ∧ ((¬ rF25 A1 A2 A3 ∧ r2 = -1 ∧ v2 = v1) ∨ (rF25 A1 A2 A3 ∧ (v1 106 31).toInt ≠ 0 ∧ r2 = -2 ∧ v2 = v1) ∨ (rF25 A1 A2 A3 ∧ (v1 106 31).toInt = 0 ∧ ∃ (v3 : Nat → Nat → Int32) (b s : Int32), v3 = gu (cmB v1 p1 p2 p3) 106 33 b ∧ fst3 (fun j => farM (v1 106 30) (sel3 j p1 p2 p3)) (v1 106 33).toInt b.toInt ∧ stS b s (stM v3) (v3 106 32).toInt (v3 106 29).toInt ∧ r2 = s ∧ v2 = gu v3 106 31 s))) : r1 = r2 ∧ Rl v2 := by
  have F : fr2 83 93 127 128 27 34 v v2 := fr2_of (w := w) (w1 := w) (w1' := w) (w2 := w) hc.2.1 hm.2.1 (by decide)
  obtain ⟨hB, hK, hP, hT, hH, hS, hF, hW⟩ := id rl
  exact ⟨(pS_come a1 a2 a3 hS ci mi hc hm).1, (rB_fr hB F (by decide) (by decide)), (rK_fr hK F (by decide) (by decide)), (rP_fr hP ci F (by decide) (by decide)), (rT_fr hT F (by decide) (by decide)), (rH_fr hH F (by decide) (by decide)), (pS_come a1 a2 a3 hS ci mi hc hm).2, (rF_fr hF F (by decide) (by decide)), (rW_fr hW F (by decide) (by decide))⟩

set_option maxHeartbeats 1000000 in
theorem pr_settled  {v : Nat → Nat → Int32} {r1 : Int32} {r2 : Int32} {p1 : Int32} {A1 : Int} (a1 : p1.toInt = A1) (rl : Rl v) (ci : cI v) (mi : mI v) (hc : (3 ≤ A1 ∧ A1 ≤ 5 ∧ (v 83 4).toInt = 1 ∧ r1 = sumN (fun k => agC v (A1 - 3).toNat (k + 1)) (v 83 0).toInt.toNat) ∨ (3 ≤ A1 ∧ A1 ≤ 5 ∧ (v 83 4).toInt ≠ 1 ∧ r1 = 0) ∨ (A1 = 0 ∧ r1 = v 83 4) ∨ (A1 = 1 ∧ r1 = v 83 5) ∨ (A1 = 2 ∧ r1 = v 83 6) ∨ ((A1 < 0 ∨ 5 < A1) ∧ r1 = -1)) (hm : (3 ≤ A1 ∧ A1 ≤ 5 ∧ (v 106 31).toInt = 1 ∧ r2 = sumN (gM v (A1 - 3)) (v 106 27).toInt.toNat) ∨ (3 ≤ A1 ∧ A1 ≤ 5 ∧ (v 106 31).toInt ≠ 1 ∧ r2 = 0) ∨ (A1 = 0 ∧ r2 = v 106 31) ∨ (A1 = 1 ∧ r2 = v 106 32) ∨ (A1 = 2 ∧ r2 = v 106 33) ∨ ((A1 < 0 ∨ 5 < A1) ∧ r2 = -1)) : r1 = r2 ∧ Rl v := by
  obtain ⟨hB, hK, hP, hT, hH, hS, hF, hW⟩ := id rl
  exact ⟨(pS_settled hS ci mi hc hm), hB, hK, hP, hT, hH, hS, hF, hW⟩

set_option maxHeartbeats 1000000 in
theorem pr_anew  {v : Nat → Nat → Int32} {v1 : Nat → Nat → Int32} {v2 : Nat → Nat → Int32} {w : Nat → Nat → Int64} {r1 : Int32} {r2 : Int32} (rl : Rl v) (ci : cI v) (mi : mI v) (hc : cI v1 ∧ fC 83 93 v w v1 w ∧ r1 = v 83 5 ∧ v1 = (gu (gu (gu v 83 4 0) 83 5 0) 83 6 (-4))) (hm : mI v2 ∧ fM 127 128 27 34 v1 w v2 w ∧ r2 = v1 106 32 ∧ v2 = (gu (gu (gu v1 106 31 0) 106 32 0) 106 33 (-4))) : r1 = r2 ∧ Rl v2 := by
  have F : fr2 83 93 127 128 27 34 v v2 := fr2_of (w := w) (w1 := w) (w1' := w) (w2 := w) hc.2.1 hm.2.1 (by decide)
  obtain ⟨hB, hK, hP, hT, hH, hS, hF, hW⟩ := id rl
  exact ⟨(pS_anew hS hc hm).1, (rB_fr hB F (by decide) (by decide)), (rK_fr hK F (by decide) (by decide)), (rP_fr hP ci F (by decide) (by decide)), (rT_fr hT F (by decide) (by decide)), (rH_fr hH F (by decide) (by decide)), (pS_anew hS hc hm).2, (rF_fr hF F (by decide) (by decide)), (rW_fr hW F (by decide) (by decide))⟩

set_option maxHeartbeats 1000000 in
theorem pr_tube  {v : Nat → Nat → Int32} {v1 : Nat → Nat → Int32} {v2 : Nat → Nat → Int32} {w : Nat → Nat → Int64} {r1 : Int32} {r2 : Int32} {p1 : Int32} {A1 : Int} (a1 : p1.toInt = A1) (rl : Rl v) (ci : cI v) (mi : mI v) (hc : cI v1 ∧ fC 93 97 v w v1 w ∧ ((¬ (1 ≤ A1 ∧ A1 ≤ 100) ∧ r1 = -1 ∧ v1 = v) ∨ ((1 ≤ A1 ∧ A1 ≤ 100) ∧ 10 ≤ (v 93 0).toInt ∧ r1 = -3 ∧ v1 = v) ∨ ((1 ≤ A1 ∧ A1 ≤ 100) ∧ (v 93 0).toInt < 10 ∧ r1 = v 93 0 + 1 - 1 ∧ v1 = (gu (gu (gu (gu v 96 (v 93 0).toInt.toNat p1) 94 (v 93 0).toInt.toNat (vp_nar .boolean 1)) 95 (v 93 0).toInt.toNat 0) 93 0 (v 93 0 + 1))))) (hm : mI v2 ∧ fM 128 131 35 36 v1 w v2 w ∧ ((¬ (1 ≤ A1 ∧ A1 ≤ 100) ∧ r2 = -1 ∧ v2 = v1) ∨ ((1 ≤ A1 ∧ A1 ≤ 100) ∧ (v1 106 35).toInt = 10 ∧ r2 = -3 ∧ v2 = v1) ∨ ((1 ≤ A1 ∧ A1 ≤ 100) ∧ (v1 106 35).toInt < 10 ∧ r2 = v1 106 35 + 1 - 1 ∧ v2 = (gu (gu (gu (gu v1 128 (v1 106 35).toInt.toNat p1) 129 (v1 106 35).toInt.toNat 0) 130 (v1 106 35).toInt.toNat (vp_nar .boolean 1)) 106 35 (v1 106 35 + 1))))) : r1 = r2 ∧ Rl v2 := by
  have F : fr2 93 97 128 131 35 36 v v2 := fr2_of (w := w) (w1 := w) (w1' := w) (w2 := w) hc.2.1 hm.2.1 (by decide)
  obtain ⟨hB, hK, hP, hT, hH, hS, hF, hW⟩ := id rl
  exact ⟨(pT_tube hT mi hc hm).1, (rB_fr hB F (by decide) (by decide)), (rK_fr hK F (by decide) (by decide)), (rP_fr hP ci F (by decide) (by decide)), (pT_tube hT mi hc hm).2, (rH_fr hH F (by decide) (by decide)), (rS_fr hS F (by decide) (by decide)), (rF_fr hF F (by decide) (by decide)), (rW_fr hW F (by decide) (by decide))⟩

set_option maxHeartbeats 1000000 in
theorem pr_press  {v : Nat → Nat → Int32} {v1 : Nat → Nat → Int32} {v2 : Nat → Nat → Int32} {w : Nat → Nat → Int64} {r1 : Int32} {r2 : Int32} {p1 : Int32} {A1 : Int} (a1 : p1.toInt = A1) {p2 : Int32} {A2 : Int} (a2 : p2.toInt = A2) {p3 : Int32} {A3 : Int} (a3 : p3.toInt = A3) (bz : A2 = 0 ∨ A2 = 1) (rl : Rl v) (ci : cI v) (mi : mI v) (hc : cI v1 ∧ fC 93 97 v w v1 w ∧ ((¬ rF29 A1 A2 A3 (v 93 0).toInt ∧ r1 = -1 ∧ v1 = v) ∨ (rF29 A1 A2 A3 (v 93 0).toInt ∧ r1 = 1 ∧ v1 = (gu (gu v 94 A1.toNat (vp_nar .boolean p2)) 95 A1.toNat (prS A2 p3))))) (hm : mI v2 ∧ fM 128 131 35 36 v1 w v2 w ∧ ((¬ rF29 A1 A2 A3 (v1 106 35).toInt ∧ r2 = -1 ∧ v2 = v1) ∨ (rF29 A1 A2 A3 (v1 106 35).toInt ∧ r2 = 1 ∧ v2 = (gu (gu v1 130 A1.toNat (vp_nar .boolean p2)) 129 A1.toNat (prS A2 p3))))) : r1 = r2 ∧ Rl v2 := by
  have F : fr2 93 97 128 131 35 36 v v2 := fr2_of (w := w) (w1 := w) (w1' := w) (w2 := w) hc.2.1 hm.2.1 (by decide)
  obtain ⟨hB, hK, hP, hT, hH, hS, hF, hW⟩ := id rl
  exact ⟨(pT_press a2 a3 bz hT mi hc hm).1, (rB_fr hB F (by decide) (by decide)), (rK_fr hK F (by decide) (by decide)), (rP_fr hP ci F (by decide) (by decide)), (pT_press a2 a3 bz hT mi hc hm).2, (rH_fr hH F (by decide) (by decide)), (rS_fr hS F (by decide) (by decide)), (rF_fr hF F (by decide) (by decide)), (rW_fr hW F (by decide) (by decide))⟩

set_option maxHeartbeats 1000000 in
theorem pr_sheet  {v : Nat → Nat → Int32} {v1 : Nat → Nat → Int32} {v2 : Nat → Nat → Int32} {w : Nat → Nat → Int64} {r1 : Int32} {r2 : Int32} {p1 : Int32} {A1 : Int} (a1 : p1.toInt = A1) {p2 : Int32} {A2 : Int} (a2 : p2.toInt = A2) {p3 : Int32} {A3 : Int} (a3 : p3.toInt = A3) (rl : Rl v) (ci : cI v) (mi : mI v) (hc : cI v1 ∧ fC 97 106 v w v1 w ∧ ((¬ rF30 A1 A2 A3 ∧ r1 = -1 ∧ v1 = v) ∨ (rF30 A1 A2 A3 ∧ A3 < 0 ∧ r1 = -10 - 4 ∧ v1 = v) ∨ (rF30 A1 A2 A3 ∧ 0 ≤ A3 ∧ r1 = 1 ∧ v1 = va_up (gu (gu v (98 + 2 * A1.toNat) 0 p2) (98 + 2 * A1.toNat) 1 p3) ((98 + 2 * A1.toNat) + 1) (flR (fun _ => 0) (v ((98 + 2 * A1.toNat) + 1)) 0 60)))) (hm : mI v2 ∧ fM 131 134 0 0 v1 w v2 w ∧ ((¬ rF30 A1 A2 A3 ∧ r2 = -1 ∧ v2 = v1) ∨ (rF30 A1 A2 A3 ∧ A3 < 0 ∧ r2 = -14 ∧ v2 = v1) ∨ (rF30 A1 A2 A3 ∧ 0 ≤ A3 ∧ r2 = 1 ∧ v2 = va_up (gu (gu v1 131 A1.toNat p2) 132 A1.toNat p3) 133 (flR (fun _ => 0) (v1 133) (60 * A1) (60 * A1 + 60))))) : r1 = r2 ∧ Rl v2 := by
  have F : fr2 97 106 131 134 0 0 v v2 := fr2_of (w := w) (w1 := w) (w1' := w) (w2 := w) hc.2.1 hm.2.1 (by decide)
  obtain ⟨hB, hK, hP, hT, hH, hS, hF, hW⟩ := id rl
  exact ⟨(pH_sheet a2 hH hc hm).1, (rB_fr hB F (by decide) (by decide)), (rK_fr hK F (by decide) (by decide)), (rP_fr hP ci F (by decide) (by decide)), (rT_fr hT F (by decide) (by decide)), (pH_sheet a2 hH hc hm).2, (rS_fr hS F (by decide) (by decide)), (rF_fr hF F (by decide) (by decide)), (rW_fr hW F (by decide) (by decide))⟩

set_option maxHeartbeats 1000000 in
theorem pr_lay  {v : Nat → Nat → Int32} {v1 : Nat → Nat → Int32} {v2 : Nat → Nat → Int32} {w : Nat → Nat → Int64} {r1 : Int32} {r2 : Int32} {p1 : Int32} {A1 : Int} (a1 : p1.toInt = A1) {p2 : Int32} {A2 : Int} (a2 : p2.toInt = A2) {p3 : Int32} {A3 : Int} (a3 : p3.toInt = A3) (rl : Rl v) (ci : cI v) (mi : mI v) (hc : cI v1 ∧ fC 97 106 v w v1 w ∧ ((¬ (0 ≤ A1 ∧ A1 ≤ 3) ∧ r1 = -1 ∧ v1 = v) ∨ ((0 ≤ A1 ∧ A1 ≤ 3) ∧ (flC (v (98 + 2 * A1.toNat) 0).toInt (v (98 + 2 * A1.toNat) 1).toInt A2 1).toInt ≠ 0 ∧ r1 = -10 - flC (v (98 + 2 * A1.toNat) 0).toInt (v (98 + 2 * A1.toNat) 1).toInt A2 1 ∧ v1 = v) ∨ ((0 ≤ A1 ∧ A1 ≤ 3) ∧ (flC (v (98 + 2 * A1.toNat) 0).toInt (v (98 + 2 * A1.toNat) 1).toInt A2 1).toInt = 0 ∧ r1 = 1 ∧ v1 = gu v ((98 + 2 * A1.toNat) + 1) A2.toNat (cvt (v (98 + 2 * A1.toNat) 0).toInt p3)))) (hm : mI v2 ∧ fM 131 134 0 0 v1 w v2 w ∧ ((¬ (0 ≤ A1 ∧ A1 ≤ 3) ∧ r2 = -1 ∧ v2 = v1) ∨ ((0 ≤ A1 ∧ A1 ≤ 3) ∧ (v1 131 A1.toNat).toInt = -4 ∧ r2 = -11 ∧ v2 = v1) ∨ ((0 ≤ A1 ∧ A1 ≤ 3) ∧ (v1 131 A1.toNat).toInt ≠ -4 ∧ ¬ (0 ≤ A2 ∧ A2 ≤ (v1 132 A1.toNat).toInt - 1) ∧ r2 = -12 ∧ v2 = v1) ∨ ((0 ≤ A1 ∧ A1 ≤ 3) ∧ (v1 131 A1.toNat).toInt ≠ -4 ∧ (0 ≤ A2 ∧ A2 ≤ (v1 132 A1.toNat).toInt - 1) ∧ r2 = 1 ∧ v2 = (gu v1 133 (60 * A1 + A2).toNat (cvt (v1 131 A1.toNat).toInt p3))))) : r1 = r2 ∧ Rl v2 := by
  have F : fr2 97 106 131 134 0 0 v v2 := fr2_of (w := w) (w1 := w) (w1' := w) (w2 := w) hc.2.1 hm.2.1 (by decide)
  obtain ⟨hB, hK, hP, hT, hH, hS, hF, hW⟩ := id rl
  exact ⟨(pH_lay hH mi hc hm).1, (rB_fr hB F (by decide) (by decide)), (rK_fr hK F (by decide) (by decide)), (rP_fr hP ci F (by decide) (by decide)), (rT_fr hT F (by decide) (by decide)), (pH_lay hH mi hc hm).2, (rS_fr hS F (by decide) (by decide)), (rF_fr hF F (by decide) (by decide)), (rW_fr hW F (by decide) (by decide))⟩

set_option maxHeartbeats 1000000 in
theorem pr_scan  {v : Nat → Nat → Int32} {v1 : Nat → Nat → Int32} {v2 : Nat → Nat → Int32} {w : Nat → Nat → Int64} {r1 : Int32} {r2 : Int32} {p1 : Int32} {A1 : Int} (a1 : p1.toInt = A1) {p2 : Int32} {A2 : Int} (a2 : p2.toInt = A2) {p3 : Int32} {A3 : Int} (a3 : p3.toInt = A3) (rl : Rl v) (ci : cI v) (mi : mI v) (hc : cI v1 ∧ fC 93 97 v w v1 w ∧ ((¬ rF32 A1 A2 ∧ r1 = -1 ∧ v1 = v) ∨ (rF32 A1 A2 ∧ (flL (v (98 + 2 * A1.toNat) 0).toInt A2).toInt ≠ 0 ∧ r1 = -10 - flL (v (98 + 2 * A1.toNat) 0).toInt A2 ∧ v1 = v) ∨ (rF32 A1 A2 ∧ (flL (v (98 + 2 * A1.toNat) 0).toInt A2).toInt = 0 ∧ (flC (v (98 + 2 * A1.toNat) 0).toInt (v (98 + 2 * A1.toNat) 1).toInt A3 (v 93 0).toInt).toInt ≠ 0 ∧ r1 = -10 - flC (v (98 + 2 * A1.toNat) 0).toInt (v (98 + 2 * A1.toNat) 1).toInt A3 (v 93 0).toInt ∧ v1 = v) ∨ (rF32 A1 A2 ∧ (flL (v (98 + 2 * A1.toNat) 0).toInt A2).toInt = 0 ∧ (flC (v (98 + 2 * A1.toNat) 0).toInt (v (98 + 2 * A1.toNat) 1).toInt A3 (v 93 0).toInt).toInt = 0 ∧ r1 = sumN (fun k => lo1 (v1 94 k)) (v 93 0).toInt.toNat ∧ v1 = va_up (va_up v 94 (flN (fun k => lostOf (v ((98 + 2 * A1.toNat) + 1) (A3.toNat + k))) (v 94) (v 93 0).toInt)) 95 (flN (fun k => prsOf (v ((98 + 2 * A1.toNat) + 1) (A3.toNat + k))) (v 95) (v 93 0).toInt)))) (hm : mI v2 ∧ fM 128 131 35 36 v1 w v2 w ∧ ((¬ rF32 A1 A2 ∧ r2 = -1 ∧ v2 = v1) ∨ (rF32 A1 A2 ∧ (v1 131 A1.toNat).toInt ≠ A2 ∧ (v1 131 A1.toNat).toInt = -4 ∧ r2 = -11 ∧ v2 = v1) ∨ (rF32 A1 A2 ∧ (v1 131 A1.toNat).toInt ≠ A2 ∧ (v1 131 A1.toNat).toInt ≠ -4 ∧ r2 = -13 ∧ v2 = v1) ∨ (rF32 A1 A2 ∧ (v1 131 A1.toNat).toInt = A2 ∧ ¬ ((v1 106 35).toInt ≤ 0 ∨ (0 ≤ A3 ∧ A3 + (v1 106 35).toInt ≤ (v1 132 A1.toNat).toInt)) ∧ r2 = -12 ∧ v2 = v1) ∨ (rF32 A1 A2 ∧ (v1 131 A1.toNat).toInt = A2 ∧ ((v1 106 35).toInt ≤ 0 ∨ (0 ≤ A3 ∧ A3 + (v1 106 35).toInt ≤ (v1 132 A1.toNat).toInt)) ∧ r2 = sumN (fun k => lo1 (v2 130 k)) (v1 106 35).toInt.toNat ∧ v2 = va_up (va_up v1 130 (flN (fun k => lostOf (v1 133 (60 * A1.toNat + (A3.toNat + k)))) (v1 130) (v1 106 35).toInt)) 129 (flN (fun k => prsOf (v1 133 (60 * A1.toNat + (A3.toNat + k)))) (v1 129) (v1 106 35).toInt)))) : r1 = r2 ∧ Rl v2 := by
  have F : fr2 93 97 128 131 35 36 v v2 := fr2_of (w := w) (w1 := w) (w1' := w) (w2 := w) hc.2.1 hm.2.1 (by decide)
  obtain ⟨hB, hK, hP, hT, hH, hS, hF, hW⟩ := id rl
  exact ⟨(pT_scan hT hH mi hc hm).1, (rB_fr hB F (by decide) (by decide)), (rK_fr hK F (by decide) (by decide)), (rP_fr hP ci F (by decide) (by decide)), (pT_scan hT hH mi hc hm).2, (rH_fr hH F (by decide) (by decide)), (rS_fr hS F (by decide) (by decide)), (rF_fr hF F (by decide) (by decide)), (rW_fr hW F (by decide) (by decide))⟩

set_option maxHeartbeats 1000000 in
theorem pr_force  {v : Nat → Nat → Int32} {r1 : Int32} {r2 : Int32} (rl : Rl v) (ci : cI v) (mi : mI v) (hc : r1 = sumN (fun k => v 96 k * v 95 k) (v 93 0).toInt.toNat) (hm : r2 = sumN (fcM v) (v 106 35).toInt.toNat) : r1 = r2 ∧ Rl v := by
  obtain ⟨hB, hK, hP, hT, hH, hS, hF, hW⟩ := id rl
  exact ⟨(pT_force hT mi hc hm), hB, hK, hP, hT, hH, hS, hF, hW⟩

set_option maxHeartbeats 1000000 in
theorem pr_check  {v : Nat → Nat → Int32} {r1 : Int32} {r2 : Int32} {p1 : Int32} {A1 : Int} (a1 : p1.toInt = A1) {p2 : Int32} {A2 : Int} (a2 : p2.toInt = A2) (rl : Rl v) (ci : cI v) (mi : mI v) (hc : (¬ rF34 A1 A2 ∧ r1 = -1) ∨ (rF34 A1 A2 ∧ 0 < (sumN (fun k => lo1 (v 94 k)) (v 93 0).toInt.toNat).toInt ∧ r1 = -2) ∨ (rF34 A1 A2 ∧ (sumN (fun k => lo1 (v 94 k)) (v 93 0).toInt.toNat).toInt ≤ 0 ∧ ((-A2 ≤ A1 - (sumN (fun k => v 96 k * v 95 k) (v 93 0).toInt.toNat).toInt ∧ A1 - (sumN (fun k => v 96 k * v 95 k) (v 93 0).toInt.toNat).toInt ≤ A2 ∧ r1 = 0) ∨ (¬ (-A2 ≤ A1 - (sumN (fun k => v 96 k * v 95 k) (v 93 0).toInt.toNat).toInt ∧ A1 - (sumN (fun k => v 96 k * v 95 k) (v 93 0).toInt.toNat).toInt ≤ A2) ∧ ckR (fun k => cmQ (v 96 k).toInt (v 95 k).toInt (A1 - (sumN (fun k => v 96 k * v 95 k) (v 93 0).toInt.toNat).toInt) A2) (v 93 0).toInt r1.toInt)))) (hm : (¬ rF34 A1 A2 ∧ r2 = -1) ∨ (rF34 A1 A2 ∧ 0 < (sumN (fun k => lo1 (v 130 k)) (v 106 35).toInt.toNat).toInt ∧ r2 = -2) ∨ (rF34 A1 A2 ∧ (sumN (fun k => lo1 (v 130 k)) (v 106 35).toInt.toNat).toInt ≤ 0 ∧ ((-A2 ≤ A1 - (sumN (fcM v) (v 106 35).toInt.toNat).toInt ∧ A1 - (sumN (fcM v) (v 106 35).toInt.toNat).toInt ≤ A2 ∧ r2 = 0) ∨ (¬ (-A2 ≤ A1 - (sumN (fcM v) (v 106 35).toInt.toNat).toInt ∧ A1 - (sumN (fcM v) (v 106 35).toInt.toNat).toInt ≤ A2) ∧ ckR (fun k => cmQ (v 128 k).toInt (v 129 k).toInt (A1 - (sumN (fcM v) (v 106 35).toInt.toNat).toInt) A2) (v 106 35).toInt r2.toInt)))) : r1 = r2 ∧ Rl v := by
  obtain ⟨hB, hK, hP, hT, hH, hS, hF, hW⟩ := id rl
  exact ⟨(pT_check hT mi hc hm), hB, hK, hP, hT, hH, hS, hF, hW⟩

set_option maxHeartbeats 1000000 in
theorem pr_fill  {v : Nat → Nat → Int32} {r1 : Int32} {r2 : Int32} {p1 : Int32} {A1 : Int} (a1 : p1.toInt = A1) (rl : Rl v) (ci : cI v) (mi : mI v) (hc : (¬ (-2000000 ≤ A1 ∧ A1 ≤ 2000000) ∧ r1 = -1) ∨ ((-2000000 ≤ A1 ∧ A1 ≤ 2000000) ∧ (sumN (fun k => lo1 (v 94 k)) (v 93 0).toInt.toNat).toInt ≠ 1 ∧ r1 = -2) ∨ ((-2000000 ≤ A1 ∧ A1 ≤ 2000000) ∧ (sumN (fun k => lo1 (v 94 k)) (v 93 0).toInt.toNat).toInt = 1 ∧ ((∃ k : Nat, fsL (v 94) (v 93 0).toInt k ∧ r1.toInt = plR (plV (v 96 k).toInt (A1 - (sumN (fun k => v 96 k * v 95 k) (v 93 0).toInt.toNat).toInt))) ∨ (nlL (v 94) (v 93 0).toInt ∧ r1 = -4)))) (hm : (¬ (-2000000 ≤ A1 ∧ A1 ≤ 2000000) ∧ r2 = -1) ∨ ((-2000000 ≤ A1 ∧ A1 ≤ 2000000) ∧ (sumN (fun k => lo1 (v 130 k)) (v 106 35).toInt.toNat).toInt ≠ 1 ∧ r2 = -2) ∨ ((-2000000 ≤ A1 ∧ A1 ≤ 2000000) ∧ (sumN (fun k => lo1 (v 130 k)) (v 106 35).toInt.toNat).toInt = 1 ∧ ((∃ k : Nat, fsL (v 130) (v 106 35).toInt k ∧ r2.toInt = plR (plV (v 128 k).toInt (A1 - (sumN (fcM v) (v 106 35).toInt.toNat).toInt))) ∨ (nlL (v 130) (v 106 35).toInt ∧ r2 = -4)))) : r1 = r2 ∧ Rl v := by
  obtain ⟨hB, hK, hP, hT, hH, hS, hF, hW⟩ := id rl
  exact ⟨(pT_fill hT mi hc hm), hB, hK, hP, hT, hH, hS, hF, hW⟩

set_option maxHeartbeats 1000000 in
theorem pr_count  {v : Nat → Nat → Int32} (rl : Rl v) (ci : cI v) (mi : mI v) (hc : True) (hm : True) : Rl v := by
  obtain ⟨hB, hK, hP, hT, hH, hS, hF, hW⟩ := id rl
  exact ⟨hB, hK, hP, hT, hH, hS, hF, hW⟩
