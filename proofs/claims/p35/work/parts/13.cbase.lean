def cS (v : Nat → Nat → Int32) : Prop := (v 83 4).toInt = 0 → (v 83 5).toInt < (v 83 2).toInt
/-- what the class keeps true of its numbers -/
def cI (v : Nat → Nat → Int32) : Prop :=
  (0 ≤ (v 18 2).toInt ∧ (v 18 2).toInt ≤ 12) ∧ (0 ≤ (v 51 1).toInt ∧ (v 51 1).toInt ≤ 10) ∧ (0 ≤ (v 66 0).toInt ∧ (v 66 0).toInt ≤ 9) ∧ (0 ≤ (v 66 4).toInt ∧ (v 66 4).toInt ≤ 9) ∧ (1 ≤ (v 83 0).toInt ∧ (v 83 0).toInt ≤ 8) ∧ (1 ≤ (v 83 2).toInt ∧ (v 83 2).toInt ≤ 100) ∧ (0 ≤ (v 83 5).toInt ∧ (v 83 5).toInt ≤ 100) ∧ cS v ∧ (0 ≤ (v 93 0).toInt ∧ (v 93 0).toInt ≤ 10) ∧ (∀ r j : Nat, r < 3 → j < 3 → -100 ≤ (v (3 + r) j).toInt ∧ (v (3 + r) j).toInt ≤ 100) ∧ (∀ k : Nat, (k : Int) < (v 93 0).toInt → 1 ≤ (v 96 k).toInt ∧ (v 96 k).toInt ≤ 100) ∧ (∀ i : Nat, i < 4 → 0 ≤ (v (98 + 2 * i) 1).toInt ∧ (v (98 + 2 * i) 1).toInt ≤ 60)
/-- the row of corrections holds corrections -/
def cG (sg : Nat → Nat) : Prop := ∀ j, j < 10 → 56 ≤ sg j ∧ sg j < 66
/-- only the places lo .. hi-1 may have changed -/
def fC (lo hi : Nat) (v : Nat → Nat → Int32) (w : Nat → Nat → Int64) (v' : Nat → Nat → Int32) (w' : Nat → Nat → Int64) : Prop := (∀ k, (k < lo ∨ hi ≤ k) → v' k = v k) ∧ (∀ k, (k < lo ∨ hi ≤ k) → w' k = w k)
theorem fC_rf {lo hi : Nat} {v : Nat → Nat → Int32} {w : Nat → Nat → Int64} : fC lo hi v w v w := ⟨fun _ _ => rfl, fun _ _ => rfl⟩
theorem fC_v {lo hi : Nat} {v v1 : Nat → Nat → Int32} {w w1 : Nat → Nat → Int64} {k j : Nat} {x : Int32} (h : fC lo hi v w v1 w1) (hk : lo ≤ k ∧ k < hi) : fC lo hi v w (gu v1 k j x) w1 := ⟨fun a ha => (gu_o (by omega)).trans (h.1 a ha), h.2⟩
theorem fC_w {lo hi : Nat} {v v1 : Nat → Nat → Int32} {w w1 : Nat → Nat → Int64} {k j : Nat} {x : Int64} (h : fC lo hi v w v1 w1) (hk : lo ≤ k ∧ k < hi) : fC lo hi v w v1 (gul w1 k j x) := ⟨h.1, fun a ha => (gul_o (by omega)).trans (h.2 a ha)⟩
theorem fC_tr {lo hi : Nat} {v v1 v2 : Nat → Nat → Int32} {w w1 w2 : Nat → Nat → Int64} (h : fC lo hi v w v1 w1) (h2 : fC lo hi v1 w1 v2 w2) : fC lo hi v w v2 w2 := ⟨fun a ha => (h2.1 a ha).trans (h.1 a ha), fun a ha => (h2.2 a ha).trans (h.2 a ha)⟩
theorem fC_le {lo hi lo' hi' : Nat} {v v1 : Nat → Nat → Int32} {w w1 : Nat → Nat → Int64} (h : fC lo' hi' v w v1 w1) (hl : lo ≤ lo' ∧ hi' ≤ hi) : fC lo hi v w v1 w1 := ⟨fun a ha => h.1 a (by omega), fun a ha => h.2 a (by omega)⟩
/-- a store at a place that cI doesn't speak of -/
theorem cI_o {v : Nat → Nat → Int32} {k j : Nat} {x : Int32} (h : cI v) (hk : (k ≠ 18 ∧ k ≠ 51 ∧ k ≠ 66 ∧ k ≠ 83 ∧ k ≠ 93 ∧ k ≠ 96) ∧ (k < 3 ∨ 5 < k) ∧ k ≠ 98 ∧ k ≠ 100 ∧ k ≠ 102 ∧ k ≠ 104) : cI (gu v k j x) := by
  obtain ⟨K1, K2, K3, K4, K5, K6, K7, Ks, K9, Ka, Kr, Kz⟩ := h
  have e : ∀ a, a ≠ k → gu v k j x a = v a := fun a ha => gu_o ha
  have e18 := e 18 (by omega); have e51 := e 51 (by omega); have e66 := e 66 (by omega); have e83 := e 83 (by omega); have e93 := e 93 (by omega); have e96 := e 96 (by omega)
  unfold cI cS
  rw [e18, e51, e66, e83, e93, e96]
  refine ⟨K1, K2, K3, K4, K5, K6, K7, Ks, K9, fun r i hr hi => ?_, Kr, fun i hi => ?_⟩
  · rw [e (3 + r) (by omega)]; exact Ka r i hr hi
  · rw [e (98 + 2 * i) (by omega)]; exact Kz i hi
theorem cI_18_2 {v : Nat → Nat → Int32} {x : Int32} (h : cI v) (hx : 0 ≤ x.toInt ∧ x.toInt ≤ 12) : cI (gu v 18 2 x) := by
  obtain ⟨K1, K2, K3, K4, K5, K6, K7, Ks, K9, Ka, Kr, Kz⟩ := h
  refine ⟨hx, K2, K3, K4, K5, K6, K7, Ks, K9, fun r i hr hi => ?_, Kr, fun i hi => ?_⟩
  · rw [gu_o (by omega)]; exact Ka r i hr hi
  · rw [gu_o (by omega)]; exact Kz i hi
theorem cI_51_1 {v : Nat → Nat → Int32} {x : Int32} (h : cI v) (hx : 0 ≤ x.toInt ∧ x.toInt ≤ 10) : cI (gu v 51 1 x) := by
  obtain ⟨K1, K2, K3, K4, K5, K6, K7, Ks, K9, Ka, Kr, Kz⟩ := h
  refine ⟨K1, hx, K3, K4, K5, K6, K7, Ks, K9, fun r i hr hi => ?_, Kr, fun i hi => ?_⟩
  · rw [gu_o (by omega)]; exact Ka r i hr hi
  · rw [gu_o (by omega)]; exact Kz i hi
theorem cI_51 {v : Nat → Nat → Int32} {j : Nat} {x : Int32} (h : cI v) (hj : j ≠ 1) : cI (gu v 51 j x) := by
  obtain ⟨K1, K2, K3, K4, K5, K6, K7, Ks, K9, Ka, Kr, Kz⟩ := h
  refine ⟨K1, ?_, K3, K4, K5, K6, K7, Ks, K9, fun r i hr hi => ?_, Kr, fun i hi => ?_⟩
  · simpa [gu, va_up, Ne.symm hj] using K2
  · rw [gu_o (by omega)]; exact Ka r i hr hi
  · rw [gu_o (by omega)]; exact Kz i hi
theorem cI_66_0 {v : Nat → Nat → Int32} {x : Int32} (h : cI v) (hx : 0 ≤ x.toInt ∧ x.toInt ≤ 9) : cI (gu v 66 0 x) := by
  obtain ⟨K1, K2, K3, K4, K5, K6, K7, Ks, K9, Ka, Kr, Kz⟩ := h
  refine ⟨K1, K2, hx, K4, K5, K6, K7, Ks, K9, fun r i hr hi => ?_, Kr, fun i hi => ?_⟩
  · rw [gu_o (by omega)]; exact Ka r i hr hi
  · rw [gu_o (by omega)]; exact Kz i hi
theorem cI_66_4 {v : Nat → Nat → Int32} {x : Int32} (h : cI v) (hx : 0 ≤ x.toInt ∧ x.toInt ≤ 9) : cI (gu v 66 4 x) := by
  obtain ⟨K1, K2, K3, K4, K5, K6, K7, Ks, K9, Ka, Kr, Kz⟩ := h
  refine ⟨K1, K2, K3, hx, K5, K6, K7, Ks, K9, fun r i hr hi => ?_, Kr, fun i hi => ?_⟩
  · rw [gu_o (by omega)]; exact Ka r i hr hi
  · rw [gu_o (by omega)]; exact Kz i hi
theorem cI_66 {v : Nat → Nat → Int32} {j : Nat} {x : Int32} (h : cI v) (hj : j ≠ 0 ∧ j ≠ 4) : cI (gu v 66 j x) := by
  obtain ⟨K1, K2, K3, K4, K5, K6, K7, Ks, K9, Ka, Kr, Kz⟩ := h
  refine ⟨K1, K2, ?_, ?_, K5, K6, K7, Ks, K9, fun r i hr hi => ?_, Kr, fun i hi => ?_⟩
  · simpa [gu, va_up, Ne.symm hj.1] using K3
  · simpa [gu, va_up, Ne.symm hj.2] using K4
  · rw [gu_o (by omega)]; exact Ka r i hr hi
  · rw [gu_o (by omega)]; exact Kz i hi
/-- a row of first terms -/
theorem cI_first {v : Nat → Nat → Int32} {k j : Nat} {x : Int32} (h : cI v) (hk : 3 ≤ k ∧ k < 6) (hx : -100 ≤ x.toInt ∧ x.toInt ≤ 100) : cI (gu v k j x) := by
  obtain ⟨K1, K2, K3, K4, K5, K6, K7, Ks, K9, Ka, Kr, Kz⟩ := h
  have e : ∀ a, a ≠ k → gu v k j x a = v a := fun a ha => gu_o ha
  have e18 := e 18 (by omega); have e51 := e 51 (by omega); have e66 := e 66 (by omega); have e83 := e 83 (by omega); have e93 := e 93 (by omega); have e96 := e 96 (by omega)
  unfold cI cS
  rw [e18, e51, e66, e83, e93, e96]
  refine ⟨K1, K2, K3, K4, K5, K6, K7, Ks, K9, fun r i hr hi => ?_, Kr, fun i hi => ?_⟩
  · by_cases q : 3 + r = k
    · rw [q, gu_s]
      by_cases q2 : i = j
      · simpa [va_up, q2] using hx
      · have := Ka r i hr hi
        rw [q] at this
        simpa [va_up, q2] using this
    · rw [e _ q]; exact Ka r i hr hi
  · rw [e (98 + 2 * i) (by omega)]; exact Kz i hi
theorem g_row52 {sg : Nat → Nat} (hG : cG sg) {i : Int32} {I : Int} (h : i.toInt = I) (h3 : 0 ≤ I) (h4 : I < 10) : ∃ q, gR sg 52 i.toNatClampNeg = q ∧ (56 ≤ q ∧ q < 66) := by
  have hc := cl_of h h3
  exact ⟨sg i.toNatClampNeg, by simp [gR], hG _ (by omega)⟩
theorem g_row97 (sg : Nat → Nat) {i : Int32} {I : Int} (h : i.toInt = I) (h3 : 0 ≤ I) (h4 : I < 4) : ∃ q, gR sg 97 i.toNatClampNeg = q ∧ (q : Int) = 98 + 2 * I ∧ (q = 98 ∨ q = 100 ∨ q = 102 ∨ q = 104) := by
  have hc := cl_of h h3
  refine ⟨98 + 2 * i.toNatClampNeg, by simp [gR], by omega, ?_⟩
  omega
theorem g_coe {G : gG} {v : Nat → Nat → Int32} {w : Nat → Nat → Int64} {sg : Nat → Nat} {o : Nat} (h : 56 ≤ o ∧ o < 66) : gE G v w sg o = .inr (2, gfs G.2.2 (v o) o 2) := by
  have h1 : gkd o = 0 := g_kd 56 10 0 rfl h
  have h2 : gln o = 2 := g_ln 56 10 2 rfl h
  unfold gE
  rw [h1, h2]
theorem g_cos {G : gG} {v : Nat → Nat → Int32} {w : Nat → Nat → Int64} {sg : Nat → Nat} {o : Nat} (h : 56 ≤ o ∧ o < 66) {j : Nat} (hj : j < 5) (x : Int32) : gE G (gu v o j x) w sg o = .inr (2, (gfs G.2.2 (v o) o 2).set j (.int x)) := by
  rw [g_coe h, gu_s]
  match j, hj with
  | 0, _ => rfl
  | 1, _ => rfl
  | 2, _ => rfl
  | 3, _ => rfl
  | 4, _ => rfl
  | n + 5, hj => omega
theorem g_she {G : gG} {v : Nat → Nat → Int32} {w : Nat → Nat → Int64} {sg : Nat → Nat} {o : Nat} (h : o = 98 ∨ o = 100 ∨ o = 102 ∨ o = 104) : gE G v w sg o = .inr (7, gfs G.2.2 (v o) o 7) := by
  rcases h with rfl | rfl | rfl | rfl <;> rfl
theorem g_shs {G : gG} {v : Nat → Nat → Int32} {w : Nat → Nat → Int64} {sg : Nat → Nat} {o : Nat} (h : o = 98 ∨ o = 100 ∨ o = 102 ∨ o = 104) {j : Nat} (hj : j < 2) (x : Int32) : gE G (gu v o j x) w sg o = .inr (7, (gfs G.2.2 (v o) o 7).set j (.int x)) := by
  rw [g_she h, gu_s]
  match j, hj with
  | 0, _ => rfl
  | 1, _ => rfl
  | n + 2, hj => omega
theorem g_shc {o : Nat} (h : o = 98 ∨ o = 100 ∨ o = 102 ∨ o = 104) : gkd (o + 1) = 1 ∧ gln (o + 1) = 60 := by
  rcases h with rfl | rfl | rfl | rfl <;> exact ⟨rfl, rfl⟩
