/-- the reading that came a readings ago, as the class keeps it -/
def rgC (v : Nat → Nat → Int32) (a : Int) (i : Nat) : Int32 := v (85 + (((v 83 5).toInt - a) % 8).toNat) i
def loN (f : Nat → Int32) : Nat → Int32
  | 0 => 2000000
  | k + 1 => jmin (loN f k) (f (k + 1))
def hiN (f : Nat → Int32) : Nat → Int32
  | 0 => -2000000
  | k + 1 => jmax (hiN f k) (f (k + 1))
def agC (v : Nat → Nat → Int32) (i : Nat) : Nat → Int32 := fun a => rgC v (a : Int) i
theorem ag_of {v : Nat → Nat → Int32} {i : Nat} {I : Int} {r : Int32} (h : r = rgC v I i) (h0 : 0 ≤ I) : r = agC v i I.toNat := by
  rw [h]
  unfold agC
  congr 1
  omega
def spC (v : Nat → Nat → Int32) (i : Nat) : Int32 := hiN (agC v i) (v 83 0).toInt.toNat - loN (agC v i) (v 83 0).toInt.toNat
theorem lo_st {f : Nat → Int32} {x x' t : Int32} {I J : Int} (h : x = loN f (I - 1).toNat) (h1 : 1 ≤ I) (hJ : J = I + 1) (e : x' = if t < x then t else x) (ht : t = f I.toNat) : x' = loN f (J - 1).toNat := by
  have a : (J - 1).toNat = (I - 1).toNat + 1 := by omega
  have b : I.toNat = (I - 1).toNat + 1 := by omega
  rw [a, e, ht, h, b]
  rfl
theorem hi_st {f : Nat → Int32} {x x' t : Int32} {I J : Int} (h : x = hiN f (I - 1).toNat) (h1 : 1 ≤ I) (hJ : J = I + 1) (e : x' = if x < t then t else x) (ht : t = f I.toNat) : x' = hiN f (J - 1).toNat := by
  have a : (J - 1).toNat = (I - 1).toNat + 1 := by omega
  have b : I.toNat = (I - 1).toNat + 1 := by omega
  rw [a, e, ht, h, b]
  rfl
theorem sm_st {f : Nat → Int32} {x x' t : Int32} {I J : Int} (h : x = sumN (fun k => f (k + 1)) (I - 1).toNat) (h1 : 1 ≤ I) (hJ : J = I + 1) (e : x' = x + t) (ht : t = f I.toNat) : x' = sumN (fun k => f (k + 1)) (J - 1).toNat := by
  have a : (J - 1).toNat = (I - 1).toNat + 1 := by omega
  have b : I.toNat = (I - 1).toNat + 1 := by omega
  rw [a, e, ht, h, b]
  rfl
/-- the first n meters' spreads are small -/
def stP (v : Nat → Nat → Int32) (n : Int) : Prop := ∀ i : Nat, (i : Int) < n → (spC v i).toInt ≤ (v 83 1).toInt
theorem stP_0 {v : Nat → Nat → Int32} : stP v 0 := fun i h => by omega
theorem stP.st {v : Nat → Nat → Int32} {I J : Int} (h : stP v I) (h0 : 0 ≤ I) (hJ : J = I + 1) (hs : (spC v I.toNat).toInt ≤ (v 83 1).toInt) : stP v J := by
  intro i hi
  by_cases q : i = I.toNat
  · subst q; exact hs
  · exact h i (by omega)
def stC (v : Nat → Nat → Int32) : Prop := (v 83 0).toInt ≤ (v 83 5).toInt ∧ stP v 3
/-- which of three is the first, or else d -/
def fst3 (F : Nat → Prop) (d r : Int) : Prop := (r = d ∧ ∀ j, j < 3 → ¬ F j) ∨ (∃ i : Nat, i < 3 ∧ r = i ∧ F i ∧ ∀ j, j < i → ¬ F j)
theorem fst3_u {F : Nat → Prop} {d r q : Int} (h : fst3 F d r) (g : fst3 F d q) : r = q := by
  rcases h with ⟨h1, h2⟩ | ⟨i, h1, h2, h3, h4⟩ <;> rcases g with ⟨g1, g2⟩ | ⟨j, g1, g2, g3, g4⟩
  · omega
  · exact absurd g3 (h2 j g1)
  · exact absurd h3 (g2 i h1)
  · by_cases a : i < j
    · exact absurd h3 (g4 i a)
    · by_cases b : j < i
      · exact absurd g3 (h4 j b)
      · omega
theorem fst3_cg {F G : Nat → Prop} {d r : Int} (h : fst3 F d r) (e : ∀ j, j < 3 → (F j ↔ G j)) : fst3 G d r := by
  rcases h with ⟨h1, h2⟩ | ⟨i, h1, h2, h3, h4⟩
  · exact Or.inl ⟨h1, fun j hj q => h2 j hj ((e j hj).mpr q)⟩
  · exact Or.inr ⟨i, h1, h2, (e i h1).mp h3, fun j hj q => h4 j hj ((e j (by omega)).mpr q)⟩
def far (L x : Int32) : Prop := L.toInt < (jabs x).toInt
def noF (F : Nat → Prop) (n : Int) : Prop := ∀ j : Nat, (j : Int) < n → ¬ F j
theorem noF_0 {F : Nat → Prop} : noF F 0 := fun j h => by omega
theorem noF.st {F : Nat → Prop} {I J : Int} (h : noF F I) (h0 : 0 ≤ I) (hJ : J = I + 1) (hs : ¬ F I.toNat) : noF F J := by
  intro i hi
  by_cases q : i = I.toNat
  · subst q; exact hs
  · exact h i (by omega)
theorem fst3_n {F : Nat → Prop} {n : Int} (h : noF F n) (hn : 3 ≤ n) : fst3 F (-4) (-4) := Or.inl ⟨rfl, fun j hj => h j (by omega)⟩
theorem fst3_i {F : Nat → Prop} {n : Int} (h : noF F n) (h0 : 0 ≤ n) (hn : n < 3) (hf : F n.toNat) : fst3 F (-4) n := Or.inr ⟨n.toNat, by omega, by omega, hf, fun j hj => h j (by omega)⟩
/-- the state behind a reading -/
def stS (b s : Int32) (st : Prop) (c m : Int) : Prop := (b.toInt ≠ -4 ∧ s = 2) ∨ (b.toInt = -4 ∧ st ∧ s = 1) ∨ (b.toInt = -4 ∧ ¬ st ∧ m ≤ c ∧ s = 3) ∨ (b.toInt = -4 ∧ ¬ st ∧ c < m ∧ s = 0)
theorem gu_id {v : Nat → Nat → Int32} {k j : Nat} {x : Int32} (h : v k j = x) : v = gu v k j x := by
  funext a b
  rw [gu_at]
  by_cases q : a = k ∧ b = j
  · rw [if_pos q, q.1, q.2, h]
  · rw [if_neg q]
def sel3 (j : Nat) (a b c : Int32) : Int32 := if j = 0 then a else if j = 1 then b else c
def tk3 (v : Nat → Nat → Int32) (q : Nat) (a b c : Int32) : Nat → Nat → Int32 := gu (gu (gu v q 0 a) q 1 b) q 2 c
theorem tk3_in {v : Nat → Nat → Int32} {q j : Nat} {a b c : Int32} (hj : j < 3) : tk3 v q a b c q j = sel3 j a b c := by
  unfold tk3 sel3
  rcases (show j = 0 ∨ j = 1 ∨ j = 2 by omega) with rfl | rfl | rfl
  · rw [gu_n (by omega), gu_n (by omega), gu_y]; rfl
  · rw [gu_n (by omega), gu_y]; rfl
  · rw [gu_y]; rfl
theorem tk3_out {v : Nat → Nat → Int32} {q k : Nat} {a b c : Int32} (h : k ≠ q) : tk3 v q a b c k = v k := by
  unfold tk3
  rw [gu_o h, gu_o h, gu_o h]
/-- the model's row of readings -/
def gM (v : Nat → Nat → Int32) (i : Int) : Nat → Int32 := fun k => v 127 (3 * ((v 106 32).toInt - (v 106 27).toInt + k) + i).toNat
def mnM (m x : Int32) : Int32 := if x.toInt < m.toInt then x else m
def loM (g : Nat → Int32) (x0 : Int32) : Nat → Int32
  | 0 => x0
  | k + 1 => mnM (loM g x0 k) (g k)
def hiM (g : Nat → Int32) (x0 : Int32) : Nat → Int32
  | 0 => x0
  | k + 1 => mxM (hiM g x0 k) (g k)
theorem lm_st {g : Nat → Int32} {x0 x x' t : Int32} {I J c : Int} (h : x = loM g x0 (I - c).toNat) (h1 : c ≤ I) (hJ : J = I + 1) (e : x' = mnM x t) (ht : t = g (I - c).toNat) : x' = loM g x0 (J - c).toNat := by
  have a : (J - c).toNat = (I - c).toNat + 1 := by omega
  rw [a, e, ht, h]
  rfl
theorem hm_st {g : Nat → Int32} {x0 x x' t : Int32} {I J c : Int} (h : x = hiM g x0 (I - c).toNat) (h1 : c ≤ I) (hJ : J = I + 1) (e : x' = mxM x t) (ht : t = g (I - c).toNat) : x' = hiM g x0 (J - c).toNat := by
  have a : (J - c).toNat = (I - c).toNat + 1 := by omega
  rw [a, e, ht, h]
  rfl
theorem su_st {g : Nat → Int32} {x x' t : Int32} {I J c : Int} (h : x = sumN g (I - c).toNat) (h1 : c ≤ I) (hJ : J = I + 1) (e : x' = x + t) (ht : t = g (I - c).toNat) : x' = sumN g (J - c).toNat := by
  have a : (J - c).toNat = (I - c).toNat + 1 := by omega
  rw [a, e, ht, h]
  rfl
def spM (v : Nat → Nat → Int32) (i : Nat) : Int32 := hiM (gM v i) (v 127 (3 * ((v 106 32).toInt - 1) + i).toNat) (v 106 27).toInt.toNat - loM (gM v i) (v 127 (3 * ((v 106 32).toInt - 1) + i).toNat) (v 106 27).toInt.toNat
def stQ (v : Nat → Nat → Int32) (n : Int) : Prop := ∀ i : Nat, (i : Int) < n → (spM v i).toInt ≤ (v 106 28).toInt
theorem stQ_0 {v : Nat → Nat → Int32} : stQ v 0 := fun i h => by omega
theorem stQ.st {v : Nat → Nat → Int32} {I J : Int} (h : stQ v I) (h0 : 0 ≤ I) (hJ : J = I + 1) (hs : (spM v I.toNat).toInt ≤ (v 106 28).toInt) : stQ v J := by
  intro i hi
  by_cases q : i = I.toNat
  · subst q; exact hs
  · exact h i (by omega)
theorem stQ.no {v : Nat → Nat → Int32} {I J : Int} (h0 : 0 ≤ I) (hJ : J = I + 1) (hs : ¬ ((spM v I.toNat).toInt ≤ (v 106 28).toInt)) : ¬ stQ v J := fun q => hs (q I.toNat (by omega))
theorem stQ.nm {v : Nat → Nat → Int32} {I J : Int} (h : ¬ stQ v I) (hJ : I ≤ J) : ¬ stQ v J := fun q => h (fun i hi => q i (by omega))
def stM (v : Nat → Nat → Int32) : Prop := (v 106 27).toInt ≤ (v 106 32).toInt ∧ stQ v 3
/-- of those above i the first, or else d -/
def lst3 (F : Nat → Prop) (d i r : Int) : Prop := (r = d ∧ ∀ j : Nat, i < (j : Int) → j < 3 → ¬ F j) ∨ (∃ k : Nat, i < (k : Int) ∧ k < 3 ∧ r = k ∧ F k ∧ ∀ j : Nat, i < (j : Int) → j < k → ¬ F j)
theorem lst3_0 {F : Nat → Prop} {d i r : Int} (h : 2 ≤ i) (hr : r = d) : lst3 F d i r := Or.inl ⟨hr, fun j h1 h2 => by omega⟩
theorem lst3_y {F : Nat → Prop} {d i i' : Int} (h0 : 0 ≤ i) (h3 : i < 3) (hi : i' = i - 1) (hf : F i.toNat) : lst3 F d i' i := Or.inr ⟨i.toNat, by omega, by omega, by omega, hf, fun j h1 h2 => by omega⟩
theorem lst3_n {F : Nat → Prop} {d i i' r : Int} (h : lst3 F d i r) (h0 : 0 ≤ i) (hi : i' = i - 1) (hf : ¬ F i.toNat) : lst3 F d i' r := by
  rcases h with ⟨h1, h2⟩ | ⟨k, h1, h2, h3, h4, h5⟩
  · refine Or.inl ⟨h1, fun j a b => ?_⟩
    by_cases q : j = i.toNat
    · subst q; exact hf
    · exact h2 j (by omega) b
  · refine Or.inr ⟨k, by omega, h2, h3, h4, fun j a b => ?_⟩
    by_cases q : j = i.toNat
    · subst q; exact hf
    · exact h5 j (by omega) b
theorem lst3_c {F : Nat → Prop} {d i i' r : Int} (h : lst3 F d i r) (hi : i' = i) : lst3 F d i' r := hi ▸ h
theorem lst3_e {F : Nat → Prop} {d i r : Int} (h : lst3 F d i r) (hi : i = -1) : fst3 F d r := by
  rcases h with ⟨h1, h2⟩ | ⟨k, h1, h2, h3, h4, h5⟩
  · exact Or.inl ⟨h1, fun j b => h2 j (by omega) b⟩
  · exact Or.inr ⟨k, h2, h3, h4, fun j b => h5 j (by omega) b⟩
def farM (L x : Int32) : Prop := L.toInt < x.toInt ∨ L.toInt < (-x).toInt
theorem gu_id2 {v B : Nat → Nat → Int32} {k j : Nat} (h : v = B) : v = gu B k j (v k j) := by subst h; exact gu_id rfl
theorem gu_again {v1 v2 B : Nat → Nat → Int32} {k j : Nat} {b x : Int32} (h : v1 = gu B k j b) (h2 : v2 = gu v1 k j x) : v2 = gu B k j (v2 k j) := by
  rw [h2, h, gu_y]
  funext a c
  rw [gu_at, gu_at, gu_at]
  split <;> rfl
/-- the model's numbers with a reading more -/
def cmB (v : Nat → Nat → Int32) (p1 p2 p3 : Int32) : Nat → Nat → Int32 := gu (gu (gu (gu v 127 (3 * (v 106 32).toInt).toNat p1) 127 (3 * (v 106 32).toInt + 1).toNat p2) 127 (3 * (v 106 32).toInt + 2).toNat p3) 106 32 (v 106 32 + 1)
theorem cmB_row {v : Nat → Nat → Int32} {p1 p2 p3 : Int32} {k j : Nat} (hc : 0 ≤ (v 106 32).toInt) (hj : j < 3) : cmB v p1 p2 p3 127 (3 * k + j) = if k = (v 106 32).toInt.toNat then sel3 j p1 p2 p3 else v 127 (3 * k + j) := by
  unfold cmB sel3
  rw [gu_n (by omega)]
  by_cases e : k = (v 106 32).toInt.toNat
  · rw [if_pos e]
    rcases (show j = 0 ∨ j = 1 ∨ j = 2 by omega) with rfl | rfl | rfl
    · rw [gu_n (by omega), gu_n (by omega), gu_y2 (by omega)]; rfl
    · rw [gu_n (by omega), gu_y2 (by omega)]; rfl
    · rw [gu_y2 (by omega)]; rfl
  · rw [if_neg e, gu_n (by omega), gu_n (by omega), gu_n (by omega)]
theorem cmB_32 {v : Nat → Nat → Int32} {p1 p2 p3 : Int32} : cmB v p1 p2 p3 106 32 = v 106 32 + 1 := by unfold cmB; rw [gu_y]
theorem cmB_o {v : Nat → Nat → Int32} {p1 p2 p3 : Int32} {j : Nat} (h : j ≠ 32) : cmB v p1 p2 p3 106 j = v 106 j := by unfold cmB; rw [gu_n (by omega), gu_n (by omega), gu_n (by omega), gu_n (by omega)]
theorem come_rd {v vl : Nat → Nat → Int32} {p1 p2 p3 b x idx : Int32} {I : Int} (h : vl = gu (cmB v p1 p2 p3) 106 33 b) (e : x = vl 127 idx.toNatClampNeg) (ip : idx.toInt = 3 * (vl 106 32).toInt - 3 + I) (hI : 0 ≤ I ∧ I ≤ 2) (hc : 0 ≤ (v 106 32).toInt ∧ (v 106 32).toInt ≤ 100) : x = sel3 I.toNat p1 p2 p3 := by
  have e1 : vl 106 32 = v 106 32 + 1 := by rw [h, gu_n (by decide), cmB_32]
  have e2 : (v 106 32 + 1).toInt = (v 106 32).toInt + 1 := ia_add rfl rfl (by decide) (by omega) (by omega)
  rw [e, cl_nat ip, e1, e2, show (3 * ((v 106 32).toInt + 1) - 3 + I).toNat = 3 * (v 106 32).toInt.toNat + I.toNat by omega, h, gu_n (by omega), cmB_row hc.1 (by omega), if_pos rfl]
def rF25 (a b c : Int) : Prop := (-2000000 ≤ a ∧ a ≤ 2000000) ∧ (-2000000 ≤ b ∧ b ≤ 2000000) ∧ (-2000000 ≤ c ∧ c ≤ 2000000)
