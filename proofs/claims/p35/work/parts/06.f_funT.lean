/-- what a tube's pressure must be to mend the sum -/
def cmQ (a p m e : Int) : Prop := 1 ≤ a ∧ -1000 ≤ (a * p + m + e) / a ∧ -((e - (a * p + m)) / a) ≤ 1000 ∧ -((e - (a * p + m)) / a) ≤ (a * p + m + e) / a
def bPr (v : Nat → Nat → Int32) : Prop := ∀ k, k < 10 → bd (v 95 k) 1000
theorem bPr_at {v : Nat → Nat → Int32} (h : bPr v) {k : Nat} {x : Int32} (hk : k < 10) (e : x = v 95 k) : -1000 ≤ x.toInt ∧ x.toInt ≤ 1000 := by rw [e]; exact h k hk
theorem pr_bd {a p : Int} (ha : 1 ≤ a ∧ a ≤ 100) (hp : -1000 ≤ p ∧ p ≤ 1000) : -100000 ≤ a * p ∧ a * p ≤ 100000 := by
  have := b_mul (A := 100) (B := 1000) (a := a) (b := p) (by omega) (by omega) (by omega) (by omega)
  omega
theorem sumN_bd {f : Nat → Int32} {X : Int} (hX : 0 ≤ X) : ∀ n : Nat, (n : Int) * X ≤ 2147483647 → (∀ k, k < n → bd (f k) X) → bd (sumN f n) ((n : Int) * X)
  | 0, _, _ => ⟨by show -(((0 : Nat) : Int) * X) ≤ (0 : Int32).toInt; have : (0 : Int32).toInt = 0 := (by decide); rw [this]; simp, by show (0 : Int32).toInt ≤ _; have : (0 : Int32).toInt = 0 := (by decide); rw [this]; simp⟩
  | n + 1, h, g => by
    have e : ((n + 1 : Nat) : Int) * X = (n : Int) * X + X := by rw [Int.natCast_add, Int.add_mul]; simp
    rw [e] at h ⊢
    exact bd_add (sumN_bd hX n (by omega) (fun k hk => g k (by omega))) (g n (by omega)) rfl (by omega)
/-- none, one, or more of those below n -/
def alP (P : Nat → Prop) (n x : Int) : Prop := (x = -4 ∧ ∀ j : Nat, (j : Int) < n → ¬ P j) ∨ (∃ a : Nat, x = a ∧ (a : Int) < n ∧ P a ∧ ∀ j : Nat, (j : Int) < n → P j → j = a)
def twP (P : Nat → Prop) (n : Int) : Prop := ∃ a b : Nat, a < b ∧ (b : Int) < n ∧ P a ∧ P b
theorem alP_0 {P : Nat → Prop} {x : Int} (h : x = -4) : alP P 0 x := Or.inl ⟨h, fun j hj => by omega⟩
theorem alP.skip {P : Nat → Prop} {n n' x : Int} (h : alP P n x) (h0 : 0 ≤ n) (hn : n' = n + 1) (hp : ¬ P n.toNat) : alP P n' x := by
  rcases h with ⟨h1, h2⟩ | ⟨a, h1, h2, h3, h4⟩
  · refine Or.inl ⟨h1, fun j hj => ?_⟩
    by_cases q : j = n.toNat
    · subst q; exact hp
    · exact h2 j (by omega)
  · refine Or.inr ⟨a, h1, by omega, h3, fun j hj pj => ?_⟩
    by_cases q : j = n.toNat
    · subst q; exact absurd pj hp
    · exact h4 j (by omega) pj
theorem alP.take {P : Nat → Prop} {n n' x y : Int} (h : alP P n x) (hx : x = -4) (h0 : 0 ≤ n) (hn : n' = n + 1) (hp : P n.toNat) (hy : y = n) : alP P n' y := by
  rcases h with ⟨h1, h2⟩ | ⟨a, h1, h2, h3, h4⟩
  · refine Or.inr ⟨n.toNat, by omega, by omega, hp, fun j hj pj => ?_⟩
    by_cases q : j = n.toNat
    · exact q
    · exact absurd pj (h2 j (by omega))
  · omega
theorem alP.two {P : Nat → Prop} {n N x : Int} (h : alP P n x) (hx : x ≠ -4) (h0 : 0 ≤ n) (hn : n < N) (hp : P n.toNat) : twP P N := by
  rcases h with ⟨h1, h2⟩ | ⟨a, h1, h2, h3, h4⟩
  · exact absurd h1 hx
  · exact ⟨a, n.toNat, by omega, by omega, h3, hp⟩
/-- the answer of a check behind the sum -/
def ckR (P : Nat → Prop) (n r : Int) : Prop := ((∀ j : Nat, (j : Int) < n → ¬ P j) ∧ r = 1) ∨ (∃ a : Nat, (a : Int) < n ∧ P a ∧ (∀ j : Nat, (j : Int) < n → P j → j = a) ∧ r = 10 + a) ∨ (twP P n ∧ r = 2)
theorem ckR_u {P Q : Nat → Prop} {n r q : Int} (h : ckR P n r) (g : ckR Q n q) (e : ∀ j : Nat, (j : Int) < n → (P j ↔ Q j)) : r = q := by
  rcases h with ⟨h1, h2⟩ | ⟨a, h1, h2, h3, h4⟩ | ⟨⟨a, b, h1, h2, h3, h4⟩, h5⟩ <;> rcases g with ⟨g1, g2⟩ | ⟨c, g1, g2, g3, g4⟩ | ⟨⟨c, d, g1, g2, g3, g4⟩, g5⟩
  · omega
  · exact absurd ((e c g1).mpr g2) (h1 c g1)
  · exact absurd ((e d g2).mpr g4) (h1 d g2)
  · exact absurd ((e a h1).mp h2) (g1 a h1)
  · have := h3 c g1 ((e c g1).mpr g2); omega
  · have x := h3 c (by omega) ((e c (by omega)).mpr g3)
    have y := h3 d g2 ((e d g2).mpr g4)
    omega
  · exact absurd ((e b h2).mp h4) (g1 b h2)
  · have x := g3 a (by omega) ((e a (by omega)).mp h3)
    have y := g3 b h2 ((e b h2).mp h4)
    omega
  · omega
/-- the model's count -/
def cnP (P : Nat → Prop) (n m x : Int) : Prop := (m = 0 ∧ alP P n (-4)) ∨ (m = 1 ∧ x ≠ -4 ∧ alP P n x) ∨ (2 ≤ m ∧ twP P n)
theorem cnP_0 {P : Nat → Prop} {m x : Int} (h : m = 0) : cnP P 0 m x := Or.inl ⟨h, alP_0 rfl⟩
theorem twP.up {P : Nat → Prop} {n n' : Int} (h : twP P n) (hn : n ≤ n') : twP P n' := by
  obtain ⟨a, b, h1, h2, h3, h4⟩ := h
  exact ⟨a, b, h1, by omega, h3, h4⟩
theorem cnP.skip {P : Nat → Prop} {n n' m x : Int} (h : cnP P n m x) (h0 : 0 ≤ n) (hn : n' = n + 1) (hp : ¬ P n.toNat) : cnP P n' m x := by
  rcases h with ⟨h1, h2⟩ | ⟨h1, h2, h3⟩ | ⟨h1, h2⟩
  · exact Or.inl ⟨h1, h2.skip h0 hn hp⟩
  · exact Or.inr (Or.inl ⟨h1, h2, h3.skip h0 hn hp⟩)
  · exact Or.inr (Or.inr ⟨h1, h2.up (by omega)⟩)
theorem cnP.take {P : Nat → Prop} {n n' m m' x y : Int} (h : cnP P n m x) (h0 : 0 ≤ n) (hn : n' = n + 1) (hp : P n.toNat) (hm : m' = m + 1) (hy : y = n) : cnP P n' m' y := by
  rcases h with ⟨h1, h2⟩ | ⟨h1, h2, h3⟩ | ⟨h1, h2⟩
  · exact Or.inr (Or.inl ⟨by omega, by omega, h2.take rfl h0 hn hp hy⟩)
  · exact Or.inr (Or.inr ⟨by omega, h3.two h2 h0 (by omega) hp⟩)
  · exact Or.inr (Or.inr ⟨by omega, h2.up (by omega)⟩)
theorem cnP.m0 {P : Nat → Prop} {n m x : Int} (h : cnP P n m x) : 0 ≤ m := by rcases h with ⟨h1, _⟩ | ⟨h1, _⟩ | ⟨h1, _⟩ <;> omega
theorem cnP.e0 {P : Nat → Prop} {n m x : Int} (h : cnP P n m x) (hm : m = 0) : ckR P n 1 := by
  rcases h with ⟨h1, h2⟩ | ⟨h1, h2, h3⟩ | ⟨h1, h2⟩
  · rcases h2 with ⟨_, k⟩ | ⟨a, k, _⟩
    · exact Or.inl ⟨k, rfl⟩
    · omega
  · omega
  · omega
theorem cnP.e2 {P : Nat → Prop} {n m x : Int} (h : cnP P n m x) (hm : 2 ≤ m) : ckR P n 2 := by
  rcases h with ⟨h1, h2⟩ | ⟨h1, h2, h3⟩ | ⟨h1, h2⟩
  · omega
  · omega
  · exact Or.inr (Or.inr ⟨h2, rfl⟩)
theorem cnP.e1 {P : Nat → Prop} {n m x : Int} (h : cnP P n m x) (hm : m = 1) : ckR P n (10 + x) ∧ 0 ≤ x ∧ x < n := by
  rcases h with ⟨h1, h2⟩ | ⟨h1, h2, h3⟩ | ⟨h1, h2⟩
  · omega
  · rcases h3 with ⟨k, _⟩ | ⟨a, k1, k2, k3, k4⟩
    · exact absurd k h2
    · exact ⟨Or.inr (Or.inl ⟨a, k2, k3, k4, by omega⟩), by omega, by omega⟩
  · omega
theorem alP.e0 {P : Nat → Prop} {n x : Int} (h : alP P n x) (hx : x = -4) : ckR P n 1 := by
  rcases h with ⟨_, k⟩ | ⟨a, k, _⟩
  · exact Or.inl ⟨k, rfl⟩
  · omega
theorem alP.e1 {P : Nat → Prop} {n x : Int} (h : alP P n x) (hx : x ≠ -4) : ckR P n (10 + x) ∧ 0 ≤ x ∧ x < n := by
  rcases h with ⟨k, _⟩ | ⟨a, k1, k2, k3, k4⟩
  · exact absurd k hx
  · exact ⟨Or.inr (Or.inl ⟨a, k2, k3, k4, by omega⟩), by omega, by omega⟩
/-- the model's test of a tube -/
theorem cm_iff {a p m e q : Int} (ha : 1 ≤ a) (hq : q = if 1000 < (a * p + m + e) / a then 1000 else (a * p + m + e) / a) : cmQ a p m e ↔ (-1000 ≤ q ∧ a * p + m - e ≤ q * a) := by
  have k : a * p + m - e ≤ q * a ↔ -((e - (a * p + m)) / a) ≤ q := by
    have := Int.le_ediv_iff_mul_le (a := -q) (b := e - (a * p + m)) (c := a) (by omega)
    rw [Int.neg_mul] at this
    omega
  rw [k]
  unfold cmQ
  split at hq <;> omega
/-- the mended pressure -/
def plV (a s : Int) : Int := -((a - 2 * s) / (2 * a))
def plR (x : Int) : Int := if -1000 ≤ x ∧ x ≤ 1000 then x else -4
/-- the first lost one below n -/
def fsL (f : Nat → Int32) (n : Int) (k : Nat) : Prop := (k : Int) < n ∧ (f k).toInt ≠ 0 ∧ ∀ j, j < k → (f j).toInt = 0
theorem fsL_u {f : Nat → Int32} {n : Int} {k l : Nat} (h : fsL f n k) (g : fsL f n l) : k = l := by
  by_cases a : k < l
  · exact absurd (g.2.2 k a) h.2.1
  · by_cases b : l < k
    · exact absurd (h.2.2 l b) g.2.1
    · omega
def nlL (f : Nat → Int32) (n : Int) : Prop := ∀ j : Nat, (j : Int) < n → (f j).toInt = 0
theorem nlL_0 {f : Nat → Int32} : nlL f 0 := fun j h => by omega
theorem nlL.st {f : Nat → Int32} {I J : Int} (h : nlL f I) (h0 : 0 ≤ I) (hJ : J = I + 1) (hs : (f I.toNat).toInt = 0) : nlL f J := by
  intro i hi
  by_cases q : i = I.toNat
  · subst q; exact hs
  · exact h i (by omega)
theorem nlL.fs {f : Nat → Int32} {I n : Int} (h : nlL f I) (h0 : 0 ≤ I) (hn : I < n) (hs : (f I.toNat).toInt ≠ 0) : fsL f n I.toNat := ⟨by omega, hs, fun j hj => h j (by omega)⟩
theorem nl_sum {f : Nat → Int32} : ∀ n : Nat, nlL f n → sumN (fun k => lo1 (f k)) n = 0
  | 0, _ => rfl
  | n + 1, h => by
    show sumN (fun k => lo1 (f k)) n + lo1 (f n) = 0
    rw [nl_sum n (fun j hj => h j (by omega))]
    have : lo1 (f n) = 0 := by unfold lo1; rw [if_pos (h n (by omega))]
    rw [this]
    rfl
theorem jmax_D {x y z : Int32} (e : z = if x < y then y else x) : (x.toInt < y.toInt ∧ z.toInt = y.toInt) ∨ (y.toInt ≤ x.toInt ∧ z.toInt = x.toInt) := by
  rw [e]
  by_cases q : x < y
  · rw [if_pos q]; exact Or.inl ⟨(fa_lt _ _).mp q, rfl⟩
  · rw [if_neg q]; rw [fa_lt] at q; exact Or.inr ⟨by omega, rfl⟩
theorem jmin_D {x y z : Int32} (e : z = if y < x then y else x) : (y.toInt < x.toInt ∧ z.toInt = y.toInt) ∨ (x.toInt ≤ y.toInt ∧ z.toInt = x.toInt) := by
  rw [e]
  by_cases q : y < x
  · rw [if_pos q]; exact Or.inl ⟨(fa_lt _ _).mp q, rfl⟩
  · rw [if_neg q]; rw [fa_lt] at q; exact Or.inr ⟨by omega, rfl⟩
theorem jabs_D {m x : Int32} (e : x = if 0 ≤ m then m else 0 - m) (h : m.toInt ≠ -2147483648) : (0 ≤ m.toInt ∧ x.toInt = m.toInt) ∨ (m.toInt < 0 ∧ x.toInt = -m.toInt) := by
  have z : (0 : Int32).toInt = 0 := by decide
  rw [e]
  by_cases q : 0 ≤ m
  · rw [if_pos q]; rw [fa_le, z] at q; exact Or.inl ⟨q, rfl⟩
  · rw [if_neg q]
    rw [fa_le, z] at q
    have e2 : (0 : Int32) - m = -m := by simp
    rw [e2]
    exact Or.inr ⟨by omega, fb_negI h⟩
theorem l2i_I {x : Int64} {y : Int32} (e : y = x.toInt32) {X : Int} (hx : x.toInt = X) (h1 : -2147483648 ≤ X) (h2 : X < 2147483648) : y.toInt = X := by
  rw [e, Int64.toInt_toInt32, hx, fb_bmod h1 h2]
def rF34 (a e : Int) : Prop := (-2000000 ≤ a ∧ a ≤ 2000000) ∧ (0 ≤ e ∧ e ≤ 100000)
def bM (v : Nat → Nat → Int32) : Prop := ∀ k, k < 10 → bd (v 129 k) 1000
theorem smC_b {v : Nat → Nat → Int32} {n : Int} (hn : 0 ≤ n ∧ n ≤ 10) (ha : ∀ k : Nat, (k : Int) < n → 1 ≤ (v 96 k).toInt ∧ (v 96 k).toInt ≤ 100) (hp : bPr v) : bd (sumN (fun k => v 96 k * v 95 k) n.toNat) 1000000 := by
  have q := sumN_bd (f := fun k => v 96 k * v 95 k) (X := 100000) (by decide) n.toNat (by omega) (fun k hk => bd_mul (X := 100) (Y := 1000) (by have := ha k (by omega); exact ⟨by omega, by omega⟩) (hp k (by omega)) (by decide) (by decide))
  unfold bd at q ⊢
  omega
theorem smM_b {v : Nat → Nat → Int32} {n : Int} (hn : 0 ≤ n ∧ n ≤ 10) (ha : ∀ k : Nat, (k : Int) < n → 1 ≤ (v 128 k).toInt ∧ (v 128 k).toInt ≤ 100) (hp : bM v) : bd (sumN (fcM v) n.toNat) 1000000 := by
  have q := sumN_bd (f := fcM v) (X := 100000) (by decide) n.toNat (by omega) (fun k hk => by
    unfold fcM
    split
    · exact bd_mul (X := 100) (Y := 1000) (by have := ha k (by omega); exact ⟨by omega, by omega⟩) (hp k (by omega)) (by decide) (by decide)
    · exact ⟨by decide, by decide⟩)
  unfold bd at q ⊢
  omega
theorem plR_i {x : Int} (h : -1000 ≤ x ∧ x ≤ 1000) : plR x = x := by unfold plR; rw [if_pos h]
theorem plR_o {x : Int} (h : ¬ (-1000 ≤ x ∧ x ≤ 1000)) : plR x = -4 := by unfold plR; rw [if_neg h]
