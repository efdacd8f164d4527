theorem cl_nat {i : Int32} {I : Int} (h : i.toInt = I) : i.toNatClampNeg = I.toNat := by rw [← h]; rfl
theorem gu_cg {v v' : Nat → Nat → Int32} {k k' j j' : Nat} {x x' : Int32} (h : v = v') (hk : k = k') (hj : j = j') (hx : x = x') : gu v k j x = gu v' k' j' x' := by rw [h, hk, hj, hx]
/-- second terms' part of a reading; a reading -/
def pr6 (b : Nat → Int32) (x y z : Int32) : Int32 := b 0 * x * x + b 1 * x * y + b 2 * x * z + b 3 * y * y + b 4 * y * z + b 5 * z * z
def rd9 (a b : Nat → Int32) (x y z : Int32) : Int32 := 100 * (a 0 * x + a 1 * y + a 2 * z) + pr6 b x y z
def rF4 (a b c d : Int) : Prop := (0 ≤ a ∧ a ≤ 2) ∧ (-50 ≤ b ∧ b ≤ 50) ∧ (-50 ≤ c ∧ c ≤ 50) ∧ (-50 ≤ d ∧ d ≤ 50)
def rF7 (a b c d e f : Int) : Prop := ((-50 ≤ a ∧ a ≤ 50) ∧ (-50 ≤ b ∧ b ≤ 50) ∧ (-50 ≤ c ∧ c ≤ 50)) ∧ (-2000000 ≤ d ∧ d ≤ 2000000) ∧ (-2000000 ≤ e ∧ e ≤ 2000000) ∧ (-2000000 ≤ f ∧ f ≤ 2000000)
def jabs (x : Int32) : Int32 := if 0 ≤ x then x else 0 - x
def jmax (x y : Int32) : Int32 := if x < y then y else x
def jmin (x y : Int32) : Int32 := if y < x then y else x
def abM (x : Int32) : Int32 := if x.toInt < 0 then -x else x
def mxM (m x : Int32) : Int32 := if m.toInt < x.toInt then x else m
/-- how far the k-th point is missed; the greatest miss, as the class goes and as the model goes -/
def mdC (v : Nat → Nat → Int32) (i k : Nat) : Int32 := v (33 + k) i - rd9 (v (3 + i)) (v (7 + i)) (v (20 + k) 0) (v (20 + k) 1) (v (20 + k) 2)
def msC (v : Nat → Nat → Int32) (i : Nat) : Nat → Int32
  | 0 => 0
  | k + 1 => jmax (msC v i k) (jabs (mdC v i k))
def mdM (v : Nat → Nat → Int32) (i k : Nat) : Int32 := v 113 (3 * k + i) - rd9 (fun j => v 107 (3 * i + j)) (fun j => v 108 (6 * i + j)) (v 112 (3 * k)) (v 112 (3 * k + 1)) (v 112 (3 * k + 2))
def msM (v : Nat → Nat → Int32) (i : Nat) : Nat → Int32
  | 0 => -4
  | k + 1 => mxM (msM v i k) (abM (mdM v i k))
theorem msC_st {v : Nat → Nat → Int32} {i k : Nat} {g g' d s x r : Int32} {J : Int} (hg : g = msC v i k) (eg : g' = if g < d then d else g) (ed : d = if 0 ≤ s then s else 0 - s) (es : s = x - r) (hx : x = v (33 + k) i) (hr : r = rd9 (v (3 + i)) (v (7 + i)) (v (20 + k) 0) (v (20 + k) 1) (v (20 + k) 2)) (hJ : J.toNat = k + 1) : g' = msC v i J.toNat := by
  rw [hJ, eg, ed, es, hx, hr, hg]
  rfl
theorem msM_st {v : Nat → Nat → Int32} {i k : Nat} {g g' y d x r : Int32} {J : Int} (hg : g = msM v i k) (eg : g' = mxM g y) (ey : y = abM d) (ed : d = x - r) (hx : x = v 113 (3 * k + i)) (hr : r = rd9 (fun j => v 107 (3 * i + j)) (fun j => v 108 (6 * i + j)) (v 112 (3 * k)) (v 112 (3 * k + 1)) (v 112 (3 * k + 2))) (hJ : J.toNat = k + 1) : g' = msM v i J.toNat := by
  rw [hJ, eg, ey, ed, hx, hr, hg]
  rfl
theorem i_ext {x y : Int32} (h : x.toInt = y.toInt) : x = y := (fa_eq x y).mpr h
theorem gu_at {v : Nat → Nat → Int32} {k j : Nat} {x : Int32} {a b : Nat} : gu v k j x a b = if a = k ∧ b = j then x else v a b := by
  by_cases h : a = k
  · subst h
    by_cases h2 : b = j
    · subst h2; simp [gu, va_up]
    · simp [gu, va_up, h2]
  · simp [gu, va_up, h]
theorem gu_n {v : Nat → Nat → Int32} {k j : Nat} {x : Int32} {a b : Nat} (h : a ≠ k ∨ b ≠ j) : gu v k j x a b = v a b := by
  rw [gu_at, if_neg]
  intro q
  omega
theorem gu_y {v : Nat → Nat → Int32} {k j : Nat} {x : Int32} : gu v k j x k j = x := by simp [gu, va_up]
theorem gu_y2 {v : Nat → Nat → Int32} {k j : Nat} {x : Int32} {a b : Nat} (h : a = k ∧ b = j) : gu v k j x a b = x := by rw [gu_at, if_pos h]
theorem rd_self {v v1 : Nat → Nat → Int32} {k j : Nat} {x y : Int32} (h : v1 = gu v k j x) (e : y = v1 k j) : y = x := by rw [e, h, gu_y]
theorem up_r {v : Nat → Nat → Int32} {k : Nat} {f : Nat → Int32} {j : Nat} {x : Int32} : gu (va_up v k f) k j x = va_up v k (va_up f j x) := by
  funext a
  by_cases h : a = k
  · subst h; simp [gu, va_up]
  · simp [gu, va_up, h]
theorem up_c {v : Nat → Nat → Int32} {k l : Nat} {f : Nat → Int32} {j : Nat} {x : Int32} (h : k ≠ l) : gu (va_up v k f) l j x = va_up (gu v l j x) k f := by
  funext a
  by_cases h1 : a = k
  · subst h1; simp [gu, va_up, h]
  · by_cases h2 : a = l
    · subst h2; simp [gu, va_up, h1]
    · simp [gu, va_up, h1, h2]
/-- sums over a row -/
def sumN (f : Nat → Int32) : Nat → Int32
  | 0 => 0
  | k + 1 => sumN f k + f k
theorem sumN_step {f : Nat → Int32} {s s' t : Int32} {I J : Int} (h : s = sumN f I.toNat) (h0 : 0 ≤ I) (hJ : J = I + 1) (e : s' = s + t) (ht : t = f I.toNat) : s' = sumN f J.toNat := by
  have : J.toNat = I.toNat + 1 := by omega
  rw [this, e, h, ht]
  rfl
theorem sumN_cg {f g : Nat → Int32} : ∀ n : Nat, (∀ k, k < n → f k = g k) → sumN f n = sumN g n
  | 0, _ => rfl
  | n + 1, h => by
    show sumN f n + f n = sumN g n + g n
    rw [sumN_cg n (fun k hk => h k (by omega)), h n (by omega)]
def lo1 (x : Int32) : Int32 := if x.toInt = 0 then 0 else 1
def prS (a : Int) (p : Int32) : Int32 := if a = 0 then p else 0
/-- the first n of a row filled with F -/
def flN (F old : Nat → Int32) (n : Int) : Nat → Int32 := fun k => if (k : Int) < n then F k else old k
theorem fl_0 {F old : Nat → Int32} {n : Int} (h : n ≤ 0) : flN F old n = old := by
  funext k
  unfold flN
  rw [if_neg (by omega)]
theorem fl_st {F old : Nat → Int32} {I J : Int} {j : Nat} {x : Int32} (hj : (j : Int) = I) (hJ : J = I + 1) (hx : x = F j) : va_up (flN F old I) j x = flN F old J := by
  funext k
  unfold flN
  by_cases e : k = j
  · subst e
    rw [if_pos (by omega)]
    simp [va_up, hx]
  · simp only [va_up, if_neg e]
    by_cases e2 : (k : Int) < I
    · rw [if_pos e2, if_pos (by omega)]
    · rw [if_neg e2, if_neg (by omega)]
theorem rn_st {v v1 : Nat → Nat → Int32} {k : Nat} {F : Nat → Int32} {i x : Int32} {I J : Int} (h : v1 = va_up v k (flN F (v k) I)) (hi : i.toInt = I) (h0 : 0 ≤ I) (hJ : J = I + 1) (hx : x = F I.toNat) : gu v1 k i.toNatClampNeg x = va_up v k (flN F (v k) J) := by
  have hc := cl_of hi h0
  rw [h, up_r, fl_st hc hJ (by rw [hx]; congr 1; omega)]
theorem up_id {v : Nat → Nat → Int32} {k : Nat} : va_up v k (v k) = v := by
  funext a
  by_cases h : a = k
  · subst h; simp [va_up]
  · simp [va_up, h]
theorem nar01 {x : Int32} (h : x = 0 ∨ x = 1) : vp_nar .boolean x = x := by rcases h with rfl | rfl <;> rfl
def lostOf (x : Int32) : Int32 := if -1000 ≤ x.toInt ∧ x.toInt ≤ 1000 then 0 else 1
def prsOf (x : Int32) : Int32 := if -1000 ≤ x.toInt ∧ x.toInt ≤ 1000 then x else 0
theorem lost01 (x : Int32) : lostOf x = 0 ∨ lostOf x = 1 := by unfold lostOf; split <;> simp
theorem prs_z {x l : Int32} (h : x = lostOf l) (h0 : ¬ x.toInt = 0) : 0 = prsOf l := by
  unfold prsOf
  unfold lostOf at h
  split
  · rename_i q; rw [if_pos q] at h; rw [h] at h0; exact absurd (by decide) h0
  · rfl
theorem prs_n {x l : Int32} (h : x = lostOf l) (h0 : x.toInt = 0) : l = prsOf l := by
  unfold prsOf
  unfold lostOf at h
  split
  · rfl
  · rename_i q; rw [if_neg q] at h; rw [h] at h0; exact absurd h0 (by decide)
/-- two rows filled side by side -/
theorem tk_st {v v1 va vb : Nat → Nat → Int32} {k l : Nat} {F P : Nat → Int32} {i x y : Int32} {I J : Int} (hkl : k ≠ l) (h : v1 = va_up (va_up v k (flN F (v k) I)) l (flN P (v l) I)) (ha : va = gu v1 k i.toNatClampNeg x) (hb : vb = gu va l i.toNatClampNeg y) (hi : i.toInt = I) (h0 : 0 ≤ I) (hJ : J = I + 1) (hx : x = F I.toNat) (hy : y = P I.toNat) : vb = va_up (va_up v k (flN F (v k) J)) l (flN P (v l) J) := by
  have hc := cl_of hi h0
  have hn : i.toNatClampNeg = I.toNat := by omega
  rw [hb, ha, h, up_c (fun q => hkl q.symm), up_r, up_r, fl_st hc hJ (by rw [hx, hn]), fl_st hc hJ (by rw [hy, hn])]
def rF29 (a b c n : Int) : Prop := (0 ≤ a ∧ a < n) ∧ (b ≠ 0 ∨ (-1000 ≤ c ∧ c ≤ 1000))
/-- a row filled from a to b -/
def flR (F old : Nat → Int32) (a b : Int) : Nat → Int32 := fun k => if a ≤ (k : Int) ∧ (k : Int) < b then F k else old k
theorem fl_e {v : Nat → Nat → Int32} {k : Nat} {F : Nat → Int32} {a b : Int} (h : b ≤ a) : v = va_up v k (flR F (v k) a b) := by
  have : flR F (v k) a b = v k := by
    funext j
    unfold flR
    rw [if_neg (by omega)]
  rw [this, up_id]
theorem rr_st {v v1 : Nat → Nat → Int32} {k : Nat} {F : Nat → Int32} {i x : Int32} {a b c : Int} (h : v1 = va_up v k (flR F (v k) a b)) (hi : i.toInt = b) (h0 : 0 ≤ a) (hab : a ≤ b) (hx : x = F b.toNat) (hc : c = b + 1) : gu v1 k i.toNatClampNeg x = va_up v k (flR F (v k) a c) := by
  have hcl := cl_of hi (by omega)
  rw [h, up_r]
  congr 1
  funext j
  unfold flR
  by_cases e : j = i.toNatClampNeg
  · subst e
    rw [if_pos (by omega)]
    simp only [va_up, if_true]
    rw [hx]
    congr 1
    omega
  · simp only [va_up, if_neg e]
    by_cases e2 : a ≤ (j : Int) ∧ (j : Int) < b
    · rw [if_pos e2, if_pos (by omega)]
    · rw [if_neg e2, if_neg (by omega)]
def rF30 (a b c : Int) : Prop := (0 ≤ a ∧ a ≤ 3) ∧ (0 ≤ b ∧ b ≤ 2) ∧ c ≤ 60
def rF32 (a b : Int) : Prop := (0 ≤ a ∧ a ≤ 3) ∧ (0 ≤ b ∧ b ≤ 2)
def cvt (l : Int) (x : Int32) : Int32 := if l = 0 then x.toInt8.toInt32 else if l = 1 then x.toInt16.toInt32 else x
def fcM (v : Nat → Nat → Int32) (k : Nat) : Int32 := if (v 130 k).toInt = 0 then v 128 k * v 129 k else 0
theorem shx_m {v v1 v2 : Nat → Nat → Int32} {i i' : Int32} {x y : Int32} {A a a' : Int} (h2 : v2 = gu v1 132 i'.toNatClampNeg y) (h1 : v1 = gu v 131 i.toNatClampNeg x) (hi : i.toInt = A) (hi' : i'.toInt = A) (ha : a' = a + 60) (_ : 0 ≤ A) : va_up v2 133 (flR (fun _ => 0) (v2 133) a a') = va_up (gu (gu v 131 A.toNat x) 132 A.toNat y) 133 (flR (fun _ => 0) (v 133) a (a + 60)) := by
  rw [h2, h1, cl_nat hi, cl_nat hi', ha]
  rfl
def flL (lane a : Int) : Int32 := if lane = -1 then 1 else if lane = a then 0 else 3
def flC (lane sz a n : Int) : Int32 := if lane = -1 then 1 else if n = 0 ∨ (0 ≤ a ∧ a ≤ sz - n) then 0 else 2
theorem flC_in2 {lane sz a n : Int} (h : (flC lane sz a n).toInt = 0) : lane ≠ -1 ∧ (n = 0 ∨ (0 ≤ a ∧ a ≤ sz - n)) := by
  unfold flC at h
  split at h
  · exact absurd h (by decide)
  · split at h
    · rename_i h1 h2; exact ⟨h1, h2⟩
    · exact absurd h (by decide)
theorem flC_in {lane sz a : Int} {r : Int32} (h : r = flC lane sz a 1) (h0 : r.toInt = 0) : 0 ≤ a ∧ a ≤ sz - 1 := by
  rw [h] at h0
  have := (flC_in2 h0).2
  omega
theorem up_n {v : Nat → Nat → Int32} {k a : Nat} {f : Nat → Int32} (h : a ≠ k) : va_up v k f a = v a := by simp [va_up, h]
def rF19 (a b : Int) : Prop := (0 ≤ a ∧ a ≤ 23) ∧ (0 ≤ b ∧ b ≤ 9)
def plD (a b c : Int) : Int32 := if a ≠ 0 ∧ b = c then 1 else 0
/-- the program's own numbers, its row of done, its angles and speeds are the same -/
def fP4 (v v' : Nat → Nat → Int32) : Prop := v' 66 = v 66 ∧ v' 67 = v 67 ∧ v' 80 = v 80 ∧ v' 81 = v 81
theorem fP4_rf {v : Nat → Nat → Int32} : fP4 v v := ⟨rfl, rfl, rfl, rfl⟩
/-- what a plan leaves as it was -/
def fPl (v v' : Nat → Nat → Int32) : Prop := v' 66 0 = v 66 0 ∧ (∀ k, 67 ≤ k → k < 79 → v' k = v k) ∧ v' 80 = v 80 ∧ v' 81 = v 81
theorem fPl_rf {v : Nat → Nat → Int32} : fPl v v := ⟨rfl, fun _ _ _ => rfl, rfl, rfl⟩
theorem fPl_tr {v v1 v2 : Nat → Nat → Int32} (h : fPl v v1) (g : fPl v1 v2) : fPl v v2 := ⟨g.1.trans h.1, fun k a b => (g.2.1 k a b).trans (h.2.1 k a b), g.2.2.1.trans h.2.2.1, g.2.2.2.trans h.2.2.2⟩
theorem fPl_v {v v1 : Nat → Nat → Int32} {k j : Nat} {x : Int32} (h : fPl v v1) (hk : (k = 66 ∧ j ≠ 0) ∨ k = 79 ∨ k = 82) : fPl v (gu v1 k j x) := ⟨(gu_n (by omega)).trans h.1, fun a h1 h2 => (gu_o (by omega)).trans (h.2.1 a h1 h2), (gu_o (by omega)).trans h.2.2.1, (gu_o (by omega)).trans h.2.2.2⟩
/-- the terms stay as they were -/
def fBk (v v' : Nat → Nat → Int32) : Prop := ∀ k, 2 ≤ k → k < 10 → v' k = v k
theorem fBk_rf {v : Nat → Nat → Int32} : fBk v v := fun _ _ _ => rfl
theorem fBk_tr {v v1 v2 : Nat → Nat → Int32} (h : fBk v v1) (g : fBk v1 v2) : fBk v v2 := fun k a b => (g k a b).trans (h k a b)
theorem fBk_v {v v1 : Nat → Nat → Int32} {k j : Nat} {x : Int32} (h : fBk v v1) (hk : k < 2 ∨ 10 ≤ k) : fBk v (gu v1 k j x) := fun a h1 h2 => (gu_o (by omega)).trans (h a h1 h2)
def bd (x : Int32) (X : Int) : Prop := -X ≤ x.toInt ∧ x.toInt ≤ X
theorem bd_mul {x y : Int32} {X Y Z : Int} (hx : bd x X) (hy : bd y Y) (hz : Z = X * Y) (h : Z ≤ 2147483647) : bd (x * y) Z := by
  have p := b_mul hx.1 hx.2 hy.1 hy.2
  rw [← hz] at p
  have e := fb_mulI (x := x) (y := y) (by omega) (by omega)
  unfold bd
  rw [e]
  omega
theorem bd_add {x y : Int32} {X Y Z : Int} (hx : bd x X) (hy : bd y Y) (hz : Z = X + Y) (h : Z ≤ 2147483647) : bd (x + y) Z := by
  unfold bd at hx hy
  have e := fb_addI (x := x) (y := y) (by omega) (by omega)
  unfold bd
  rw [e]
  omega
theorem bd_sub {x y : Int32} {X Y Z : Int} (hx : bd x X) (hy : bd y Y) (hz : Z = X + Y) (h : Z ≤ 2147483647) : bd (x - y) Z := by
  unfold bd at hx hy
  have e := fb_subI (x := x) (y := y) (by omega) (by omega)
  unfold bd
  rw [e]
  omega
/-- the moves between two places, as the class reckons them -/
def mvC (a b c d : Int32) : Int32 := 3 * jmin (jabs (a - c)) (24 - jabs (a - c)) + 7 * jabs (b - d)
/-- the moves of place P are laid, to those below q and to those on the way -/
def mxI (B v : Nat → Nat → Int32) (P : Nat) (q : Int) : Prop := ∀ a b, a < 10 → b < 10 → v (69 + a) b = if (a = P ∧ (b : Int) < q) ∨ (b = P ∧ (a : Int) < q) then mvC (B 80 P) (B 81 P) (B 80 (if a = P then b else a)) (B 81 (if a = P then b else a)) else B (69 + a) b
theorem mxI_0 {B : Nat → Nat → Int32} {P : Nat} : mxI B B P 0 := fun a b _ _ => by rw [if_neg (by omega)]
theorem mxI_st {B v v' : Nat → Nat → Int32} {P : Nat} {q q' : Int} (h : mxI B v P q) (f : fP4 B v) (e : v' = gu (gu v (69 + P) q.toNat (mvC (v 80 P) (v 81 P) (v 80 q.toNat) (v 81 q.toNat))) (69 + q.toNat) P (mvC (v 80 P) (v 81 P) (v 80 q.toNat) (v 81 q.toNat))) (h0 : 0 ≤ q) (hq : q < P ∧ P < 10) (hq' : q' = q + 1) : mxI B v' P q' := by
  intro a b ha hb
  rw [e, f.2.2.1, f.2.2.2, gu_at]
  by_cases c1 : 69 + a = 69 + q.toNat ∧ b = P
  · rw [if_pos c1, if_pos (by omega), if_neg (show ¬ a = P by omega), show a = q.toNat by omega]
  · rw [if_neg c1, gu_at]
    by_cases c2 : 69 + a = 69 + P ∧ b = q.toNat
    · rw [if_pos c2, if_pos (by omega), if_pos (show a = P by omega), c2.2]
    · rw [if_neg c2, h a b ha hb]
      by_cases c3 : (a = P ∧ (b : Int) < q) ∨ (b = P ∧ (a : Int) < q)
      · rw [if_pos c3, if_pos (show (a = P ∧ (b : Int) < q') ∨ (b = P ∧ (a : Int) < q') by omega)]
      · rw [if_neg c3, if_neg (by omega)]
def mxF (B v : Nat → Nat → Int32) (P : Nat) : Prop := ∀ a b, a < 10 → b < 10 → v (69 + a) b = if (a = P ∧ (b < P ∨ b = 9)) ∨ (b = P ∧ (a < P ∨ a = 9)) then mvC (B 80 P) (B 81 P) (B 80 (if a = P then b else a)) (B 81 (if a = P then b else a)) else B (69 + a) b
theorem mxF_of {B v v' : Nat → Nat → Int32} {P : Nat} {q : Int} (h : mxI B v P q) (f : fP4 B v) (e : v' = gu (gu v (69 + P) 9 (mvC (v 80 P) (v 81 P) (v 80 9) (v 81 9))) (69 + 9) P (mvC (v 80 P) (v 81 P) (v 80 9) (v 81 9))) (hq : q = P) (hP : P < 9) : mxF B v' P := by
  intro a b ha hb
  rw [e, f.2.2.1, f.2.2.2, gu_at]
  by_cases c1 : 69 + a = 69 + 9 ∧ b = P
  · rw [if_pos c1, if_pos (by omega), if_neg (show ¬ a = P by omega), show a = 9 by omega]
  · rw [if_neg c1, gu_at]
    by_cases c2 : 69 + a = 69 + P ∧ b = 9
    · rw [if_pos c2, if_pos (by omega), if_pos (show a = P by omega), c2.2]
    · rw [if_neg c2, h a b ha hb]
      by_cases c3 : (a = P ∧ (b : Int) < q) ∨ (b = P ∧ (a : Int) < q)
      · rw [if_pos c3, if_pos (show (a = P ∧ (b < P ∨ b = 9)) ∨ (b = P ∧ (a < P ∨ a = 9)) by omega)]
      · rw [if_neg c3, if_neg (by omega)]
theorem mxF.st {B v : Nat → Nat → Int32} {P j : Nat} {x : Int32} (h : mxF B v P) : mxF (gu B 66 j x) (gu v 66 j x) P := by
  intro a b ha hb
  rw [gu_o (show 69 + a ≠ 66 by omega), gu_o (show 69 + a ≠ 66 by omega), gu_o (show 80 ≠ 66 by decide), gu_o (show 81 ≠ 66 by decide)]
  exact h a b ha hb
/-- division that rounds to 0 against division that rounds down -/
theorem td_k {A B : Int} (h : 0 < B) : ∃ m : Int, A.tdiv B - A / B = m ∧ m * B = A % B - A.tmod B ∧ 0 ≤ A % B ∧ A % B < B ∧ -B < A.tmod B ∧ A.tmod B < B := by
  have h2 : (A.tmod B).natAbs = A.natAbs % B.natAbs := Int.natAbs_tmod _ _
  have h3 : A.natAbs % B.natAbs < B.natAbs := Nat.mod_lt _ (by omega)
  have h4 := Int.emod_nonneg A (show B ≠ 0 by omega)
  have h5 := Int.emod_lt_of_pos A h
  have h6 := Int.tdiv_mul_add_tmod A B
  have h7 := Int.ediv_mul_add_emod A B
  refine ⟨_, rfl, ?_, h4, h5, by omega, by omega⟩
  rw [Int.sub_mul]
  omega
theorem td_nn {A B : Int} (h : 0 < B) (ht : 0 ≤ A.tmod B) : A.tdiv B = A / B := by
  obtain ⟨m, e, hm, h4, h5, h6, h7⟩ := td_k (A := A) h
  have : m = 0 := by
    by_cases q : 1 ≤ m
    · have := Int.mul_le_mul_of_nonneg_right q (show 0 ≤ B by omega); omega
    · by_cases q2 : m ≤ -1
      · have := Int.mul_le_mul_of_nonneg_right q2 (show 0 ≤ B by omega); omega
      · omega
  omega
theorem td_ng {A B : Int} (h : 0 < B) (ht : A.tmod B < 0) : A.tdiv B - 1 = A / B := by
  obtain ⟨m, e, hm, h4, h5, h6, h7⟩ := td_k (A := A) h
  have : m = 1 := by
    by_cases q : 2 ≤ m
    · have := Int.mul_le_mul_of_nonneg_right q (show 0 ≤ B by omega); omega
    · by_cases q2 : m ≤ 0
      · have := Int.mul_le_mul_of_nonneg_right q2 (show 0 ≤ B by omega); omega
      · omega
  omega
theorem td_b {A B : Int} (h : 0 < B) : (0 ≤ A → 0 ≤ A.tdiv B ∧ A.tdiv B ≤ A) ∧ (A < 0 → A ≤ A.tdiv B ∧ A.tdiv B ≤ 0) := by
  have h6 := Int.tdiv_mul_add_tmod A B
  have h2 : (A.tmod B).natAbs = A.natAbs % B.natAbs := Int.natAbs_tmod _ _
  have h3 : A.natAbs % B.natAbs < B.natAbs := Nat.mod_lt _ (by omega)
  have h8 : (A.tdiv B).natAbs = A.natAbs / B.natAbs := Int.natAbs_tdiv _ _
  have h9 : A.natAbs / B.natAbs ≤ A.natAbs := Nat.div_le_self _ _
  constructor
  · intro q
    by_cases z : A.tdiv B ≤ -1
    · have := Int.mul_le_mul_of_nonneg_right z (show 0 ≤ B by omega); omega
    · omega
  · intro q
    by_cases z : 1 ≤ A.tdiv B
    · have := Int.mul_le_mul_of_nonneg_right z (show 0 ≤ B by omega); omega
    · omega
/-- a floor of a number lies between it and 0 -/
def fdB (a r : Int) : Prop := (0 ≤ a → 0 ≤ r ∧ r ≤ a) ∧ (a < 0 → a ≤ r ∧ r < 0)
theorem fdB.b {a r lo hi : Int} (h : fdB a r) (h1 : lo ≤ a) (h2 : a ≤ hi) (h3 : lo ≤ 0) (h4 : 0 ≤ hi) : lo ≤ r ∧ r ≤ hi := by
  by_cases q : 0 ≤ a
  · have := h.1 q; omega
  · have := h.2 (by omega); omega
theorem fdB_of {A B : Int} (h : 0 < B) : fdB A (A / B) := by
  have h4 := Int.emod_nonneg A (show B ≠ 0 by omega)
  have h5 := Int.emod_lt_of_pos A h
  have h7 := Int.ediv_mul_add_emod A B
  constructor
  · intro q
    constructor
    · by_cases z : A / B ≤ -1
      · have := Int.mul_le_mul_of_nonneg_right z (show 0 ≤ B by omega); omega
      · omega
    · by_cases z : 1 ≤ A / B
      · have := Int.mul_le_mul_of_nonneg_left (show 1 ≤ B by omega) (show 0 ≤ A / B by omega); omega
      · omega
  · intro q
    constructor
    · by_cases z : A / B ≤ -1
      · have h0 := Int.mul_le_mul_of_nonneg_left (show 1 ≤ B by omega) (show 0 ≤ -(A / B) - 1 by omega)
        simp only [Int.sub_mul, Int.neg_mul, Int.one_mul, Int.mul_one] at h0
        omega
      · omega
    · by_cases z : 0 ≤ A / B
      · have := Int.mul_nonneg z (show 0 ≤ B by omega); omega
      · omega
/-- the model's rounding down -/
theorem dn_a {q t a b : Int64} (e : q = a / b) (e2 : t = a - a / b * b) {A B : Int} (ha : a.toInt = A) (hb : b.toInt = B) (h : 0 < B) : (0 ≤ t.toInt → q.toInt = A / B) ∧ (t.toInt < 0 → (q - 1).toInt = A / B) := by
  subst ha
  subst hb
  have qa := fb_rngL a
  have qb := fb_rngL b
  have tb := td_b (A := a.toInt) h
  have tr : -9223372036854775808 ≤ a.toInt.tdiv b.toInt ∧ a.toInt.tdiv b.toInt < 9223372036854775808 := by
    by_cases z : 0 ≤ a.toInt
    · have := tb.1 z; omega
    · have := tb.2 (by omega); omega
  have h1 : q.toInt = a.toInt.tdiv b.toInt := by rw [e, Int64.toInt_div, fb_bmodL tr.1 tr.2]
  have h2 : t.toInt = a.toInt.tmod b.toInt := by
    have k : t.toInt = (a.toInt.tmod b.toInt).bmod (2 ^ 64) := by
      rw [e2, Int64.toInt_sub, Int64.toInt_mul, Int64.toInt_div, Int.bmod_mul_bmod, Int.sub_bmod_bmod]
      congr 1
      have := Int.tdiv_mul_add_tmod a.toInt b.toInt
      omega
    obtain ⟨m, x1, x2, x3, x4, x5, x6⟩ := td_k (A := a.toInt) h
    rw [k, fb_bmodL (by omega) (by omega)]
  constructor
  · intro z
    rw [h2] at z
    rw [h1, td_nn h z]
  · intro z
    rw [h2] at z
    have g := td_ng h z
    have f := fdB_of (A := a.toInt) h
    have an : a.toInt < 0 := by
      by_cases y : 0 ≤ a.toInt
      · have := Int.tmod_nonneg b.toInt y; omega
      · omega
    have := f.2 an
    have z1 : (1 : Int64).toInt = 1 := by decide
    have s := fb_subL (x := q) (y := 1) (by omega) (by omega)
    omega
