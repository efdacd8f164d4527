/-- the remainder of longs at and above 0 -/
theorem lrem_e {x a b : Int64} (e : x = a - a / b * b) (ha : 0 ≤ a.toInt) (hb : 0 < b.toInt) : x.toInt = a.toInt % b.toInt := by
  have h1 : x.toInt = (a.toInt.tmod b.toInt).bmod (2 ^ 64) := by
    rw [e, Int64.toInt_sub, Int64.toInt_mul, Int64.toInt_div, Int.bmod_mul_bmod, Int.sub_bmod_bmod]
    congr 1
    have := Int.tdiv_mul_add_tmod a.toInt b.toInt
    omega
  rw [Int.tmod_eq_emod_of_nonneg ha] at h1
  have h2 := Int.emod_nonneg a.toInt (show b.toInt ≠ 0 by omega)
  have h3 := Int.emod_lt_of_pos a.toInt hb
  have qb := fb_rngL b
  rw [h1, fb_bmodL (by omega) (by omega)]
theorem gcd_st {a b : Int} (ha : 0 ≤ a) (hb : 0 < b) : b.toNat.gcd (a % b).toNat = a.toNat.gcd b.toNat := by
  rw [Int.toNat_emod ha (by omega), Nat.gcd_comm, ← Nat.gcd_rec, Nat.gcd_comm]
theorem gcd_z {a b : Int} (ha : 0 ≤ a) (hb : b = 0) : ((a.toNat.gcd b.toNat : Nat) : Int) = a := by
  subst hb
  show ((a.toNat.gcd 0 : Nat) : Int) = a
  rw [Nat.gcd_zero_right]
  omega
/-- each step halves the product -/
theorem pr_half {a b : Int} (hb : 0 < b) (hab : b ≤ a) : b * (a % b) * 2 ≤ a * b := by
  have h1 := Int.emod_nonneg a (show b ≠ 0 by omega)
  have h2 := Int.emod_lt_of_pos a hb
  have h3 := Int.mul_ediv_add_emod a b
  have h4 : 1 ≤ a / b := by
    rw [Int.le_ediv_iff_mul_le hb]
    omega
  have h5 : b * 1 ≤ b * (a / b) := Int.mul_le_mul_of_nonneg_left h4 (by omega)
  obtain ⟨r, hr⟩ : ∃ r, r = a % b := ⟨_, rfl⟩
  rw [← hr] at h1 h2 h3 ⊢
  have h6 : (b + r) * b ≤ a * b := Int.mul_le_mul_of_nonneg_right (by omega) (by omega)
  have h7 : r * b ≤ b * b := Int.mul_le_mul_of_nonneg_right (by omega) (by omega)
  rw [Int.add_mul] at h6
  rw [Int.mul_comm b r]
  omega
def gcP (A B r : Int) : Prop := 0 < A → 0 ≤ B → r = ((A.toNat.gcd B.toNat : Nat) : Int)
def gcI (A B a b s : Int) : Prop := 0 < A → 0 ≤ B → (0 < a ∧ 0 ≤ b) ∧ a.toNat.gcd b.toNat = A.toNat.gcd B.toNat ∧ ((s = 0 ∧ a * b ≤ 2 ^ 126) ∨ (1 ≤ s ∧ b < a ∧ a * b * 2 ^ s.toNat ≤ 2 ^ 127))
theorem gcI_0 {p q : Int64} {A B s : Int} (hp : p.toInt = A) (hq : q.toInt = B) (hs : s = 0) : gcI A B p.toInt q.toInt s := by
  intro h1 h2
  have r1 := fb_rngL p
  have r2 := fb_rngL q
  refine ⟨by omega, by rw [hp, hq], Or.inl ⟨hs, ?_⟩⟩
  have m := b_mul (a := p.toInt) (b := q.toInt) (A := 2 ^ 63) (B := 2 ^ 63) (by omega) (by omega) (by omega) (by omega)
  have e : (2 ^ 63 * 2 ^ 63 : Int) = 2 ^ 126 := by decide
  rw [e] at m
  exact m.2
theorem gcI_st {A B s s' : Int} {a b x : Int64} (h : gcI A B a.toInt b.toInt s) (e : x = a - a / b * b) (hb : b.toInt ≠ 0) (h0 : 0 ≤ s) (hs : s' = s + 1) : gcI A B b.toInt x.toInt s' := by
  intro h1 h2
  obtain ⟨⟨a1, a2⟩, g, c⟩ := h h1 h2
  have ex := lrem_e e (by omega) (by omega)
  have n1 := Int.emod_nonneg a.toInt (show b.toInt ≠ 0 by omega)
  have n2 := Int.emod_lt_of_pos a.toInt (show 0 < b.toInt by omega)
  rw [ex]
  refine ⟨⟨by omega, n1⟩, by rw [gcd_st (by omega) (by omega), g], Or.inr ⟨by omega, n2, ?_⟩⟩
  have et : s'.toNat = s.toNat + 1 := by omega
  rw [et, Int.pow_succ]
  have p2 : (0 : Int) < 2 ^ s.toNat := Int.pow_pos (by decide)
  by_cases hab : b.toInt ≤ a.toInt
  · have ph := pr_half (show 0 < b.toInt by omega) hab
    have m := Int.mul_le_mul_of_nonneg_right ph (show (0 : Int) ≤ 2 ^ s.toNat by omega)
    have e1 : b.toInt * (a.toInt % b.toInt) * (2 ^ s.toNat * 2) = b.toInt * (a.toInt % b.toInt) * 2 * 2 ^ s.toNat := by
      rw [Int.mul_assoc (b.toInt * (a.toInt % b.toInt)) 2, Int.mul_comm 2]
    rw [e1]
    rcases c with ⟨c1, c2⟩ | ⟨c1, c2, c3⟩
    · subst c1
      have : (2 : Int) ^ (0 : Int).toNat = 1 := rfl
      rw [this] at m ⊢
      have t : (2 : Int) ^ 126 ≤ 2 ^ 127 := by decide
      omega
    · omega
  · rcases c with ⟨c1, c2⟩ | ⟨c1, c2, c3⟩
    · subst c1
      have em : a.toInt % b.toInt = a.toInt := Int.emod_eq_of_lt (by omega) (by omega)
      rw [em, Int.mul_comm b.toInt]
      have : (2 : Int) ^ (0 : Int).toNat = 1 := rfl
      rw [this]
      have t : (2 : Int) ^ 127 = 2 ^ 126 * 2 := by decide
      omega
    · omega
theorem gc_end {A B a b s : Int} (h : gcI A B a b s) (hs : s = 200 ∨ b = 0) : gcP A B a := by
  intro h1 h2
  obtain ⟨⟨a1, a2⟩, g, c⟩ := h h1 h2
  have bz : b = 0 := by
    rcases hs with z | z
    · subst z
      rcases c with ⟨c1, _⟩ | ⟨_, c2, c3⟩
      · omega
      · by_cases y : b = 0
        · exact y
        · exfalso
          have m := Int.mul_le_mul (show (1 : Int) ≤ a by omega) (show (1 : Int) ≤ b by omega) (by decide) (by omega)
          have m2 := Int.mul_le_mul_of_nonneg_right m (show (0 : Int) ≤ 2 ^ (200 : Int).toNat by decide)
          have t : ¬ ((1 : Int) * 1 * 2 ^ (200 : Int).toNat ≤ 2 ^ 127) := by decide
          omega
    · exact z
  rw [← g]
  exact (gcd_z (by omega) bz).symm
def dvP (A B r : Int) : Prop := A ≠ -9223372036854775808 → B ≠ -9223372036854775808 → r = ((A.natAbs.gcd B.natAbs : Nat) : Int)
def abQ (A x : Int) : Prop := A ≠ -9223372036854775808 → x = (A.natAbs : Int)
theorem abQ_p {A x : Int} (h : 0 ≤ A) (e : x = A) : abQ A x := fun _ => by omega
theorem abQ_n {p x : Int64} {A : Int} (h : A < 0) (hp : p.toInt = A) (e : x = -p) : abQ A x.toInt := fun q => by
  rw [la_neg e hp q]
  omega
def dvI (A B x y : Int) : Prop := A ≠ -9223372036854775808 → B ≠ -9223372036854775808 → (0 ≤ x ∧ 0 ≤ y) ∧ x.toNat.gcd y.toNat = A.natAbs.gcd B.natAbs
theorem dvI_0 {A B x y : Int} (hx : abQ A x) (hy : abQ B y) : dvI A B x y := fun h1 h2 => by
  have e1 := hx h1
  have e2 := hy h2
  refine ⟨by omega, ?_⟩
  rw [e1, e2]
  rfl
theorem dvI_st {A B : Int} {a b x : Int64} (h : dvI A B a.toInt b.toInt) (e : x = a - a / b * b) (hb : b.toInt ≠ 0) : dvI A B b.toInt x.toInt := fun h1 h2 => by
  obtain ⟨⟨a1, a2⟩, g⟩ := h h1 h2
  have ex := lrem_e e (by omega) (by omega)
  have n1 := Int.emod_nonneg a.toInt hb
  rw [ex]
  exact ⟨⟨by omega, n1⟩, by rw [gcd_st (by omega) (by omega), g]⟩
theorem dv_end {A B x y : Int} (h : dvI A B x y) (hy : y = 0) : dvP A B x := fun h1 h2 => by
  obtain ⟨⟨a1, a2⟩, g⟩ := h h1 h2
  rw [← g]
  exact (gcd_z a1 hy).symm
/-- sums over the points -/
def SL (f g : Nat → Int32) : Nat → Int64
  | 0 => 0
  | k + 1 => SL f g k + (f k * g k).toInt64
def SR (f g : Nat → Int32) : Nat → Int64
  | 0 => 0
  | k + 1 => SR f g k + (f k).toInt64 * (g k).toInt64
theorem sl_st {f g : Nat → Int32} {s s' : Int64} {p a b : Int32} {I J : Int} (h : s = SL f g I.toNat) (e : s' = s + p.toInt64) (ep : p = a * b) (ha : a = f I.toNat) (hb : b = g I.toNat) (h0 : 0 ≤ I) (hJ : J = I + 1) : s' = SL f g J.toNat := by
  have : J.toNat = I.toNat + 1 := by omega
  rw [this, e, ep, ha, hb, h]
  rfl
theorem sr_st {f g : Nat → Int32} {s s' q : Int64} {a b : Int32} {I J : Int} (h : s = SR f g I.toNat) (e : s' = s + q) (eq : q = a.toInt64 * b.toInt64) (ha : a = f I.toNat) (hb : b = g I.toNat) (h0 : 0 ≤ I) (hJ : J = I + 1) : s' = SR f g J.toNat := by
  have : J.toNat = I.toNat + 1 := by omega
  rw [this, e, eq, ha, hb, h]
  rfl
theorem SL_cg {f g f' g' : Nat → Int32} : ∀ n : Nat, (∀ k, k < n → f k = f' k ∧ g k = g' k) → SL f g n = SL f' g' n
  | 0, _ => rfl
  | n + 1, h => by
    show SL f g n + (f n * g n).toInt64 = SL f' g' n + (f' n * g' n).toInt64
    rw [SL_cg n (fun k hk => h k (by omega)), (h n (by omega)).1, (h n (by omega)).2]
theorem SR_cg {f g f' g' : Nat → Int32} : ∀ n : Nat, (∀ k, k < n → f k = f' k ∧ g k = g' k) → SR f g n = SR f' g' n
  | 0, _ => rfl
  | n + 1, h => by
    show SR f g n + (f n).toInt64 * (g n).toInt64 = SR f' g' n + (f' n).toInt64 * (g' n).toInt64
    rw [SR_cg n (fun k hk => h k (by omega)), (h n (by omega)).1, (h n (by omega)).2]
def cfL (v : Nat → Nat → Int32) (a b : Nat) : Int64 := SL (fun k => v (20 + k) a) (fun k => v (20 + k) b) (v 18 2).toInt.toNat
def cfR (v : Nat → Nat → Int32) (i a : Nat) : Int64 := SR (fun k => v (20 + k) a) (fun k => v (33 + k) i) (v 18 2).toInt.toNat
def mfL (v : Nat → Nat → Int32) (n a b : Nat) : Int64 := SL (fun k => v 112 (3 * k + a)) (fun k => v 112 (3 * k + b)) n
def mfR (v : Nat → Nat → Int32) (i n a : Nat) : Int64 := SR (fun k => v 112 (3 * k + a)) (fun k => v 113 (3 * k + i)) n
def fNm (L : Nat → Nat → Int64) (R : Nat → Int64) (j : Nat) : Int64 := dsN (fun a b => if b = j then R a else L a b) 3
/-- the class's equations, rows below J -/
def eqP (v : Nat → Nat → Int32) (i : Nat) (w : Nat → Nat → Int64) (J : Int) : Prop := ∀ j : Nat, (j : Int) < J → w 50 j = cfR v i j ∧ ∀ l, l < 3 → w (47 + j) l = cfL v j l
def eqQ (v : Nat → Nat → Int32) (i : Nat) (w : Nat → Nat → Int64) (J L : Int) : Prop := eqP v i w J ∧ w 50 J.toNat = cfR v i J.toNat ∧ ∀ l : Nat, (l : Int) < L → w (47 + J.toNat) l = cfL v J.toNat l
theorem eqP_0 {v : Nat → Nat → Int32} {i : Nat} {w : Nat → Nat → Int64} : eqP v i w 0 := fun j h => by omega
theorem eqP.cast {v : Nat → Nat → Int32} {i : Nat} {w : Nat → Nat → Int64} {J J' : Int} (h : eqP v i w J) (e : J' = J) : eqP v i w J' := e ▸ h
theorem eqQ_0 {v : Nat → Nat → Int32} {i : Nat} {w w' : Nat → Nat → Int64} {J L : Int} {p : Int32} {x : Int64} (h : eqP v i w J) (e : w' = gul w 50 p.toNatClampNeg x) (hp : p.toInt = J) (h0 : 0 ≤ J ∧ J < 3) (hx : x = cfR v i J.toNat) (hL : L = 0) : eqQ v i w' J L := by
  have hc := cl_nat hp
  refine ⟨fun j hj => ?_, ?_, fun l hl => by omega⟩
  · have := h j hj
    rw [e, hc, gul_n (Or.inr (by omega)), gul_o (by omega)]
    exact this
  · rw [e, hc, gul_y ⟨rfl, rfl⟩, hx]
theorem eqQ_st {v : Nat → Nat → Int32} {i : Nat} {w w' : Nat → Nat → Int64} {J L L' : Int} {q : Nat} {p : Int32} {x : Int64} (h : eqQ v i w J L) (e : w' = gul w q p.toNatClampNeg x) (hq : (q : Int) = 47 + J) (hp : p.toInt = L) (h0 : 0 ≤ J ∧ J < 3) (h1 : 0 ≤ L ∧ L < 3) (hx : x = cfL v J.toNat L.toNat) (hL : L' = L + 1) : eqQ v i w' J L' := by
  have hc := cl_nat hp
  obtain ⟨a, b, c⟩ := h
  refine ⟨fun j hj => ?_, ?_, fun l hl => ?_⟩
  · have := a j hj
    rw [e, gul_o (by omega), gul_o (by omega)]
    exact this
  · rw [e, gul_o (by omega)]
    exact b
  · rw [e, hc]
    by_cases z : l = L.toNat
    · rw [gul_y (by omega), hx, z]
    · rw [gul_n (Or.inr z)]
      exact c l (by omega)
theorem eqQ_n {v : Nat → Nat → Int32} {i : Nat} {w : Nat → Nat → Int64} {J J' L : Int} (h : eqQ v i w J L) (hL : 3 ≤ L) (h0 : 0 ≤ J) (hJ : J' = J + 1) : eqP v i w J' := by
  intro j hj
  by_cases z : j = J.toNat
  · rw [z]
    exact ⟨h.2.1, fun l hl => h.2.2 l (by omega)⟩
  · exact h.1 j (by omega)
theorem dt_c {v : Nat → Nat → Int32} {i : Nat} {w : Nat → Nat → Int64} (h : eqP v i w 3) : dsN (tmQ w 47 50 (-1)) 3 = dsN (cfL v) 3 := dsN_cg (fun a b ha hb => by unfold tmQ; rw [if_neg (by omega)]; exact (h a (by omega)).2 b hb)
theorem nm_c {v : Nat → Nat → Int32} {i : Nat} {w : Nat → Nat → Int64} {J : Int} (h : eqP v i w 3) (hJ : 0 ≤ J) : dsN (tmQ w 47 50 J) 3 = fNm (cfL v) (cfR v i) J.toNat := dsN_cg (fun a b ha hb => by
  show (if (b : Int) = J then w 50 a else w (47 + a) b) = (if b = J.toNat then cfR v i a else cfL v a b)
  by_cases z : b = J.toNat
  · rw [if_pos (by omega), if_pos z]
    exact (h a (by omega)).1
  · rw [if_neg (by omega), if_neg z]
    exact (h a (by omega)).2 b hb)
def lab (x : Int64) : Int64 := if 0 < x then x else -x
def ftC (D N : Int64) (what : Int) (r : Int64) : Prop := (D.toInt ≤ 0 ∧ r = 0) ∨ (0 < D.toInt ∧ ∃ c : Int64, gcP (100 * D).toInt (lab N).toInt c.toInt ∧ ((c.toInt ≤ 0 ∧ r = 0) ∨ (0 < c.toInt ∧ ((what = 0 ∧ r = 100 * D / c) ∨ (what ≠ 0 ∧ r = N / c)))))
def ftM (D N : Int64) (what : Int) (r : Int64) : Prop := ((100 * D).toInt = 0 ∧ r = 0) ∨ ((100 * D).toInt ≠ 0 ∧ ∃ g h : Int64, dvP N.toInt (100 * D).toInt g.toInt ∧ (((100 * D).toInt < 0 ∧ h = -g) ∨ (0 ≤ (100 * D).toInt ∧ h = g)) ∧ ((what = 0 ∧ r = N / h) ∨ (what ≠ 0 ∧ r = 100 * D / h)))
/-- the model's equations -/
def emP (v : Nat → Nat → Int32) (i n : Nat) (w : Nat → Nat → Int64) (U : Int) : Prop := ∀ u : Nat, (u : Int) < U → w 110 u = mfR v i n u ∧ ∀ l, l < 3 → w 109 (3 * u + l) = mfL v n u l
theorem emP_0 {v : Nat → Nat → Int32} {i n : Nat} {w : Nat → Nat → Int64} : emP v i n w 0 := fun j h => by omega
/-- the zeros of row U -/
def emZ (v : Nat → Nat → Int32) (i n : Nat) (w : Nat → Nat → Int64) (U L : Int) : Prop := emP v i n w U ∧ w 110 U.toNat = 0 ∧ ∀ l : Nat, (l : Int) < L → w 109 (3 * U.toNat + l) = 0
theorem emZ_0 {v : Nat → Nat → Int32} {i n : Nat} {w w' : Nat → Nat → Int64} {U L : Int} {p : Int32} (h : emP v i n w U) (e : w' = gul w 110 p.toNatClampNeg 0) (hp : p.toInt = U) (h0 : 0 ≤ U) (hL : L = 0) : emZ v i n w' U L := by
  have hc := cl_nat hp
  refine ⟨fun u hu => ?_, ?_, fun l hl => by omega⟩
  · have := h u hu
    rw [e, hc, gul_n (Or.inr (by omega)), gul_o (by decide)]
    exact this
  · rw [e, hc, gul_y ⟨rfl, rfl⟩]
theorem emZ_st {v : Nat → Nat → Int32} {i n : Nat} {w w' : Nat → Nat → Int64} {U L L' I : Int} {p : Int32} (h : emZ v i n w U L) (e : w' = gul w 109 p.toNatClampNeg 0) (hp : p.toInt = I) (hI : I = 3 * U + L) (h0 : 0 ≤ U) (h1 : 0 ≤ L ∧ L < 3) (hL : L' = L + 1) : emZ v i n w' U L' := by
  have hc := cl_nat hp
  obtain ⟨a, b, c⟩ := h
  refine ⟨fun u hu => ?_, ?_, fun l hl => ?_⟩
  · have := a u hu
    rw [e, gul_o (by decide)]
    refine ⟨this.1, fun l hl => ?_⟩
    rw [hc, gul_n (Or.inr (by omega))]
    exact this.2 l hl
  · rw [e, gul_o (by decide)]
    exact b
  · rw [e, hc]
    by_cases z : l = L.toNat
    · rw [gul_y (by omega)]
    · rw [gul_n (Or.inr (by omega))]
      exact c l (by omega)
/-- row U: K points summed, the next one's below column L -/
def emQ (v : Nat → Nat → Int32) (i n : Nat) (w : Nat → Nat → Int64) (U K K2 L : Int) : Prop := emP v i n w U ∧ w 110 U.toNat = mfR v i K2.toNat U.toNat ∧ ∀ l : Nat, l < 3 → w 109 (3 * U.toNat + l) = mfL v (if (l : Int) < L then K2.toNat else K.toNat) U.toNat l
theorem emQ_0 {v : Nat → Nat → Int32} {i n : Nat} {w : Nat → Nat → Int64} {U L K M : Int} (h : emZ v i n w U L) (hL : 3 ≤ L) (hK : K = 0) (hM : M = 0) : emQ v i n w U K K M := by
  subst hK
  subst hM
  refine ⟨h.1, h.2.1, fun l hl => ?_⟩
  rw [if_neg (by omega), h.2.2 l (by omega)]
  rfl
theorem emQ_r {v : Nat → Nat → Int32} {i n : Nat} {w w' : Nat → Nat → Int64} {U K K2 M Z : Int} {p : Int32} {x y q : Int64} {a b : Int32} (h : emQ v i n w U K K M) (e : w' = gul w 110 p.toNatClampNeg x) (hp : p.toInt = U) (h0 : 0 ≤ U ∧ 0 ≤ K) (hy : y = w 110 p.toNatClampNeg) (ex : x = y + q) (eq : q = a.toInt64 * b.toInt64) (ha : a = v 112 (3 * K.toNat + U.toNat)) (hb : b = v 113 (3 * K.toNat + i)) (hK : K2 = K + 1) (hZ : Z = 0) : emQ v i n w' U K K2 Z := by
  have hc := cl_nat hp
  obtain ⟨A, B, C⟩ := h
  refine ⟨fun u hu => ?_, ?_, fun l hl => ?_⟩
  · have := A u hu
    rw [e, hc, gul_n (Or.inr (by omega)), gul_o (by decide)]
    exact this
  · rw [e, hc, gul_y ⟨rfl, rfl⟩]
    have t : K2.toNat = K.toNat + 1 := by omega
    rw [ex, hy, hc, B, eq, ha, hb, t]
    rfl
  · rw [e, gul_o (by decide), C l hl, if_neg (show ¬ ((l : Int) < Z) by omega)]
    split <;> rfl
theorem emQ_st {v : Nat → Nat → Int32} {i n : Nat} {w w' : Nat → Nat → Int64} {U K K2 L L' I : Int} {p : Int32} {x y : Int64} {q a b : Int32} (h : emQ v i n w U K K2 L) (e : w' = gul w 109 p.toNatClampNeg x) (hp : p.toInt = I) (hI : I = 3 * U + L) (h0 : 0 ≤ U ∧ 0 ≤ K) (h1 : 0 ≤ L ∧ L < 3) (hy : y = w 109 p.toNatClampNeg) (ex : x = y + q.toInt64) (eq : q = a * b) (ha : a = v 112 (3 * K.toNat + U.toNat)) (hb : b = v 112 (3 * K.toNat + L.toNat)) (hK : K2 = K + 1) (hL : L' = L + 1) : emQ v i n w' U K K2 L' := by
  have hc := cl_nat hp
  obtain ⟨A, B, C⟩ := h
  have t : K2.toNat = K.toNat + 1 := by omega
  refine ⟨fun u hu => ?_, ?_, fun l hl => ?_⟩
  · have := A u hu
    rw [e, gul_o (by decide)]
    refine ⟨this.1, fun l hl => ?_⟩
    rw [hc, gul_n (Or.inr (by omega))]
    exact this.2 l hl
  · rw [e, gul_o (by decide)]
    exact B
  · rw [e, hc]
    by_cases z : l = L.toNat
    · rw [gul_y (by omega), if_pos (show (l : Int) < L' by omega)]
      have c := C l hl
      rw [if_neg (show ¬ ((l : Int) < L) by omega)] at c
      rw [ex, hy, hc, show I.toNat = 3 * U.toNat + l by omega, c, eq, ha, hb, t, ← z]
      rfl
    · rw [gul_n (Or.inr (by omega)), C l hl]
      by_cases z2 : (l : Int) < L
      · rw [if_pos z2, if_pos (by omega)]
      · rw [if_neg z2, if_neg (by omega)]
theorem emQ_k {v : Nat → Nat → Int32} {i n : Nat} {w : Nat → Nat → Int64} {U K K2 L Z : Int} (h : emQ v i n w U K K2 L) (hL : 3 ≤ L) : emQ v i n w U K2 K2 Z := by
  refine ⟨h.1, h.2.1, fun l hl => ?_⟩
  rw [h.2.2 l hl, if_pos (by omega)]
  split <;> rfl
theorem emQ_n {v : Nat → Nat → Int32} {i n : Nat} {w : Nat → Nat → Int64} {U U' K L : Int} (h : emQ v i n w U K K L) (hK : K.toNat = n) (h0 : 0 ≤ U) (hU : U' = U + 1) : emP v i n w U' := by
  intro u hu
  by_cases z : u = U.toNat
  · rw [z]
    refine ⟨by rw [h.2.1, hK], fun l hl => ?_⟩
    rw [h.2.2 l hl, hK]
    split <;> rfl
  · exact h.1 u (by omega)
theorem dt_m {v : Nat → Nat → Int32} {i n : Nat} {w : Nat → Nat → Int64} (h : emP v i n w 3) : detL (w 109) = dsN (mfL v n) 3 := det_eq (fun a b ha hb => (h a (by omega)).2 b hb)
theorem nm_m {v : Nat → Nat → Int32} {i n : Nat} {w : Nat → Nat → Int64} {J : Nat} (h : emP v i n w 3) : dsN (tmM w J) 3 = fNm (mfL v n) (mfR v i n) J := dsN_cg (fun a b ha hb => by
  show (if b = J then w 110 a else w 109 (3 * a + b)) = (if b = J then mfR v i n a else mfL v n a b)
  by_cases z : b = J
  · rw [if_pos z, if_pos z]
    exact (h a (by omega)).1
  · rw [if_neg z, if_neg z]
    exact (h a (by omega)).2 b hb)
/-- sums of Ints -/
def sI (f : Nat → Int) : Nat → Int
  | 0 => 0
  | k + 1 => sI f k + f k
theorem sI_cg {f g : Nat → Int} : ∀ n : Nat, (∀ k, k < n → f k = g k) → sI f n = sI g n
  | 0, _ => rfl
  | n + 1, h => by
    show sI f n + f n = sI g n + g n
    rw [sI_cg n (fun k hk => h k (by omega)), h n (by omega)]
theorem sI_add (f g : Nat → Int) : ∀ n : Nat, sI (fun k => f k + g k) n = sI f n + sI g n
  | 0 => rfl
  | n + 1 => by
    show sI (fun k => f k + g k) n + (f n + g n) = (sI f n + f n) + (sI g n + g n)
    rw [sI_add f g n]
    omega
theorem sI_mul (c : Int) (f : Nat → Int) : ∀ n : Nat, sI (fun k => c * f k) n = c * sI f n
  | 0 => by show (0 : Int) = c * 0; omega
  | n + 1 => by
    show sI (fun k => c * f k) n + c * f n = c * (sI f n + f n)
    rw [sI_mul c f n, Int.mul_add]
theorem sI_nn {f : Nat → Int} : ∀ n : Nat, (∀ k, k < n → 0 ≤ f k) → 0 ≤ sI f n
  | 0, _ => Int.le_refl _
  | n + 1, h => by
    show 0 ≤ sI f n + f n
    have := sI_nn n (fun k hk => h k (by omega))
    have := h n (by omega)
    omega
theorem sq_nn (x : Int) : 0 ≤ x * x := by
  rcases Int.le_total 0 x with h | h
  · exact Int.mul_nonneg h h
  · have := Int.mul_nonneg (show 0 ≤ -x by omega) (show 0 ≤ -x by omega)
    rwa [Int.neg_mul_neg] at this
theorem sq_0 {x : Int} (h : x * x = 0) : x = 0 := by
  rcases Int.mul_eq_zero.mp h with q | q <;> exact q
/-- a sum of squares that is 0 -/
theorem sI_z {p : Nat → Int} : ∀ n : Nat, sI (fun k => p k * p k) n = 0 → ∀ k, k < n → p k = 0
  | 0, _, k, hk => by omega
  | n + 1, h, k, hk => by
    have h' : sI (fun k => p k * p k) n + p n * p n = 0 := h
    have a := sI_nn (f := fun k => p k * p k) n (fun k _ => sq_nn (p k))
    have b := sq_nn (p n)
    by_cases e : k = n
    · rw [e]; exact sq_0 (by omega)
    · exact sI_z n (by omega) k (by omega)
def dot (p q : Nat → Int) (n : Nat) : Int := sI (fun k => p k * q k) n
theorem dot_z {p q : Nat → Int} {n : Nat} (h : dot p p n = 0) : dot p q n = 0 := by
  have z := sI_z n h
  unfold dot
  rw [sI_cg n (g := fun _ => 0) (fun k hk => by rw [z k hk]; exact Int.zero_mul _)]
  have : ∀ m : Nat, sI (fun _ => 0) m = 0 := by
    intro m
    induction m with
    | zero => rfl
    | succ m ih => show sI (fun _ => 0) m + 0 = 0; rw [ih]; rfl
  exact this n
theorem dot_nn (p : Nat → Int) (n : Nat) : 0 ≤ dot p p n := sI_nn n (fun k _ => sq_nn (p k))
theorem dot_lin (x y : Int) (p q : Nat → Int) (n : Nat) : dot (fun k => x * p k - y * q k) (fun k => x * p k - y * q k) n = x * x * dot p p n - 2 * x * y * dot p q n + y * y * dot q q n := by
  unfold dot
  induction n with
  | zero => simp [sI]
  | succ n ih =>
    show sI (fun k => (x * p k - y * q k) * (x * p k - y * q k)) n + (x * p n - y * q n) * (x * p n - y * q n) = x * x * (sI (fun k => p k * p k) n + p n * p n) - 2 * x * y * (sI (fun k => p k * q k) n + p n * q n) + y * y * (sI (fun k => q k * q k) n + q n * q n)
    rw [ih]
    grind
theorem dot_lin2 (x y z : Int) (a b c : Nat → Int) (n : Nat) : dot (fun k => x * b k - y * a k) (fun k => x * c k - z * a k) n = x * x * dot b c n - x * z * dot a b n - x * y * dot a c n + y * z * dot a a n := by
  unfold dot
  induction n with
  | zero => simp [sI]
  | succ n ih =>
    show sI (fun k => (x * b k - y * a k) * (x * c k - z * a k)) n + (x * b n - y * a n) * (x * c n - z * a n) = x * x * (sI (fun k => b k * c k) n + b n * c n) - x * z * (sI (fun k => a k * b k) n + a n * b n) - x * y * (sI (fun k => a k * c k) n + a n * c n) + y * z * (sI (fun k => a k * a k) n + a n * a n)
    rw [ih]
    grind
theorem pos_of {x y : Int} (hx : 0 < x) (h : 0 ≤ x * y) : 0 ≤ y := by
  by_cases q : 0 ≤ y
  · exact q
  · exfalso
    have : 0 < x * -y := Int.mul_pos hx (by omega)
    rw [Int.mul_neg] at this
    omega
/-- Cauchy and Schwarz -/
theorem cs {p q : Nat → Int} {n : Nat} : dot p q n * dot p q n ≤ dot p p n * dot q q n := by
  have nn := dot_nn p n
  by_cases z : dot p p n = 0
  · rw [dot_z z, z]; simp
  · have h := dot_nn (fun k => dot p q n * p k - dot p p n * q k) n
    rw [dot_lin] at h
    have e : dot p q n * dot p q n * dot p p n - 2 * dot p q n * dot p p n * dot p q n + dot p p n * dot p p n * dot q q n = dot p p n * (dot p p n * dot q q n - dot p q n * dot p q n) := by grind
    rw [e] at h
    have := pos_of (show 0 < dot p p n by omega) h
    omega
theorem dot_cm (p q : Nat → Int) (n : Nat) : dot p q n = dot q p n := sI_cg n (fun k _ => Int.mul_comm _ _)
/-- the determinant of the sums of products is at or above 0 -/
theorem gram {a b c : Nat → Int} {n : Nat} : 0 ≤ dot a a n * (dot b b n * dot c c n - dot b c n * dot c b n) + dot a b n * (dot b c n * dot c a n - dot b a n * dot c c n) + dot a c n * (dot b a n * dot c b n - dot b b n * dot c a n) := by
  rw [dot_cm c b, dot_cm c a, dot_cm b a]
  have nn := dot_nn a n
  by_cases z : dot a a n = 0
  · rw [dot_z (q := b) z, dot_z (q := c) z, z]; simp
  · have hp : 0 < dot a a n := by omega
    have h := cs (p := fun k => dot a a n * b k - dot a b n * a k) (q := fun k => dot a a n * c k - dot a c n * a k) (n := n)
    rw [dot_lin2, dot_lin2, dot_lin2] at h
    generalize dot a a n = A at *
    generalize dot b b n = B at *
    generalize dot c c n = C at *
    generalize dot a b n = P at *
    generalize dot a c n = Q at *
    generalize dot b c n = R at *
    have e : (A * A * B - A * P * P - A * P * P + P * P * A) * (A * A * C - A * Q * Q - A * Q * Q + Q * Q * A) - (A * A * R - A * Q * P - A * P * Q + P * Q * A) * (A * A * R - A * Q * P - A * P * Q + P * Q * A) = A * (A * (A * (A * (B * C - R * R) + P * (R * Q - P * C) + Q * (P * R - B * Q)))) := by grind
    have h' : 0 ≤ A * (A * (A * (A * (B * C - R * R) + P * (R * Q - P * C) + Q * (P * R - B * Q)))) := by
      rw [← e]
      omega
    exact pos_of hp (pos_of hp (pos_of hp h'))
/-- no number wraps -/
theorem SL_I {f g : Nat → Int32} : ∀ n : Nat, n ≤ 12 → (∀ k, k < n → bd (f k) 50 ∧ bd (g k) 50) → (SL f g n).toInt = dot (fun k => (f k).toInt) (fun k => (g k).toInt) n ∧ bdl (SL f g n) (2500 * (n : Int))
  | 0, _, _ => ⟨rfl, (⟨by decide, by decide⟩ : bdl 0 0)⟩
  | n + 1, hn, h => by
    have ih := SL_I n (by omega) (fun k hk => h k (by omega))
    have hb := h n (by omega)
    have p := b_mul hb.1.1 hb.1.2 hb.2.1 hb.2.2
    have e : (f n * g n).toInt = (f n).toInt * (g n).toInt := ia_mul rfl rfl rfl (by omega) (by omega)
    have e64 : ((f n * g n).toInt64).toInt = (f n).toInt * (g n).toInt := il_of e
    have b := ih.2
    unfold bdl at b ⊢
    have s : (SL f g n + (f n * g n).toInt64).toInt = (SL f g n).toInt + (f n).toInt * (g n).toInt := la_add rfl rfl e64 (by omega) (by omega)
    show (SL f g n + (f n * g n).toInt64).toInt = dot (fun k => (f k).toInt) (fun k => (g k).toInt) n + (f n).toInt * (g n).toInt ∧ _
    refine ⟨by rw [s, ih.1], ?_⟩
    show -(2500 * ((n + 1 : Nat) : Int)) ≤ (SL f g n + (f n * g n).toInt64).toInt ∧ (SL f g n + (f n * g n).toInt64).toInt ≤ 2500 * ((n + 1 : Nat) : Int)
    rw [s]
    omega
theorem SR_b {f g : Nat → Int32} : ∀ n : Nat, n ≤ 12 → (∀ k, k < n → bd (f k) 50 ∧ bd (g k) 2000000) → bdl (SR f g n) (100000000 * (n : Int))
  | 0, _, _ => (⟨by decide, by decide⟩ : bdl 0 0)
  | n + 1, hn, h => by
    have ih := SR_b n (by omega) (fun k hk => h k (by omega))
    have hb := h n (by omega)
    have m : bdl ((f n).toInt64 * (g n).toInt64) 100000000 := bdl_mul (X := 50) (Y := 2000000) (by unfold bdl; rw [il_of rfl]; exact hb.1) (by unfold bdl; rw [il_of rfl]; exact hb.2) (by decide) (by decide)
    exact bdl_add ih m (by omega) (by omega)
theorem ds_I {t : Nat → Nat → Int64} (h : ∀ i j, i < 3 → j < 3 → bdl (t i j) 30000) : (dsN t 3).toInt = (t 0 0).toInt * ((t 1 1).toInt * (t 2 2).toInt - (t 1 2).toInt * (t 2 1).toInt) + (t 0 1).toInt * ((t 1 2).toInt * (t 2 0).toInt - (t 1 0).toInt * (t 2 2).toInt) + (t 0 2).toInt * ((t 1 0).toInt * (t 2 1).toInt - (t 1 1).toInt * (t 2 0).toInt) ∧ bdl (dsN t 3) 162000000000000 := by
  have e : dsN t 3 = 0 + t 0 0 * (t 1 1 * t 2 2 - t 1 2 * t 2 1) + t 0 1 * (t 1 2 * t 2 0 - t 1 0 * t 2 2) + t 0 2 * (t 1 0 * t 2 1 - t 1 1 * t 2 0) := rfl
  rw [e]
  have M : ∀ a b c d : Int64, bdl a 30000 → bdl b 30000 → bdl c 30000 → bdl d 30000 → (a * b - c * d).toInt = a.toInt * b.toInt - c.toInt * d.toInt ∧ bdl (a * b - c * d) 1800000000 := fun a b c d ha hb hc hd => by
    have p := b_mul ha.1 ha.2 hb.1 hb.2
    have q := b_mul hc.1 hc.2 hd.1 hd.2
    have e1 : (a * b).toInt = a.toInt * b.toInt := la_mul rfl rfl rfl (by omega) (by omega)
    have e2 : (c * d).toInt = c.toInt * d.toInt := la_mul rfl rfl rfl (by omega) (by omega)
    have e3 : (a * b - c * d).toInt = a.toInt * b.toInt - c.toInt * d.toInt := la_sub rfl e1 e2 (by omega) (by omega)
    refine ⟨e3, ?_⟩
    unfold bdl
    rw [e3]
    omega
  have P : ∀ a m : Int64, bdl a 30000 → bdl m 1800000000 → (a * m).toInt = a.toInt * m.toInt ∧ bdl (a * m) 54000000000000 := fun a m ha hm => by
    have p := b_mul ha.1 ha.2 hm.1 hm.2
    have e1 : (a * m).toInt = a.toInt * m.toInt := la_mul rfl rfl rfl (by omega) (by omega)
    refine ⟨e1, ?_⟩
    unfold bdl
    rw [e1]
    omega
  have H := fun i j hi hj => h i j hi hj
  have m0 := M _ _ _ _ (H 1 1 (by decide) (by decide)) (H 2 2 (by decide) (by decide)) (H 1 2 (by decide) (by decide)) (H 2 1 (by decide) (by decide))
  have m1 := M _ _ _ _ (H 1 2 (by decide) (by decide)) (H 2 0 (by decide) (by decide)) (H 1 0 (by decide) (by decide)) (H 2 2 (by decide) (by decide))
  have m2 := M _ _ _ _ (H 1 0 (by decide) (by decide)) (H 2 1 (by decide) (by decide)) (H 1 1 (by decide) (by decide)) (H 2 0 (by decide) (by decide))
  have p0 := P _ _ (H 0 0 (by decide) (by decide)) m0.2
  have p1 := P _ _ (H 0 1 (by decide) (by decide)) m1.2
  have p2 := P _ _ (H 0 2 (by decide) (by decide)) m2.2
  have z0 : (0 : Int64).toInt = 0 := by decide
  have b0 := p0.2
  have b1 := p1.2
  have b2 := p2.2
  unfold bdl at b0 b1 b2
  have s1 := la_add (x := 0 + t 0 0 * (t 1 1 * t 2 2 - t 1 2 * t 2 1)) rfl z0 rfl (by omega) (by omega)
  have s2 := la_add (x := 0 + t 0 0 * (t 1 1 * t 2 2 - t 1 2 * t 2 1) + t 0 1 * (t 1 2 * t 2 0 - t 1 0 * t 2 2)) rfl s1 rfl (by omega) (by omega)
  have s3 := la_add (x := 0 + t 0 0 * (t 1 1 * t 2 2 - t 1 2 * t 2 1) + t 0 1 * (t 1 2 * t 2 0 - t 1 0 * t 2 2) + t 0 2 * (t 1 0 * t 2 1 - t 1 1 * t 2 0)) rfl s2 rfl (by omega) (by omega)
  constructor
  · rw [s3, p0.1, p1.1, p2.1, m0.1, m1.1, m2.1, Int.zero_add]
  · unfold bdl
    rw [s3]
    omega
/-- a determinant with one greater column -/
theorem ds_b2 {t : Nat → Nat → Int64} {c : Nat} (hc : c < 3) (h : ∀ i j, i < 3 → j < 3 → j ≠ c → bdl (t i j) 30000) (g : ∀ i, i < 3 → bdl (t i c) 1200000000) : bdl (dsN t 3) 6480000000000000000 := by
  have e : dsN t 3 = 0 + t 0 0 * (t 1 1 * t 2 2 - t 1 2 * t 2 1) + t 0 1 * (t 1 2 * t 2 0 - t 1 0 * t 2 2) + t 0 2 * (t 1 0 * t 2 1 - t 1 1 * t 2 0) := rfl
  have z0 : bdl 0 0 := ⟨by decide, by decide⟩
  rw [e]
  have small : ∀ a b d f : Int64, bdl a 30000 → bdl b 30000 → bdl d 30000 → bdl f 30000 → bdl (a * b - d * f) 1800000000 := fun a b d f ha hb hd hf => bdl_sub (bdl_mul (Z := 900000000) ha hb (by decide) (by decide)) (bdl_mul (Z := 900000000) hd hf (by decide) (by decide)) (by decide) (by decide)
  have bigm : ∀ a b d f : Int64, bdl a 1200000000 → bdl b 30000 → bdl d 30000 → bdl f 1200000000 → bdl (a * b - d * f) 72000000000000 := fun a b d f ha hb hd hf => bdl_sub (bdl_mul (Z := 36000000000000) ha hb (by decide) (by decide)) (bdl_mul (Z := 36000000000000) hd hf (by decide) (by decide)) (by decide) (by decide)
  have bigm' : ∀ a b d f : Int64, bdl a 30000 → bdl b 1200000000 → bdl d 1200000000 → bdl f 30000 → bdl (a * b - d * f) 72000000000000 := fun a b d f ha hb hd hf => bdl_sub (bdl_mul (Z := 36000000000000) ha hb (by decide) (by decide)) (bdl_mul (Z := 36000000000000) hd hf (by decide) (by decide)) (by decide) (by decide)
  have S : ∀ x y z : Int64, bdl x 2160000000000000000 → bdl y 2160000000000000000 → bdl z 2160000000000000000 → bdl (0 + x + y + z) 6480000000000000000 := fun x y z hx hy hz => bdl_add (bdl_add (Z := 4320000000000000000) (bdl_add (Z := 2160000000000000000) z0 hx (by decide) (by decide)) hy (by decide) (by decide)) hz (by decide) (by decide)
  have m1 : ∀ a b : Int64, bdl a 1200000000 → bdl b 1800000000 → bdl (a * b) 2160000000000000000 := fun a b ha hb => bdl_mul ha hb (by decide) (by decide)
  have m2 : ∀ a b : Int64, bdl a 30000 → bdl b 72000000000000 → bdl (a * b) 2160000000000000000 := fun a b ha hb => bdl_mul ha hb (by decide) (by decide)
  rcases (show c = 0 ∨ c = 1 ∨ c = 2 by omega) with rfl | rfl | rfl
  · exact S _ _ _ (m1 _ _ (g 0 (by decide)) (small _ _ _ _ (h 1 1 (by decide) (by decide) (by decide)) (h 2 2 (by decide) (by decide) (by decide)) (h 1 2 (by decide) (by decide) (by decide)) (h 2 1 (by decide) (by decide) (by decide)))) (m2 _ _ (h 0 1 (by decide) (by decide) (by decide)) (bigm' _ _ _ _ (h 1 2 (by decide) (by decide) (by decide)) (g 2 (by decide)) (g 1 (by decide)) (h 2 2 (by decide) (by decide) (by decide)))) (m2 _ _ (h 0 2 (by decide) (by decide) (by decide)) (bigm _ _ _ _ (g 1 (by decide)) (h 2 1 (by decide) (by decide) (by decide)) (h 1 1 (by decide) (by decide) (by decide)) (g 2 (by decide))))
  · exact S _ _ _ (m2 _ _ (h 0 0 (by decide) (by decide) (by decide)) (bigm _ _ _ _ (g 1 (by decide)) (h 2 2 (by decide) (by decide) (by decide)) (h 1 2 (by decide) (by decide) (by decide)) (g 2 (by decide)))) (m1 _ _ (g 0 (by decide)) (small _ _ _ _ (h 1 2 (by decide) (by decide) (by decide)) (h 2 0 (by decide) (by decide) (by decide)) (h 1 0 (by decide) (by decide) (by decide)) (h 2 2 (by decide) (by decide) (by decide)))) (m2 _ _ (h 0 2 (by decide) (by decide) (by decide)) (bigm' _ _ _ _ (h 1 0 (by decide) (by decide) (by decide)) (g 2 (by decide)) (g 1 (by decide)) (h 2 0 (by decide) (by decide) (by decide))))
  · exact S _ _ _ (m2 _ _ (h 0 0 (by decide) (by decide) (by decide)) (bigm' _ _ _ _ (h 1 1 (by decide) (by decide) (by decide)) (g 2 (by decide)) (g 1 (by decide)) (h 2 1 (by decide) (by decide) (by decide)))) (m2 _ _ (h 0 1 (by decide) (by decide) (by decide)) (bigm _ _ _ _ (g 1 (by decide)) (h 2 0 (by decide) (by decide) (by decide)) (h 1 0 (by decide) (by decide) (by decide)) (g 2 (by decide)))) (m1 _ _ (g 0 (by decide)) (small _ _ _ _ (h 1 0 (by decide) (by decide) (by decide)) (h 2 1 (by decide) (by decide) (by decide)) (h 1 1 (by decide) (by decide) (by decide)) (h 2 0 (by decide) (by decide) (by decide))))
/-- both ways to the answer are one -/
theorem ft_eq {D N r1 r2 : Int64} {A : Int} (hD : 0 ≤ D.toInt ∧ D.toInt ≤ 162000000000000) (hN : bdl N 6480000000000000000) (h : ftC D N (if A = 0 then 1 else 0) r1) (g : ftM D N A r2) : r1 = r2 := by
  have e100 : (100 * D).toInt = 100 * D.toInt := la_mul (A := 100) rfl (by decide) rfl (by omega) (by omega)
  unfold bdl at hN
  rcases h with ⟨h1, h2⟩ | ⟨h1, c, h2, h3⟩
  · rcases g with ⟨g1, g2⟩ | ⟨g1, _⟩
    · rw [h2, g2]
    · omega
  · rcases g with ⟨g1, g2⟩ | ⟨g1, x, y, g2, g3, g4⟩
    · omega
    · have en : (lab N).toInt = (N.toInt.natAbs : Int) := by
        unfold lab
        by_cases z : 0 < N
        · have z' := (fa_lt64 _ _).mp z
          have z0 : (0 : Int64).toInt = 0 := by decide
          rw [if_pos z]
          omega
        · have z0 : (0 : Int64).toInt = 0 := by decide
          have z' : N.toInt ≤ 0 := by
            by_cases q : 0 < N.toInt
            · exact absurd ((fa_lt64 _ _).mpr (by omega)) z
            · omega
          rw [if_neg z, la_neg (x := -N) rfl rfl (by omega)]
          omega
      have ec := h2 (by omega) (by omega)
      have eg := g2 (by omega) (by omega)
      have en2 : (lab N).toInt.toNat = N.toInt.natAbs := by omega
      have ed : (100 * D).toInt.toNat = (100 * D).toInt.natAbs := by omega
      rw [en2, ed, Nat.gcd_comm] at ec
      have exc : x = c := (fa_eq64 x c).mpr (by rw [ec, eg])
      have eyx : y = x := by
        rcases g3 with ⟨q, _⟩ | ⟨_, q⟩
        · omega
        · exact q
      subst exc
      subst eyx
      have pos : 0 < y.toInt := by
        rw [eg]
        have : 0 < N.toInt.natAbs.gcd (100 * D).toInt.natAbs := Nat.gcd_pos_of_pos_right _ (by omega)
        omega
      rcases h3 with ⟨q, _⟩ | ⟨_, q⟩
      · omega
      · by_cases z : A = 0
        · rw [if_pos z] at q
          rcases q with ⟨q1, _⟩ | ⟨_, q2⟩
          · omega
          · rcases g4 with ⟨_, p2⟩ | ⟨p1, _⟩
            · rw [q2, p2]
            · exact absurd z p1
        · rw [if_neg z] at q
          rcases q with ⟨_, q2⟩ | ⟨q1, _⟩
          · rcases g4 with ⟨p1, _⟩ | ⟨_, p2⟩
            · exact absurd p1 z
            · rw [q2, p2]
          · omega
