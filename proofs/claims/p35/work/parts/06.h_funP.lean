/-- m is the least of F over the members of S below n -/
def isM (F : Nat → Int) (S n : Nat) (m : Int) : Prop := (∃ q, q < n ∧ S.testBit q = true ∧ m = F q) ∧ ∀ q, q < n → S.testBit q = true → m ≤ F q
/-- q is the first member of S below n with the least F -/
def isF (F : Nat → Int) (S n q : Nat) : Prop := (q < n ∧ S.testBit q = true) ∧ (∀ p, p < n → S.testBit p = true → F q ≤ F p) ∧ ∀ p, p < q → S.testBit p = true → F q < F p
theorem isM_u {F G : Nat → Int} {S n : Nat} {m m' : Int} (hc : ∀ q, q < n → S.testBit q = true → F q = G q) (h : isM F S n m) (g : isM G S n m') : m = m' := by
  obtain ⟨⟨q, a, b, c⟩, d⟩ := h
  obtain ⟨⟨p, a', b', c'⟩, d'⟩ := g
  have h1 := d p a' b'
  have h2 := d' q a b
  rw [hc p a' b'] at h1
  rw [← hc q a b] at h2
  omega
theorem isM_cg {F G : Nat → Int} {S n : Nat} {m : Int} (hc : ∀ q, q < n → S.testBit q = true → F q = G q) (h : isM F S n m) : isM G S n m := by
  obtain ⟨⟨q, a, b, c⟩, d⟩ := h
  exact ⟨⟨q, a, b, by rw [c, hc q a b]⟩, fun p hp hb => by rw [← hc p hp hb]; exact d p hp hb⟩
theorem isF_u {F G : Nat → Int} {S n q p : Nat} (hc : ∀ q, q < n → S.testBit q = true → F q = G q) (h : isF F S n q) (g : isF G S n p) : q = p := by
  obtain ⟨⟨a, b⟩, c, d⟩ := h
  obtain ⟨⟨a', b'⟩, c', d'⟩ := g
  have e1 := hc q a b
  have e2 := hc p a' b'
  rcases Nat.lt_trichotomy q p with z | z | z
  · have h1 := c p a' b'
    have h2 := d' q z b
    omega
  · exact z
  · have h1 := c' q a b
    have h2 := d p z b'
    omega
theorem isF_cg {F G : Nat → Int} {S n q : Nat} (hc : ∀ q, q < n → S.testBit q = true → F q = G q) (h : isF F S n q) : isF G S n q := by
  obtain ⟨⟨a, b⟩, c, d⟩ := h
  refine ⟨⟨a, b⟩, fun p hp hb => ?_, fun p hp hb => ?_⟩
  · rw [← hc q a b, ← hc p hp hb]; exact c p hp hb
  · rw [← hc q a b, ← hc p (by omega) hb]; exact d p hp hb
theorem isF_M {F : Nat → Int} {S n q : Nat} (h : isF F S n q) : isM F S n (F q) := ⟨⟨q, h.1.1, h.1.2, rfl⟩, h.2.1⟩
/-- a member taken out -/
theorem rm_tab : ∀ S, S < 512 → ∀ Q, Q < 9 → S.testBit Q = true → S - 2 ^ Q = S ^^^ 2 ^ Q := by decide +kernel
theorem rm_bit {S q : Nat} (hS : S < 512) (hq : q < 9) (h : S.testBit q = true) (p : Nat) : (S - 2 ^ q).testBit p = (S.testBit p && decide (p ≠ q)) := by
  rw [rm_tab S hS q hq h, Nat.testBit_xor, Nat.testBit_two_pow]
  by_cases e : p = q
  · subst e
    simp [h]
  · simp [e, Ne.symm e]
theorem rm_lt {S q : Nat} (h : S.testBit q = true) : S - 2 ^ q < S := by
  have h1 := Nat.ge_two_pow_of_testBit h
  have h2 : 0 < 2 ^ q := Nat.two_pow_pos q
  omega
def sbS (S A : Nat) : Prop := ∀ q, S.testBit q = true → A.testBit q = true
def okT (n A S f : Nat) : Prop := (S ≠ 0 ∧ S < 512) ∧ sbS S A ∧ (f < n ∧ A.testBit f = true ∧ S.testBit f = false)
theorem ok_rm {n A S q : Nat} (hn : n ≤ 9) (hS : S < 512) (hs : sbS S A) (hq : q < n) (hb : S.testBit q = true) : S - 2 ^ q = 0 ∨ okT n A (S - 2 ^ q) q := by
  by_cases z : S - 2 ^ q = 0
  · exact Or.inl z
  · have lt := rm_lt hb
    refine Or.inr ⟨⟨z, by omega⟩, fun p hp => ?_, hq, hs q hb, ?_⟩
    · rw [rm_bit hS (by omega) hb] at hp
      simp at hp
      exact hs p hp.1
    · rw [rm_bit hS (by omega) hb]
      simp
/-- T holds the least sums through the sets within A -/
def gTb (c : Nat → Nat → Int) (n A : Nat) (T : Nat → Nat → Int) : Prop := (∀ f, f < n → T 0 f = 0) ∧ ∀ S f, okT n A S f → isM (fun q => c f q + T (S - 2 ^ q) q) S n (T S f)
def cEq (c c' : Nat → Nat → Int) (n : Nat) : Prop := ∀ f q, (f < n ∨ f = 9) → q < n → f ≠ q → c f q = c' f q
theorem gT_u {c c' : Nat → Nat → Int} {n A : Nat} {T T' : Nat → Nat → Int} (hn : n ≤ 9) (hc : cEq c c' n) (h : gTb c n A T) (g : gTb c' n A T') : ∀ k S f : Nat, S ≤ k → ((S = 0 ∧ f < n) ∨ okT n A S f) → T S f = T' S f := by
  intro k
  induction k with
  | zero =>
    intro S f hS ho
    have : S = 0 := by omega
    subst this
    rcases ho with ⟨_, a⟩ | a
    · rw [h.1 f a, g.1 f a]
    · exact absurd rfl a.1.1
  | succ k ih =>
    intro S f hS ho
    rcases ho with ⟨a, b⟩ | a
    · subst a
      rw [h.1 f b, g.1 f b]
    · refine isM_u (fun q hq hb => ?_) (h.2 S f a) (g.2 S f a)
      have ne : f ≠ q := fun e => by
        have z := a.2.2.2.2
        rw [e, hb] at z
        cases z
      have lt := rm_lt hb
      show c f q + T (S - 2 ^ q) q = c' f q + T' (S - 2 ^ q) q
      rw [hc f q (Or.inl a.2.2.1) hq ne, ih (S - 2 ^ q) q (by omega) ((ok_rm hn a.1.2 a.2.1 hq hb).imp (fun z => ⟨z, hq⟩) id)]
theorem T_eq {c c' : Nat → Nat → Int} {n A : Nat} {T T' : Nat → Nat → Int} (hn : n ≤ 9) (hc : cEq c c' n) (h : gTb c n A T) (g : gTb c' n A T') {S q : Nat} (hS : S < 512) (hs : sbS S A) (hq : q < n) (hb : S.testBit q = true) : T (S - 2 ^ q) q = T' (S - 2 ^ q) q := gT_u hn hc h g _ _ _ (Nat.le_refl _) ((ok_rm hn hS hs hq hb).imp (fun z => ⟨z, hq⟩) id)
theorem sbS_rf {A : Nat} : sbS A A := fun _ h => h
def ltT (c : Nat → Nat → Int) (n A : Nat) (T : Nat → Nat → Int) (L : Int) : Prop := (A = 0 ∧ L = 0) ∨ (A ≠ 0 ∧ isM (fun q => c 9 q + T (A - 2 ^ q) q) A n L)
theorem lt_u {c c' : Nat → Nat → Int} {n A : Nat} {T T' : Nat → Nat → Int} {L L' : Int} (hn : n ≤ 9) (hA : A < 512) (hc : cEq c c' n) (h : gTb c n A T) (g : gTb c' n A T') (a : ltT c n A T L) (b : ltT c' n A T' L') : L = L' := by
  rcases a with ⟨a1, a2⟩ | ⟨a1, a2⟩ <;> rcases b with ⟨b1, b2⟩ | ⟨b1, b2⟩
  · omega
  · exact absurd a1 b1
  · exact absurd b1 a1
  · refine isM_u (fun q hq hb => ?_) a2 b2
    show c 9 q + T (A - 2 ^ q) q = c' 9 q + T' (A - 2 ^ q) q
    rw [hc 9 q (Or.inr rfl) hq (by omega), T_eq hn hc h g hA sbS_rf hq hb]
/-- the sets and the places along a row -/
def stG (row : Nat → Nat) (A : Nat) : Nat → Nat
  | 0 => A
  | k + 1 => stG row A k - 2 ^ row k
def frG (row : Nat → Nat) : Nat → Nat
  | 0 => 9
  | k + 1 => row k
def grR (c : Nat → Nat → Int) (n A : Nat) (T : Nat → Nat → Int) (row : Nat → Nat) (m : Nat) : Prop := ∀ k, k < m → isF (fun q => c (frG row k) q + T (stG row A k - 2 ^ q) q) (stG row A k) n (row k)
def stO (n A S f : Nat) : Prop := S < 512 ∧ sbS S A ∧ (f = 9 ∨ (f < n ∧ A.testBit f = true ∧ S.testBit f = false))
theorem stO_0 {n A : Nat} (hA : A < 512) : stO n A A 9 := ⟨hA, sbS_rf, Or.inl rfl⟩
theorem stO_st {n A S f q : Nat} (hn : n ≤ 9) (h : stO n A S f) (hq : q < n) (hb : S.testBit q = true) : stO n A (S - 2 ^ q) q := by
  have lt := rm_lt hb
  refine ⟨by have := h.1; omega, fun p hp => ?_, Or.inr ⟨hq, h.2.1 q hb, ?_⟩⟩
  · rw [rm_bit h.1 (by omega) hb] at hp
    simp at hp
    exact h.2.1 p hp.1
  · rw [rm_bit h.1 (by omega) hb]
    simp
theorem gro_ {c : Nat → Nat → Int} {n A : Nat} {T : Nat → Nat → Int} {row : Nat → Nat} {m : Nat} (hn : n ≤ 9) (hA : A < 512) (h : grR c n A T row m) : ∀ k, k ≤ m → stO n A (stG row A k) (frG row k)
  | 0, _ => stO_0 hA
  | k + 1, hk => stO_st hn (gro_ hn hA h k (by omega)) (h k (by omega)).1.1 (h k (by omega)).1.2
theorem F_eq {c c' : Nat → Nat → Int} {n A : Nat} {T T' : Nat → Nat → Int} (hn : n ≤ 9) (hc : cEq c c' n) (h : gTb c n A T) (g : gTb c' n A T') {S f : Nat} (o : stO n A S f) : ∀ q, q < n → S.testBit q = true → c f q + T (S - 2 ^ q) q = c' f q + T' (S - 2 ^ q) q := by
  intro q hq hb
  have ne : f ≠ q := by
    rcases o.2.2 with e | e
    · omega
    · intro z
      rw [z, hb] at e
      exact absurd e.2.2 (by decide)
  have fo : f < n ∨ f = 9 := by
    rcases o.2.2 with e | e
    · exact Or.inr e
    · exact Or.inl e.1
  rw [hc f q fo hq ne, T_eq hn hc h g o.1 o.2.1 hq hb]
theorem gr_u {c c' : Nat → Nat → Int} {n A : Nat} {T T' : Nat → Nat → Int} {row row' : Nat → Nat} {m m' : Nat} (hn : n ≤ 9) (hA : A < 512) (hc : cEq c c' n) (h : gTb c n A T) (g : gTb c' n A T') (a : grR c n A T row m) (b : grR c' n A T' row' m') : ∀ k, k ≤ m → k ≤ m' → (stG row A k = stG row' A k ∧ frG row k = frG row' k) := by
  intro k
  induction k with
  | zero => intro _ _; exact ⟨rfl, rfl⟩
  | succ k ih =>
    intro h1 h2
    obtain ⟨e1, e2⟩ := ih (by omega) (by omega)
    have i1 := a k (by omega)
    have i2 := b k (by omega)
    rw [← e1, ← e2] at i2
    have e : row k = row' k := isF_u (F_eq hn hc h g (gro_ hn hA a k (by omega))) i1 i2
    refine ⟨?_, e⟩
    show stG row A k - 2 ^ row k = stG row' A k - 2 ^ row' k
    rw [e1, e]
theorem gr_row {c c' : Nat → Nat → Int} {n A : Nat} {T T' : Nat → Nat → Int} {row row' : Nat → Nat} {m m' : Nat} (hn : n ≤ 9) (hA : A < 512) (hc : cEq c c' n) (h : gTb c n A T) (g : gTb c' n A T') (a : grR c n A T row m) (b : grR c' n A T' row' m') {k : Nat} (h1 : k < m) (h2 : k < m') : row k = row' k := (gr_u hn hA hc h g a b (k + 1) h1 h2).2
/-- how many members -/
def pcN (S : Nat) : Nat → Nat
  | 0 => 0
  | k + 1 => pcN S k + if S.testBit k then 1 else 0
theorem pc_rm : ∀ S, S < 512 → ∀ Q, Q < 9 → S.testBit Q = true → pcN (S - 2 ^ Q) 9 + 1 = pcN S 9 := by decide +kernel
theorem pc_0 : ∀ S, S < 512 → pcN S 9 = 0 → S = 0 := by decide +kernel
theorem pc_9 : ∀ S, S < 512 → pcN S 9 ≤ 9 := by decide +kernel
theorem pc_z : pcN 0 9 = 0 := by decide
theorem pc_st {c : Nat → Nat → Int} {n A : Nat} {T : Nat → Nat → Int} {row : Nat → Nat} {m : Nat} (hn : n ≤ 9) (hA : A < 512) (h : grR c n A T row m) : ∀ k, k ≤ m → pcN (stG row A k) 9 + k = pcN A 9
  | 0, _ => rfl
  | k + 1, hk => by
    have i := pc_st hn hA h k (by omega)
    have o := gro_ hn hA h k (by omega)
    have f := h k (by omega)
    have r := pc_rm (stG row A k) o.1 (row k) (by have := f.1.1; omega) f.1.2
    show pcN (stG row A k - 2 ^ row k) 9 + (k + 1) = pcN A 9
    omega
/-- the open places -/
def opN (f : Nat → Int32) : Nat → Nat
  | 0 => 0
  | k + 1 => opN f k + if (f k).toInt = 0 then 2 ^ k else 0
theorem opN_lt (f : Nat → Int32) : ∀ n : Nat, opN f n < 2 ^ n
  | 0 => Nat.zero_lt_one
  | n + 1 => by
    have := opN_lt f n
    show opN f n + (if (f n).toInt = 0 then 2 ^ n else 0) < 2 ^ (n + 1)
    rw [Nat.pow_succ]
    split <;> omega
theorem opN_9 (f : Nat → Int32) {n : Nat} (h : n ≤ 9) : opN f n < 512 := by
  have a := opN_lt f n
  have b : 2 ^ n ≤ 2 ^ 9 := Nat.pow_le_pow_right (by decide) h
  omega
theorem opN_cg {f g : Nat → Int32} : ∀ n : Nat, (∀ k, k < n → ((f k).toInt = 0 ↔ (g k).toInt = 0)) → opN f n = opN g n
  | 0, _ => rfl
  | n + 1, h => by
    show opN f n + (if (f n).toInt = 0 then 2 ^ n else 0) = opN g n + (if (g n).toInt = 0 then 2 ^ n else 0)
    rw [opN_cg n (fun k hk => h k (by omega))]
    by_cases q : (f n).toInt = 0
    · rw [if_pos q, if_pos ((h n (by omega)).mp q)]
    · rw [if_neg q, if_neg (fun z => q ((h n (by omega)).mpr z))]
theorem mem_lt {S n q : Nat} (h : S < 2 ^ n) (hb : S.testBit q = true) : q < n := by
  rcases Nat.lt_or_ge q n with z | z
  · exact z
  · have h1 := Nat.ge_two_pow_of_testBit hb
    have h2 : 2 ^ n ≤ 2 ^ q := Nat.pow_le_pow_right (by decide) z
    omega
theorem sb_lt {S A n : Nat} (h : sbS S A) (hA : A < 2 ^ n) : S < 2 ^ n := by
  refine Nat.lt_pow_two_of_testBit _ (fun i hi => ?_)
  cases e : S.testBit i
  · rfl
  · have := mem_lt hA (h i e)
    omega
theorem an_sb {S A : Nat} : S &&& A = S ↔ sbS S A := by
  constructor
  · intro e q hq
    have := congrArg (fun z : Nat => z.testBit q) e
    simp only [Nat.testBit_and] at this
    rw [hq] at this
    simpa using this
  · intro h
    refine Nat.eq_of_testBit_eq (fun i => ?_)
    rw [Nat.testBit_and]
    cases e : S.testBit i
    · rfl
    · rw [h i e]; rfl
theorem sb_le {S A : Nat} (h : sbS S A) : S ≤ A := by
  have := an_sb.mpr h
  rw [← this]
  exact Nat.and_le_right
theorem mem_of {S n : Nat} (h : S ≠ 0) (hn : S < 2 ^ n) : ∃ q, q < n ∧ S.testBit q = true := by
  obtain ⟨i, hi⟩ := Nat.exists_testBit_of_ne_zero h
  exact ⟨i, mem_lt hn hi, hi⟩
/-- rows that agree so far -/
theorem st_cg {row row' : Nat → Nat} {A : Nat} : ∀ m : Nat, (∀ k, k < m → row' k = row k) → stG row' A m = stG row A m ∧ frG row' m = frG row m
  | 0, _ => ⟨rfl, rfl⟩
  | m + 1, h => by
    have i := st_cg (A := A) m (fun k hk => h k (by omega))
    refine ⟨?_, h m (by omega)⟩
    show stG row' A m - 2 ^ row' m = stG row A m - 2 ^ row m
    rw [i.1, h m (by omega)]
theorem gr_st {c : Nat → Nat → Int} {n A : Nat} {T : Nat → Nat → Int} {row row' : Nat → Nat} {m S f : Nat} (h : grR c n A T row m) (hs : stG row A m = S) (hf : frG row m = f) (he : ∀ k, k < m → row' k = row k) (hi : isF (fun q => c f q + T (S - 2 ^ q) q) S n (row' m)) : grR c n A T row' (m + 1) ∧ stG row' A (m + 1) = S - 2 ^ row' m ∧ frG row' (m + 1) = row' m := by
  have e := st_cg (A := A) m he
  refine ⟨fun k hk => ?_, ?_, rfl⟩
  · by_cases q : k = m
    · subst q
      rw [e.1, e.2, hs, hf]
      exact hi
    · have e' := st_cg (A := A) k (fun j hj => he j (by omega))
      rw [e'.1, e'.2, he k (by omega)]
      exact h k (by omega)
  · show stG row' A m - 2 ^ row' m = S - 2 ^ row' m
    rw [e.1, hs]
def grE (c : Nat → Nat → Int) (n A : Nat) (T : Nat → Nat → Int) (k S f : Nat) : Prop := ∃ row, grR c n A T row k ∧ stG row A k = S ∧ frG row k = f
def grX (c : Nat → Nat → Int) (n A : Nat) (T : Nat → Nat → Int) (i : Nat) (r : Int) : Prop := (∃ row, grR c n A T row (i + 1) ∧ (row i : Int) = r) ∨ (∃ row m, m ≤ i ∧ grR c n A T row m ∧ stG row A m = 0 ∧ r = -4)
theorem grE_0 {c : Nat → Nat → Int} {n A : Nat} {T : Nat → Nat → Int} {k S f : Nat} (hk : k = 0) (hS : S = A) (hf : f = 9) : grE c n A T k S f := by
  subst hk
  subst hS
  subst hf
  exact ⟨fun _ => 0, fun k hk => by omega, rfl, rfl⟩
theorem gr_ex {c : Nat → Nat → Int} {n A : Nat} {T : Nat → Nat → Int} {k S f q : Nat} (h : grE c n A T k S f) (hi : isF (fun q => c f q + T (S - 2 ^ q) q) S n q) : ∃ row, grR c n A T row (k + 1) ∧ stG row A (k + 1) = S - 2 ^ q ∧ row k = q := by
  obtain ⟨row, a, b, e⟩ := h
  have := gr_st (row' := fun j => if j = k then q else row j) a b e (fun j hj => if_neg (by omega)) (by simpa using hi)
  refine ⟨_, this.1, ?_, if_pos rfl⟩
  rw [this.2.1]
  show S - 2 ^ (if k = k then q else row k) = _
  rw [if_pos rfl]
theorem grE_st {c : Nat → Nat → Int} {n A : Nat} {T : Nat → Nat → Int} {k k' S S' f q : Nat} (h : grE c n A T k S f) (hi : isF (fun q => c f q + T (S - 2 ^ q) q) S n q) (hk : k' = k + 1) (hS : S' = S - 2 ^ q) : grE c n A T k' S' q := by
  subst hk
  subst hS
  obtain ⟨row, a, b, e⟩ := gr_ex h hi
  exact ⟨row, a, b, e⟩
theorem grX_i {c : Nat → Nat → Int} {n A : Nat} {T : Nat → Nat → Int} {k S f q : Nat} {r : Int} {i : Nat} (h : grE c n A T k S f) (hi : isF (fun q => c f q + T (S - 2 ^ q) q) S n q) (hk : k = i) (hr : r = (q : Int)) : grX c n A T i r := by
  subst hk
  obtain ⟨row, a, b, e⟩ := gr_ex h hi
  exact Or.inl ⟨row, a, by rw [e, hr]⟩
theorem grX_n {c : Nat → Nat → Int} {n A : Nat} {T : Nat → Nat → Int} {k S f : Nat} {r : Int} {i : Nat} (h : grE c n A T k S f) (hS : S = 0) (hk : k ≤ i) (hr : r = -4) : grX c n A T i r := by
  obtain ⟨row, a, b, e⟩ := h
  exact Or.inr ⟨row, k, hk, a, by rw [b, hS], hr⟩
/-- planned: p members, the row in v 79 -/
theorem pl_row {c c' : Nat → Nat → Int} {n A : Nat} {T T' : Nat → Nat → Int} {row : Nat → Nat} {i : Nat} {r : Int} (hn : n ≤ 9) (hA : A < 512) (hc : cEq c c' n) (h : gTb c n A T) (g : gTb c' n A T') (a : grR c n A T row (pcN A 9)) (b : grX c' n A T' i r) : (i < pcN A 9 ∧ r = (row i : Int)) ∨ (pcN A 9 ≤ i ∧ r = -4) := by
  rcases b with ⟨row', b1, b2⟩ | ⟨row', m, b1, b2, b3, b4⟩
  · have p := pc_st hn hA b1 (i + 1) (Nat.le_refl _)
    refine Or.inl ⟨by omega, ?_⟩
    rw [gr_row hn hA hc h g a b1 (k := i) (by omega) (by omega), b2]
  · have p := pc_st hn hA b2 m (Nat.le_refl _)
    rw [b3, pc_z] at p
    exact Or.inr ⟨by omega, b4⟩
theorem gT_cc {c c' : Nat → Nat → Int} {n A : Nat} {T : Nat → Nat → Int} (hc : cEq c c' n) (h : gTb c n A T) : gTb c' n A T := by
  refine ⟨h.1, fun S f o => isM_cg (fun q hq hb => ?_) (h.2 S f o)⟩
  have ne : f ≠ q := fun e => by
    have := o.2.2.2.2
    rw [e, hb] at this
    cases this
  show c f q + T (S - 2 ^ q) q = c' f q + T (S - 2 ^ q) q
  rw [hc f q (Or.inl o.2.2.1) hq ne]
theorem lt_cc {c c' : Nat → Nat → Int} {n A : Nat} {T : Nat → Nat → Int} {L : Int} (hc : cEq c c' n) (hn : n ≤ 9) (h : ltT c n A T L) : ltT c' n A T L := by
  rcases h with h | ⟨h1, h2⟩
  · exact Or.inl h
  · refine Or.inr ⟨h1, isM_cg (fun q hq hb => ?_) h2⟩
    show c 9 q + T (A - 2 ^ q) q = c' 9 q + T (A - 2 ^ q) q
    rw [hc 9 q (Or.inr rfl) hq (by omega)]
theorem gr_cc {c c' : Nat → Nat → Int} {n A : Nat} {T : Nat → Nat → Int} {row : Nat → Nat} {m : Nat} (hn : n ≤ 9) (hA : A < 512) (hc : cEq c c' n) (h : grR c n A T row m) : grR c' n A T row m := by
  intro k hk
  have o := gro_ hn hA h k (by omega)
  refine isF_cg (fun q hq hb => ?_) (h k hk)
  have ne : frG row k ≠ q := by
    rcases o.2.2 with e | e
    · omega
    · intro z
      have := e.2.2
      rw [z, hb] at this
      cases this
  have fo : frG row k < n ∨ frG row k = 9 := by
    rcases o.2.2 with e | e
    · exact Or.inr e
    · exact Or.inl e.1
  show c (frG row k) q + T (stG row A k - 2 ^ q) q = c' (frG row k) q + T (stG row A k - 2 ^ q) q
  rw [hc _ q fo hq ne]
