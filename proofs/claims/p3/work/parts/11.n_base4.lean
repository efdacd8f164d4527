def lsI (v : Nat → Nat → Int32) (s l : Nat) : Int := if s = 0 then 0 else (v 126 (9 * s + l)).toInt
def csI (v : Nat → Nat → Int32) (last : Int) (q : Nat) : Int := if last = -4 then mvI 0 0 (v 123 q).toInt (v 124 q).toInt else mvI (v 123 last.toNat).toInt (v 124 last.toNat).toInt (v 123 q).toInt (v 124 q).toInt
theorem nI_of3 {x : Int32} {X : Int} (h : x.toInt = X) (h0 : 0 ≤ X) : x = nI X.toNat := by
  obtain ⟨j, hj, rfl⟩ := nI_of (x := x) (by rw [fa_lt]; intro q; have : (0 : Int32).toInt = 0 := (by decide); omega)
  rw [nI_toInt hj] at h
  subst h
  rw [Int.toNat_natCast]
theorem bit_tab : ∀ S, S < 512 → ∀ Q, Q < 9 → ((nI S >>> (nI Q &&& 31)) &&& 1).toInt = (if S.testBit Q then 1 else 0) := by decide +kernel
theorem pow_tab : ∀ Q, Q < 10 → ((1 : Int32) <<< (nI Q &&& 31)).toInt = ((2 ^ Q : Nat) : Int) := by decide +kernel
def pw2 (n : Int) : Int := ((2 ^ n.toNat : Nat) : Int)
theorem pw2_tab : ∀ Q, Q < 10 → 1 ≤ 2 ^ Q ∧ 2 ^ Q ≤ 512 := by decide +kernel
theorem pw2_b {n : Int} (h : 0 ≤ n ∧ n ≤ 9) : 1 ≤ pw2 n ∧ pw2 n ≤ 512 := by
  have := pw2_tab n.toNat (by omega)
  unfold pw2
  omega
theorem pw2_b8 {n : Int} (h : 0 ≤ n ∧ n ≤ 8) : 1 ≤ pw2 n ∧ pw2 n ≤ 256 := by
  have e : ∀ Q, Q < 9 → 1 ≤ 2 ^ Q ∧ 2 ^ Q ≤ 256 := by decide +kernel
  have := e n.toNat (by omega)
  unfold pw2
  omega
theorem pw2_s {n : Int} (h : 0 ≤ n) : pw2 (n + 1) = 2 * pw2 n := by
  unfold pw2
  have : (n + 1).toNat = n.toNat + 1 := by omega
  rw [this, Nat.pow_succ]
  omega
theorem pw2_0 {n : Int} (h : n = 0) : pw2 n = 1 := by subst h; rfl
theorem pw2_mono {n m : Int} (h : n ≤ m) : pw2 n ≤ pw2 m := by
  unfold pw2
  have := Nat.pow_le_pow_right (n := 2) (by decide) (show n.toNat ≤ m.toNat by omega)
  omega
theorem bit_of {xa xb p q : Int32} (ea : xa = p >>> (q &&& 31)) (eb : xb = xa &&& 1) {P Q : Int} (hp : p.toInt = P) (hq : q.toInt = Q) (h1 : 0 ≤ P ∧ P ≤ 511) (h2 : 0 ≤ Q ∧ Q ≤ 8) : xb.toInt = if P.toNat.testBit Q.toNat then 1 else 0 := by
  rw [eb, ea, nI_of3 hp h1.1, nI_of3 hq h2.1]
  exact bit_tab P.toNat (by omega) Q.toNat (by omega)
theorem pow_of {x q : Int32} (e : x = 1 <<< (q &&& 31)) {Q : Int} (hq : q.toInt = Q) (h2 : 0 ≤ Q ∧ Q ≤ 9) : x.toInt = pw2 Q := by
  rw [e, nI_of3 hq h2.1]
  exact pow_tab Q.toNat (by omega)
theorem bit_t {x : Int} {b : Bool} (h : x = if b = true then 1 else 0) (hx : x = 1) : b = true := by
  cases b
  · simp at h; omega
  · rfl
theorem bit_f {x : Int} {b : Bool} (h : x = if b = true then 1 else 0) (hx : x ≠ 1) : b = false := by
  cases b
  · rfl
  · simp at h; omega
theorem bit_f0 {x : Int} {b : Bool} (h : x = if b = true then 1 else 0) (hx : x = 0) : b = false := bit_f h (by omega)
theorem bit_t0 {x : Int} {b : Bool} (h : x = if b = true then 1 else 0) (hx : x ≠ 0) : b = true := by
  cases b
  · simp at h; omega
  · rfl
theorem bit_le {S : Int} {Q : Int} (h0 : 0 ≤ S) (h : S.toNat.testBit Q.toNat = true) : pw2 Q ≤ S := by
  have := Nat.ge_two_pow_of_testBit h
  unfold pw2
  omega
/-- leasts below n, and of n below l0, are known -/
def Lq (v : Nat → Nat → Int32) (P n l0 : Int) : Prop := ∀ s l : Nat, 1 ≤ s → ((s : Int) < n ∨ ((s : Int) = n ∧ (l : Int) < l0)) → (l : Int) < P → 0 ≤ (v 126 (9 * s + l)).toInt ∧ (v 126 (9 * s + l)).toInt ≤ 99 * s
theorem lsI_b {v : Nat → Nat → Int32} {P n : Int} (h : Lq v P n 0) {s l : Nat} (hs : (s : Int) < n) (hl : (l : Int) < P) : 0 ≤ lsI v s l ∧ lsI v s l ≤ 99 * s := by
  unfold lsI
  by_cases e : s = 0
  · simp [e]
  · rw [if_neg e]
    exact h s l (by omega) (Or.inl hs) hl
def exB (v : Nat → Nat → Int32) (S : Nat) (last n b : Int) : Prop := ∃ k : Nat, (k : Int) < n ∧ S.testBit k = true ∧ b = csI v last k + lsI v (S - 2 ^ k) k
def noB (S : Nat) (n : Int) : Prop := ∀ k : Nat, (k : Int) < n → S.testBit k = false
def bsI (v : Nat → Nat → Int32) (S : Nat) (last n b : Int) : Prop := (b = -4 ∧ noB S n) ∨ ((0 ≤ b ∧ b ≤ 99 * (S : Int)) ∧ exB v S last n b)
theorem bsI_0 {v : Nat → Nat → Int32} {S : Nat} {last n b : Int} (hn : n ≤ 0) (hb : b = -4) : bsI v S last n b := Or.inl ⟨hb, fun k hk => by omega⟩
theorem bsI.cast {v : Nat → Nat → Int32} {S : Nat} {last n n' b : Int} (h : bsI v S last n b) (e : n = n') : bsI v S last n' b := e ▸ h
theorem bsI.skip {v : Nat → Nat → Int32} {S : Nat} {last n b : Int} (h : bsI v S last n b) (h0 : 0 ≤ n) (hb : S.testBit n.toNat = false) : bsI v S last (n + 1) b := by
  rcases h with ⟨h1, h2⟩ | ⟨h1, k, h2, h3⟩
  · refine Or.inl ⟨h1, fun k hk => ?_⟩
    by_cases e : k = n.toNat
    · rw [e]; exact hb
    · exact h2 k (by omega)
  · exact Or.inr ⟨h1, k, by omega, h3⟩
theorem bsI.keep {v : Nat → Nat → Int32} {S : Nat} {last n b : Int} (h : bsI v S last n b) (hb : b ≠ -4) : bsI v S last (n + 1) b := by
  rcases h with ⟨h1, h2⟩ | ⟨h1, k, h2, h3⟩
  · exact absurd h1 hb
  · exact Or.inr ⟨h1, k, by omega, h3⟩
theorem bsI_new {v : Nat → Nat → Int32} {S : Nat} {last n b : Int} (h0 : 0 ≤ n) (hb : S.testBit n.toNat = true) (h1 : 0 ≤ b ∧ b ≤ 99 * (S : Int)) (h2 : b = csI v last n.toNat + lsI v (S - 2 ^ n.toNat) n.toNat) : bsI v S last (n + 1) b := Or.inr ⟨h1, n.toNat, by omega, hb, h2⟩
theorem bsI_end0 {v : Nat → Nat → Int32} {S : Nat} {last n n' b : Int} (h : bsI v S last n b) (hn : n' ≤ n) (hb : b = -4) {r S' : Int} (hr : r = 0) (hS : 0 ≤ S') : (0 ≤ r ∧ r ≤ 99 * S') ∧ (noB S n' ∨ exB v S last n' r) := by
  rcases h with ⟨h1, h2⟩ | ⟨h1, h2⟩
  · exact ⟨by omega, Or.inl fun k hk => h2 k (by omega)⟩
  · omega
theorem bsI_end1 {v : Nat → Nat → Int32} {S : Nat} {last n n' b : Int} (h : bsI v S last n b) (hn : n = n') (hb : b ≠ -4) {S' : Int} (hS : (S : Int) = S') : (0 ≤ b ∧ b ≤ 99 * S') ∧ (noB S n' ∨ exB v S last n' b) := by
  subst hn
  rcases h with ⟨h1, h2⟩ | ⟨h1, h2⟩
  · exact absurd h1 hb
  · exact ⟨by omega, Or.inr h2⟩
theorem ls_cast {v : Nat → Nat → Int32} {S Q x : Int} (hx : x = pw2 Q) (hle : pw2 Q ≤ S) (h0 : 0 ≤ S) : lsI v (S - x).toNat Q.toNat = lsI v (S.toNat - 2 ^ Q.toNat) Q.toNat := by
  have : (S - x).toNat = S.toNat - 2 ^ Q.toNat := by
    subst hx
    unfold pw2 at *
    omega
  rw [this]
theorem noB_not {S P : Int} (h0 : 0 < S) (hP : S < pw2 P) (h : noB S.toNat P) : False := by
  obtain ⟨i, hi⟩ := Nat.exists_testBit_of_ne_zero (x := S.toNat) (by omega)
  have h1 := Nat.ge_two_pow_of_testBit hi
  have h2 : i < P.toNat := by
    rcases Nat.lt_or_ge i P.toNat with q | q
    · exact q
    · have := Nat.pow_le_pow_right (n := 2) (by decide) q
      unfold pw2 at hP
      omega
  have := h i (by omega)
  rw [hi] at this
  cases this
theorem Lq.st {v : Nat → Nat → Int32} {P n l0 : Int} {i x : Int32} (h : Lq v P n l0) (hi : i.toInt = 9 * n + l0) (hn : 1 ≤ n) (hl : 0 ≤ l0 ∧ l0 ≤ 8) (hP : P ≤ 9) (hx : 0 ≤ x.toInt ∧ x.toInt ≤ 99 * n) {l1 : Int} (h1 : l1 = l0 + 1) : Lq (gu v 126 i.toNatClampNeg x) P n l1 := by
  intro s l hs hb hlP
  have hc := cl_of hi (by omega)
  rw [gu_s]
  by_cases e : 9 * s + l = i.toNatClampNeg
  · simp only [va_up, if_pos e]
    have : (s : Int) = n := by omega
    omega
  · simp only [va_up, if_neg e]
    refine h s l hs ?_ hlP
    rcases hb with q | ⟨q, q2⟩
    · exact Or.inl q
    · refine Or.inr ⟨q, ?_⟩
      omega
theorem Lq.next {v : Nat → Nat → Int32} {P n l0 : Int} (h : Lq v P n l0) (hl : P ≤ l0) {n1 : Int} (hn : n1 = n + 1) {z : Int} (hz : z = 0) : Lq v P n1 z := by
  intro s l hs hb hlP
  refine h s l hs ?_ hlP
  omega
theorem Lq.le {v : Nat → Nat → Int32} {P n : Int} (h : Lq v P n 0) {m : Int} (hm : m ≤ n) {z : Int} (hz : z ≤ 0) : Lq v P m z := by
  intro s l hs hb hlP
  refine h s l hs ?_ hlP
  omega
theorem bit_ne {S : Nat} {Y : Int} {k0 : Nat} (h0 : 0 ≤ Y ∧ Y ≤ k0) (hb : S.testBit Y.toNat = false) (hk : S.testBit k0 = true) : Y + 1 ≤ k0 := by
  by_cases e : Y.toNat = k0
  · rw [e, hk] at hb; cases hb
  · omega
theorem val_ne {f : Nat → Int} {a w Y : Int} {k0 : Nat} (ha : a = f Y.toNat) (hw : w = f k0) (h0 : 0 ≤ Y ∧ Y ≤ k0) (hne : a ≠ w) : Y + 1 ≤ k0 := by
  by_cases e : Y.toNat = k0
  · rw [e] at ha; exact absurd (ha.trans hw.symm) hne
  · omega
theorem Lq.drop {v : Nat → Nat → Int32} {P n l0 : Int} (h : Lq v P n l0) (hl : 0 ≤ l0) : Lq v P n 0 := by
  intro s l hs hb hlP
  refine h s l hs ?_ hlP
  omega
