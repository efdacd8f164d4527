def lsI (v : Nat → Nat → Int32) (s l : Nat) : Int := if s = 0 then 0 else (v 126 (9 * s + l)).toInt
def csI (v : Nat → Nat → Int32) (last : Int) (q : Nat) : Int := if last = -4 then mvI 0 0 (v 123 q).toInt (v 124 q).toInt else mvI (v 123 last.toNat).toInt (v 124 last.toNat).toInt (v 123 q).toInt (v 124 q).toInt
theorem nI_of3 {x : Int32} {X : Int} (h : x.toInt = X) (h0 : 0 ≤ X) : x = nI X.toNat := by
  obtain ⟨j, hj, rfl⟩ := nI_of (x := x) (by rw [fa_lt]; intro q; have : (0 : Int32).toInt = 0 := (by decide); omega)
  rw [nI_toInt hj] at h
  subst h
  rw [Int.toNat_natCast]
theorem bit_tab : ∀ S, S < 512 → ∀ Q, Q < 9 → ((nI S >>> (nI Q &&& 31)) &&& 1).toInt = (if S.testBit Q then 1 else 0) := by decide +kernel
theorem pow_tab : ∀ Q, Q < 10 → ((1 : Int32) <<< (nI Q &&& 31)).toInt = ((2 ^ Q : Nat) : Int) := by decide +kernel
def pw2 (n : Int) : Int := ((2 ^ n.toNat : Nat) : Int)
theorem pw2_tab : ∀ Q, Q < 10 → 1 ≤ 2 ^ Q ∧ 2 ^ Q ≤ 512 := by decide +kernel
theorem pw2_b {n : Int} (h : 0 ≤ n ∧ n ≤ 9) : 1 ≤ pw2 n ∧ pw2 n ≤ 512 := by
  have := pw2_tab n.toNat (by omega)
  unfold pw2
  omega
theorem pw2_b8 {n : Int} (h : 0 ≤ n ∧ n ≤ 8) : 1 ≤ pw2 n ∧ pw2 n ≤ 256 := by
  have e : ∀ Q, Q < 9 → 1 ≤ 2 ^ Q ∧ 2 ^ Q ≤ 256 := by decide +kernel
  have := e n.toNat (by omega)
  unfold pw2
  omega
theorem pw2_s {n : Int} (h : 0 ≤ n) : pw2 (n + 1) = 2 * pw2 n := by
  unfold pw2
  have : (n + 1).toNat = n.toNat + 1 := by omega
  rw [this, Nat.pow_succ]
  omega
theorem pw2_0 {n : Int} (h : n = 0) : pw2 n = 1 := by subst h; rfl
theorem pw2_mono {n m : Int} (h : n ≤ m) : pw2 n ≤ pw2 m := by
  unfold pw2
  have := Nat.pow_le_pow_right (n := 2) (by decide) (show n.toNat ≤ m.toNat by omega)
  omega
theorem bit_of {xa xb p q : Int32} (ea : xa = p >>> (q &&& 31)) (eb : xb = xa &&& 1) {P Q : Int} (hp : p.toInt = P) (hq : q.toInt = Q) (h1 : 0 ≤ P ∧ P ≤ 511) (h2 : 0 ≤ Q ∧ Q ≤ 8) : xb.toInt = if P.toNat.testBit Q.toNat then 1 else 0 := by
  rw [eb, ea, nI_of3 hp h1.1, nI_of3 hq h2.1]
  exact bit_tab P.toNat (by omega) Q.toNat (by omega)
theorem pow_of {x q : Int32} (e : x = 1 <<< (q &&& 31)) {Q : Int} (hq : q.toInt = Q) (h2 : 0 ≤ Q ∧ Q ≤ 9) : x.toInt = pw2 Q := by
  rw [e, nI_of3 hq h2.1]
  exact pow_tab Q.toNat (by omega)
theorem bit_t {x : Int} {b : Bool} (h : x = if b = true then 1 else 0) (hx : x = 1) : b = true := by
  cases b
  · simp at h; omega
  · rfl
theorem bit_f {x : Int} {b : Bool} (h : x = if b = true then 1 else 0) (hx : x ≠ 1) : b = false := by
  cases b
  · rfl
  · simp at h; omega
theorem bit_f0 {x : Int} {b : Bool} (h : x = if b = true then 1 else 0) (hx : x = 0) : b = false := bit_f h (by omega)
theorem bit_t0 {x : Int} {b : Bool} (h : x = if b = true then 1 else 0) (hx : x ≠ 0) : b = true := by
  cases b
  · simp at h; omega
  · rfl
theorem bit_le {S : Int} {Q : Int} (h0 : 0 ≤ S) (h : S.toNat.testBit Q.toNat = true) : pw2 Q ≤ S := by
  have := Nat.ge_two_pow_of_testBit h
  unfold pw2
  omega
/-- leasts below n, and of n below l0, are known -/
def Lq (v : Nat → Nat → Int32) (P n l0 : Int) : Prop := ∀ s l : Nat, 1 ≤ s → ((s : Int) < n ∨ ((s : Int) = n ∧ (l : Int) < l0)) → (l : Int) < P → 0 ≤ (v 126 (9 * s + l)).toInt ∧ (v 126 (9 * s + l)).toInt ≤ 99 * s
theorem lsI_b {v : Nat → Nat → Int32} {P n : Int} (h : Lq v P n 0) {s l : Nat} (hs : (s : Int) < n) (hl : (l : Int) < P) : 0 ≤ lsI v s l ∧ lsI v s l ≤ 99 * s := by
  unfold lsI
  by_cases e : s = 0
  · simp [e]
  · rw [if_neg e]
    exact h s l (by omega) (Or.inl hs) hl
def FMo (v : Nat → Nat → Int32) (S : Nat) (last : Int) (k : Nat) : Int := csI v last k + lsI v (S - 2 ^ k) k
def exB (v : Nat → Nat → Int32) (S : Nat) (last n b : Int) : Prop := isM (FMo v S last) S n.toNat b
def noB (S : Nat) (n : Int) : Prop := ∀ k : Nat, (k : Int) < n → S.testBit k = false
def bsI (v : Nat → Nat → Int32) (S : Nat) (last n b : Int) : Prop := (b = -4 ∧ noB S n) ∨ ((0 ≤ b ∧ b ≤ 99 * (S : Int)) ∧ exB v S last n b)
theorem bsI_0 {v : Nat → Nat → Int32} {S : Nat} {last n b : Int} (hn : n ≤ 0) (hb : b = -4) : bsI v S last n b := Or.inl ⟨hb, fun k hk => by omega⟩
theorem bsI.cast {v : Nat → Nat → Int32} {S : Nat} {last n n' b : Int} (h : bsI v S last n b) (e : n = n') : bsI v S last n' b := e ▸ h
theorem bsI.skip {v : Nat → Nat → Int32} {S : Nat} {last n b : Int} (h : bsI v S last n b) (h0 : 0 ≤ n) (hb : S.testBit n.toNat = false) : bsI v S last (n + 1) b := by
  rcases h with ⟨h1, h2⟩ | ⟨h1, ⟨k, h2, h3, h4⟩, h5⟩
  · refine Or.inl ⟨h1, fun k hk => ?_⟩
    by_cases e : k = n.toNat
    · rw [e]; exact hb
    · exact h2 k (by omega)
  · refine Or.inr ⟨h1, ⟨k, by omega, h3, h4⟩, fun q hq hbq => ?_⟩
    by_cases e : q = n.toNat
    · rw [e, hb] at hbq; cases hbq
    · exact h5 q (by omega) hbq
theorem bsI.keep {v : Nat → Nat → Int32} {S : Nat} {last n b : Int} (h : bsI v S last n b) (h0 : 0 ≤ n) (hb : b ≠ -4) (hle : b ≤ FMo v S last n.toNat) : bsI v S last (n + 1) b := by
  rcases h with ⟨h1, h2⟩ | ⟨h1, ⟨k, h2, h3, h4⟩, h5⟩
  · exact absurd h1 hb
  · refine Or.inr ⟨h1, ⟨k, by omega, h3, h4⟩, fun q hq hbq => ?_⟩
    by_cases e : q = n.toNat
    · rw [e]; exact hle
    · exact h5 q (by omega) hbq
theorem bsI_new {v : Nat → Nat → Int32} {S : Nat} {last n b b0 : Int} (h : bsI v S last n b0) (hlt : b0 = -4 ∨ b < b0) (h0 : 0 ≤ n) (hb : S.testBit n.toNat = true) (h1 : 0 ≤ b ∧ b ≤ 99 * (S : Int)) (h2 : b = FMo v S last n.toNat) : bsI v S last (n + 1) b := by
  refine Or.inr ⟨h1, ⟨n.toNat, by omega, hb, h2⟩, fun q hq hbq => ?_⟩
  by_cases e : q = n.toNat
  · rw [e, h2]; exact Int.le_refl _
  · rcases h with ⟨_, g⟩ | ⟨g0, _, g⟩
    · have := g q (by omega)
      rw [this] at hbq
      cases hbq
    · have := g q (by omega) hbq
      omega
theorem bsI_end0 {v : Nat → Nat → Int32} {S : Nat} {last n n' b : Int} (h : bsI v S last n b) (hn : n' ≤ n) (hb : b = -4) {r S' : Int} (hr : r = 0) (hS : 0 ≤ S') : (0 ≤ r ∧ r ≤ 99 * S') ∧ ((noB S n' ∧ r = 0) ∨ exB v S last n' r) := by
  rcases h with ⟨h1, h2⟩ | ⟨h1, h2⟩
  · exact ⟨by omega, Or.inl ⟨fun k hk => h2 k (by omega), hr⟩⟩
  · omega
theorem bsI_end1 {v : Nat → Nat → Int32} {S : Nat} {last n n' b : Int} (h : bsI v S last n b) (hn : n = n') (hb : b ≠ -4) {S' : Int} (hS : (S : Int) = S') : (0 ≤ b ∧ b ≤ 99 * S') ∧ ((noB S n' ∧ b = 0) ∨ exB v S last n' b) := by
  subst hn
  rcases h with ⟨h1, h2⟩ | ⟨h1, h2⟩
  · exact absurd h1 hb
  · exact ⟨by omega, Or.inr h2⟩
theorem ls_cast {v : Nat → Nat → Int32} {S Q x : Int} (hx : x = pw2 Q) (hle : pw2 Q ≤ S) (h0 : 0 ≤ S) : lsI v (S - x).toNat Q.toNat = lsI v (S.toNat - 2 ^ Q.toNat) Q.toNat := by
  have : (S - x).toNat = S.toNat - 2 ^ Q.toNat := by
    subst hx
    unfold pw2 at *
    omega
  rw [this]
theorem noB_not {S P : Int} (h0 : 0 < S) (hP : S < pw2 P) (h : noB S.toNat P) : False := by
  obtain ⟨i, hi⟩ := Nat.exists_testBit_of_ne_zero (x := S.toNat) (by omega)
  have h1 := Nat.ge_two_pow_of_testBit hi
  have h2 : i < P.toNat := by
    rcases Nat.lt_or_ge i P.toNat with q | q
    · exact q
    · have := Nat.pow_le_pow_right (n := 2) (by decide) q
      unfold pw2 at hP
      omega
  have := h i (by omega)
  rw [hi] at this
  cases this
theorem Lq.st {v : Nat → Nat → Int32} {P n l0 : Int} {i x : Int32} (h : Lq v P n l0) (hi : i.toInt = 9 * n + l0) (hn : 1 ≤ n) (hl : 0 ≤ l0 ∧ l0 ≤ 8) (hP : P ≤ 9) (hx : 0 ≤ x.toInt ∧ x.toInt ≤ 99 * n) {l1 : Int} (h1 : l1 = l0 + 1) : Lq (gu v 126 i.toNatClampNeg x) P n l1 := by
  intro s l hs hb hlP
  have hc := cl_of hi (by omega)
  rw [gu_s]
  by_cases e : 9 * s + l = i.toNatClampNeg
  · simp only [va_up, if_pos e]
    have : (s : Int) = n := by omega
    omega
  · simp only [va_up, if_neg e]
    refine h s l hs ?_ hlP
    rcases hb with q | ⟨q, q2⟩
    · exact Or.inl q
    · refine Or.inr ⟨q, ?_⟩
      omega
theorem Lq.next {v : Nat → Nat → Int32} {P n l0 : Int} (h : Lq v P n l0) (hl : P ≤ l0) {n1 : Int} (hn : n1 = n + 1) {z : Int} (hz : z = 0) : Lq v P n1 z := by
  intro s l hs hb hlP
  refine h s l hs ?_ hlP
  omega
theorem Lq.le {v : Nat → Nat → Int32} {P n : Int} (h : Lq v P n 0) {m : Int} (hm : m ≤ n) {z : Int} (hz : z ≤ 0) : Lq v P m z := by
  intro s l hs hb hlP
  refine h s l hs ?_ hlP
  omega
theorem bit_ne {S : Nat} {Y : Int} {k0 : Nat} (h0 : 0 ≤ Y ∧ Y ≤ k0) (hb : S.testBit Y.toNat = false) (hk : S.testBit k0 = true) : Y + 1 ≤ k0 := by
  by_cases e : Y.toNat = k0
  · rw [e, hk] at hb; cases hb
  · omega
theorem val_ne {f : Nat → Int} {a w Y : Int} {k0 : Nat} (ha : a = f Y.toNat) (hw : w = f k0) (h0 : 0 ≤ Y ∧ Y ≤ k0) (hne : a ≠ w) : Y + 1 ≤ k0 := by
  by_cases e : Y.toNat = k0
  · rw [e] at ha; exact absurd (ha.trans hw.symm) hne
  · omega
theorem Lq.drop {v : Nat → Nat → Int32} {P n l0 : Int} (h : Lq v P n l0) (hl : 0 ≤ l0) : Lq v P n 0 := by
  intro s l hs hb hlP
  refine h s l hs ?_ hlP
  omega
/-- the leasts are exact -/
def TM (v : Nat → Nat → Int32) (P S0 l0 : Int) : Prop := ∀ s l : Nat, 1 ≤ s → ((s : Int) < S0 ∨ ((s : Int) = S0 ∧ (l : Int) < l0)) → (l : Int) < P → isM (FMo v s (l : Int)) s P.toNat (lsI v s l)
theorem ls_up {v : Nat → Nat → Int32} {i : Nat} {x : Int32} {s l : Nat} (h : s ≠ 0 → 9 * s + l ≠ i) : lsI (gu v 126 i x) s l = lsI v s l := by
  unfold lsI
  by_cases e : s = 0
  · rw [if_pos e, if_pos e]
  · rw [if_neg e, if_neg e, gu_n (Or.inr (h e))]
theorem cs_up {v : Nat → Nat → Int32} {i : Nat} {x : Int32} {l : Int} {q : Nat} : csI (gu v 126 i x) l q = csI v l q := by
  unfold csI
  rw [gu_o (by decide), gu_o (by decide)]
theorem TM.st {v : Nat → Nat → Int32} {P n l0 : Int} {i x : Int32} (h : TM v P n l0) (hi : i.toInt = 9 * n + l0) (hn : 1 ≤ n) (hl : 0 ≤ l0 ∧ l0 ≤ 8) (hP : P ≤ 9) (hx : isM (FMo v n.toNat l0) n.toNat P.toNat x.toInt) {l1 : Int} (h1 : l1 = l0 + 1) : TM (gu v 126 i.toNatClampNeg x) P n l1 := by
  intro s l hs hb hlP
  have hc := cl_of hi (by omega)
  have sm : ∀ q, q < P.toNat → s.testBit q = true → FMo (gu v 126 i.toNatClampNeg x) s (l : Int) q = FMo v s (l : Int) q := by
    intro q hq hbq
    have lt := rm_lt hbq
    unfold FMo
    rw [cs_up, ls_up (by omega)]
  by_cases e : s = n.toNat ∧ (l : Int) = l0
  · have el : lsI (gu v 126 i.toNatClampNeg x) s l = x.toInt := by
      unfold lsI
      rw [if_neg (by omega), gu_y2 (by omega)]
    rw [el]
    refine isM_cg (fun q hq hbq => (sm q hq hbq).symm) ?_
    rw [e.1, e.2]
    exact hx
  · rw [ls_up (by omega)]
    exact isM_cg (fun q hq hbq => (sm q hq hbq).symm) (h s l hs (by omega) hlP)
theorem TM.next {v : Nat → Nat → Int32} {P n l0 : Int} (h : TM v P n l0) (hl : P ≤ l0) {n1 : Int} (hn : n1 = n + 1) {z : Int} (hz : z = 0) : TM v P n1 z := by
  intro s l hs hb hlP
  exact h s l hs (by omega) hlP
theorem TM.le {v : Nat → Nat → Int32} {P n : Int} (h : TM v P n 0) {m : Int} (hm : m ≤ n) {z : Int} (hz : z ≤ 0) : TM v P m z := by
  intro s l hs hb hlP
  exact h s l hs (by omega) hlP
theorem exB_of {v : Nat → Nat → Int32} {S P r last : Int} (h0 : 0 < S) (hP : S < pw2 P) (h : (noB S.toNat P ∧ r = 0) ∨ exB v S.toNat last P r) : isM (FMo v S.toNat last) S.toNat P.toNat r := by
  rcases h with ⟨q, _⟩ | q
  · exact (noB_not h0 hP q).elim
  · exact q
def cM (v : Nat → Nat → Int32) (f q : Nat) : Int := csI v (if f = 9 then -4 else (f : Int)) q
theorem cM_f {v : Nat → Nat → Int32} {f q : Nat} (h : f ≠ 9) : cM v f q = csI v (f : Int) q := by unfold cM; rw [if_neg h]
theorem cM_9 {v : Nat → Nat → Int32} {q : Nat} : cM v 9 q = csI v (-4) q := by unfold cM; rw [if_pos rfl]
theorem gT_m {v : Nat → Nat → Int32} {P : Int} {A : Nat} (h : TM v P (pw2 P) 0) (hP : 0 ≤ P ∧ P ≤ 9) (hA : (A : Int) < pw2 P) : gTb (cM v) P.toNat A (lsI v) := by
  refine ⟨fun f _ => by unfold lsI; rw [if_pos rfl], fun S f o => ?_⟩
  have hS : S < 2 ^ P.toNat := sb_lt o.2.1 (by unfold pw2 at hA; omega)
  have := h S f (by have := o.1.1; omega) (Or.inl (by unfold pw2; omega)) (by have := o.2.2.1; omega)
  refine isM_cg (fun q hq hb => ?_) this
  show FMo v S (f : Int) q = cM v f q + lsI v (S - 2 ^ q) q
  rw [cM_f (by have := o.2.2.1; omega)]
  rfl
theorem lt_m {v : Nat → Nat → Int32} {P r A : Int} (hP : 0 ≤ A ∧ A < pw2 P) (h : (noB A.toNat P ∧ r = 0) ∨ exB v A.toNat (-4) P r) : ltT (cM v) P.toNat A.toNat (lsI v) r := by
  by_cases z : A = 0
  · refine Or.inl ⟨by omega, ?_⟩
    rcases h with ⟨_, q⟩ | ⟨⟨q, _, b, _⟩, _⟩
    · exact q
    · rw [z] at b
      simp at b
  · refine Or.inr ⟨by omega, isM_cg (fun q hq hb => ?_) (exB_of (by omega) hP.2 h)⟩
    show FMo v A.toNat (-4) q = cM v 9 q + lsI v (A.toNat - 2 ^ q) q
    rw [cM_9]
    rfl
theorem op_st {f : Nat → Int32} {k : Nat} {i x : Int32} {I X : Int} (e : x = f i.toNatClampNeg) (hi : i.toInt = I) (h0 : 0 ≤ I) (hk : k = I.toNat) (h : ((x.toInt ≠ 0 ∧ X = 0) ∨ (x.toInt = 0 ∧ X = pw2 I))) : (opN f k : Int) + X = (opN f (k + 1) : Int) := by
  have hc := cl_nat hi
  show (opN f k : Int) + X = ((opN f k + (if (f k).toInt = 0 then 2 ^ k else 0) : Nat) : Int)
  rw [hk]
  rw [hc] at e
  rw [← e]
  rcases h with ⟨a, b⟩ | ⟨a, b⟩
  · rw [if_neg a]; omega
  · rw [if_pos a, b]; unfold pw2; omega
/-- the search for the first place -/
def ltP (v : Nat → Nat → Int32) (S : Nat) (last w n : Int) : Prop := ∀ p : Nat, (p : Int) < n → S.testBit p = true → w < FMo v S last p
theorem ltP_0 {v : Nat → Nat → Int32} {S : Nat} {last w : Int} : ltP v S last w 0 := fun p h => by omega
theorem ltP.no {v : Nat → Nat → Int32} {S : Nat} {last w n n' : Int} (h : ltP v S last w n) (h0 : 0 ≤ n) (hn : n' = n + 1) (hb : S.testBit n.toNat = false) : ltP v S last w n' := fun p hp b => by
  by_cases e : p = n.toNat
  · rw [e, hb] at b; cases b
  · exact h p (by omega) b
theorem ltP.ne {v : Nat → Nat → Int32} {S : Nat} {last w n n' a P : Int} (h : ltP v S last w n) (hm : isM (FMo v S last) S P.toNat w) (h0 : 0 ≤ n) (hn : n' = n + 1) (hP : n < P) (ha : a = FMo v S last n.toNat) (hne : a ≠ w) : ltP v S last w n' := fun p hp b => by
  by_cases e : p = n.toNat
  · rw [e]
    rw [e] at b
    have := hm.2 n.toNat (by omega) b
    omega
  · exact h p (by omega) b
theorem isF_m {v : Nat → Nat → Int32} {S f : Nat} {last w a Q P : Int} (h : ltP v S last w Q) (hm : isM (FMo v S last) S P.toNat w) (hQ : 0 ≤ Q ∧ Q < P) (hb : S.testBit Q.toNat = true) (ha : a = FMo v S last Q.toNat) (he : a = w) (hf : last = if f = 9 then -4 else (f : Int)) : isF (fun q => cM v f q + lsI v (S - 2 ^ q) q) S P.toNat Q.toNat := by
  have e : ∀ q, cM v f q + lsI v (S - 2 ^ q) q = FMo v S last q := fun q => by
    unfold FMo cM
    rw [hf]
  refine ⟨⟨by omega, hb⟩, fun p hp b => ?_, fun p hp b => ?_⟩
  · show cM v f Q.toNat + lsI v (S - 2 ^ Q.toNat) Q.toNat ≤ cM v f p + lsI v (S - 2 ^ p) p
    rw [e, e, ← ha, he]
    exact hm.2 p hp b
  · show cM v f Q.toNat + lsI v (S - 2 ^ Q.toNat) Q.toNat < cM v f p + lsI v (S - 2 ^ p) p
    rw [e, e, ← ha, he]
    exact h p (by omega) b
def lsF (last : Int) : Nat := if last = -4 then 9 else last.toNat
theorem lsF_e {last : Int} (h : last = -4 ∨ (0 ≤ last ∧ last ≤ 8)) : last = if lsF last = 9 then -4 else (lsF last : Int) := by
  unfold lsF
  by_cases e : last = -4
  · rw [if_pos e, if_pos rfl]; exact e
  · rw [if_neg e, if_neg (by omega)]; omega
theorem lsF_n {last : Int} (h : 0 ≤ last) : lsF last = last.toNat := by
  unfold lsF
  rw [if_neg (by omega)]
theorem lsF_4 {last : Int} (h : last = -4) : lsF last = 9 := by
  unfold lsF
  rw [if_pos h]
