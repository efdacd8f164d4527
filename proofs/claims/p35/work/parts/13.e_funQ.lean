theorem in_tab : ∀ S, S < 512 → ∀ Q, Q < 9 → (nI S &&& ((1 : Int32) <<< (nI Q &&& 31))).toInt = (if S.testBit Q then ((2 ^ Q : Nat) : Int) else 0) := by decide +kernel
theorem in_of {xa xb p q : Int32} (ea : xa = 1 <<< (q &&& 31)) (eb : xb = p &&& xa) {P Q : Int} (hp : p.toInt = P) (hq : q.toInt = Q) (h1 : 0 ≤ P ∧ P ≤ 511) (h2 : 0 ≤ Q ∧ Q ≤ 8) : (xb.toInt ≠ 0 ∧ P.toNat.testBit Q.toNat = true) ∨ (xb.toInt = 0 ∧ P.toNat.testBit Q.toNat = false) := by
  have t : xb.toInt = (if P.toNat.testBit Q.toNat then ((2 ^ Q.toNat : Nat) : Int) else 0) := by
    rw [eb, ea, nI_of3 hp h1.1, nI_of3 hq h2.1]
    exact in_tab P.toNat (by omega) Q.toNat (by omega)
  cases h : P.toNat.testBit Q.toNat
  · rw [h] at t
    exact Or.inr ⟨by simpa using t, rfl⟩
  · rw [h] at t
    have := pw2_tab Q.toNat (by omega)
    simp only [if_true] at t
    exact Or.inl ⟨by omega, rfl⟩
theorem rmx_tab : ∀ S, S < 512 → ∀ Q, Q < 9 → S.testBit Q = true → (nI S &&& (((1 : Int32) <<< (nI Q &&& 31)) ^^^ (-1))).toInt = ((S - 2 ^ Q : Nat) : Int) := by decide +kernel
theorem rm_of {xa xb xc p q : Int32} (ea : xa = 1 <<< (q &&& 31)) (eb : xb = xa ^^^ (-1)) (ec : xc = p &&& xb) {P Q : Int} (hp : p.toInt = P) (hq : q.toInt = Q) (h1 : 0 ≤ P ∧ P ≤ 511) (h2 : 0 ≤ Q ∧ Q ≤ 8) (hb : P.toNat.testBit Q.toNat = true) : xc.toInt = ((P.toNat - 2 ^ Q.toNat : Nat) : Int) := by
  rw [ec, eb, ea, nI_of3 hp h1.1, nI_of3 hq h2.1]
  exact rmx_tab P.toNat (by omega) Q.toNat (by omega) hb
theorem bv_bit {z : Int32} {Z : Int} (h : z.toInt = Z) (h0 : 0 ≤ Z) (q : Nat) : z.toBitVec.getLsbD q = Z.toNat.testBit q := by
  have e : z.toBitVec.toNat = Z.toNat := by
    have t : z.toBitVec.toInt = Z := h
    rw [BitVec.toInt_eq_toNat_cond] at t
    have l := z.toBitVec.isLt
    split at t <;> omega
  rw [← e, BitVec.testBit_toNat]
theorem nd_of {y x a s : Int32} (e1 : y = s ^^^ (-1)) (e2 : x = a &&& y) {A S : Int} (hs : s.toInt = S) (ha : a.toInt = A) (h1 : 0 ≤ S) (h2 : 0 ≤ A) (hx : 0 ≤ x.toInt) {q : Nat} (hq : q < 9) : x.toInt.toNat.testBit q = (A.toNat.testBit q && !S.toNat.testBit q) := by
  rw [← bv_bit rfl hx q, ← bv_bit ha h2 q, ← bv_bit hs h1 q, e2, e1]
  show (a.toBitVec &&& (s.toBitVec ^^^ (-1 : Int32).toBitVec)).getLsbD q = _
  rw [BitVec.getLsbD_and, BitVec.getLsbD_xor]
  have o : (-1 : Int32).toBitVec.getLsbD q = true := by
    have : (-1 : Int32).toBitVec = BitVec.allOnes 32 := by decide
    rw [this, BitVec.getLsbD_allOnes]
    simp
    omega
  rw [o, Bool.xor_true]
theorem nd_t {X a b : Bool} (h : X = (a && !b)) (hx : X = true) : a = true ∧ b = false := by
  cases a <;> cases b <;> simp_all
theorem nd_f {X a b : Bool} (h : X = (a && !b)) (hx : X = false) : a = false ∨ b = true := by
  cases a <;> cases b <;> simp_all
def anI (x S A : Int) : Prop := x = S ↔ sbS S.toNat A.toNat
theorem anI_t {x S A : Int} (h : anI x S A) (e : x = S) : sbS S.toNat A.toNat := h.mp e
theorem anI_f {x S A : Int} (h : anI x S A) (e : ¬ x = S) : ¬ sbS S.toNat A.toNat := fun q => e (h.mpr q)
theorem anI_lt {x S A : Int} (h : anI x S A) (e : ¬ x = S) (hle : S ≤ A) : S < A := by
  by_cases z : S = A
  · subst z; exact absurd (h.mpr sbS_rf) e
  · omega
theorem and_sb {x a b : Int32} (e : x = a &&& b) {S A : Int} (ha : a.toInt = S) (hb : b.toInt = A) (h1 : 0 ≤ S ∧ S ≤ 511) (h2 : 0 ≤ A ∧ A ≤ 511) : anI x.toInt S A := by
  have t : x.toInt = ((S.toNat &&& A.toNat : Nat) : Int) := by
    rw [e, nI_of3 ha h1.1, nI_of3 hb h2.1, fa_and]
    have : S.toNat &&& A.toNat ≤ S.toNat := Nat.and_le_left
    rw [nI_toInt (by omega)]
  unfold anI
  rw [← an_sb, t]
  omega
theorem bc_tab2 : ∀ S, S < 512 → (bcF (nI S)).toInt = ((pcN S 9 : Nat) : Int) := by decide +kernel
theorem bc_e {x : Int32} {X : Int} (h : x.toInt = X) (h0 : 0 ≤ X ∧ X ≤ 511) : (bcF x).toInt = ((pcN X.toNat 9 : Nat) : Int) := by
  rw [nI_of3 h h0.1]
  exact bc_tab2 X.toNat (by omega)
theorem or_op {f : Nat → Int32} {x a b y : Int32} {k : Nat} {A B : Int} (e : x = a ||| b) (ha : a.toInt = A) (hb : b.toInt = B) (hA : A = (opN f k : Int)) {I : Int} (hk : k ≤ 8) (hy : y = f k) (hI : k = I.toNat) (h : (y.toInt ≠ 0 ∧ B = 0) ∨ (y.toInt = 0 ∧ B = pw2 I)) : x.toInt = (opN f (k + 1) : Int) := by
  have l := opN_lt f k
  have l2 := pw2_tab k (by omega)
  show x.toInt = ((opN f k + (if (f k).toInt = 0 then 2 ^ k else 0) : Nat) : Int)
  rw [← hy]
  rcases h with ⟨h1, h2⟩ | ⟨h1, h2⟩
  · rw [if_neg h1, e, nI_of3 ha (by omega), nI_of3 hb (by omega), fa_or, h2]
    show (nI (A.toNat ||| 0)).toInt = _
    rw [Nat.or_zero, nI_toInt (by omega)]
    omega
  · have h2' : B = ((2 ^ k : Nat) : Int) := by rw [h2, hI]; rfl
    have bn : B.toNat = 2 ^ k := by rw [h2']; exact Int.toNat_natCast _
    rw [if_pos h1, e, nI_of3 ha (by omega), nI_of3 hb (by omega), fa_or, show A.toNat = opN f k by omega, bn, Nat.or_two_pow_eq_add_of_lt l, nI_toInt (by omega)]
/-- the class's costs and its table -/
def cC (v : Nat → Nat → Int32) (f q : Nat) : Int := (v (69 + f) q).toInt
def tC (v : Nat → Nat → Int32) (S f : Nat) : Int := (v 82 (10 * S + f)).toInt
def FC (v : Nat → Nat → Int32) (f S q : Nat) : Int := cC v f q + tC v (S - 2 ^ q) q
def mvB (v : Nat → Nat → Int32) : Prop := ∀ f q : Nat, ((f : Int) < (v 66 0).toInt ∨ f = 9) → (q : Int) < (v 66 0).toInt → 0 ≤ cC v f q ∧ cC v f q ≤ 99
def z82 (v : Nat → Nat → Int32) : Prop := ∀ f, f < 10 → v 82 f = 0
def flH (v : Nat → Nat → Int32) (f S : Nat) : Prop := ∀ q : Nat, (q : Int) < (v 66 0).toInt → S.testBit q = true → (0 ≤ cC v f q ∧ cC v f q ≤ 99) ∧ (0 ≤ tC v (S - 2 ^ q) q ∧ tC v (S - 2 ^ q) q ≤ 99 * ((S - 2 ^ q : Nat) : Int)) ∧ S < 512
theorem fc_of {v : Nat → Nat → Int32} {f S q : Nat} {r : Int32} (hF : flH v f S) (hp : r = v (69 + f) q + v 82 (10 * (S - 2 ^ q) + q)) (hq : (q : Int) < (v 66 0).toInt) (hb : S.testBit q = true) : r.toInt = FC v f S q := by
  have h := hF q hq hb
  have l := rm_lt hb
  exact ia_add hp rfl rfl (by omega) (by omega)
theorem fc_b {v : Nat → Nat → Int32} {f S q : Nat} (hF : flH v f S) (hq : (q : Int) < (v 66 0).toInt) (hb : S.testBit q = true) : 0 ≤ FC v f S q ∧ FC v f S q ≤ 99 * (S : Int) ∧ FC v f S q < 2147483647 := by
  have h := hF q hq hb
  have l := rm_lt hb
  unfold FC
  omega
def flS (v : Nat → Nat → Int32) (f S : Nat) (p s : Int) : Prop := (S.testBit p.toNat = true ∧ s = FC v f S p.toNat) ∨ (S.testBit p.toNat = false ∧ s = 2147483647)
def flI (v : Nat → Nat → Int32) (f S : Nat) (p best least : Int) : Prop := (least = 2147483647 ∧ noB S p) ∨ (least = FC v f S best.toNat ∧ (0 ≤ best ∧ best < p) ∧ S.testBit best.toNat = true ∧ (∀ q : Nat, (q : Int) < p → S.testBit q = true → least ≤ FC v f S q) ∧ ∀ q : Nat, (q : Int) < best → S.testBit q = true → least < FC v f S q)
theorem flI_0 {v : Nat → Nat → Int32} {f S : Nat} {p best least : Int} (hp : p = 0) (hl : least = 2147483647) : flI v f S p best least := Or.inl ⟨hl, fun k hk => by omega⟩
theorem flI.keep {v : Nat → Nat → Int32} {f S : Nat} {p p' best least s : Int} (h : flI v f S p best least) (hs : flS v f S p s) (hF : flH v f S) (h0 : 0 ≤ p ∧ p < (v 66 0).toInt) (hp : p' = p + 1) (hge : least ≤ s) : flI v f S p' best least := by
  rcases hs with ⟨s1, s2⟩ | ⟨s1, s2⟩
  · have b := fc_b hF (q := p.toNat) (by omega) s1
    rcases h with ⟨a, _⟩ | ⟨a1, a2, a3, a4, a5⟩
    · omega
    · refine Or.inr ⟨a1, by omega, a3, fun q hq hb => ?_, a5⟩
      by_cases e : q = p.toNat
      · rw [e]; omega
      · exact a4 q (by omega) hb
  · rcases h with ⟨a, a2⟩ | ⟨a1, a2, a3, a4, a5⟩
    · refine Or.inl ⟨a, fun q hq => ?_⟩
      by_cases e : q = p.toNat
      · rw [e]; exact s1
      · exact a2 q (by omega)
    · refine Or.inr ⟨a1, by omega, a3, fun q hq hb => ?_, a5⟩
      by_cases e : q = p.toNat
      · rw [e, s1] at hb; cases hb
      · exact a4 q (by omega) hb
theorem flI.new {v : Nat → Nat → Int32} {f S : Nat} {p p' best least s : Int} (h : flI v f S p best least) (hs : flS v f S p s) (hF : flH v f S) (h0 : 0 ≤ p ∧ p < (v 66 0).toInt) (hp : p' = p + 1) (hlt : s < least) : flI v f S p' p s := by
  rcases hs with ⟨s1, s2⟩ | ⟨s1, s2⟩
  · refine Or.inr ⟨s2, by omega, s1, fun q hq hb => ?_, fun q hq hb => ?_⟩
    · by_cases e : q = p.toNat
      · rw [e, s2]; exact Int.le_refl _
      · rcases h with ⟨_, a⟩ | ⟨a1, a2, a3, a4, a5⟩
        · have := a q (by omega); rw [this] at hb; cases hb
        · have := a4 q (by omega) hb; omega
    · rcases h with ⟨_, a⟩ | ⟨a1, a2, a3, a4, a5⟩
      · have := a q (by omega); rw [this] at hb; cases hb
      · have := a4 q (by omega) hb; omega
  · rcases h with ⟨a, _⟩ | ⟨a1, a2, a3, a4, a5⟩
    · omega
    · have := fc_b hF (q := best.toNat) (by omega) a3; omega
theorem fl_end {v : Nat → Nat → Int32} {f S : Nat} {p best least n : Int} (h : flI v f S p best least) (hp : p = n) : noB S n ∨ isF (FC v f S) S n.toNat best.toNat := by
  subst hp
  rcases h with ⟨_, a⟩ | ⟨a1, a2, a3, a4, a5⟩
  · exact Or.inl a
  · refine Or.inr ⟨⟨by omega, a3⟩, fun q hq hb => ?_, fun q hq hb => ?_⟩
    · rw [← a1]; exact a4 q (by omega) hb
    · rw [← a1]; exact a5 q (by omega) hb
theorem fl_F {F : Nat → Int} {S q : Nat} {n : Int} (h : noB S n ∨ isF F S n.toNat q) (h0 : S ≠ 0) (hS : S < 2 ^ n.toNat) : isF F S n.toNat q := by
  rcases h with a | a
  · obtain ⟨i, h1, h2⟩ := mem_of h0 hS
    have := a i (by omega)
    rw [this] at h2
    cases h2
  · exact a
/-- the table is exact below S0, and at S0 below f0 -/
def RT (c : Nat → Nat → Int) (n A : Nat) (T : Nat → Nat → Int) (S0 f0 : Nat) : Prop := ∀ S f, okT n A S f → (S < S0 ∨ (S = S0 ∧ f < f0)) → isM (fun q => c f q + T (S - 2 ^ q) q) S n (T S f) ∧ (0 ≤ T S f ∧ T S f ≤ 99 * (S : Int))
theorem RT_1 {c : Nat → Nat → Int} {n A : Nat} {T : Nat → Nat → Int} {s : Nat} (hs : s = 1) : RT c n A T s 0 := fun S f o h => by
  have := o.1.1
  omega
theorem RT.next {c : Nat → Nat → Int} {n A : Nat} {T : Nat → Nat → Int} {S f S' : Nat} (h : RT c n A T S f) (hf : n ≤ f) (hS : S' = S + 1) : RT c n A T S' 0 := fun s g o q => h s g o (by have := o.2.2.1; omega)
theorem RT.skipS {c : Nat → Nat → Int} {n A : Nat} {T : Nat → Nat → Int} {S S' : Nat} (h : RT c n A T S 0) (hn : ¬ sbS S A) (hS : S' = S + 1) : RT c n A T S' 0 := fun s g o q => by
  by_cases e : s = S
  · rw [e] at o; exact absurd o.2.1 hn
  · exact h s g o (by omega)
theorem RT.skip {c : Nat → Nat → Int} {n A : Nat} {T : Nat → Nat → Int} {S f f' : Nat} (h : RT c n A T S f) (hn : A.testBit f = false ∨ S.testBit f = true) (hf : f' = f + 1) : RT c n A T S f' := fun s g o q => by
  by_cases e : s = S ∧ g = f
  · rw [e.1, e.2] at o
    obtain ⟨_, _, _, o1, o2⟩ := o
    rcases hn with z | z
    · rw [z] at o1; cases o1
    · rw [z] at o2; cases o2
  · exact h s g o (by omega)
theorem tC_up {V V' : Nat → Nat → Int32} {i : Int32} {x : Int32} {I : Int} (e : V' = gu V 82 i.toNatClampNeg x) (hi : i.toInt = I) (h0 : 0 ≤ I) {S f : Nat} (h : (10 * S + f : Nat) ≠ I.toNat) : tC V' S f = tC V S f := by
  unfold tC
  rw [e, cl_nat hi, gu_n (Or.inr h)]
theorem RT_st {c : Nat → Nat → Int} {n A : Nat} {V V' : Nat → Nat → Int32} {i x : Int32} {I : Int} {S f f' : Nat} (h : RT c n A (tC V) S f) (e : V' = gu V 82 i.toNatClampNeg x) (hi : i.toInt = I) (hI : I = ((10 * S + f : Nat) : Int)) (hn : n ≤ 9) (hf : f < n) (hx : isM (fun q => c f q + tC V (S - 2 ^ q) q) S n x.toInt) (hb : 0 ≤ x.toInt ∧ x.toInt ≤ 99 * (S : Int)) (hf' : f' = f + 1) : RT c n A (tC V') S f' := by
  intro s g o q
  have og := o.2.2.1
  have sm : ∀ p, p < n → s.testBit p = true → c g p + tC V (s - 2 ^ p) p = c g p + tC V' (s - 2 ^ p) p := by
    intro p hp hbp
    have l := rm_lt hbp
    rw [tC_up e hi (by omega) (by omega)]
  by_cases z : s = S ∧ g = f
  · have ev : tC V' s g = x.toInt := by
      unfold tC
      rw [e, cl_nat hi, gu_y2 (by omega)]
    rw [ev]
    refine ⟨isM_cg sm ?_, by omega⟩
    rw [z.1, z.2]
    exact hx
  · rw [tC_up e hi (by omega) (by omega)]
    have := h s g o (by omega)
    exact ⟨isM_cg sm this.1, this.2⟩
theorem RT_o {c : Nat → Nat → Int} {n A : Nat} {V V' : Nat → Nat → Int32} {i x : Int32} {I : Int} {S S0 f0 : Nat} (h : RT c n A (tC V) S0 f0) (e : V' = gu V 82 i.toNatClampNeg x) (hi : i.toInt = I) (hI : I = ((10 * S + 9 : Nat) : Int)) (hn : n ≤ 9) : RT c n A (tC V') S0 f0 := by
  intro s g o q
  have og := o.2.2.1
  have sm : ∀ p, p < n → s.testBit p = true → c g p + tC V (s - 2 ^ p) p = c g p + tC V' (s - 2 ^ p) p := by
    intro p hp hbp
    rw [tC_up e hi (by omega) (by omega)]
  rw [tC_up e hi (by omega) (by omega)]
  have := h s g o q
  exact ⟨isM_cg sm this.1, this.2⟩
theorem z82_st {V V' : Nat → Nat → Int32} {i x : Int32} {I : Int} (h : z82 V) (e : V' = gu V 82 i.toNatClampNeg x) (hi : i.toInt = I) (h0 : 10 ≤ I) : z82 V' := fun f hf => by
  rw [e, cl_nat hi, gu_n (Or.inr (by omega))]
  exact h f hf
theorem cc_f {v V : Nat → Nat → Int32} (h : fPl v V) {f q : Nat} (hf : f ≤ 9) : cC V f q = cC v f q := by
  unfold cC
  rw [h.2.1 (69 + f) (by omega) (by omega)]
theorem mvB_f {v V : Nat → Nat → Int32} (h : fPl v V) (hn : (v 66 0).toInt ≤ 9) (m : mvB v) : mvB V := fun f q hf hq => by
  rw [h.1] at hf hq
  rw [cc_f h (by omega)]
  exact m f q hf hq
theorem RT_c {c c' : Nat → Nat → Int} {n A : Nat} {T : Nat → Nat → Int} {S f : Nat} (h : RT c n A T S f) (hc : ∀ f q, f < n → c f q = c' f q) : RT c' n A T S f := fun s g o q => by
  have := h s g o q
  exact ⟨isM_cg (fun p hp hb => by rw [hc g p o.2.2.1]) this.1, this.2⟩
theorem flH_of {v V : Nat → Nat → Int32} {A S S0 f0 f : Nat} (fp : fPl v V) (hn : (v 66 0).toInt ≤ 9) (hm : mvB v) (hz : z82 V) (hR : RT (cC v) (v 66 0).toInt.toNat A (tC V) S0 f0) (hs : sbS S A) (hS : S < 512 ∧ S ≤ S0) (hf : (f : Int) < (v 66 0).toInt ∨ f = 9) : flH V f S := by
  intro q hq hb
  rw [fp.1] at hq
  have l := rm_lt hb
  rw [cc_f fp (by omega)]
  refine ⟨hm f q hf hq, ?_, hS.1⟩
  rcases ok_rm (n := (v 66 0).toInt.toNat) (A := A) (by omega) hS.1 hs (by omega) hb with z | z
  · have e : tC V (S - 2 ^ q) q = 0 := by
      unfold tC
      rw [z, show 10 * 0 + q = q by omega, hz q (by omega)]
      rfl
    rw [e]
    omega
  · exact (hR _ _ z (Or.inl (by omega))).2
theorem FC_f {v V : Nat → Nat → Int32} (h : fPl v V) {f S : Nat} (hf : f ≤ 9) : FC V f S = fun q => cC v f q + tC V (S - 2 ^ q) q := by
  funext q
  show cC V f q + tC V (S - 2 ^ q) q = _
  rw [cc_f h hf]
/-- behind setRest: what stands at the start's place, where the set is all -/
def sqT (v v' : Nat → Nat → Int32) (S A : Int) : Prop := S = A → isM (fun q => cC v 9 q + tC v' (A.toNat - 2 ^ q) q) A.toNat (v 66 0).toInt.toNat (tC v' A.toNat 9)
theorem sqT_of {v V V' : Nat → Nat → Int32} {i x : Int32} {I S A : Int} (hm : isM (fun q => cC v 9 q + tC V (S.toNat - 2 ^ q) q) S.toNat (v 66 0).toInt.toNat x.toInt) (e : V' = gu V 82 i.toNatClampNeg x) (hi : i.toInt = I) (hI : I = S * 10 + 9) (h0 : 0 ≤ S) (hn : (v 66 0).toInt ≤ 9) : sqT v V' S A := by
  intro z
  subst z
  have ev : tC V' S.toNat 9 = x.toInt := by
    unfold tC
    rw [e, cl_nat hi, gu_y2 (by omega)]
  rw [ev]
  refine isM_cg (fun p hp hb => ?_) hm
  show cC v 9 p + tC V (S.toNat - 2 ^ p) p = cC v 9 p + tC V' (S.toNat - 2 ^ p) p
  rw [tC_up e hi (by omega) (by omega)]
theorem RT_5 {c : Nat → Nat → Int} {n A s t : Nat} {V V5 : Nat → Nat → Int32} {x : Int32} (e : V5 = gu V 66 5 x) (h : RT c n A (tC V) s t) : RT c n A (tC V5) s t := by
  have g : tC V5 = tC V := by
    funext S f
    unfold tC
    rw [e, gu_o (by decide)]
  rw [g]
  exact h
def stR (v V : Nat → Nat → Int32) (A : Nat) (s a : Int) : Prop := a < s → A = 0 ∨ isM (fun q => cC v 9 q + tC V (A - 2 ^ q) q) A (v 66 0).toInt.toNat (tC V A 9)
theorem stR_1 {v V : Nat → Nat → Int32} {A : Nat} {s a : Int} (hs : s = 1) (h0 : 0 ≤ a) (hA : A = a.toNat) : stR v V A s a := fun h => Or.inl (by omega)
theorem stR_no {v V : Nat → Nat → Int32} {A : Nat} {s s' a : Int} (hs : s' = s + 1) (h : s < a) : stR v V A s' a := fun q => by omega
theorem stR_q {v V V' : Nat → Nat → Int32} {A : Nat} {s s' a : Int} (f : fPl v V) (hs : s' = s + 1) (h : s ≤ a) (q : sqT V V' s a) (hA : A = a.toNat) : stR v V' A s' a := fun z => by
  have := q (by omega)
  rw [f.1] at this
  subst hA
  exact Or.inr (isM_cg (fun p hp hb => by rw [cc_f f (by omega)]) this)
/-- the row -/
def rwC (v : Nat → Nat → Int32) (k : Nat) : Nat := (v 79 k).toInt.toNat
def rwP (v : Nat → Nat → Int32) (m : Nat) : Prop := ∀ k, k < m → 0 ≤ (v 79 k).toInt
def soI (v V : Nat → Nat → Int32) (A : Nat) (i S f : Int) : Prop := grR (cC v) (v 66 0).toInt.toNat A (tC v) (rwC V) i.toNat ∧ stG (rwC V) A i.toNat = S.toNat ∧ frG (rwC V) i.toNat = f.toNat ∧ rwP V i.toNat ∧ V 82 = v 82 ∧ V 66 5 = v 66 5 ∧ (V 66 4).toInt = (pcN A 9 : Int)
theorem soI_0 {v V : Nat → Nat → Int32} {A : Nat} {i S f : Int} {x : Int32} (e : V = gu v 66 4 x) (hx : x.toInt = (pcN A 9 : Int)) (hi : i = 0) (hS : S.toNat = A) (hf : f = 9) : soI v V A i S f := by
  subst hi
  subst hf
  refine ⟨fun k hk => absurd hk (by simp), hS.symm, rfl, fun k hk => absurd hk (by simp), ?_, ?_, ?_⟩
  · rw [e, gu_o (by decide)]
  · rw [e, gu_n (by decide)]
  · rw [e, gu_y, hx]
theorem so_ok {v V : Nat → Nat → Int32} {A : Nat} {i S f : Int} (h : soI v V A i S f) (hn : (v 66 0).toInt ≤ 9) (hA : A < 512) : stO (v 66 0).toInt.toNat A S.toNat f.toNat := by
  have := gro_ (by omega) hA h.1 i.toNat (Nat.le_refl _)
  rw [h.2.1, h.2.2.1] at this
  exact this
theorem so_ne {v V : Nat → Nat → Int32} {A : Nat} {i S f : Int} (h : soI v V A i S f) (hn : (v 66 0).toInt ≤ 9) (hA : A < 512) (hi : 0 ≤ i ∧ i < (pcN A 9 : Int)) : S.toNat ≠ 0 := by
  have := pc_st (by omega) hA h.1 i.toNat (Nat.le_refl _)
  rw [h.2.1] at this
  intro z
  rw [z, pc_z] at this
  omega
theorem tC_e {v V : Nat → Nat → Int32} (h : V 82 = v 82) : tC V = tC v := by
  funext S f
  unfold tC
  rw [h]
theorem so_flH {v V : Nat → Nat → Int32} {A : Nat} {i S f : Int} (h : soI v V A i S f) (fp : fPl v V) (hn : (v 66 0).toInt ≤ 9) (hA : A < 512) (hm : mvB v) (hz : z82 v) (hR : RT (cC v) (v 66 0).toInt.toNat A (tC v) (A + 1) 0) : flH V f.toNat S.toNat := by
  have o := so_ok h hn hA
  have hz' : z82 V := fun q hq => by rw [h.2.2.2.2.1]; exact hz q hq
  have hR' : RT (cC v) (v 66 0).toInt.toNat A (tC V) (A + 1) 0 := by rw [tC_e h.2.2.2.2.1]; exact hR
  have le := sb_le o.2.1
  refine flH_of fp hn hm hz' hR' o.2.1 ⟨o.1, by omega⟩ ?_
  rcases o.2.2 with z | z
  · exact Or.inr z
  · exact Or.inl (by have := z.1; omega)
theorem so_st {v V V' : Nat → Nat → Int32} {A : Nat} {i i' S S' f f' : Int} {j x : Int32} (h : soI v V A i S f) (fp : fPl v V) (hn : (v 66 0).toInt ≤ 9) (hA : A < 512) (hi0 : 0 ≤ i) (hif : isF (FC V f.toNat S.toNat) S.toNat (V 66 0).toInt.toNat x.toInt.toNat) (hx : 0 ≤ x.toInt) (e : V' = gu V 79 j.toNatClampNeg x) (hj : j.toInt = i) (hi : i' = i + 1) (hS : S'.toNat = S.toNat - 2 ^ x.toInt.toNat) (hf : f' = x.toInt) : soI v V' A i' S' f' := by
  have o := so_ok h hn hA
  have f9 : f.toNat ≤ 9 := by
    rcases o.2.2 with z | z
    · omega
    · have := z.1; omega
  rw [FC_f fp f9, fp.1, tC_e h.2.2.2.2.1] at hif
  have rn : rwC V' i.toNat = x.toInt.toNat := by
    unfold rwC
    rw [e, cl_nat hj, gu_y2 (by omega)]
  have ro : ∀ k, k < i.toNat → rwC V' k = rwC V k := fun k hk => by
    unfold rwC
    rw [e, cl_nat hj, gu_n (Or.inr (by omega))]
  rw [← rn] at hif
  have g := gr_st h.1 h.2.1 h.2.2.1 ro hif
  have ei : i'.toNat = i.toNat + 1 := by omega
  refine ⟨by rw [ei]; exact g.1, by rw [ei, g.2.1, rn, hS], by rw [ei, g.2.2, rn, hf], fun k hk => ?_, ?_, ?_, ?_⟩
  · rw [e, cl_nat hj]
    by_cases q : k = i.toNat
    · rw [gu_y2 (by omega)]; exact hx
    · rw [gu_n (Or.inr q)]; exact h.2.2.2.1 k (by omega)
  · rw [e, gu_o (by decide)]; exact h.2.2.2.2.1
  · rw [e, gu_n (Or.inl (by decide))]; exact h.2.2.2.2.2.1
  · rw [e, gu_n (Or.inl (by decide))]; exact h.2.2.2.2.2.2
def opA (v : Nat → Nat → Int32) : Nat := opN (v 67) (v 66 0).toInt.toNat
/-- behind plan -/
def plC (v v' : Nat → Nat → Int32) : Prop := (z82 v' ∧ (v' 66 3).toInt ≠ 0) ∧ gTb (cC v) (v 66 0).toInt.toNat (opA v) (tC v') ∧ ltT (cC v) (v 66 0).toInt.toNat (opA v) (tC v') (v' 66 5).toInt ∧ (v' 66 4).toInt = (pcN (opA v) 9 : Int) ∧ grR (cC v) (v 66 0).toInt.toNat (opA v) (tC v') (rwC v') (pcN (opA v) 9) ∧ rwP v' (pcN (opA v) 9)
theorem gT_C {c : Nat → Nat → Int} {n A S0 : Nat} {V : Nat → Nat → Int32} (h : RT c n A (tC V) S0 0) (hz : z82 V) (hn : n ≤ 9) (hS : A < S0) : gTb c n A (tC V) := by
  refine ⟨fun f hf => ?_, fun S f o => ?_⟩
  · unfold tC
    rw [show 10 * 0 + f = f by omega, hz f (by omega)]
    rfl
  · have := sb_le o.2.1
    exact (h S f o (Or.inl (by omega))).1
theorem plC_of {v V V5 V6 v' : Nat → Nat → Int32} {x y : Int32} {A a : Int} (hA : A = (opA v : Int)) (f : fPl v V) (hn : 0 ≤ (v 66 0).toInt ∧ (v 66 0).toInt ≤ 9) (hz : z82 V) (hR : RT (cC v) (v 66 0).toInt.toNat A.toNat (tC V) (A.toNat + 1) 0) (hs : stR v V A.toNat a A) (ha : A < a) (e5 : V5 = gu V 66 5 x) (hx : x = V 82 (10 * A.toNat + 9)) (h4 : (V6 66 4).toInt = (pcN A.toNat 9 : Int)) (hg : grR (cC V5) (V5 66 0).toInt.toNat A.toNat (tC V5) (rwC V6) (pcN A.toNat 9)) (hp : rwP V6 (pcN A.toNat 9)) (h82 : V6 82 = V5 82) (h65 : V6 66 5 = V5 66 5) (e' : v' = gu V6 66 3 y) (hy : y.toInt ≠ 0) : plC v v' := by
  have eA : A.toNat = opA v := by omega
  rw [eA] at hR hs hx h4 hg hp
  have g82 : v' 82 = V 82 := by rw [e', gu_o (by decide), h82, e5, gu_o (by decide)]
  have g79 : v' 79 = V6 79 := by rw [e', gu_o (by decide)]
  have t : tC v' = tC V := tC_e g82
  have t5 : tC V5 = tC V := tC_e (by rw [e5, gu_o (by decide)])
  have rw_ : rwC v' = rwC V6 := by
    funext k
    unfold rwC
    rw [g79]
  have v5 : (v' 66 5).toInt = tC V (opA v) 9 := by rw [e', gu_n (by decide), h65, e5, gu_y, hx]; rfl
  refine ⟨⟨fun q hq => by rw [g82]; exact hz q hq, by rw [e', gu_y]; exact hy⟩, ?_, ?_, ?_, ?_, ?_⟩
  · rw [t]
    exact gT_C hR hz (by omega) (by omega)
  · rw [t, v5]
    by_cases z : opA v = 0
    · refine Or.inl ⟨z, ?_⟩
      rw [z]
      unfold tC
      rw [show 10 * 0 + 9 = 9 by omega, hz 9 (by decide)]
      rfl
    · refine Or.inr ⟨z, ?_⟩
      rcases hs ha with q | q
      · exact absurd q z
      · exact q
  · rw [e', gu_n (by decide), h4]
  · rw [t, rw_]
    have c5 : fPl v V5 := by rw [e5]; exact fPl_v f (Or.inl ⟨rfl, by decide⟩)
    rw [t5, c5.1] at hg
    have o := gro_ (n := (v 66 0).toInt.toNat) (by omega) (opN_9 _ (by omega)) hg
    intro k hk
    have := hg k hk
    refine isF_cg (fun q hq hb => ?_) this
    have ok := o k (by omega)
    have f9 : frG (rwC V6) k ≤ 9 := by
      rcases ok.2.2 with z | z
      · omega
      · have := z.1; omega
    show cC V5 (frG (rwC V6) k) q + _ = cC v (frG (rwC V6) k) q + _
    rw [cc_f c5 f9]
  · intro k hk
    rw [g79]
    exact hp k hk
