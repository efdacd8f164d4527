theorem irem_b {x a b : Int32} (e : x = a - a / b * b) {A B : Int} (ha : a.toInt = A) (hb : b.toInt = B) (h : 0 < B) : (-B < x.toInt ∧ x.toInt < B) ∧ (0 ≤ A → 0 ≤ x.toInt) ∧ (A ≤ 0 → x.toInt ≤ 0) := by
  subst ha
  subst hb
  have h1 : x.toInt = (a.toInt.tmod b.toInt).bmod (2 ^ 32) := by
    rw [e, Int32.toInt_sub, Int32.toInt_mul, Int32.toInt_div, Int.bmod_mul_bmod, Int.sub_bmod_bmod]
    congr 1
    have := Int.tdiv_mul_add_tmod a.toInt b.toInt
    omega
  have h2 : (a.toInt.tmod b.toInt).natAbs = a.toInt.natAbs % b.toInt.natAbs := Int.natAbs_tmod _ _
  have h3 : a.toInt.natAbs % b.toInt.natAbs < b.toInt.natAbs := Nat.mod_lt _ (by omega)
  have qb := fb_rng b
  have h4 : 0 ≤ a.toInt → 0 ≤ a.toInt.tmod b.toInt := fun q => Int.tmod_nonneg _ q
  have h5 : a.toInt ≤ 0 → a.toInt.tmod b.toInt ≤ 0 := fun q => by
    have q1 : 0 ≤ (-a.toInt).tmod b.toInt := Int.tmod_nonneg _ (by omega)
    rw [Int.neg_tmod] at q1
    omega
  rw [fb_bmod (by omega) (by omega)] at h1
  rw [h1]
  exact ⟨by omega, h4, h5⟩
theorem xor_sg {x a b : Int32} (e : x = a ^^^ b) {A B : Int} (ha : a.toInt = A) (hb : b.toInt = B) (h : 0 ≤ B) : 0 ≤ x.toInt ↔ 0 ≤ A := by
  subst ha
  subst hb
  have e1 : x.toBitVec.msb = (a.toBitVec.msb ^^ b.toBitVec.msb) := by
    rw [e]
    show (a.toBitVec ^^^ b.toBitVec).msb = _
    exact BitVec.msb_xor
  have m : ∀ z : Int32, z.toBitVec.msb = decide (z.toInt < 0) := fun z => BitVec.msb_eq_toInt
  rw [m, m, m] at e1
  have hb0 : decide (b.toInt < 0) = false := by simp; omega
  rw [hb0, Bool.xor_false] at e1
  constructor
  · intro q
    have : decide (x.toInt < 0) = false := by simp; omega
    rw [this] at e1
    have := of_decide_eq_false e1.symm
    omega
  · intro q
    have : decide (a.toInt < 0) = false := by simp; omega
    rw [this] at e1
    have := of_decide_eq_false e1
    omega
def bc0 (x : Int32) : Int32 := x - ((x.toUInt32 >>> ((1 : Int32).toUInt32 &&& Int32.toUInt32 31)).toInt32 &&& 1431655765)
def bc1 (x : Int32) : Int32 := (x &&& 858993459) + ((x.toUInt32 >>> ((2 : Int32).toUInt32 &&& Int32.toUInt32 31)).toInt32 &&& 858993459)
def bc2 (x : Int32) : Int32 := (x + (x.toUInt32 >>> ((4 : Int32).toUInt32 &&& Int32.toUInt32 31)).toInt32) &&& 252645135
def bc3 (x : Int32) : Int32 := x + (x.toUInt32 >>> ((8 : Int32).toUInt32 &&& Int32.toUInt32 31)).toInt32
def bc4 (x : Int32) : Int32 := x + (x.toUInt32 >>> ((16 : Int32).toUInt32 &&& Int32.toUInt32 31)).toInt32
def bcF (x : Int32) : Int32 := bc4 (bc3 (bc2 (bc1 (bc0 x)))) &&& 63
theorem bc_tab : ∀ S, S < 512 → 0 ≤ (bcF (nI S)).toInt ∧ (bcF (nI S)).toInt ≤ 9 := by decide +kernel
theorem bc_b {x : Int32} {X : Int} (h : x.toInt = X) (h0 : 0 ≤ X ∧ X ≤ 511) : 0 ≤ (bcF x).toInt ∧ (bcF x).toInt ≤ 9 := by
  rw [nI_of3 h h0.1]
  exact bc_tab X.toNat (by omega)
theorem dbl_ne {x a : Int32} (e : x = 2 * a) {A : Int} (ha : a.toInt = A) (h : 0 < A ∧ A ≤ 1000000) : x.toInt ≠ 0 := by
  have := ia_mul e (A := 2) (B := A) (by decide) ha (by omega) (by omega)
  omega
/-- a new Settling, all else as it was -/
theorem cI_83m {v v' : Nat → Nat → Int32} (h : cI v) (ho : ∀ a, a ≠ 83 → v' a = v a) (h5 : 1 ≤ (v' 83 0).toInt ∧ (v' 83 0).toInt ≤ 8) (h6 : 1 ≤ (v' 83 2).toInt ∧ (v' 83 2).toInt ≤ 100) (h7 : 0 ≤ (v' 83 5).toInt ∧ (v' 83 5).toInt ≤ 100) (hs : cS v') : cI v' := by
  obtain ⟨K1, K2, K3, K4, K5, K6, K7, Ks, K9, Ka, Kr, Kz⟩ := h
  unfold cI
  rw [ho 18 (by omega), ho 51 (by omega), ho 66 (by omega), ho 93 (by omega), ho 96 (by omega)]
  refine ⟨K1, K2, K3, K4, h5, h6, h7, hs, K9, fun r i hr hi => ?_, Kr, fun i hi => ?_⟩
  · rw [ho (3 + r) (by omega)]; exact Ka r i hr hi
  · rw [ho (98 + 2 * i) (by omega)]; exact Kz i hi
theorem cI_93m {v v' : Nat → Nat → Int32} (h : cI v) (ho : ∀ a, (a < 93 ∨ 96 < a) → v' a = v a) (h9 : 0 ≤ (v' 93 0).toInt ∧ (v' 93 0).toInt ≤ 10) (hr : ∀ k : Nat, (k : Int) < (v' 93 0).toInt → 1 ≤ (v' 96 k).toInt ∧ (v' 96 k).toInt ≤ 100) : cI v' := by
  obtain ⟨K1, K2, K3, K4, K5, K6, K7, Ks, K9, Ka, Kr, Kz⟩ := h
  unfold cI cS
  rw [ho 18 (by omega), ho 51 (by omega), ho 66 (by omega), ho 83 (by omega)]
  refine ⟨K1, K2, K3, K4, K5, K6, K7, Ks, h9, fun r i hr hi => ?_, hr, fun i hi => ?_⟩
  · rw [ho (3 + r) (by omega)]; exact Ka r i hr hi
  · rw [ho (98 + 2 * i) (by omega)]; exact Kz i hi
theorem cI_sh {v : Nat → Nat → Int32} {q j : Nat} {x : Int32} (h : cI v) (hq : q = 98 ∨ q = 100 ∨ q = 102 ∨ q = 104) (hx : j = 1 → 0 ≤ x.toInt ∧ x.toInt ≤ 60) : cI (gu v q j x) := by
  obtain ⟨K1, K2, K3, K4, K5, K6, K7, Ks, K9, Ka, Kr, Kz⟩ := h
  have e : ∀ a, a ≠ q → gu v q j x a = v a := fun a ha => gu_o ha
  have e18 := e 18 (by omega); have e51 := e 51 (by omega); have e66 := e 66 (by omega); have e83 := e 83 (by omega); have e93 := e 93 (by omega); have e96 := e 96 (by omega)
  unfold cI cS
  rw [e18, e51, e66, e83, e93, e96]
  refine ⟨K1, K2, K3, K4, K5, K6, K7, Ks, K9, fun r i hr hi => ?_, Kr, fun i hi => ?_⟩
  · rw [e (3 + r) (by omega)]; exact Ka r i hr hi
  · by_cases q1 : 98 + 2 * i = q
    · rw [q1, gu_s]
      by_cases q2 : j = 1
      · simpa [va_up, q2] using hx q2
      · have := Kz i hi
        rw [q1] at this
        simpa [va_up, Ne.symm q2] using this
    · rw [e _ q1]; exact Kz i hi
theorem cS_0 {v : Nat → Nat → Int32} (h : cS v) (h0 : (v 83 4).toInt = 0) : (v 83 5).toInt < (v 83 2).toInt := h h0
theorem metOfWF {l : Launch} {y : MethodName} {ws ws' : List Cond} {rm : Room} {Pc : Array Value → State → Prop} {Qc : Array Value → State → Outcome → State → Prop} {mc ms : Nat} {free : Addr → Prop} {cc : ByteArray} {maxL : Nat} {ret : Option FieldType}
    (hy : plainFor y = true) (hw : ws = Cond.code y cc maxL ret :: ws')
    (body : ∀ p e s m args below meth c s₁, BodyLoose p l y (headSpec ws rm) cc maxL ret e s m args below meth c s₁ → c.maxLocals = maxL → Pc args s →
      W p l e (headSpec ws rm).room s m args below meth c s.heap [] 0 0 (MQ below Qc args s mc ms free) (entryFrame m args maxL)) : Met l y ws rm Pc Qc mc ms free := by
  refine MetFree.of_bodySF (code := cc) (maxLocals := maxL) (ret := ret) hy ?_ ?_
  · intro args s m h hn
    obtain ⟨meth, c, h1, h2, h3, h4, h5, h6, -, -⟩ := Cond.code_spec hn (atoms_spec (ws := ws) h _ (by rw [hw]; exact List.mem_cons_self))
    exact ⟨meth, c, h1, h2, h3, h4, h5, h6⟩
  · intro p e s m args below meth c s₁ B hml hP _
    have hh0 : s₁.heap = s.heap := by rw [B.state]; rfl
    obtain ⟨t, a1, o, b1, b2, b3⟩ := body p e s m args below meth c s₁ B hml hP s₁ hh0 (Stand.of_body B)
    exact ⟨t, o, a1, b1, b2, ⟨b3.1, b3.2⟩⟩
theorem gM_ofF {l : Launch} {G : gG} {v : Nat → Nat → Int32} {w : Nat → Nat → Int64} {sg : Nat → Nat} {y : MethodName} {ws ws' : List Cond} {rm : Room} {cc : ByteArray} {maxL : Nat} {ret : Option FieldType} {As : List Value} {Qc : Array Value → State → Outcome → State → Prop} (hy : plainFor y = true) (hw : ws = Cond.code y cc maxL ret :: ws') (hn : (lg_sl As).length ≤ maxL)
    (body : ∀ (p : Program) (e : Env) (s : State) (m : MethodId) (args : Array Value) (below : List Frame) (meth : Method) (c : Code) (ls : Array Slot), gC p s m c cc maxL args ws y.cls (gA G) G → meth.locks = false → meth.sig.returnType = ret → gS (gA G) G s v w sg s.heap [] → lv_has ls maxL (lv_args 0 As) → W p l e (headSpec ws rm).room s m args below meth c s.heap [] 0 0 (MQ below Qc args s 0 0 (gA G)) (F0 m 0 ls [])) : Met l y ws rm (gPre G v w sg As) Qc 0 0 (gA G) := by
  refine metOfWF (cc := cc) (maxL := maxL) (ret := ret) hy hw ?_
  intro p e s m args below meth c s₁ B hml hv
  obtain ⟨rfl, hP, hK, hD, hX⟩ := hv
  have hl := lv_entry As (n := maxL) hn
  rw [lg_entry_eq]
  exact body p e s m _ below meth c _ ⟨⟨B.exec, B.bytes, hml, findClass_of_methodNamed B.named, atoms_spec (ws := ws) B.pre⟩, hK, hD, fun _ h => h, hX⟩ B.notSynchronized B.returns ⟨hP, va_S.rf⟩ hl
theorem gM_ofFi {l : Launch} {G : gG} {v : Nat → Nat → Int32} {w : Nat → Nat → Int64} {sg : Nat → Nat} {y : MethodName} {ws ws' : List Cond} {rm : Room} {cc : ByteArray} {maxL : Nat} {As : List Value} {P : Int32 → (Nat → Nat → Int32) → (Nat → Nat → Int64) → (Nat → Nat) → Prop} (hy : plainFor y = true) (hw : ws = Cond.code y cc maxL (some .int) :: ws') (hn : (lg_sl As).length ≤ maxL)
    (body : ∀ (p : Program) (e : Env) (R : Room) (s : State) (m : MethodId) (args : Array Value) (below : List Frame) (meth : Method) (c : Code) (Q : State → Prop) (ls : Array Slot), gC p s m c cc maxL args ws y.cls (gA G) G → R = (headSpec ws rm).room → (∀ (x : Int32) (v : Nat → Nat → Int32) (w : Nat → Nat → Int64) (sg : Nat → Nat) (H : Heap) (locs : List Loc) (pc : Nat) (ls : Array Slot), decode cc pc = .ok (.ireturn, 1) → gS (gA G) G s v w sg H locs → P x v w sg → W p l e R s m args below meth c H locs 0 0 Q (F0 m pc ls [.int x])) → gS (gA G) G s v w sg s.heap [] → lv_has ls maxL (lv_args 0 As) → W p l e R s m args below meth c s.heap [] 0 0 Q (F0 m 0 ls [])) : Met l y ws rm (gPre G v w sg As) (gQi G P) 0 0 (gA G) :=
  gM_ofF hy hw hn (fun p e s m args below meth c ls C hlk hr h hl => body p e _ s m args below meth c _ ls C rfl (fun x v w sg H locs pc ls hdg h hp => g_iret C hlk hr h hdg hp) h hl)
theorem gM_ofFl {l : Launch} {G : gG} {v : Nat → Nat → Int32} {w : Nat → Nat → Int64} {sg : Nat → Nat} {y : MethodName} {ws ws' : List Cond} {rm : Room} {cc : ByteArray} {maxL : Nat} {As : List Value} {P : Int64 → (Nat → Nat → Int32) → (Nat → Nat → Int64) → (Nat → Nat) → Prop} (hy : plainFor y = true) (hw : ws = Cond.code y cc maxL (some .long) :: ws') (hn : (lg_sl As).length ≤ maxL)
    (body : ∀ (p : Program) (e : Env) (R : Room) (s : State) (m : MethodId) (args : Array Value) (below : List Frame) (meth : Method) (c : Code) (Q : State → Prop) (ls : Array Slot), gC p s m c cc maxL args ws y.cls (gA G) G → R = (headSpec ws rm).room → (∀ (x : Int64) (v : Nat → Nat → Int32) (w : Nat → Nat → Int64) (sg : Nat → Nat) (H : Heap) (locs : List Loc) (pc : Nat) (ls : Array Slot), decode cc pc = .ok (.lreturn, 1) → gS (gA G) G s v w sg H locs → P x v w sg → W p l e R s m args below meth c H locs 0 0 Q (F0 m pc ls [.long x])) → gS (gA G) G s v w sg s.heap [] → lv_has ls maxL (lv_args 0 As) → W p l e R s m args below meth c s.heap [] 0 0 Q (F0 m 0 ls [])) : Met l y ws rm (gPre G v w sg As) (gQl G P) 0 0 (gA G) :=
  gM_ofF hy hw hn (fun p e s m args below meth c ls C hlk hr h hl => body p e _ s m args below meth c _ ls C rfl (fun x v w sg H locs pc ls hdg h hp => g_lret C hlk hr h hdg hp) h hl)
theorem irem_t {x a b : Int32} (e : x = a - a / b * b) {A B : Int} (ha : a.toInt = A) (hb : b.toInt = B) (h : 0 < B) : (0 ≤ x.toInt → x.toInt = A % B) ∧ (x.toInt < 0 → x.toInt + B = A % B) := by
  subst ha
  subst hb
  have h1 : x.toInt = (a.toInt.tmod b.toInt).bmod (2 ^ 32) := by
    rw [e, Int32.toInt_sub, Int32.toInt_mul, Int32.toInt_div, Int.bmod_mul_bmod, Int.sub_bmod_bmod]
    congr 1
    have := Int.tdiv_mul_add_tmod a.toInt b.toInt
    omega
  have h2 : (a.toInt.tmod b.toInt).natAbs = a.toInt.natAbs % b.toInt.natAbs := Int.natAbs_tmod _ _
  have h3 : a.toInt.natAbs % b.toInt.natAbs < b.toInt.natAbs := Nat.mod_lt _ (by omega)
  have qb := fb_rng b
  rw [fb_bmod (by omega) (by omega)] at h1
  have h4 := Int.emod_nonneg a.toInt (show b.toInt ≠ 0 by omega)
  have h5 := Int.emod_lt_of_pos a.toInt h
  have h6 := Int.tdiv_mul_add_tmod a.toInt b.toInt
  have h7 := Int.ediv_mul_add_emod a.toInt b.toInt
  have key : ∃ k : Int, x.toInt - a.toInt % b.toInt = k * b.toInt := ⟨a.toInt / b.toInt - a.toInt.tdiv b.toInt, by rw [Int.sub_mul, h1]; omega⟩
  obtain ⟨k, hk⟩ := key
  have hk1 : -b.toInt < x.toInt ∧ x.toInt < b.toInt := by omega
  have hkk : k = 0 ∨ k = -1 := by
    by_cases q : 1 ≤ k
    · have := Int.mul_le_mul_of_nonneg_right q (show 0 ≤ b.toInt by omega); omega
    · by_cases q2 : k ≤ -2
      · have := Int.mul_le_mul_of_nonneg_right q2 (show 0 ≤ b.toInt by omega); omega
      · omega
  rcases hkk with rfl | rfl <;> constructor <;> intro q <;> omega
/-- Math.floorDiv of ints -/
theorem fd_a {x a b : Int32} (e : x = a / b) {A B : Int} (ha : a.toInt = A) (hb : b.toInt = B) (h : 0 < B) : (x.toInt = A / B ∧ (0 ≤ A ∨ (x * b).toInt = A)) ∨ ((x - 1).toInt = A / B ∧ A < 0 ∧ (x * b).toInt ≠ A) := by
  subst ha
  subst hb
  have qa := fb_rng a
  have qb := fb_rng b
  have tb := td_b (A := a.toInt) h
  have tr : -2147483648 ≤ a.toInt.tdiv b.toInt ∧ a.toInt.tdiv b.toInt < 2147483648 := by
    by_cases z : 0 ≤ a.toInt
    · have := tb.1 z; omega
    · have := tb.2 (by omega); omega
  have h1 : x.toInt = a.toInt.tdiv b.toInt := by rw [e, Int32.toInt_div, fb_bmod tr.1 tr.2]
  have h6 := Int.tdiv_mul_add_tmod a.toInt b.toInt
  obtain ⟨m, x1, x2, x3, x4, x5, x6⟩ := td_k (A := a.toInt) h
  have sg : (0 ≤ a.toInt → 0 ≤ a.toInt.tmod b.toInt) ∧ (a.toInt < 0 → a.toInt.tmod b.toInt ≤ 0) := by
    constructor
    · intro z; exact Int.tmod_nonneg _ z
    · intro z
      have q1 : 0 ≤ (-a.toInt).tmod b.toInt := Int.tmod_nonneg _ (by omega)
      rw [Int.neg_tmod] at q1
      omega
  have mb : -2147483648 ≤ x.toInt * b.toInt ∧ x.toInt * b.toInt < 2147483648 := by
    rw [h1]
    by_cases z : 0 ≤ a.toInt
    · have := sg.1 z
      have := tb.1 z
      have := Int.mul_nonneg (show 0 ≤ a.toInt.tdiv b.toInt by omega) (show 0 ≤ b.toInt by omega)
      omega
    · have := sg.2 (by omega)
      have := tb.2 (by omega)
      have := Int.mul_nonneg (show 0 ≤ -(a.toInt.tdiv b.toInt) by omega) (show 0 ≤ b.toInt by omega)
      rw [Int.neg_mul] at this
      omega
  have hm : (x * b).toInt = a.toInt.tdiv b.toInt * b.toInt := by rw [fb_mulI mb.1 mb.2, h1]
  by_cases t0 : 0 ≤ a.toInt.tmod b.toInt
  · refine Or.inl ⟨by rw [h1, td_nn h t0], ?_⟩
    by_cases z : 0 ≤ a.toInt
    · exact Or.inl z
    · have := sg.2 (by omega)
      exact Or.inr (by rw [hm]; omega)
  · have an : a.toInt < 0 := by
      by_cases y : 0 ≤ a.toInt
      · have := sg.1 y; omega
      · omega
    have g := td_ng (A := a.toInt) h (by omega)
    have f := fdB_of (A := a.toInt) h
    have := f.2 an
    have z1 : (1 : Int32).toInt = 1 := by decide
    have s := fb_subI (x := x) (y := 1) (by omega) (by omega)
    exact Or.inr ⟨by omega, an, by rw [hm]; omega⟩
