def gTab : List (Nat × Nat) := [(0, 9), (0, 0), (4, 3), (1, 3), (1, 3), (1, 3), (4, 3), (1, 6), (1, 6), (1, 6), (1, 3), (1, 3), (0, 4), (5, 3), (2, 3), (2, 3), (2, 3), (2, 3), (0, 1), (4, 12), (1, 3), (1, 3), (1, 3), (1, 3), (1, 3), (1, 3), (1, 3), (1, 3), (1, 3), (1, 3), (1, 3), (1, 3), (4, 12), (1, 3), (1, 3), (1, 3), (1, 3), (1, 3), (1, 3), (1, 3), (1, 3), (1, 3), (1, 3), (1, 3), (1, 3), (0, 4), (5, 3), (2, 3), (2, 3), (2, 3), (2, 3), (0, 3), (6, 10), (1, 3), (2, 3), (2, 3), (0, 2), (0, 2), (0, 2), (0, 2), (0, 2), (0, 2), (0, 2), (0, 2), (0, 2), (0, 2), (0, 5), (3, 9), (4, 10), (1, 10), (1, 10), (1, 10), (1, 10), (1, 10), (1, 10), (1, 10), (1, 10), (1, 10), (1, 10), (1, 9), (1, 10), (1, 10), (1, 5120), (0, 6), (4, 8), (1, 3), (1, 3), (1, 3), (1, 3), (1, 3), (1, 3), (1, 3), (1, 3), (0, 8), (3, 10), (1, 10), (1, 10), (7, 4), (0, 7), (1, 60), (0, 7), (1, 60), (0, 7), (1, 60), (0, 7), (1, 60), (0, 10), (1, 9), (1, 18), (2, 9), (2, 3), (1, 3), (1, 36), (1, 36), (1, 10), (1, 10), (1, 10), (1, 10), (3, 10), (1, 3), (1, 7), (2, 3), (2, 33), (1, 9), (1, 9), (3, 9), (1, 4608), (1, 300), (1, 10), (1, 10), (3, 10), (1, 4), (1, 4), (1, 240)]
def gkd (k : Nat) : Nat := (gTab.getD k (9, 0)).1
def gln (k : Nat) : Nat := (gTab.getD k (9, 0)).2
abbrev gG : Type := va_G × (Nat → ClassId) × (Nat → Nat)
def gR (sg : Nat → Nat) (k i : Nat) : Nat := if k = 52 then sg i else if k = 97 then 98 + 2 * i else k + 1 + i
def gfs (ad : Nat → Nat) (f : Nat → Int32) (k : Nat) : Nat → List Value
  | 0 => [.ref (ad 2), .ref (ad 6), .ref (ad 10), .int (f 3), .int (f 4), .ref (ad 11), .ref (ad 12)]
  | 1 => [.ref (ad 19), .ref (ad 32), .int (f 2), .ref (ad 45)]
  | 2 => [.int (f 0), .int (f 1), .int (f 2), .int (f 3), .int (f 4)]
  | 3 => [.ref (ad 52), .int (f 1), .ref (ad 53), .int (f 3), .int (f 4), .ref (ad 54), .ref (ad 55)]
  | 4 => [.ref (ad (k + 1)), .ref (ad (k + 5))]
  | 5 => [.int (f 0), .ref (ad 67), .ref (ad 68), .int (f 3), .int (f 4), .int (f 5), .ref (ad 79), .ref (ad 80), .ref (ad 81), .ref (ad 82)]
  | 6 => [.int (f 0), .int (f 1), .int (f 2), .int (f 3), .int (f 4), .int (f 5), .int (f 6), .ref (ad 84)]
  | 7 => [.int (f 0), .int (f 1), .ref (ad (k + 1))]
  | 8 => [.int (f 0), .ref (ad 94), .ref (ad 95), .ref (ad 96)]
  | 9 => [.ref (ad 1), .ref (ad 18), .ref (ad 51), .ref (ad 66), .ref (ad 83), .ref (ad 93), .ref (ad 97)]
  | _ => [.ref (ad 107), .ref (ad 108), .ref (ad 109), .ref (ad 110), .ref (ad 111), .int (f 5), .int (f 6), .int (f 7), .ref (ad 112), .ref (ad 113), .int (f 10), .ref (ad 114), .ref (ad 115), .ref (ad 116), .ref (ad 117), .ref (ad 118), .ref (ad 119), .int (f 17), .int (f 18), .ref (ad 120), .ref (ad 121), .ref (ad 122), .int (f 22), .ref (ad 123), .ref (ad 124), .ref (ad 125), .ref (ad 126), .int (f 27), .int (f 28), .int (f 29), .int (f 30), .int (f 31), .int (f 32), .int (f 33), .ref (ad 127), .int (f 35), .ref (ad 128), .ref (ad 129), .ref (ad 130), .ref (ad 131), .ref (ad 132), .ref (ad 133)]
def gE (G : gG) (v : Nat → Nat → Int32) (w : Nat → Nat → Int64) (sg : Nat → Nat) (k : Nat) : va_E :=
  match gkd k with
  | 0 => .inr (gln k, gfs G.2.2 (v k) k (gln k))
  | 1 => .inl (G.2.1 0, gln k, .inl (v k))
  | 2 => .inl (G.2.1 1, gln k, .inr (.inl (w k)))
  | 3 => .inl (G.2.1 2, gln k, .inl (v k))
  | n + 4 => .inl (G.2.1 (n + 3), gln k, .inr (.inr (.inr (.inr (fun i => some (G.2.2 (gR sg k i)))))))
def gW (G : gG) (v : Nat → Nat → Int32) (w : Nat → Nat → Int64) (sg : Nat → Nat) : va_W := (List.range 134).map (fun k => (G.2.2 k, gE G v w sg k))
def gT (cs : Nat → ClassId) : List (ClassId × FieldType) := [(cs 0, .int), (cs 1, .long), (cs 2, .boolean), (cs 3, .array .int), (cs 4, .array .long), (cs 5, .object "WindHall$Correction"), (cs 6, .object "WindHall$Sheet")]
def gA (G : gG) (q : Nat) : Prop := ∃ k, k < 134 ∧ G.2.2 k = q
def gDj (G : gG) : Prop := ∀ i j, i < 134 → j < 134 → G.2.2 i = G.2.2 j → i = j
def gS (A : Nat → Prop) (G : gG) (s : State) (v : Nat → Nat → Int32) (w : Nat → Nat → Int64) (sg : Nat → Nat) (H : Heap) (locs : List Loc) : Prop := va_P G.1 vwCl (gW G v w sg) H ∧ va_S A s.heap H locs
/-- a store: place k, index j -/
def gu (v : Nat → Nat → Int32) (k j : Nat) (x : Int32) : Nat → Nat → Int32 := va_up v k (va_up (v k) j x)
def gul (w : Nat → Nat → Int64) (k j : Nat) (x : Int64) : Nat → Nat → Int64 := va_up w k (va_up (w k) j x)
theorem gu_o {v : Nat → Nat → Int32} {k j : Nat} {x : Int32} {a : Nat} (h : a ≠ k) : gu v k j x a = v a := by simp [gu, va_up, h]
theorem gul_o {v : Nat → Nat → Int64} {k j : Nat} {x : Int64} {a : Nat} (h : a ≠ k) : gul v k j x a = v a := by simp [gul, va_up, h]
theorem gu_s {v : Nat → Nat → Int32} {k j : Nat} {x : Int32} : gu v k j x k = va_up (v k) j x := by simp [gu, va_up]
theorem gul_s {v : Nat → Nat → Int64} {k j : Nat} {x : Int64} : gul v k j x k = va_up (v k) j x := by simp [gul, va_up]
theorem gE_o {G : gG} {v v' : Nat → Nat → Int32} {w w' : Nat → Nat → Int64} {sg sg' : Nat → Nat} {a : Nat} (hv : v' a = v a) (hw : w' a = w a) (hs : a ≠ 52 ∨ sg' = sg) : gE G v' w' sg' a = gE G v w sg a := by
  have hr : ∀ i, gR sg' a i = gR sg a i := fun i => by
    rcases hs with h | h
    · simp [gR, h]
    · rw [h]
  unfold gE
  rw [hv, hw]
  simp only [hr]
theorem gW_at {G : gG} {v : Nat → Nat → Int32} {w : Nat → Nat → Int64} {sg : Nat → Nat} {k : Nat} (hk : k < 134) : (gW G v w sg)[k]? = some (G.2.2 k, gE G v w sg k) := by
  unfold gW
  rw [List.getElem?_map, List.getElem?_range hk]
  rfl
theorem gW_len {G : gG} {v : Nat → Nat → Int32} {w : Nat → Nat → Int64} {sg : Nat → Nat} : (gW G v w sg).length = 134 := by
  unfold gW
  rw [List.length_map, List.length_range]
theorem gW_inv {G : gG} {v : Nat → Nat → Int32} {w : Nat → Nat → Int64} {sg : Nat → Nat} {k : Nat} {q : Nat × va_E} (h : (gW G v w sg)[k]? = some q) : k < 134 ∧ q = (G.2.2 k, gE G v w sg k) := by
  have hk : k < 134 := by
    have := (List.getElem?_eq_some_iff.mp h).1
    rwa [gW_len] at this
  rw [gW_at hk] at h
  exact ⟨hk, (Option.some.inj h).symm⟩
theorem gW_set {G : gG} {v v' : Nat → Nat → Int32} {w w' : Nat → Nat → Int64} {sg sg' : Nat → Nat} {k : Nat} {e' : va_E} (hk : k < 134) (he : gE G v' w' sg' k = e') (ho : ∀ a, a ≠ k → gE G v' w' sg' a = gE G v w sg a) : (gW G v w sg).set k (G.2.2 k, e') = gW G v' w' sg' := by
  apply List.ext_getElem?
  intro i
  by_cases hi : i = k
  · subst hi
    rw [gW_at hk, List.getElem?_set_self (by rw [gW_len]; exact hk), he]
  · rw [List.getElem?_set_ne (fun h => hi h.symm)]
    by_cases h : i < 134
    · rw [gW_at h, gW_at h, ho i hi]
    · rw [List.getElem?_eq_none (by rw [gW_len]; omega), List.getElem?_eq_none (by rw [gW_len]; omega)]
theorem gW_D {A : Nat → Prop} {G : gG} (hj : gDj G) (hA : ∀ q, gA G q → A q) (v : Nat → Nat → Int32) (w : Nat → Nat → Int64) (sg : Nat → Nat) : va_D A (gW G v w sg) := by
  refine ⟨fun i j x y hi hj' hxy => ?_, fun k x hx => ?_⟩
  · obtain ⟨h1, rfl⟩ := gW_inv hi
    obtain ⟨h2, rfl⟩ := gW_inv hj'
    exact hj i j h1 h2 hxy
  · obtain ⟨h1, rfl⟩ := gW_inv hx
    exact hA _ ⟨k, h1, rfl⟩
/-- what the tables say, as every method's start has it -/
def gK (G : gG) (U : State) : Prop := va_K G.1 vwCl (gT G.2.1) U ∧ va_Nw (.methodLinkNest RX0 53 yX9_setRow RX9) U ∧ va_Nw (.methodLinkNest RX2 28 yX9_isWithin RX9) U ∧ va_Nw (.methodLinkNest RX6 39 yX9_setRow RX9) U ∧ va_Nw (.methodLinkNest RX8 26 yX9_isWithin RX9) U
theorem gK_warm {G : gG} {s U : State} (hW : s.WarmedH U.vm) (h : gK G s) : gK G U := ⟨va_K.moved hW.alike h.1, va_Nw.warmM hW h.2.1, va_Nw.warmM hW h.2.2.1, va_Nw.warmM hW h.2.2.2.1, va_Nw.warmM hW h.2.2.2.2⟩
def gCos (i : Nat) : Int32 := ([1000, 966, 866, 707, 500, 259, 0, -259, -500, -707, -866, -966, -1000, -966, -866, -707, -500, -259, 0, 259, 500, 707, 866, 966] : List Int32).getD i 0
/-- the static row COS, outside of A -/
def gX (A : Nat → Prop) (U : State) (H : Heap) : Prop := ∃ t : Nat, va_Z "WindHall$Correction" "COS" "[I" (.ref t) A U H ∧ va_T .int t 24 (fun i => .int (gCos i)) A U H
/-- what a walk has at hand: the machine, the code, the words, the tables, the addresses apart -/
def gC (p : Program) (s : State) (m : MethodId) (c : Code) (cc : ByteArray) (nL : Nat) (args : Array Value) (ws : List Cond) (own : String) (A : Nat → Prop) (G : gG) : Prop := (p.tables.exec = Jvm.exec ∧ c.code = cc ∧ c.maxLocals = nL ∧ s.vm.findClass own = some m.cls ∧ ∀ w ∈ ws, w.before args s = true) ∧ gK G s ∧ gDj G ∧ (∀ q, gA G q → A q) ∧ gX A s s.heap
/-- a contract's start: these arguments, this picture -/
def gPre (G : gG) (v : Nat → Nat → Int32) (w : Nat → Nat → Int64) (sg : Nat → Nat) (As : List Value) : Array Value → State → Prop := va_Pc As (fun U => va_P G.1 vwCl (gW G v w sg) U.heap ∧ gK G U ∧ gDj G ∧ gX (gA G) U U.heap)
abbrev gSt : Type := (Nat → Nat → Int32) × (Nat → Nat → Int64) × (Nat → Nat)
abbrev gQi (G : gG) (P : Int32 → (Nat → Nat → Int32) → (Nat → Nat → Int64) → (Nat → Nat) → Prop) : Array Value → State → Outcome → State → Prop := va_Qi (S := gSt) (fun r u => P r u.1 u.2.1 u.2.2) (fun u t => va_P G.1 vwCl (gW G u.1 u.2.1 u.2.2) t.heap) (gA G)
abbrev gQl (G : gG) (P : Int64 → (Nat → Nat → Int32) → (Nat → Nat → Int64) → (Nat → Nat) → Prop) : Array Value → State → Outcome → State → Prop := va_Ql (S := gSt) (fun r u => P r u.1 u.2.1 u.2.2) (fun u t => va_P G.1 vwCl (gW G u.1 u.2.1 u.2.2) t.heap) (gA G)
abbrev gQv (G : gG) (P : (Nat → Nat → Int32) → (Nat → Nat → Int64) → (Nat → Nat) → Prop) : Array Value → State → Outcome → State → Prop := va_Qv (S := gSt) (fun u => P u.1 u.2.1 u.2.2) (fun u t => va_P G.1 vwCl (gW G u.1 u.2.1 u.2.2) t.heap) (gA G)
theorem gPre_blind {G : gG} {v : Nat → Nat → Int32} {w : Nat → Nat → Int64} {sg : Nat → Nat} {As : List Value} : FrameBlind (gPre G v w sg As) := by
  intro a U g mk q
  obtain ⟨q0, qP, ⟨qK, n1, n2, n3, n4⟩, qD, t, qZ, qT⟩ := q
  have hvm : U.vm = (U.calling g mk a).vm := rfl
  have hal : U.vm.Alike (U.calling g mk a).vm := Vm.Alike.refl U.vm
  exact ⟨q0, qP, ⟨va_K.moved hal qK, va_Nw.same rfl hvm n1, va_Nw.same rfl hvm n2, va_Nw.same rfl hvm n3, va_Nw.same rfl hvm n4⟩, qD, t, va_Z.moved hal qZ, va_T.moved hal qT⟩
section GROWS
variable {p : Program} {l : Launch} {e : Env} {R : Room} {s : State} {m : MethodId} {args : Array Value} {below : List Frame} {meth : Method} {c : Code} {H : Heap} {locs : List Loc} {cells slots : Nat} {Q : State → Prop}
variable {cc : ByteArray} {pc nL : Nat} {ls : Array Slot} {rest : List Value} {A : Nat → Prop} {G : gG} {v : Nat → Nat → Int32} {w : Nat → Nat → Int64} {sg : Nat → Nat} {ws : List Cond} {own : String}
theorem gS_pre (C : gC p s m c cc nL args ws own A G) (h : gS A G s v w sg H locs) (As : List Value) : ∀ U : State, U.heap = H → s.WarmedH U.vm → gPre G v w sg As As.toArray U := fun U hU hW => by
  obtain ⟨t, hZ, hT⟩ := C.2.2.2.2
  have hA := C.2.2.2.1
  refine ⟨rfl, by rw [hU]; exact h.1, gK_warm hW C.2.1, C.2.2.1, t, ?_, ?_⟩
  · rw [hU]
    exact ((hZ.kept h.2.2.1).narrow hA).moved hW.alike
  · rw [hU]
    exact ((hT.kept h.2.2.1).narrow hA).moved hW.alike
theorem g_get (C : gC p s m c cc nL args ws own A G) (h : gS A G s v w sg H locs) (k : Nat) (hk : k < 134) {ci : Nat} {fs : List Value} (he : gE G v w sg k = .inr (ci, fs)) {Cn : String} {T : u_T} {N : Nat} (hc : vwCl[ci]? = some (Cn, T, N)) (hin : ∀ x ∈ u_ws Cn T N, x ∈ ws) (j : Nat) (hj : j < N) {index : Nat} {ref : String} (hlink : Cond.fieldLink own index ref (T j).2.1 (T j).2.2.1 ∈ ws) (hsame : (T j).1 = ref) {x : Value} (hv : fs[j]? = some x) (hdg : decode cc pc = .ok (.getfield index, 3))
    (kk : W p l e R s m args below meth c H locs cells slots Q (F0 m (pc + 3) ls (x :: rest))) : W p l e R s m args below meth c H locs cells slots Q (F0 m pc ls (.ref (G.2.2 k) :: rest)) :=
  va_get C.1.1 C.1.2.1 C.1.2.2.2.2 hin C.1.2.2.2.1 C.2.1.1 h.1 k (by rw [gW_at hk, he]) hc j hj (C.1.2.2.2.2 _ hlink) (fun _ h9 => by rw [← hsame]; exact h9) hv hdg kk
theorem g_put (C : gC p s m c cc nL args ws own A G) (h : gS A G s v w sg H locs) (k : Nat) (hk : k < 134) {ci : Nat} {fs : List Value} (he : gE G v w sg k = .inr (ci, fs)) {Cn : String} {T : u_T} {N : Nat} (hc : vwCl[ci]? = some (Cn, T, N)) (hin : ∀ x ∈ u_ws Cn T N, x ∈ ws) (ty0 : Nat → FieldType) (hty : ∀ k, k < N → parseFieldDescriptor (T k).2.2.1 = some (ty0 k)) (hnm : ∀ a, a < N → ∀ b, b < N → a ≠ b → (T a).2.1 ≠ (T b).2.1) (j : Nat) (hj : j < N) {index : Nat} {ref : String} (hlink : Cond.fieldLink own index ref (T j).2.1 (T j).2.2.1 ∈ ws) (hsame : (T j).1 = ref) (hfin : (T j).2.2.2 = false) {ty : FieldType} {x : Int32} (hd : parseFieldDescriptor (T j).2.2.1 = some ty) (hn : narrow ty (.int x) = .int x) (hfit : fits ty (.int x) = true) (hl : j < fs.length) (hset : gE G (gu v k j x) w sg k = .inr (ci, fs.set j (.int x))) (hdg : decode cc pc = .ok (.putfield index, 3))
    (kk : ∀ (H1 : Heap) (locs1 : List Loc), gS A G s (gu v k j x) w sg H1 locs1 → W p l e R s m args below meth c H1 locs1 cells slots Q (F0 m (pc + 3) ls rest)) : W p l e R s m args below meth c H locs cells slots Q (F0 m pc ls (.int x :: .ref (G.2.2 k) :: rest)) :=
  va_put C.1.1 C.1.2.1 C.1.2.2.2.2 hin ty0 hty hnm C.1.2.2.2.1 C.2.1.1 h.1 (gW_D C.2.2.1 C.2.2.2.1 v w sg) h.2 k (by rw [gW_at hk, he]) hc j hj (C.1.2.2.2.2 _ hlink) (fun _ h9 => by rw [← hsame]; exact h9) hfin hd hn hfit hl hdg (fun H1 locs1 hP hD hS => kk H1 locs1 ⟨by
    rw [← gW_set (v := v) (w := w) (sg := sg) hk hset (fun a ha => gE_o (gu_o ha) rfl (Or.inr rfl))]
    exact hP, hS⟩)
theorem gE_1 {k : Nat} (hk : gkd k = 1) : gE G v w sg k = .inl (G.2.1 0, gln k, .inl (v k)) := by unfold gE; rw [hk]
theorem gE_2 {k : Nat} (hk : gkd k = 2) : gE G v w sg k = .inl (G.2.1 1, gln k, .inr (.inl (w k))) := by unfold gE; rw [hk]
theorem gE_3 {k : Nat} (hk : gkd k = 3) : gE G v w sg k = .inl (G.2.1 2, gln k, .inl (v k)) := by unfold gE; rw [hk]
theorem gE_4 {k : Nat} (n : Nat) (hk : gkd k = n + 4) : gE G v w sg k = .inl (G.2.1 (n + 3), gln k, .inr (.inr (.inr (.inr (fun i => some (G.2.2 (gR sg k i))))))) := by unfold gE; rw [hk]
theorem g_iald (C : gC p s m c cc nL args ws own A G) (h : gS A G s v w sg H locs) (k : Nat) (hk : k < 134) (hd : gkd k = 1) {n : Nat} (hn : gln k = n) {i : Int32} (hin : vp_in i n) (hdg : decode cc pc = .ok (.iaload, 1))
    (kk : W p l e R s m args below meth c H locs cells slots Q (F0 m (pc + 1) ls (.int (v k i.toNatClampNeg) :: rest))) : W p l e R s m args below meth c H locs cells slots Q (F0 m pc ls (.int i :: .ref (G.2.2 k) :: rest)) :=
  va_iald C.1.1 C.1.2.1 C.2.1.1 h.1 k 0 (n := n) (f := v k) (by rw [gW_at hk, gE_1 hd, hn]) rfl hin hdg kk
theorem g_zald (C : gC p s m c cc nL args ws own A G) (h : gS A G s v w sg H locs) (k : Nat) (hk : k < 134) (hd : gkd k = 3) {n : Nat} (hn : gln k = n) {i : Int32} (hin : vp_in i n) (hdg : decode cc pc = .ok (.baload, 1))
    (kk : W p l e R s m args below meth c H locs cells slots Q (F0 m (pc + 1) ls (.int (v k i.toNatClampNeg) :: rest))) : W p l e R s m args below meth c H locs cells slots Q (F0 m pc ls (.int i :: .ref (G.2.2 k) :: rest)) :=
  va_zald C.1.1 C.1.2.1 C.2.1.1 h.1 k 2 (n := n) (f := v k) (by rw [gW_at hk, gE_3 hd, hn]) rfl hin hdg kk
theorem g_lald (C : gC p s m c cc nL args ws own A G) (h : gS A G s v w sg H locs) (k : Nat) (hk : k < 134) (hd : gkd k = 2) {n : Nat} (hn : gln k = n) {i : Int32} (hin : vp_in i n) (hdg : decode cc pc = .ok (.laload, 1))
    (kk : W p l e R s m args below meth c H locs cells slots Q (F0 m (pc + 1) ls (.long (w k i.toNatClampNeg) :: rest))) : W p l e R s m args below meth c H locs cells slots Q (F0 m pc ls (.int i :: .ref (G.2.2 k) :: rest)) :=
  va_lald C.1.1 C.1.2.1 C.2.1.1 h.1 k 1 (n := n) (f := w k) (by rw [gW_at hk, gE_2 hd, hn]) rfl hin hdg kk
theorem g_iast (C : gC p s m c cc nL args ws own A G) (h : gS A G s v w sg H locs) (k : Nat) (hk : k < 134) (hd : gkd k = 1) {n : Nat} (hn : gln k = n) {i x : Int32} (hin : vp_in i n) (hdg : decode cc pc = .ok (.iastore, 1))
    (kk : ∀ (H1 : Heap) (locs1 : List Loc), gS A G s (gu v k i.toNatClampNeg x) w sg H1 locs1 → W p l e R s m args below meth c H1 locs1 cells slots Q (F0 m (pc + 1) ls rest)) : W p l e R s m args below meth c H locs cells slots Q (F0 m pc ls (.int x :: .int i :: .ref (G.2.2 k) :: rest)) :=
  va_iast C.1.1 C.1.2.1 C.2.1.1 h.1 (gW_D C.2.2.1 C.2.2.2.1 v w sg) h.2 k 0 (n := n) (f := v k) (by rw [gW_at hk, gE_1 hd, hn]) rfl hin hdg (fun H1 locs1 hP hD hS => kk H1 locs1 ⟨by
    rw [← gW_set (v := v) (w := w) (sg := sg) hk ((gE_1 hd).trans (by rw [hn, gu_s])) (fun a ha => gE_o (gu_o ha) rfl (Or.inr rfl))]
    exact hP, hS⟩)
theorem g_last (C : gC p s m c cc nL args ws own A G) (h : gS A G s v w sg H locs) (k : Nat) (hk : k < 134) (hd : gkd k = 2) {n : Nat} (hn : gln k = n) {i : Int32} {x : Int64} (hin : vp_in i n) (hdg : decode cc pc = .ok (.lastore, 1))
    (kk : ∀ (H1 : Heap) (locs1 : List Loc), gS A G s v (gul w k i.toNatClampNeg x) sg H1 locs1 → W p l e R s m args below meth c H1 locs1 cells slots Q (F0 m (pc + 1) ls rest)) : W p l e R s m args below meth c H locs cells slots Q (F0 m pc ls (.long x :: .int i :: .ref (G.2.2 k) :: rest)) :=
  va_last C.1.1 C.1.2.1 C.2.1.1 h.1 (gW_D C.2.2.1 C.2.2.2.1 v w sg) h.2 k 1 (n := n) (f := w k) (by rw [gW_at hk, gE_2 hd, hn]) rfl hin hdg (fun H1 locs1 hP hD hS => kk H1 locs1 ⟨by
    rw [← gW_set (v := v) (w := w) (sg := sg) hk ((gE_2 hd).trans (by rw [hn, gul_s])) (fun a ha => gE_o rfl (gul_o ha) (Or.inr rfl))]
    exact hP, hS⟩)
theorem g_zast (C : gC p s m c cc nL args ws own A G) (h : gS A G s v w sg H locs) (k : Nat) (hk : k < 134) (hd : gkd k = 3) {n : Nat} (hn : gln k = n) {i x : Int32} (hin : vp_in i n) (hdg : decode cc pc = .ok (.bastore, 1))
    (kk : ∀ (H1 : Heap) (locs1 : List Loc), gS A G s (gu v k i.toNatClampNeg (vp_nar .boolean x)) w sg H1 locs1 → W p l e R s m args below meth c H1 locs1 cells slots Q (F0 m (pc + 1) ls rest)) : W p l e R s m args below meth c H locs cells slots Q (F0 m pc ls (.int x :: .int i :: .ref (G.2.2 k) :: rest)) :=
  va_zast C.1.1 C.1.2.1 C.2.1.1 h.1 (gW_D C.2.2.1 C.2.2.2.1 v w sg) h.2 k 2 (n := n) (f := v k) (by rw [gW_at hk, gE_3 hd, hn]) rfl hin hdg (fun H1 locs1 hP hD hS => kk H1 locs1 ⟨by
    rw [← gW_set (v := v) (w := w) (sg := sg) hk ((gE_3 hd).trans (by rw [hn, gu_s])) (fun a ha => gE_o (gu_o ha) rfl (Or.inr rfl))]
    exact hP, hS⟩)
theorem g_aald (C : gC p s m c cc nL args ws own A G) (h : gS A G s v w sg H locs) (k : Nat) (hk : k < 134) (t : Nat) (hd : gkd k = t + 4) {n : Nat} (hn : gln k = n) {ty : FieldType} (ht : (gT G.2.1)[t + 3]? = some (G.2.1 (t + 3), ty)) (hty : ty.isReference = true) {i : Int32} (hin : vp_in i n) (hdg : decode cc pc = .ok (.aaload, 1))
    (kk : W p l e R s m args below meth c H locs cells slots Q (F0 m (pc + 1) ls (.ref (G.2.2 (gR sg k i.toNatClampNeg)) :: rest))) : W p l e R s m args below meth c H locs cells slots Q (F0 m pc ls (.int i :: .ref (G.2.2 k) :: rest)) := by
  have ha : (gW G v w sg)[k]? = some (G.2.2 k, .inl (G.2.1 (t + 3), n, .inr (.inr (.inr (.inr (fun i => some (G.2.2 (gR sg k i)))))))) := by rw [gW_at hk, gE_4 t hd, hn]
  have hlt : i.toNatClampNeg < n := Nat.not_le.mp fun q => hin (Or.inr q)
  exact W.aald (v := .ref (G.2.2 (gR sg k i.toNatClampNeg))) (ty := ty) C.1.1 C.1.2.1 (h.1 k _ ha) ((C.2.1.1.2 (t + 3) _ ht).1 n (fun j => va_rf (some (G.2.2 (gR sg k j))))) hty (fun q => by cases q) (by show ¬ (i < 0 ∨ (arrV _ _ _).slots.size ≤ _); rw [arrV_size]; exact hin) (by show (arrV _ _ _).slots[_]? = _; rw [arrV_read _ _ hlt]; rfl) rfl rfl hdg kk
theorem g_recv (C : gC p s m c cc nL args ws own A G) (h : gS A G s v w sg H locs) (k : Nat) (hk : k < 134) {ci : Nat} {fs : List Value} (he : gE G v w sg k = .inr (ci, fs)) {q : vw_C} (hc : vwCl[ci]? = some q) : ∃ cell : Cell, H[G.2.2 k]? = some cell ∧ cell.vm.isStatics = false ∧ s.vm.findClass q.1 = some cell.cls := va_recv C.2.1.1 h.1 hc (by rw [gW_at hk, he])
theorem g_calli (C : gC p s m c cc nL args ws own A G) {P : Int32 → (Nat → Nat → Int32) → (Nat → Nat → Int64) → (Nat → Nat) → Prop} {a : Array Value} {st0 : List Value} (hr : va_Run p l e R s m args below meth c H locs cells slots 0 0 (F0 m pc ls st0) rest (gQi G P a) (gA G)) (h : gS A G s v w sg H locs)
    (kk : ∀ (r : Int32) (v' : Nat → Nat → Int32) (w' : Nat → Nat → Int64) (sg' : Nat → Nat) (H1 : Heap) (locs1 : List Loc), P r v' w' sg' → gS A G s v' w' sg' H1 locs1 → W p l e R s m args below meth c H1 locs1 cells slots Q (F0 m (pc + 3) ls (.int r :: rest))) : W p l e R s m args below meth c H locs cells slots Q (F0 m pc ls st0) :=
  va_calli hr h.2 (fun q _ hq => C.2.2.2.1 q hq) (fun q hq => C.2.2.2.1 q hq) (fun r u t H1 locs1 ht hvm hp hB hz hk hS => kk r u.1 u.2.1 u.2.2 H1 locs1 hp ⟨by rw [← ht]; exact hB, hS⟩)
theorem g_calll (C : gC p s m c cc nL args ws own A G) {P : Int64 → (Nat → Nat → Int32) → (Nat → Nat → Int64) → (Nat → Nat) → Prop} {a : Array Value} {st0 : List Value} (hr : va_Run p l e R s m args below meth c H locs cells slots 0 0 (F0 m pc ls st0) rest (gQl G P a) (gA G)) (h : gS A G s v w sg H locs)
    (kk : ∀ (r : Int64) (v' : Nat → Nat → Int32) (w' : Nat → Nat → Int64) (sg' : Nat → Nat) (H1 : Heap) (locs1 : List Loc), P r v' w' sg' → gS A G s v' w' sg' H1 locs1 → W p l e R s m args below meth c H1 locs1 cells slots Q (F0 m (pc + 3) ls (.long r :: rest))) : W p l e R s m args below meth c H locs cells slots Q (F0 m pc ls st0) :=
  va_calll hr h.2 (fun q _ hq => C.2.2.2.1 q hq) (fun q hq => C.2.2.2.1 q hq) (fun r u t H1 locs1 ht hvm hp hB hz hk hS => kk r u.1 u.2.1 u.2.2 H1 locs1 hp ⟨by rw [← ht]; exact hB, hS⟩)
theorem g_callv (C : gC p s m c cc nL args ws own A G) {P : (Nat → Nat → Int32) → (Nat → Nat → Int64) → (Nat → Nat) → Prop} {a : Array Value} {st0 : List Value} (hr : va_Run p l e R s m args below meth c H locs cells slots 0 0 (F0 m pc ls st0) rest (gQv G P a) (gA G)) (h : gS A G s v w sg H locs)
    (kk : ∀ (v' : Nat → Nat → Int32) (w' : Nat → Nat → Int64) (sg' : Nat → Nat) (H1 : Heap) (locs1 : List Loc), P v' w' sg' → gS A G s v' w' sg' H1 locs1 → W p l e R s m args below meth c H1 locs1 cells slots Q (F0 m (pc + 3) ls rest)) : W p l e R s m args below meth c H locs cells slots Q (F0 m pc ls st0) :=
  va_callv hr h.2 (fun q _ hq => C.2.2.2.1 q hq) (fun q hq => C.2.2.2.1 q hq) (fun u t H1 locs1 ht hvm hp hB hz hk hS => kk u.1 u.2.1 u.2.2 H1 locs1 hp ⟨by rw [← ht]; exact hB, hS⟩)
theorem g_iret (C : gC p s m c cc nL args ws own (gA G) G) (hlk : meth.locks = false) (hr : meth.sig.returnType = some .int) (h : gS (gA G) G s v w sg H locs) {P : Int32 → (Nat → Nat → Int32) → (Nat → Nat → Int64) → (Nat → Nat) → Prop} {x : Int32} (hdg : decode cc pc = .ok (.ireturn, 1)) (hp : P x v w sg) : W p l e R s m args below meth c H locs 0 0 (MQ below (gQi G P) args s 0 0 (gA G)) (F0 m pc ls [.int x]) :=
  W.iret C.1.1 C.1.2.1 hr (fun t ht hW => ⟨⟨x, (v, w, sg), rfl, hp, by show va_P _ _ _ t.heap; rw [ht]; exact h.1⟩, h.2.F ht⟩) h.2.2.2 hdg hlk
theorem g_zret (C : gC p s m c cc nL args ws own (gA G) G) (hlk : meth.locks = false) (hr : meth.sig.returnType = some .boolean) (h : gS (gA G) G s v w sg H locs) {P : Int32 → (Nat → Nat → Int32) → (Nat → Nat → Int64) → (Nat → Nat) → Prop} {x : Int32} (hn : narrow .boolean (.int x) = .int x) (hdg : decode cc pc = .ok (.ireturn, 1)) (hp : P x v w sg) : W p l e R s m args below meth c H locs 0 0 (MQ below (gQi G P) args s 0 0 (gA G)) (F0 m pc ls [.int x]) :=
  W.zret C.1.1 C.1.2.1 hr hn (fun t ht hW => ⟨⟨x, (v, w, sg), rfl, hp, by show va_P _ _ _ t.heap; rw [ht]; exact h.1⟩, h.2.F ht⟩) h.2.2.2 hdg hlk
theorem g_lret (C : gC p s m c cc nL args ws own (gA G) G) (hlk : meth.locks = false) (hr : meth.sig.returnType = some .long) (h : gS (gA G) G s v w sg H locs) {P : Int64 → (Nat → Nat → Int32) → (Nat → Nat → Int64) → (Nat → Nat) → Prop} {x : Int64} (hdg : decode cc pc = .ok (.lreturn, 1)) (hp : P x v w sg) : W p l e R s m args below meth c H locs 0 0 (MQ below (gQl G P) args s 0 0 (gA G)) (F0 m pc ls [.long x]) :=
  W.lret C.1.1 C.1.2.1 hr (fun t ht hW => ⟨⟨x, (v, w, sg), rfl, hp, by show va_P _ _ _ t.heap; rw [ht]; exact h.1⟩, h.2.F ht⟩) h.2.2.2 hdg hlk
theorem g_vret (C : gC p s m c cc nL args ws own (gA G) G) (hlk : meth.locks = false) (hr : meth.sig.returnType = none) (h : gS (gA G) G s v w sg H locs) {P : (Nat → Nat → Int32) → (Nat → Nat → Int64) → (Nat → Nat) → Prop} (hdg : decode cc pc = .ok (.return_, 1)) (hp : P v w sg) : W p l e R s m args below meth c H locs 0 0 (MQ below (gQv G P) args s 0 0 (gA G)) (F0 m pc ls []) :=
  W.vret C.1.1 C.1.2.1 hr (fun t ht hW => ⟨⟨(v, w, sg), rfl, hp, by show va_P _ _ _ t.heap; rw [ht]; exact h.1⟩, h.2.F ht⟩) h.2.2.2 hdg hlk
end GROWS
theorem gM_of {l : Launch} {G : gG} {v : Nat → Nat → Int32} {w : Nat → Nat → Int64} {sg : Nat → Nat} {y : MethodName} {ws ws' : List Cond} {rm : Room} {cc : ByteArray} {maxL : Nat} {ret : Option FieldType} {As : List Value} {Qc : Array Value → State → Outcome → State → Prop} (hy : plainName y.cls = true) (hw : ws = Cond.code y cc maxL ret :: ws') (hn : (lg_sl As).length ≤ maxL)
    (body : ∀ (p : Program) (e : Env) (s : State) (m : MethodId) (args : Array Value) (below : List Frame) (meth : Method) (c : Code) (ls : Array Slot), gC p s m c cc maxL args ws y.cls (gA G) G → meth.locks = false → meth.sig.returnType = ret → gS (gA G) G s v w sg s.heap [] → lv_has ls maxL (lv_args 0 As) → W p l e (headSpec ws rm).room s m args below meth c s.heap [] 0 0 (MQ below Qc args s 0 0 (gA G)) (F0 m 0 ls [])) : Met l y ws rm (gPre G v w sg As) Qc 0 0 (gA G) := by
  refine Met.ofW (cc := cc) (maxL := maxL) (ret := ret) hy hw ?_
  intro p e s m args below meth c s₁ B hml hv
  obtain ⟨rfl, hP, hK, hD, hX⟩ := hv
  have hl := lv_entry As (n := maxL) hn
  rw [lg_entry_eq]
  exact body p e s m _ below meth c _ ⟨⟨B.exec, B.bytes, hml, findClass_of_methodNamed B.named, atoms_spec (ws := ws) B.pre⟩, hK, hD, fun _ h => h, hX⟩ B.notSynchronized B.returns ⟨hP, va_S.rf⟩ hl
theorem gM_ofi {l : Launch} {G : gG} {v : Nat → Nat → Int32} {w : Nat → Nat → Int64} {sg : Nat → Nat} {y : MethodName} {ws ws' : List Cond} {rm : Room} {cc : ByteArray} {maxL : Nat} {As : List Value} {P : Int32 → (Nat → Nat → Int32) → (Nat → Nat → Int64) → (Nat → Nat) → Prop} (hy : plainName y.cls = true) (hw : ws = Cond.code y cc maxL (some .int) :: ws') (hn : (lg_sl As).length ≤ maxL)
    (body : ∀ (p : Program) (e : Env) (R : Room) (s : State) (m : MethodId) (args : Array Value) (below : List Frame) (meth : Method) (c : Code) (Q : State → Prop) (ls : Array Slot), gC p s m c cc maxL args ws y.cls (gA G) G → R = (headSpec ws rm).room → (∀ (x : Int32) (v : Nat → Nat → Int32) (w : Nat → Nat → Int64) (sg : Nat → Nat) (H : Heap) (locs : List Loc) (pc : Nat) (ls : Array Slot), decode cc pc = .ok (.ireturn, 1) → gS (gA G) G s v w sg H locs → P x v w sg → W p l e R s m args below meth c H locs 0 0 Q (F0 m pc ls [.int x])) → gS (gA G) G s v w sg s.heap [] → lv_has ls maxL (lv_args 0 As) → W p l e R s m args below meth c s.heap [] 0 0 Q (F0 m 0 ls [])) : Met l y ws rm (gPre G v w sg As) (gQi G P) 0 0 (gA G) :=
  gM_of hy hw hn (fun p e s m args below meth c ls C hlk hr h hl => body p e _ s m args below meth c _ ls C rfl (fun x v w sg H locs pc ls hdg h hp => g_iret C hlk hr h hdg hp) h hl)
theorem gM_ofz {l : Launch} {G : gG} {v : Nat → Nat → Int32} {w : Nat → Nat → Int64} {sg : Nat → Nat} {y : MethodName} {ws ws' : List Cond} {rm : Room} {cc : ByteArray} {maxL : Nat} {As : List Value} {P : Int32 → (Nat → Nat → Int32) → (Nat → Nat → Int64) → (Nat → Nat) → Prop} (hy : plainName y.cls = true) (hw : ws = Cond.code y cc maxL (some .boolean) :: ws') (hn : (lg_sl As).length ≤ maxL)
    (body : ∀ (p : Program) (e : Env) (R : Room) (s : State) (m : MethodId) (args : Array Value) (below : List Frame) (meth : Method) (c : Code) (Q : State → Prop) (ls : Array Slot), gC p s m c cc maxL args ws y.cls (gA G) G → R = (headSpec ws rm).room → (∀ (x : Int32) (v : Nat → Nat → Int32) (w : Nat → Nat → Int64) (sg : Nat → Nat) (H : Heap) (locs : List Loc) (pc : Nat) (ls : Array Slot), narrow .boolean (.int x) = .int x → decode cc pc = .ok (.ireturn, 1) → gS (gA G) G s v w sg H locs → P x v w sg → W p l e R s m args below meth c H locs 0 0 Q (F0 m pc ls [.int x])) → gS (gA G) G s v w sg s.heap [] → lv_has ls maxL (lv_args 0 As) → W p l e R s m args below meth c s.heap [] 0 0 Q (F0 m 0 ls [])) : Met l y ws rm (gPre G v w sg As) (gQi G P) 0 0 (gA G) :=
  gM_of hy hw hn (fun p e s m args below meth c ls C hlk hr h hl => body p e _ s m args below meth c _ ls C rfl (fun x v w sg H locs pc ls hn hdg h hp => g_zret C hlk hr h hn hdg hp) h hl)
theorem gM_ofl {l : Launch} {G : gG} {v : Nat → Nat → Int32} {w : Nat → Nat → Int64} {sg : Nat → Nat} {y : MethodName} {ws ws' : List Cond} {rm : Room} {cc : ByteArray} {maxL : Nat} {As : List Value} {P : Int64 → (Nat → Nat → Int32) → (Nat → Nat → Int64) → (Nat → Nat) → Prop} (hy : plainName y.cls = true) (hw : ws = Cond.code y cc maxL (some .long) :: ws') (hn : (lg_sl As).length ≤ maxL)
    (body : ∀ (p : Program) (e : Env) (R : Room) (s : State) (m : MethodId) (args : Array Value) (below : List Frame) (meth : Method) (c : Code) (Q : State → Prop) (ls : Array Slot), gC p s m c cc maxL args ws y.cls (gA G) G → R = (headSpec ws rm).room → (∀ (x : Int64) (v : Nat → Nat → Int32) (w : Nat → Nat → Int64) (sg : Nat → Nat) (H : Heap) (locs : List Loc) (pc : Nat) (ls : Array Slot), decode cc pc = .ok (.lreturn, 1) → gS (gA G) G s v w sg H locs → P x v w sg → W p l e R s m args below meth c H locs 0 0 Q (F0 m pc ls [.long x])) → gS (gA G) G s v w sg s.heap [] → lv_has ls maxL (lv_args 0 As) → W p l e R s m args below meth c s.heap [] 0 0 Q (F0 m 0 ls [])) : Met l y ws rm (gPre G v w sg As) (gQl G P) 0 0 (gA G) :=
  gM_of hy hw hn (fun p e s m args below meth c ls C hlk hr h hl => body p e _ s m args below meth c _ ls C rfl (fun x v w sg H locs pc ls hdg h hp => g_lret C hlk hr h hdg hp) h hl)
theorem gM_ofv {l : Launch} {G : gG} {v : Nat → Nat → Int32} {w : Nat → Nat → Int64} {sg : Nat → Nat} {y : MethodName} {ws ws' : List Cond} {rm : Room} {cc : ByteArray} {maxL : Nat} {As : List Value} {P : (Nat → Nat → Int32) → (Nat → Nat → Int64) → (Nat → Nat) → Prop} (hy : plainName y.cls = true) (hw : ws = Cond.code y cc maxL none :: ws') (hn : (lg_sl As).length ≤ maxL)
    (body : ∀ (p : Program) (e : Env) (R : Room) (s : State) (m : MethodId) (args : Array Value) (below : List Frame) (meth : Method) (c : Code) (Q : State → Prop) (ls : Array Slot), gC p s m c cc maxL args ws y.cls (gA G) G → R = (headSpec ws rm).room → (∀ (v : Nat → Nat → Int32) (w : Nat → Nat → Int64) (sg : Nat → Nat) (H : Heap) (locs : List Loc) (pc : Nat) (ls : Array Slot), decode cc pc = .ok (.return_, 1) → gS (gA G) G s v w sg H locs → P v w sg → W p l e R s m args below meth c H locs 0 0 Q (F0 m pc ls [])) → gS (gA G) G s v w sg s.heap [] → lv_has ls maxL (lv_args 0 As) → W p l e R s m args below meth c s.heap [] 0 0 Q (F0 m 0 ls [])) : Met l y ws rm (gPre G v w sg As) (gQv G P) 0 0 (gA G) :=
  gM_of hy hw hn (fun p e s m args below meth c ls C hlk hr h hl => body p e _ s m args below meth c _ ls C rfl (fun v w sg H locs pc ls hdg h hp => g_vret C hlk hr h hdg hp) h hl)
theorem il_of {x : Int32} {X : Int} (h : x.toInt = X) : x.toInt64.toInt = X := by rw [← h]; simp
theorem vp_of {i : Int32} {I : Int} {n : Nat} (h : i.toInt = I) (h1 : 0 ≤ I) (h2 : I < n) : vp_in i n := vp_in_iff.mpr (by rw [h]; exact ⟨h1, h2⟩)
theorem cl_of {i : Int32} {I : Int} (h : i.toInt = I) (h1 : 0 ≤ I) : (i.toNatClampNeg : Int) = I := by
  have : i.toNatClampNeg = i.toInt.toNat := rfl
  rw [this, h]
  omega
theorem ia_add {x a b : Int32} (e : x = a + b) {A B : Int} (ha : a.toInt = A) (hb : b.toInt = B) (h1 : -2147483648 ≤ A + B) (h2 : A + B < 2147483648) : x.toInt = A + B := by subst ha; subst hb; rw [e]; exact fb_addI h1 h2
theorem ia_sub {x a b : Int32} (e : x = a - b) {A B : Int} (ha : a.toInt = A) (hb : b.toInt = B) (h1 : -2147483648 ≤ A - B) (h2 : A - B < 2147483648) : x.toInt = A - B := by subst ha; subst hb; rw [e]; exact fb_subI h1 h2
theorem ia_mul {x a b : Int32} (e : x = a * b) {A B : Int} (ha : a.toInt = A) (hb : b.toInt = B) (h1 : -2147483648 ≤ A * B) (h2 : A * B < 2147483648) : x.toInt = A * B := by subst ha; subst hb; rw [e]; exact fb_mulI h1 h2
theorem ia_neg {x a : Int32} (e : x = -a) {A : Int} (ha : a.toInt = A) (h1 : A ≠ -2147483648) : x.toInt = -A := by subst ha; rw [e]; exact fb_negI h1
theorem la_add {x a b : Int64} (e : x = a + b) {A B : Int} (ha : a.toInt = A) (hb : b.toInt = B) (h1 : -9223372036854775808 ≤ A + B) (h2 : A + B < 9223372036854775808) : x.toInt = A + B := by subst ha; subst hb; rw [e]; exact fb_addL h1 h2
theorem la_sub {x a b : Int64} (e : x = a - b) {A B : Int} (ha : a.toInt = A) (hb : b.toInt = B) (h1 : -9223372036854775808 ≤ A - B) (h2 : A - B < 9223372036854775808) : x.toInt = A - B := by subst ha; subst hb; rw [e]; exact fb_subL h1 h2
theorem la_mul {x a b : Int64} (e : x = a * b) {A B : Int} (ha : a.toInt = A) (hb : b.toInt = B) (h1 : -9223372036854775808 ≤ A * B) (h2 : A * B < 9223372036854775808) : x.toInt = A * B := by subst ha; subst hb; rw [e]; exact fb_mulL h1 h2
theorem i_lt {x y : Int32} {X Y : Int} (hx : x.toInt = X) (hy : y.toInt = Y) : x < y ↔ X < Y := by rw [← hx, ← hy]; exact fa_lt x y
theorem i_le {x y : Int32} {X Y : Int} (hx : x.toInt = X) (hy : y.toInt = Y) : x ≤ y ↔ X ≤ Y := by rw [← hx, ← hy]; exact fa_le x y
theorem i_eq {x y : Int32} {X Y : Int} (hx : x.toInt = X) (hy : y.toInt = Y) : x = y ↔ X = Y := by rw [← hx, ← hy]; exact fa_eq x y
theorem l_lt {x y : Int64} {X Y : Int} (hx : x.toInt = X) (hy : y.toInt = Y) : x < y ↔ X < Y := by rw [← hx, ← hy]; exact fa_lt64 x y
theorem l_le {x y : Int64} {X Y : Int} (hx : x.toInt = X) (hy : y.toInt = Y) : x ≤ y ↔ X ≤ Y := by rw [← hx, ← hy]; exact fa_le64 x y
theorem l_eq {x y : Int64} {X Y : Int} (hx : x.toInt = X) (hy : y.toInt = Y) : x = y ↔ X = Y := by rw [← hx, ← hy]; exact fa_eq64 x y
theorem l_ge0 {x y : Int64} {X Y : Int} (hx : x.toInt = X) (hy : y.toInt = Y) : 0 ≤ lg_cmp x y ↔ Y ≤ X := (lg_cmp_ge x y).trans (l_le hy hx)
theorem l_le0 {x y : Int64} {X Y : Int} (hx : x.toInt = X) (hy : y.toInt = Y) : lg_cmp x y ≤ 0 ↔ X ≤ Y := (lg_cmp_le x y).trans (l_le hx hy)
theorem l_gt0 {x y : Int64} {X Y : Int} (hx : x.toInt = X) (hy : y.toInt = Y) : 0 < lg_cmp x y ↔ Y < X := (lg_cmp_gt x y).trans (l_lt hy hx)
theorem l_lt0 {x y : Int64} {X Y : Int} (hx : x.toInt = X) (hy : y.toInt = Y) : lg_cmp x y < 0 ↔ X < Y := (lg_cmp_lt x y).trans (l_lt hx hy)
theorem l_eq0 {x y : Int64} {X Y : Int} (hx : x.toInt = X) (hy : y.toInt = Y) : lg_cmp x y = 0 ↔ X = Y := (lg_cmp_eq x y).trans (l_eq hx hy)
theorem i_rng (x : Int32) : -2147483648 ≤ x.toInt ∧ x.toInt < 2147483648 := fb_rng x
theorem l_rng (x : Int64) : -9223372036854775808 ≤ x.toInt ∧ x.toInt < 9223372036854775808 := fb_rngL x

