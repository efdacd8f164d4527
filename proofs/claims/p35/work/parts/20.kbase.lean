def va_AOA (ty : FieldType) (U : State) : Prop := (Cond.arrayOver (.array ty)).before #[] U = true
theorem va_AOA.use {ty : FieldType} {A : Array Value} {U : State} (h : va_AOA ty U) : (Cond.arrayOver (.array ty)).before A U = true := h
theorem va_AOA.moved {ty : FieldType} {u U : State} (hvm : u.vm.Alike U.vm) (h : va_AOA ty u) : va_AOA ty U := over_moved hvm h
/-- the world while it is made: place k lies at s0 + k -/
def wz (s0 n : Nat) (e : Nat → va_E) : va_W := (List.range n).map (fun k => (s0 + k, e k))
theorem wz_at {s0 n : Nat} {e : Nat → va_E} {k : Nat} (hk : k < n) : (wz s0 n e)[k]? = some (s0 + k, e k) := by
  unfold wz
  rw [List.getElem?_map, List.getElem?_range hk]
  rfl
theorem wz_len {s0 n : Nat} {e : Nat → va_E} : (wz s0 n e).length = n := by
  unfold wz
  rw [List.length_map, List.length_range]
theorem wz_inv {s0 n : Nat} {e : Nat → va_E} {k : Nat} {q : Nat × va_E} (h : (wz s0 n e)[k]? = some q) : k < n ∧ q = (s0 + k, e k) := by
  have hk : k < n := by
    have := (List.getElem?_eq_some_iff.mp h).1
    rwa [wz_len] at this
  rw [wz_at hk] at h
  exact ⟨hk, (Option.some.inj h).symm⟩
theorem wz_D {s0 n : Nat} {e : Nat → va_E} : va_D (fun q => s0 ≤ q) (wz s0 n e) := by
  refine ⟨fun i j x y hi hj hxy => ?_, fun k x hx => ?_⟩
  · obtain ⟨h1, rfl⟩ := wz_inv hi
    obtain ⟨h2, rfl⟩ := wz_inv hj
    have : s0 + i = s0 + j := hxy
    omega
  · obtain ⟨h1, rfl⟩ := wz_inv hx
    exact Nat.le_add_right _ _
/-- the words of the private constructors -/
def kN : List (String × Nat × MethodName) := [(RX9, 9, yX0_init), (RX0, 37, yX4_init), (RX9, 18, yX1_init), (RX1, 25, yX4_init), (RX3, 38, yX2_init), (RX9, 32, yX5_init), (RX9, 39, yX6_init), (RX9, 46, yX8_init), (RX9, 57, yX7_init)]
def kK (D : va_G) (cs : Nat → ClassId) (U : State) : Prop := va_K D vwCl (gT cs) U ∧ (va_AOA .int U ∧ va_AOA .long U) ∧ (va_AO "WindHall$Correction" U ∧ va_AO "WindHall$Sheet" U) ∧ ∀ q ∈ kN, va_Nw (.methodLinkNest q.1 q.2.1 q.2.2 RX9) U
theorem kK_warm {D : va_G} {cs : Nat → ClassId} {s U : State} (hW : s.WarmedH U.vm) (h : kK D cs s) : kK D cs U := ⟨va_K.moved hW.alike h.1, ⟨h.2.1.1.moved hW.alike, h.2.1.2.moved hW.alike⟩, ⟨h.2.2.1.1.moved hW.alike, h.2.2.1.2.moved hW.alike⟩, fun q hq => va_Nw.warmM hW (h.2.2.2 q hq)⟩
def kS (D : va_G) (s : State) (s0 n : Nat) (e : Nat → va_E) (H : Heap) (locs : List Loc) : Prop := va_P D vwCl (wz s0 n e) H ∧ va_S (fun q => s0 ≤ q) s.heap H locs ∧ H.size = s0 + n
def kC (p : Program) (s : State) (m : MethodId) (c : Code) (cc : ByteArray) (nL : Nat) (args : Array Value) (ws : List Cond) (own : String) (D : va_G) (cs : Nat → ClassId) (s0 : Nat) : Prop := (p.tables.exec = Jvm.exec ∧ c.code = cc ∧ c.maxLocals = nL ∧ s.vm.findClass own = some m.cls ∧ ∀ w ∈ ws, w.before args s = true) ∧ kK D cs s ∧ s0 ≤ s.heap.size
def kPre (D : va_G) (cs : Nat → ClassId) (s0 n : Nat) (e : Nat → va_E) (As : List Value) : Array Value → State → Prop := va_Pc As (fun U => va_P D vwCl (wz s0 n e) U.heap ∧ U.heap.size = s0 + n ∧ kK D cs U)
abbrev kQ (D : va_G) (s0 n : Nat) (P : (Nat → va_E) → Prop) : Array Value → State → Outcome → State → Prop := va_Qv (S := Nat → va_E) P (fun e t => va_P D vwCl (wz s0 n e) t.heap ∧ t.heap.size = s0 + n) (fun q => s0 ≤ q)
theorem kPre_blind {D : va_G} {cs : Nat → ClassId} {s0 n : Nat} {e : Nat → va_E} {As : List Value} : FrameBlind (kPre D cs s0 n e As) := by
  intro a U g mk q
  obtain ⟨q0, qP, qz, qK, ⟨a1, a2⟩, ⟨b1, b2⟩, qn⟩ := q
  have hvm : U.vm = (U.calling g mk a).vm := rfl
  have hal : U.vm.Alike (U.calling g mk a).vm := Vm.Alike.refl U.vm
  exact ⟨q0, qP, qz, va_K.moved hal qK, ⟨a1.moved hal, a2.moved hal⟩, ⟨b1.moved hal, b2.moved hal⟩, fun x hx => va_Nw.same rfl hvm (qn x hx)⟩
theorem wz_set {s0 n : Nat} {e : Nat → va_E} {k : Nat} {x : va_E} (hk : k < n) : (wz s0 n e).set k (s0 + k, x) = wz s0 n (va_up e k x) := by
  apply List.ext_getElem?
  intro i
  by_cases hi : i = k
  · subst hi
    rw [wz_at hk, List.getElem?_set_self (by rw [wz_len]; exact hk)]
    simp [va_up]
  · rw [List.getElem?_set_ne (fun h => hi h.symm)]
    by_cases h : i < n
    · rw [wz_at h, wz_at h]
      simp [va_up, hi]
    · rw [List.getElem?_eq_none (by rw [wz_len]; omega), List.getElem?_eq_none (by rw [wz_len]; omega)]
theorem kS_push {D : va_G} {s : State} {s0 n : Nat} {e : Nat → va_E} {H H1 : Heap} {locs : List Loc} {x : va_E} (h : kS D s s0 n e H locs) (z1 : H1.size = H.size + 1) (o1 : ∀ q, q < H.size → H1[q]? = H[q]?) (hx : va_at D vwCl (H.size, x) H1) : kS D s s0 (n + 1) (va_up e n x) H1 locs := by
  obtain ⟨hP, hS, hz⟩ := h
  refine ⟨?_, ⟨by have := hS.1; omega, fun q h1 h2 => (o1 q (by have := hS.1; omega)).trans (hS.2.1 q h1 h2), hS.2.2⟩, by omega⟩
  intro k q hq
  obtain ⟨hk, rfl⟩ := wz_inv hq
  by_cases e1 : k = n
  · subst e1
    simp only [va_up, if_true]
    rw [← hz]
    exact hx
  · simp only [va_up, if_neg e1]
    have hkn : k < n := by omega
    have h0 := hP k _ (wz_at hkn)
    exact h0.kept (o1 _ (by omega))
section KROWS
variable {p : Program} {l : Launch} {e : Env} {R : Room} {s : State} {m : MethodId} {args : Array Value} {below : List Frame} {meth : Method} {c : Code} {H : Heap} {locs : List Loc} {cells slots : Nat} {Q : State → Prop}
variable {cc : ByteArray} {pc nL : Nat} {ls : Array Slot} {rest : List Value} {D : va_G} {cs : Nat → ClassId} {s0 n : Nat} {E : Nat → va_E} {ws : List Cond} {own : String}
theorem kS_pre (C : kC p s m c cc nL args ws own D cs s0) (h : kS D s s0 n E H locs) (As : List Value) : ∀ U : State, U.heap = H → s.WarmedH U.vm → kPre D cs s0 n E As As.toArray U := fun U hU hW => ⟨rfl, by rw [hU]; exact h.1, by rw [hU]; exact h.2.2, kK_warm hW C.2.1⟩
theorem k_new (C : kC p s m c cc nL args ws own D cs s0) (h : kS D s s0 n E H locs) {Cn : String} {T : u_T} {N ci index : Nat} (hin : ∀ x ∈ u_ws Cn T N, x ∈ ws) (ty : Nat → FieldType) (hty : ∀ k, k < N → parseFieldDescriptor (T k).2.2.1 = some (ty k)) (hcl : Cond.classLink own index Cn ∈ ws) (hinst : Cond.instantiable Cn N ∈ ws) (hini : Cond.initialized Cn ∈ ws) (hc : vwCl[ci]? = some (Cn, T, N)) {fs : List Value} (hfs : ∀ j, j < N → defaultValue (ty j) = vp_V fs j) (hcells : cells + 1 ≤ R.cells) (hslots : slots + N ≤ R.slots) (hdg : decode cc pc = .ok (.new index, 3))
    (kk : ∀ H1 : Heap, kS D s s0 (n + 1) (va_up E n (.inr (ci, fs))) H1 locs → W p l e R s m args below meth c H1 locs (cells + 1) (slots + N) Q (F0 m (pc + 3) ls (.ref (s0 + n) :: rest))) : W p l e R s m args below meth c H locs cells slots Q (F0 m pc ls rest) := by
  have hts := C.1.2.2.2.2
  have hKn := C.2.1.1.1 ci _ hc
  refine W.newcK C.1.1 C.1.2.1 C.1.2.2.2.1 (hts _ hcl) (hts _ hinst) (hts _ hini) rfl hdg hcells hslots hKn.2.1 h.2.2 fun H1 kC hkC e1 z1 o1 => ?_
  refine kk H1 (kS_push h (by rw [h.2.2]; exact z1) (fun q hq => o1 q (by rw [← h.2.2]; exact hq)) ?_)
  rw [h.2.2]
  exact ⟨_, hc, (u_born ty hts hin hKn hkC e1 hty).to hfs⟩
theorem k_newa (C : kC p s m c cc nL args ws own D cs s0) (h : kS D s s0 n E H locs) {atype : ArrayType} (harr : Cond.arrayClass (newarray.typeOf atype) ∈ ws) {ty : FieldType} (hty : newarray.typeOf atype = ty) (t : Nat) (ht : (gT cs)[t]? = some (cs t, ty)) (hra : ∀ U cA, va_RA U cA ty → U.vm.findClass ("[" ++ ty.toString) = some cA) {k : Int32} {N' : Nat} {a0 : vp_A} (ha : ∀ cA : ClassId, vp_cell cA a0 = arrV cA N' (fun _ => defaultValue ty)) (hn : ¬ k < 0) (hN : k.toNatClampNeg = N') (hbytes : N' * componentBytes ty ≤ 536870912) (hcells : cells + 1 ≤ R.cells) (hslots : slots + N' ≤ R.slots) (hdg : decode cc pc = .ok (.newarray atype, 2))
    (kk : ∀ H1 : Heap, kS D s s0 (n + 1) (va_up E n (.inl (cs t, a0))) H1 locs → W p l e R s m args below meth c H1 locs (cells + 1) (slots + N') Q (F0 m (pc + 2) ls (.ref (s0 + n) :: rest))) : W p l e R s m args below meth c H locs cells slots Q (F0 m pc ls (.int k :: rest)) := by
  have hts := C.1.2.2.2.2
  subst hty
  refine va_newaK C.1.1 C.1.2.1 (hts _ harr) rfl hdg rfl hn hN hbytes hcells hslots h.2.2 fun H1 cA e1 z1 o1 hAr hNm => ?_
  have hc : cA = cs t := Option.some.inj (hNm.symm.trans (hra _ _ (C.2.1.1.2 t _ ht).2))
  subst hc
  refine kk H1 (kS_push h (by rw [h.2.2]; exact z1) (fun q hq => o1 q (by rw [← h.2.2]; exact hq)) ?_)
  show H1[H.size]? = some (vp_cell _ _)
  rw [h.2.2, ha]
  exact e1
theorem k_newq (C : kC p s m c cc nL args ws own D cs s0) (h : kS D s s0 n E H locs) {Cn : String} {index : Nat} (hclink : Cond.classLink own index Cn ∈ ws) (hover : va_AO Cn s) (t : Nat) (ht : (gT cs)[t]? = some (cs t, .object Cn)) {k : Int32} {N' : Nat} (hn : ¬ k < 0) (hN : k.toNatClampNeg = N') (hbytes : N' * 4 ≤ 536870912) (hcells : cells + 1 ≤ R.cells) (hslots : slots + N' ≤ R.slots) (hdg : decode cc pc = .ok (.anewarray index, 3))
    (kk : ∀ H1 : Heap, kS D s s0 (n + 1) (va_up E n (.inl (cs t, N', .inr (.inr (.inr (.inr (fun _ => none))))))) H1 locs → W p l e R s m args below meth c H1 locs (cells + 1) (slots + N') Q (F0 m (pc + 3) ls (.ref (s0 + n) :: rest))) : W p l e R s m args below meth c H locs cells slots Q (F0 m pc ls (.int k :: rest)) := by
  have hts := C.1.2.2.2.2
  subst hN
  refine W.anew C.1.1 C.1.2.1 C.1.2.2.2.1 (hts _ hclink) (va_AO.use hover) rfl hdg rfl hn hbytes hcells hslots fun cA kA comp f1 f2 f3 f4 => ?_
  obtain ⟨-, kA', comp', -, -, -, g4⟩ := C.2.1.1.2 t _ ht
  have hc : cA = cs t := Option.some.inj (f1.symm.trans g4)
  subst hc
  have := kk (H.push ({ cls := cs t, slots := Array.replicate k.toNatClampNeg .null, vm := .none } : Cell)) (kS_push h (by rw [Array.size_push]) (fun q hq => by rw [Array.getElem?_push, if_neg (Nat.ne_of_lt hq)]) (by
    show (H.push _)[H.size]? = some (vp_cell _ _)
    rw [vp_cell_q, Array.getElem?_push_size, ← arrV_new]
    rfl))
  rw [← h.2.2] at this
  exact this
theorem k_newA (C : kC p s m c cc nL args ws own D cs s0) (h : kS D s s0 n E H locs) {ty : FieldType} {index : Nat} (hclink : Cond.classLink own index (FieldType.array ty).toString ∈ ws) (hover : va_AOA ty s) (t : Nat) (ht : (gT cs)[t]? = some (cs t, .array ty)) {k : Int32} {N' : Nat} (hn : ¬ k < 0) (hN : k.toNatClampNeg = N') (hbytes : N' * 4 ≤ 536870912) (hcells : cells + 1 ≤ R.cells) (hslots : slots + N' ≤ R.slots) (hdg : decode cc pc = .ok (.anewarray index, 3))
    (kk : ∀ H1 : Heap, kS D s s0 (n + 1) (va_up E n (.inl (cs t, N', .inr (.inr (.inr (.inr (fun _ => none))))))) H1 locs → W p l e R s m args below meth c H1 locs (cells + 1) (slots + N') Q (F0 m (pc + 3) ls (.ref (s0 + n) :: rest))) : W p l e R s m args below meth c H locs cells slots Q (F0 m pc ls (.int k :: rest)) := by
  have hts := C.1.2.2.2.2
  subst hN
  refine W.anewA C.1.1 C.1.2.1 C.1.2.2.2.1 (hts _ hclink) (va_AOA.use hover) rfl hdg rfl hn hbytes hcells hslots fun cA kA comp f1 f2 f3 f4 => ?_
  have hc : cA = cs t := Option.some.inj (f1.symm.trans (C.2.1.1.2 t _ ht).2)
  subst hc
  have := kk (H.push ({ cls := cs t, slots := Array.replicate k.toNatClampNeg .null, vm := .none } : Cell)) (kS_push h (by rw [Array.size_push]) (fun q hq => by rw [Array.getElem?_push, if_neg (Nat.ne_of_lt hq)]) (by
    show (H.push _)[H.size]? = some (vp_cell _ _)
    rw [vp_cell_q, Array.getElem?_push_size, ← arrV_new]
    rfl))
  rw [← h.2.2] at this
  exact this
/-- a field, final or not, in its constructor -/
theorem k_put (C : kC p s m c cc nL args ws own D cs s0) (hin2 : meth.name = "<init>") (h : kS D s s0 n E H locs) (k : Nat) (hk : k < n) {ci : Nat} {fs : List Value} (he : E k = .inr (ci, fs)) {Cn : String} {T : u_T} {N : Nat} (hc : vwCl[ci]? = some (Cn, T, N)) (hin : ∀ x ∈ u_ws Cn T N, x ∈ ws) (ty0 : Nat → FieldType) (hty : ∀ k, k < N → parseFieldDescriptor (T k).2.2.1 = some (ty0 k)) (hnm : ∀ a, a < N → ∀ b, b < N → a ≠ b → (T a).2.1 ≠ (T b).2.1) (j : Nat) (hj : j < N) {index : Nat} {ref : String} (hlink : Cond.fieldLink own index ref (T j).2.1 (T j).2.2.1 ∈ ws) (hsame : (T j).1 = ref) (hdecl : (T j).1 = own) {ty : FieldType} {x : Value} (hd : parseFieldDescriptor (T j).2.2.1 = some ty) (hn : narrow ty x = x) (hfit : fits ty x = true) (hl : j < fs.length) (hdg : decode cc pc = .ok (.putfield index, 3))
    (kk : ∀ (H1 : Heap) (locs1 : List Loc), kS D s s0 n (va_up E k (.inr (ci, fs.set j x))) H1 locs1 → W p l e R s m args below meth c H1 locs1 cells slots Q (F0 m (pc + 3) ls rest)) : W p l e R s m args below meth c H locs cells slots Q (F0 m pc ls (x :: .ref (s0 + k) :: rest)) := by
  have hts := C.1.2.2.2.2
  have hown := C.1.2.2.2.1
  have hK := C.2.1.1
  obtain ⟨hP, hS0, hz⟩ := h
  have hap := va_apart (own := own) hts hin ty0 hty hnm hK hc
  have hat : (wz s0 n E)[k]? = some (s0 + k, .inr (ci, fs)) := by rw [wz_at hk, he]
  obtain ⟨r, h1, cell, q1, q2, q3, q4⟩ := hP k _ hat
  have hr : r = (Cn, T, N) := Option.some.inj (h1.symm.trans hc)
  subst hr
  obtain ⟨hS, hfc, kC, hkC, hkind⟩ := hK.1 ci _ hc
  obtain ⟨cf, kf, fi, f, hi, hsl⟩ := hS j hj
  have hi' : s.fieldFound? ref (T j).2.1 (T j).2.2.1 = some (cf, kf, fi, f) := by rw [← hsame]; exact hi
  have hst := (u_facts hfc hkC (u_lays hts hin hj) hi).1
  have hlay := hts _ (hin _ (u_in_lay hj))
  have fin : ∀ (H' : Heap) (lc : List Loc), H'[s0 + k]? = some (cell.setSlot ((D.2 ci) j) x) → H'.size = H.size → (∀ q, q ≠ s0 + k → H'[q]? = H[q]?) → va_S (fun q => s0 ≤ q) s.heap H' lc → W p l e R s m args below meth c H' lc cells slots Q (F0 m (pc + 3) ls rest) := by
    intro H' lc e1 e2 e3 hS'
    refine kk H' lc ⟨?_, hS', by omega⟩
    rw [← wz_set hk]
    exact hP.set wz_D hat ⟨_, hc, t_OB.to (V := updV (vp_V fs) j x) ⟨_, e1, q2, q3, t_set q4 hap hj x⟩ (fun i _ => vp_updV_set hl x i)⟩ e3
  by_cases hfin : (T j).2.2.2 = true
  · unfold u_lay at hlay
    rw [if_pos hfin] at hlay
    have hcf : m.cls = cf := by
      obtain ⟨_, _, c', _, _, _, -, -, hf', -, -, -, hown2, -⟩ := Cond.laysFinal_spec hlay
      have e1 : c' = cf := by have := hi.symm.trans hf'; simp at this; exact this.1.symm
      rw [hdecl] at hown2
      rw [← e1]; exact Option.some.inj (hown.symm.trans hown2)
    have h6 := u_fits hfc hkC hkind (Or.inr hlay) hi hd hn hfit
    refine W.putFinK C.1.1 C.1.2.1 hown (hts _ hlink) hi' hst hcf hin2 (by rw [q2]; exact h6) q1 q3 (by rw [hsl]; exact k2_hasslot (q4 j hj)) rfl rfl hdg fun H' e1 e2 e3 => ?_
    rw [hsl] at e1 ⊢
    exact fin H' _ e1 e2 e3 (hS0.put e2 e3 (Nat.le_add_right _ _))
  · unfold u_lay at hlay
    rw [if_neg hfin] at hlay
    have h6 := u_store hfc hkC hkind hlay hi hd hn hfit
    refine W.putK C.1.1 C.1.2.1 (f := f) ⟨hown, hts _ hlink, ⟨_, _, _, hi'⟩, hst⟩ (by rw [q2]; exact h6) q1 q3 (by rw [hsl]; exact k2_hasslot (q4 j hj)) rfl rfl hdg fun H' e1 e2 e3 => ?_
    rw [hsl] at e1 ⊢
    exact fin H' _ e1 e2 e3 (hS0.put e2 e3 (Nat.le_add_right _ _))
theorem k_iast (C : kC p s m c cc nL args ws own D cs s0) (h : kS D s s0 n E H locs) (k : Nat) (hk : k < n) {N : Nat} {f : Nat → Int32} (he : E k = .inl (cs 0, N, .inl f)) {i x : Int32} (hin : vp_in i N) (hdg : decode cc pc = .ok (.iastore, 1))
    (kk : ∀ (H1 : Heap) (locs1 : List Loc), kS D s s0 n (va_up E k (.inl (cs 0, N, .inl (upd f i.toNatClampNeg x)))) H1 locs1 → W p l e R s m args below meth c H1 locs1 cells slots Q (F0 m (pc + 1) ls rest)) : W p l e R s m args below meth c H locs cells slots Q (F0 m pc ls (.int x :: .int i :: .ref (s0 + k) :: rest)) := by
  obtain ⟨hP, hS, hz⟩ := h
  have ha : (wz s0 n E)[k]? = some (s0 + k, .inl (cs 0, N, .inl f)) := by rw [wz_at hk, he]
  refine W.iast C.1.1 C.1.2.1 (hP k _ ha) ((C.2.1.1.2 0 _ rfl).1 N (fun j => .int (f j))) (fun q => by cases q) (by show ¬ (i < 0 ∨ (arrV _ _ _).slots.size ≤ _); rw [arrV_size]; exact hin) rfl rfl hdg fun H1 e z oq => ?_
  refine kk H1 _ ⟨?_, hS.put z oq (Nat.le_add_right _ _), by omega⟩
  rw [← wz_set hk]
  refine hP.set wz_D ha ?_ oq
  show H1[s0 + k]? = some (vp_cell _ _)
  rw [e]
  rw [vp_cell_i, vp_cell_i, arrV_store]
  congr 2
  funext q
  by_cases hq : q = i.toNatClampNeg
  · subst hq
    simp [updV, upd]
  · simp [updV, upd, hq]
theorem k_get (C : kC p s m c cc nL args ws own D cs s0) (h : kS D s s0 n E H locs) (k : Nat) (hk : k < n) {ci : Nat} {fs : List Value} (he : E k = .inr (ci, fs)) {Cn : String} {T : u_T} {N : Nat} (hc : vwCl[ci]? = some (Cn, T, N)) (hin : ∀ x ∈ u_ws Cn T N, x ∈ ws) (j : Nat) (hj : j < N) {index : Nat} {ref : String} (hlink : Cond.fieldLink own index ref (T j).2.1 (T j).2.2.1 ∈ ws) (hsame : (T j).1 = ref) {x : Value} (hv : fs[j]? = some x) (hdg : decode cc pc = .ok (.getfield index, 3))
    (kk : W p l e R s m args below meth c H locs cells slots Q (F0 m (pc + 3) ls (x :: rest))) : W p l e R s m args below meth c H locs cells slots Q (F0 m pc ls (.ref (s0 + k) :: rest)) :=
  va_get C.1.1 C.1.2.1 C.1.2.2.2.2 hin C.1.2.2.2.1 C.2.1.1 h.1 k (by rw [wz_at hk, he]) hc j hj (C.1.2.2.2.2 _ hlink) (fun _ h9 => by rw [← hsame]; exact h9) hv hdg kk
end KROWS
theorem kn {a b : Nat} (h : Nat.beq a b = false) : a ≠ b := Nat.ne_of_beq_eq_false h
theorem ke {a b : Nat} (h : Nat.ble a b = true) : a ≤ b := Nat.le_of_ble_eq_true h
theorem kl {a b : Nat} (h : Nat.ble (a + 1) b = true) : a < b := Nat.le_of_ble_eq_true h
