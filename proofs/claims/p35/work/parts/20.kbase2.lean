theorem arrV_cg {c : ClassId} {N : Nat} {f g : Nat → Value} (h : ∀ j, j < N → f j = g j) : arrV c N f = arrV c N g := by
  unfold arrV
  congr 2
  funext j
  exact h j.val j.isLt
theorem kr_outer (c : ClassId) (N h0 : Nat) : ∀ i : Nat, Jvm.Free.Multi.outerC c N h0 i = arrV c N (fun j => va_rf (if j < i then some (h0 + 1 + j) else none))
  | 0 => by
    show ({ cls := c, slots := Array.replicate N .null, vm := .none } : Cell) = _
    rw [arrV_new]
    refine congrArg (arrV c N) (funext fun j => ?_)
    simp [va_rf]
  | i + 1 => by
    show (Jvm.Free.Multi.outerC c N h0 i).setSlot i (.ref (h0 + 1 + i)) = _
    rw [kr_outer c N h0 i, arrV_store]
    refine congrArg (arrV c N) (funext fun j => ?_)
    by_cases e : j = i
    · subst e
      simp [updV, va_rf]
    · by_cases h : j < i
      · simp [updV, e, h, Nat.lt_succ_of_lt h]
      · simp [updV, e, h, show ¬ j < i + 1 by omega]
/-- behind new T[N][K] at place n -/
def kM (s0 : Nat) (E : Nat → va_E) (n N : Nat) (cA cy : ClassId) (z : vp_A) : Nat → va_E := fun k => if k = n then .inl (cA, N, .inr (.inr (.inr (.inr (fun i => some (s0 + (n + 1 + i))))))) else if n < k then .inl (cy, z) else E k
section KROWS2
variable {p : Program} {l : Launch} {e : Env} {R : Room} {s : State} {m : MethodId} {args : Array Value} {below : List Frame} {meth : Method} {c : Code} {H : Heap} {locs : List Loc} {cells slots : Nat} {Q : State → Prop}
variable {cc : ByteArray} {pc nL : Nat} {ls : Array Slot} {rest : List Value} {D : va_G} {cs : Nat → ClassId} {s0 n : Nat} {E : Nat → va_E} {ws : List Cond} {own : String}
theorem k_mna (C : kC p s m c cc nL args ws own D cs s0) (h : kS D s s0 n E H locs) {index : Nat} {ty : FieldType} (hclink : Cond.classLink own index ("[" ++ (FieldType.array ty).toString) ∈ ws) (hover : va_AOA ty s) (harr : Cond.arrayClass ty ∈ ws) (t ti : Nat) (ht : (gT cs)[t]? = some (cs t, .array ty)) (hti : (gT cs)[ti]? = some (cs ti, ty)) (hra : ∀ U cA, va_RA U cA ty → U.vm.findClass (FieldType.array ty).toString = some cA) {a b : Int32} {N K : Nat} {z : vp_A} (hn : ¬ a < 0) (hk : ¬ b < 0) (hN : a.toNatClampNeg = N) (hM : b.toNatClampNeg = K)
    (hb1 : N * 4 ≤ 536870912) (hb2 : K * componentBytes ty ≤ 536870912) (hb3 : K ≤ 536870912) (hdf : fits ty (defaultValue ty) = true) (hdd : (defaultValue ty).isDefault = true) (hcells : cells + (1 + N) ≤ R.cells) (hslots : slots + (N + N * K) ≤ R.slots) (hz : ∀ c : ClassId, Jvm.Free.Multi.innerC c K (defaultValue ty) = vp_cell c z) (hdg : decode cc pc = .ok (.multianewarray index 2, 4))
    (kk : ∀ H1 : Heap, kS D s s0 (n + 1 + N) (kM s0 E n N (cs t) (cs ti) z) H1 locs → W p l e R s m args below meth c H1 locs (cells + 1 + N) (slots + N + N * K) Q (F0 m (pc + 4) ls (.ref (s0 + n) :: rest))) : W p l e R s m args below meth c H locs cells slots Q (F0 m pc ls (.int b :: .int a :: rest)) := by
  have hts := C.1.2.2.2.2
  subst hN
  subst hM
  intro T hT Xs
  obtain ⟨vm₁, cA, comp, -, fA, fC, hO, -, X', step⟩ := Xs.multianewarray2F C.1.1 C.1.2.2.2.1 (hts _ hclink) (va_AOA.use hover) (hts _ harr) (g := F0 m pc ls (.int b :: .int a :: rest)) rfl (by rw [C.1.2.1]; exact hdg) rfl hn hk hb1 hb2 hb3 hdf hdd hcells hslots
  have ec : comp = cs ti := Option.some.inj (fC.symm.trans (hra _ _ (C.2.1.1.2 ti _ hti).2))
  subst ec
  have eA : cA = cs t := Option.some.inj (fA.symm.trans (C.2.1.1.2 t _ ht).2)
  subst eA
  generalize hF : Jvm.Free.Multi.fill (T.setVm vm₁) (cs t) (cs ti) a.toNatClampNeg b.toNatClampNeg (defaultValue ty) a.toNatClampNeg = F at X' step
  have hTh : (T.setVm vm₁).heap = H := hT
  obtain ⟨f1, f2, -, -⟩ := Jvm.Free.Multi.fill_facts (T.setVm vm₁) (cs t) (cs ti) a.toNatClampNeg b.toNatClampNeg (defaultValue ty) a.toNatClampNeg
  rw [hF, hTh] at f1 f2
  have hold : ∀ x : Nat, x < H.size → F.heap[x]? = H[x]? := fun x hx => by
    have := Jvm.Free.Multi.fill_old (T.setVm vm₁) (cs t) (cs ti) a.toNatClampNeg b.toNatClampNeg (defaultValue ty) (a := x) (by rw [hTh]; exact hx) a.toNatClampNeg
    rw [hF, hTh] at this
    exact this
  have hrow : ∀ j : Nat, j < a.toNatClampNeg → F.heap[H.size + 1 + j]? = some (vp_cell (cs ti) z) := fun j hj => by
    have := Jvm.Free.Multi.fill_inner (T.setVm vm₁) (cs t) (cs ti) a.toNatClampNeg b.toNatClampNeg (defaultValue ty) a.toNatClampNeg j hj
    rw [hF, hTh, hz] at this
    exact this
  have hz2 := h.2.2
  have hout : Jvm.Free.Multi.outerC (cs t) a.toNatClampNeg H.size a.toNatClampNeg = vp_cell (cs t) (a.toNatClampNeg, .inr (.inr (.inr (.inr (fun i => some (s0 + (n + 1 + i))))))) := by
    rw [vp_cell_q, kr_outer]
    refine arrV_cg fun j hj => ?_
    rw [if_pos hj, hz2]
    congr 2
    omega
  rw [hout] at f2
  have hkS : kS D s s0 (n + 1 + a.toNatClampNeg) (kM s0 E n a.toNatClampNeg (cs t) (cs ti) z) F.heap locs := by
    refine ⟨?_, ⟨by have := h.2.1.1; omega, fun q h1 h2 => (hold q (by have := h.2.1.1; omega)).trans (h.2.1.2.1 q h1 h2), h.2.1.2.2⟩, by omega⟩
    intro k q hq
    obtain ⟨hk9, rfl⟩ := wz_inv hq
    unfold kM
    by_cases e1 : k = n
    · rw [if_pos e1, e1, ← hz2]
      exact f2
    · rw [if_neg e1]
      by_cases e2 : n < k
      · rw [if_pos e2]
        show F.heap[s0 + k]? = some (vp_cell _ _)
        have := hrow (k - n - 1) (by omega)
        rw [show H.size + 1 + (k - n - 1) = s0 + k by omega] at this
        exact this
      · rw [if_neg e2]
        have h0 := h.1 k _ (wz_at (show k < n by omega))
        exact h0.kept (hold _ (show s0 + k < H.size by omega))
  obtain ⟨t2, a1, b1⟩ := kk F.heap hkS F rfl X'
  refine ⟨t2, step t2 ?_, b1⟩
  have e9 : T.heap.size = s0 + n := by rw [hT]; exact hz2
  rw [e9]
  exact a1
theorem k_aastq (C : kC p s m c cc nL args ws own D cs s0) (h : kS D s s0 n E H locs) (k qk ci t : Nat) (hk : k < n) (hqk : qk < n) {r : vw_C} {N : Nat} {vs : List Value} {f : Nat → Option Nat} (he : E k = .inl (cs t, N, .inr (.inr (.inr (.inr f))))) (ht : (gT cs)[t]? = some (cs t, .object r.1)) (hv : E qk = .inr (ci, vs)) (hc : vwCl[ci]? = some r) {i : Int32} (hin : vp_in i N) (hdg : decode cc pc = .ok (.aastore, 1))
    (kk : ∀ (H1 : Heap) (locs1 : List Loc), kS D s s0 n (va_up E k (.inl (cs t, N, .inr (.inr (.inr (.inr (va_up f i.toNatClampNeg (some (s0 + qk))))))))) H1 locs1 → W p l e R s m args below meth c H1 locs1 cells slots Q (F0 m (pc + 1) ls rest)) : W p l e R s m args below meth c H locs cells slots Q (F0 m pc ls (.ref (s0 + qk) :: .int i :: .ref (s0 + k) :: rest)) := by
  obtain ⟨hP, hS, hz⟩ := h
  have ha : (wz s0 n E)[k]? = some (s0 + k, .inl (cs t, N, .inr (.inr (.inr (.inr f))))) := by rw [wz_at hk, he]
  have hvv : (wz s0 n E)[qk]? = some (s0 + qk, .inr (ci, vs)) := by rw [wz_at hqk, hv]
  have hlt : i.toNatClampNeg < N := Nat.not_le.mp fun q => hin (Or.inr q)
  have h0 : ¬ i < 0 := fun q => hin (Or.inl q)
  obtain ⟨r', hr', cellV, g1, g2, g3, -⟩ := hP qk _ hvv
  have hcls := (C.2.1.1.1 ci r hc).2
  obtain ⟨kA, comp, k1, k2, k3, -⟩ := (C.2.1.1.2 t _ ht).2
  have hcomp : comp = D.1 ci := Option.some.inj (k3.symm.trans hcls.1)
  subst hcomp
  obtain ⟨kC, hkC, -⟩ := hcls.2
  refine W.aast C.1.1 C.1.2.1 (hP k _ ha) (fun q h => by cases h) (fun h => by cases h) k1 k2 rfl hkC ⟨h0, by show _ < (arrV _ _ _).slots.size; rw [arrV_size]; exact hlt⟩ g1 (fun q h => by rw [g3] at h; cases h) (by rw [g2]; exact hkC) (by rw [g2]; exact va_assign hcls) rfl rfl hdg fun H1 e z oq => ?_
  refine kk H1 _ ⟨?_, hS.put z oq (Nat.le_add_right _ _), by omega⟩
  rw [← wz_set hk]
  refine hP.set wz_D ha ?_ oq
  show H1[s0 + k]? = some (vp_cell _ _)
  rw [e]
  rw [vp_cell_q, vp_cell_q, arrV_store]
  congr 2
  funext q
  by_cases hq : q = i.toNatClampNeg
  · subst hq
    simp [updV, va_up, va_rf]
  · simp [updV, va_up, hq]
theorem k_aastA (C : kC p s m c cc nL args ws own D cs s0) (h : kS D s s0 n E H locs) (k qk : Nat) (hk : k < n) (hqk : qk < n) {N K : Nat} {g0 : Nat → Int32} {f : Nat → Option Nat} (he : E k = .inl (cs 3, N, .inr (.inr (.inr (.inr f))))) (hv : E qk = .inl (cs 0, K, .inl g0)) {i : Int32} (hin : vp_in i N) (hdg : decode cc pc = .ok (.aastore, 1))
    (kk : ∀ (H1 : Heap) (locs1 : List Loc), kS D s s0 n (va_up E k (.inl (cs 3, N, .inr (.inr (.inr (.inr (va_up f i.toNatClampNeg (some (s0 + qk))))))))) H1 locs1 → W p l e R s m args below meth c H1 locs1 cells slots Q (F0 m (pc + 1) ls rest)) : W p l e R s m args below meth c H locs cells slots Q (F0 m pc ls (.ref (s0 + qk) :: .int i :: .ref (s0 + k) :: rest)) := by
  obtain ⟨hP, hS, hz⟩ := h
  have ha : (wz s0 n E)[k]? = some (s0 + k, .inl (cs 3, N, .inr (.inr (.inr (.inr f))))) := by rw [wz_at hk, he]
  have hvv : (wz s0 n E)[qk]? = some (s0 + qk, .inl (cs 0, K, .inl g0)) := by rw [wz_at hqk, hv]
  have hlt : i.toNatClampNeg < N := Nat.not_le.mp fun q => hin (Or.inr q)
  have h0 : ¬ i < 0 := fun q => hin (Or.inl q)
  have g1 : H[s0 + qk]? = some (vp_cell (cs 0) (K, .inl g0)) := hP qk _ hvv
  obtain ⟨comp, c3, kA, j1, -, j3, j4, j5⟩ := arrayOverA_spec (t := .int) (va_AOA.use (A := args) C.2.1.2.1.1)
  have e3 : c3 = cs 3 := Option.some.inj (j5.symm.trans (C.2.1.1.2 3 _ rfl).2)
  subst e3
  have e0 : comp = cs 0 := Option.some.inj (j1.symm.trans (C.2.1.1.2 0 _ rfl).2)
  subst e0
  obtain ⟨-, kI, hkI, -⟩ := (C.2.1.1.2 0 _ rfl).1 K (fun j => .int (g0 j))
  refine W.aast C.1.1 C.1.2.1 (hP k _ ha) (fun q h => by cases h) (fun h => by cases h) j3 j4 rfl hkI ⟨h0, by show _ < (arrV _ _ _).slots.size; rw [arrV_size]; exact hlt⟩ g1 (fun q h => by cases h) hkI (Vm.assignable_self _ _) rfl rfl hdg fun H1 e z oq => ?_
  refine kk H1 _ ⟨?_, hS.put z oq (Nat.le_add_right _ _), by omega⟩
  rw [← wz_set hk]
  refine hP.set wz_D ha ?_ oq
  show H1[s0 + k]? = some (vp_cell _ _)
  rw [e]
  rw [vp_cell_q, vp_cell_q, arrV_store]
  congr 2
  funext q
  by_cases hq : q = i.toNatClampNeg
  · subst hq
    simp [updV, va_up, va_rf]
  · simp [updV, va_up, hq]
theorem k_callv (C : kC p s m c cc nL args ws own D cs s0) {P : (Nat → va_E) → Prop} {a : Array Value} {st0 : List Value} {n' mc ms : Nat} (hr : va_Run p l e R s m args below meth c H locs cells slots mc ms (F0 m pc ls st0) rest (kQ D s0 n' P a) (fun q => s0 ≤ q)) (h : kS D s s0 n E H locs)
    (kk : ∀ (E' : Nat → va_E) (H1 : Heap) (locs1 : List Loc), P E' → kS D s s0 n' E' H1 locs1 → W p l e R s m args below meth c H1 locs1 (cells + mc) (slots + ms) Q (F0 m (pc + 3) ls rest)) : W p l e R s m args below meth c H locs cells slots Q (F0 m pc ls st0) :=
  va_callv hr h.2.1 (fun q _ hq => hq) (fun q hq => hq) (fun u t H1 locs1 ht hvm hp hB hz hk hS => kk u H1 locs1 hp ⟨by rw [← ht]; exact hB.1, hS, by rw [← ht]; exact hB.2⟩)
theorem k_vret (C : kC p s m c cc nL args ws own D cs s0) (hlk : meth.locks = false) (hr : meth.sig.returnType = none) (h : kS D s s0 n E H locs) {P : (Nat → va_E) → Prop} (hdg : decode cc pc = .ok (.return_, 1)) (hp : P E) : W p l e R s m args below meth c H locs cells slots (MQ below (kQ D s0 n P) args s cells slots (fun q => s0 ≤ q)) (F0 m pc ls []) :=
  W.vret C.1.1 C.1.2.1 hr (fun t ht hW => ⟨⟨E, rfl, hp, by show va_P _ _ _ t.heap ∧ t.heap.size = _; rw [ht]; exact ⟨h.1, h.2.2⟩⟩, h.2.1.F ht⟩) h.2.1.2.2 hdg hlk
end KROWS2
theorem kM_of {l : Launch} {D : va_G} {cs : Nat → ClassId} {s0 n n' mc ms : Nat} {E : Nat → va_E} {y : MethodName} {ws ws' : List Cond} {rm : Room} {cc : ByteArray} {maxL : Nat} {As : List Value} {P : (Nat → va_E) → Prop} (hy : plainName y.cls = true) (hw : ws = Cond.code y cc maxL none :: ws') (hn : (lg_sl As).length ≤ maxL)
    (body : ∀ (p : Program) (e : Env) (R : Room) (s : State) (m : MethodId) (args : Array Value) (below : List Frame) (meth : Method) (c : Code) (ls : Array Slot), kC p s m c cc maxL args ws y.cls D cs s0 → R = (headSpec ws rm).room → meth.locks = false → meth.sig.returnType = none → meth.name = y.name → kS D s s0 n E s.heap [] → lv_has ls maxL (lv_args 0 As) → W p l e R s m args below meth c s.heap [] 0 0 (MQ below (kQ D s0 n' P) args s mc ms (fun q => s0 ≤ q)) (F0 m 0 ls [])) : Met l y ws rm (kPre D cs s0 n E As) (kQ D s0 n' P) mc ms (fun q => s0 ≤ q) := by
  refine Met.ofW (cc := cc) (maxL := maxL) (ret := none) hy hw ?_
  intro p e s m args below meth c s₁ B hml hv
  obtain ⟨rfl, hP, hz, hK⟩ := hv
  have hl := lv_entry As (n := maxL) hn
  rw [lg_entry_eq]
  exact body p e _ s m _ below meth c _ ⟨⟨B.exec, B.bytes, hml, findClass_of_methodNamed B.named, atoms_spec (ws := ws) B.pre⟩, hK, by rw [hz]; exact Nat.le_add_right _ _⟩ rfl B.notSynchronized B.returns (name_of_methodNamed B.named B.method).1 ⟨hP, va_S.rf, hz⟩ hl
abbrev kG (D : va_G) (cs : Nat → ClassId) (s0 : Nat) : gG := (D, cs, fun k => s0 + k)
/-- the numbers of a new hall and a new model -/
def V0 : Nat → Nat → Int32 := fun k => match k with
  | 3 => upd (upd (upd (fun _ => 0) 0 10) 1 0) 2 0
  | 4 => upd (upd (upd (fun _ => 0) 0 0) 1 10) 2 0
  | 5 => upd (upd (upd (fun _ => 0) 0 0) 1 0) 2 10
  | 83 => fun j => match j with | 0 => 4 | 1 => 10 | 2 => 20 | 3 => 1000000 | 6 => -4 | _ => 0
  | 98 => fun j => match j with | 0 => -1 | _ => 0
  | 100 => fun j => match j with | 0 => -1 | _ => 0
  | 102 => fun j => match j with | 0 => -1 | _ => 0
  | 104 => fun j => match j with | 0 => -1 | _ => 0
  | 106 => fun j => match j with | 27 => 4 | 28 => 10 | 29 => 20 | 30 => 1000000 | 33 => -4 | _ => 0
  | 107 => upd (upd (upd (fun _ => 0) 0 10) 4 10) 8 10
  | 120 => upd (upd (upd (upd (upd (upd (upd (fun _ => 0) 0 1000) 1 966) 2 866) 3 707) 4 500) 5 259) 6 0
  | 131 => upd (upd (upd (upd (fun _ => 0) 0 (-4)) 1 (-4)) 2 (-4)) 3 (-4)
  | _ => fun _ => 0
def W0 : Nat → Nat → Int64 := fun _ _ => 0
def SG0 : Nat → Nat := fun j => 56 + j
theorem ue {E1 E : Nat → va_E} {k0 : Nat} {x : va_E} (he : E1 = va_up E k0 x) {k : Nat} (h : k ≠ k0) : E1 k = E k := by rw [he]; simp [va_up, h]
theorem um {E1 E : Nat → va_E} {s0 n N : Nat} {cA cy : ClassId} {z : vp_A} (he : E1 = kM s0 E n N cA cy z) {k : Nat} (h : k < n) : E1 k = E k := by rw [he]; unfold kM; rw [if_neg (by omega), if_neg (by omega)]
/-- what a constructor of the object at o leaves -/
def kP (D : va_G) (cs : Nat → ClassId) (s0 n0 n' o : Nat) (E E' : Nat → va_E) : Prop := (∀ k, k < n0 → k ≠ o → E' k = E k) ∧ E' o = gE (kG D cs s0) V0 W0 SG0 o ∧ ∀ k, n0 ≤ k → k < n' → E' k = gE (kG D cs s0) V0 W0 SG0 k
theorem ra_i (U : State) (cA : ClassId) (h : va_RA U cA .int) : U.vm.findClass ("[" ++ FieldType.int.toString) = some cA := h
theorem ra_l (U : State) (cA : ClassId) (h : va_RA U cA .long) : U.vm.findClass ("[" ++ FieldType.long.toString) = some cA := h
theorem ra_z (U : State) (cA : ClassId) (h : va_RA U cA .boolean) : U.vm.findClass ("[" ++ FieldType.boolean.toString) = some cA := h
theorem kS_cg {D : va_G} {s : State} {s0 n : Nat} {E : Nat → va_E} {H : Heap} {locs : List Loc} (h : kS D s s0 n E H locs) (k : Nat) (hk : k < n) {c : ClassId} {N : Nat} {f : Nat → Option Nat} (f' : Nat → Option Nat) (he : E k = .inl (c, N, .inr (.inr (.inr (.inr f))))) (hf : ∀ i, i < N → f i = f' i) : kS D s s0 n (va_up E k (.inl (c, N, .inr (.inr (.inr (.inr f')))))) H locs := by
  refine ⟨?_, h.2⟩
  intro i q hq
  obtain ⟨hi, rfl⟩ := wz_inv hq
  have h0 := h.1 i _ (wz_at hi)
  by_cases e1 : i = k
  · subst e1
    simp only [va_up, if_true]
    rw [he] at h0
    have h1 : H[s0 + i]? = some (vp_cell c (N, .inr (.inr (.inr (.inr f))))) := h0
    show H[s0 + i]? = some (vp_cell c (N, .inr (.inr (.inr (.inr f')))))
    rw [h1, vp_cell_q, vp_cell_q]
    exact congrArg some (arrV_cg fun j hj => by rw [hf j hj])
  · simp only [va_up, if_neg e1]
    exact h0
theorem k_upto {P : Nat → Prop} {a b : Nat} (h : ∀ k, a ≤ k → k < b → P k) (hb : P b) : ∀ k, a ≤ k → k < b + 1 → P k := by
  intro k h1 h2
  by_cases e : k = b
  · subst e; exact hb
  · exact h k h1 (by omega)
