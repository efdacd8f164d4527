theorem cG_up {sg : Nat → Nat} {i q : Nat} (h : cG sg) (hq : 56 ≤ q ∧ q < 66) : cG (va_up sg i q) := by
  intro j hj
  by_cases e : j = i
  · simpa [va_up, e] using hq
  · simpa [va_up, e] using h j hj
section GR3
variable {p : Program} {l : Launch} {e : Env} {R : Room} {s : State} {m : MethodId} {args : Array Value} {below : List Frame} {meth : Method} {c : Code} {H : Heap} {locs : List Loc} {cells slots : Nat} {Q : State → Prop}
variable {cc : ByteArray} {pc nL : Nat} {ls : Array Slot} {rest : List Value} {A : Nat → Prop} {G : gG} {v : Nat → Nat → Int32} {w : Nat → Nat → Int64} {sg : Nat → Nat} {ws : List Cond} {own : String}
theorem g_aast52 (C : gC p s m c cc nL args ws own A G) (h : gS A G s v w sg H locs) {q : Nat} (hq : 56 ≤ q ∧ q < 66) {i : Int32} (hin : vp_in i 10) (hdg : decode cc pc = .ok (.aastore, 1))
    (kk : ∀ (H1 : Heap) (locs1 : List Loc), gS A G s v w (va_up sg i.toNatClampNeg q) H1 locs1 → W p l e R s m args below meth c H1 locs1 cells slots Q (F0 m (pc + 1) ls rest)) : W p l e R s m args below meth c H locs cells slots Q (F0 m pc ls (.ref (G.2.2 q) :: .int i :: .ref (G.2.2 52) :: rest)) := by
  have ha : (gW G v w sg)[52]? = some (G.2.2 52, .inl (G.2.1 5, 10, .inr (.inr (.inr (.inr (fun i => some (G.2.2 (gR sg 52 i)))))))) := by rw [gW_at (by decide), gE_4 2 (by decide)]; rfl
  refine va_astq C.1.1 C.1.2.1 C.2.1.1 h.1 (gW_D C.2.2.1 C.2.2.2.1 v w sg) h.2 52 5 q 2 (r := (RX2, TX2, 5)) ha rfl (by rw [gW_at (by omega), g_coe hq]) rfl hin hdg (fun H1 locs1 hP hD hS => kk H1 locs1 ⟨?_, hS⟩)
  rw [← gW_set (v := v) (w := w) (sg := sg) (k := 52) (by decide) (e' := .inl (G.2.1 5, 10, .inr (.inr (.inr (.inr (va_up (fun i => some (G.2.2 (gR sg 52 i))) i.toNatClampNeg (some (G.2.2 q)))))))) ?_ (fun a ha => gE_o rfl rfl (Or.inl ha))]
  · exact hP
  · rw [gE_4 2 (by decide)]
    have : (fun j => some (G.2.2 (gR (va_up sg i.toNatClampNeg q) 52 j))) = va_up (fun j => some (G.2.2 (gR sg 52 j))) i.toNatClampNeg (some (G.2.2 q)) := by
      funext j
      by_cases e : j = i.toNatClampNeg
      · simp [va_up, gR, e]
      · simp [va_up, gR, e]
    rw [this]
    rfl
end GR3
theorem and_b {x a b : Int32} (e : x = a &&& b) {A : Int} (ha : a.toInt = A) (h : 0 ≤ A) : 0 ≤ x.toInt ∧ x.toInt ≤ A := by
  have q := fb_rng a
  have ea := nI_of3 ha h
  have hb : b = nI b.toBitVec.toNat := by
    apply Int32.toBitVec_inj.mp
    simp [nI]
  rw [e, ea, hb, fa_and]
  have h1 : A.toNat &&& b.toBitVec.toNat ≤ A.toNat := Nat.and_le_left
  rw [nI_toInt (by omega)]
  omega
theorem or_b {x a b : Int32} (e : x = a ||| b) {A B : Int} (ha : a.toInt = A) (hb : b.toInt = B) (h : 0 ≤ A ∧ A ≤ 511) (h2 : 0 ≤ B ∧ B ≤ 511) : 0 ≤ x.toInt ∧ x.toInt ≤ 511 := by
  rw [e, nI_of3 ha h.1, nI_of3 hb h2.1, fa_or]
  have h1 : A.toNat ||| B.toNat < 2 ^ 9 := Nat.or_lt_two_pow (by omega) (by omega)
  rw [nI_toInt (by omega)]
  omega
theorem sz_of {v : Nat → Nat → Int32} {o : Nat} (h : cI v) (ho : o = 98 ∨ o = 100 ∨ o = 102 ∨ o = 104) : 0 ≤ (v o 1).toInt ∧ (v o 1).toInt ≤ 60 := by
  obtain ⟨K1, K2, K3, K4, K5, K6, K7, Ks, K9, Ka, Kr, Kz⟩ := h
  rcases ho with rfl | rfl | rfl | rfl
  · exact Kz 0 (by decide)
  · exact Kz 1 (by decide)
  · exact Kz 2 (by decide)
  · exact Kz 3 (by decide)
theorem mI_fC {v v' : Nat → Nat → Int32} {w w' : Nat → Nat → Int64} {lo hi : Nat} (h : mI v) (f : fC lo hi v w v' w') (hh : hi ≤ 106) : mI v' := by
  unfold mI mS
  rw [f.1 106 (by omega), f.1 107 (by omega), f.1 128 (by omega), f.1 132 (by omega), f.1 123 (by omega), f.1 124 (by omega)]
  exact h
theorem cI_fM {v v' : Nat → Nat → Int32} {w w' : Nat → Nat → Int64} {lo hi flo fhi : Nat} (h : cI v) (f : fM lo hi flo fhi v w v' w') (hh : 106 ≤ lo) : cI v' := by
  obtain ⟨K1, K2, K3, K4, K5, K6, K7, Ks, K9, Ka, Kr, Kz⟩ := h
  unfold cI cS
  rw [f.1 18 (by omega) (by omega), f.1 51 (by omega) (by omega), f.1 66 (by omega) (by omega), f.1 83 (by omega) (by omega), f.1 93 (by omega) (by omega), f.1 96 (by omega) (by omega)]
  refine ⟨K1, K2, K3, K4, K5, K6, K7, Ks, K9, fun r i hr hi => ?_, Kr, fun i hi => ?_⟩
  · rw [f.1 (3 + r) (by omega) (by omega)]; exact Ka r i hr hi
  · rw [f.1 (98 + 2 * i) (by omega) (by omega)]; exact Kz i hi
