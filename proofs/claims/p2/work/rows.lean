section
-- ===== PART A: goes FIRST, ahead of the names: the tables' words, and 'selects' of the private methods out of them =====
/-- a private method of a class that the tables say can be made, by its rows of tables_1 -/
def lw_okq (q : MethodName × Nat) : Prop := (q.1.cls ≠ "java/lang/invoke/MethodHandle" ∧ q.1.cls ≠ "java/lang/invoke/VarHandle") ∧ Cond.instantiable q.1.cls q.2 ∈ tables_1 ∧ Cond.privateMethod q.1 ∈ tables_1 ∧ Cond.instanceMethod q.1 ∈ tables_1
theorem lw_p0 : lw_okq (⟨"WindHall$Balance", "productsOf", "(IIII)I"⟩, 7) := ⟨⟨by decide +kernel, by decide +kernel⟩, List.mem_of_getElem? (i := 23) (by decide +kernel), List.mem_of_getElem? (i := 337) (by decide +kernel), List.mem_of_getElem? (i := 338) (by decide +kernel)⟩
theorem lw_p1 : lw_okq (⟨"WindHall$Balance", "setLeft", "()V"⟩, 7) := ⟨⟨by decide +kernel, by decide +kernel⟩, List.mem_of_getElem? (i := 23) (by decide +kernel), List.mem_of_getElem? (i := 353) (by decide +kernel), List.mem_of_getElem? (i := 354) (by decide +kernel)⟩
theorem lw_p2 : lw_okq (⟨"WindHall$Equations", "term", "(III)J"⟩, 2) := ⟨⟨by decide +kernel, by decide +kernel⟩, List.mem_of_getElem? (i := 32) (by decide +kernel), List.mem_of_getElem? (i := 361) (by decide +kernel), List.mem_of_getElem? (i := 362) (by decide +kernel)⟩
theorem lw_p3 : lw_okq (⟨"WindHall$Balance", "goRound", "(J)Z"⟩, 7) := ⟨⟨by decide +kernel, by decide +kernel⟩, List.mem_of_getElem? (i := 23) (by decide +kernel), List.mem_of_getElem? (i := 369) (by decide +kernel), List.mem_of_getElem? (i := 370) (by decide +kernel)⟩
theorem lw_p4 : lw_okq (⟨"WindHall$Balance", "greatestDistance", "()I"⟩, 7) := ⟨⟨by decide +kernel, by decide +kernel⟩, List.mem_of_getElem? (i := 23) (by decide +kernel), List.mem_of_getElem? (i := 388) (by decide +kernel), List.mem_of_getElem? (i := 389) (by decide +kernel)⟩
theorem lw_p5 : lw_okq (⟨"WindHall$Calibration", "setEquations", "(I)V"⟩, 4) := ⟨⟨by decide +kernel, by decide +kernel⟩, List.mem_of_getElem? (i := 80) (by decide +kernel), List.mem_of_getElem? (i := 417) (by decide +kernel), List.mem_of_getElem? (i := 418) (by decide +kernel)⟩
theorem lw_p6 : lw_okq (⟨"WindHall$Calibration", "sumOfProducts", "(II)J"⟩, 4) := ⟨⟨by decide +kernel, by decide +kernel⟩, List.mem_of_getElem? (i := 80) (by decide +kernel), List.mem_of_getElem? (i := 421) (by decide +kernel), List.mem_of_getElem? (i := 422) (by decide +kernel)⟩
theorem lw_p7 : lw_okq (⟨"WindHall$Corrections", "changeIfOn", "(I[J)V"⟩, 7) := ⟨⟨by decide +kernel, by decide +kernel⟩, List.mem_of_getElem? (i := 105) (by decide +kernel), List.mem_of_getElem? (i := 488) (by decide +kernel), List.mem_of_getElem? (i := 489) (by decide +kernel)⟩
theorem lw_p8 : lw_okq (⟨"WindHall$Correction", "share", "(I)I"⟩, 5) := ⟨⟨by decide +kernel, by decide +kernel⟩, List.mem_of_getElem? (i := 112) (by decide +kernel), List.mem_of_getElem? (i := 515) (by decide +kernel), List.mem_of_getElem? (i := 516) (by decide +kernel)⟩
theorem lw_p9 : lw_okq (⟨"WindHall$Corrections", "differ", "()Z"⟩, 7) := ⟨⟨by decide +kernel, by decide +kernel⟩, List.mem_of_getElem? (i := 105) (by decide +kernel), List.mem_of_getElem? (i := 528) (by decide +kernel), List.mem_of_getElem? (i := 529) (by decide +kernel)⟩
theorem lw_p10 : lw_okq (⟨"WindHall$Program", "setMove", "(II)V"⟩, 10) := ⟨⟨by decide +kernel, by decide +kernel⟩, List.mem_of_getElem? (i := 164) (by decide +kernel), List.mem_of_getElem? (i := 548) (by decide +kernel), List.mem_of_getElem? (i := 549) (by decide +kernel)⟩
theorem lw_p11 : lw_okq (⟨"WindHall$Program", "setOfOpen", "()I"⟩, 10) := ⟨⟨by decide +kernel, by decide +kernel⟩, List.mem_of_getElem? (i := 164) (by decide +kernel), List.mem_of_getElem? (i := 572) (by decide +kernel), List.mem_of_getElem? (i := 573) (by decide +kernel)⟩
theorem lw_p12 : lw_okq (⟨"WindHall$Program", "setRest", "(II)V"⟩, 10) := ⟨⟨by decide +kernel, by decide +kernel⟩, List.mem_of_getElem? (i := 164) (by decide +kernel), List.mem_of_getElem? (i := 576) (by decide +kernel), List.mem_of_getElem? (i := 577) (by decide +kernel)⟩
theorem lw_p13 : lw_okq (⟨"WindHall$Program", "firstOfLeast", "(II)I"⟩, 10) := ⟨⟨by decide +kernel, by decide +kernel⟩, List.mem_of_getElem? (i := 164) (by decide +kernel), List.mem_of_getElem? (i := 586) (by decide +kernel), List.mem_of_getElem? (i := 587) (by decide +kernel)⟩
theorem lw_p14 : lw_okq (⟨"WindHall$Program", "sumBy", "(III)I"⟩, 10) := ⟨⟨by decide +kernel, by decide +kernel⟩, List.mem_of_getElem? (i := 164) (by decide +kernel), List.mem_of_getElem? (i := 591) (by decide +kernel), List.mem_of_getElem? (i := 592) (by decide +kernel)⟩
theorem lw_p15 : lw_okq (⟨"WindHall$Program", "setOrder", "(I)V"⟩, 10) := ⟨⟨by decide +kernel, by decide +kernel⟩, List.mem_of_getElem? (i := 164) (by decide +kernel), List.mem_of_getElem? (i := 595) (by decide +kernel), List.mem_of_getElem? (i := 596) (by decide +kernel)⟩
def lw_privs_1 : List (MethodName × Nat) := [(⟨"WindHall$Balance", "productsOf", "(IIII)I"⟩, 7), (⟨"WindHall$Balance", "setLeft", "()V"⟩, 7), (⟨"WindHall$Equations", "term", "(III)J"⟩, 2), (⟨"WindHall$Balance", "goRound", "(J)Z"⟩, 7), (⟨"WindHall$Balance", "greatestDistance", "()I"⟩, 7), (⟨"WindHall$Calibration", "setEquations", "(I)V"⟩, 4), (⟨"WindHall$Calibration", "sumOfProducts", "(II)J"⟩, 4), (⟨"WindHall$Corrections", "changeIfOn", "(I[J)V"⟩, 7), (⟨"WindHall$Correction", "share", "(I)I"⟩, 5), (⟨"WindHall$Corrections", "differ", "()Z"⟩, 7), (⟨"WindHall$Program", "setMove", "(II)V"⟩, 10), (⟨"WindHall$Program", "setOfOpen", "()I"⟩, 10), (⟨"WindHall$Program", "setRest", "(II)V"⟩, 10), (⟨"WindHall$Program", "firstOfLeast", "(II)I"⟩, 10), (⟨"WindHall$Program", "sumBy", "(III)I"⟩, 10), (⟨"WindHall$Program", "setOrder", "(I)V"⟩, 10)]
theorem lw_r1 : ∀ q ∈ lw_privs_1, lw_okq q := List.forall_mem_cons.mpr ⟨lw_p0, List.forall_mem_cons.mpr ⟨lw_p1, List.forall_mem_cons.mpr ⟨lw_p2, List.forall_mem_cons.mpr ⟨lw_p3, List.forall_mem_cons.mpr ⟨lw_p4, List.forall_mem_cons.mpr ⟨lw_p5, List.forall_mem_cons.mpr ⟨lw_p6, List.forall_mem_cons.mpr ⟨lw_p7, List.forall_mem_cons.mpr ⟨lw_p8, List.forall_mem_cons.mpr ⟨lw_p9, List.forall_mem_cons.mpr ⟨lw_p10, List.forall_mem_cons.mpr ⟨lw_p11, List.forall_mem_cons.mpr ⟨lw_p12, List.forall_mem_cons.mpr ⟨lw_p13, List.forall_mem_cons.mpr ⟨lw_p14, List.forall_mem_cons.mpr ⟨lw_p15, fun _ h => absurd h List.not_mem_nil⟩⟩⟩⟩⟩⟩⟩⟩⟩⟩⟩⟩⟩⟩⟩⟩
theorem lw_p16 : lw_okq (⟨"WindHall$Settling", "firstBeyond", "([I)I"⟩, 8) := ⟨⟨by decide +kernel, by decide +kernel⟩, List.mem_of_getElem? (i := 210) (by decide +kernel), List.mem_of_getElem? (i := 627) (by decide +kernel), List.mem_of_getElem? (i := 628) (by decide +kernel)⟩
theorem lw_p17 : lw_okq (⟨"WindHall$Settling", "isSettled", "()Z"⟩, 8) := ⟨⟨by decide +kernel, by decide +kernel⟩, List.mem_of_getElem? (i := 210) (by decide +kernel), List.mem_of_getElem? (i := 632) (by decide +kernel), List.mem_of_getElem? (i := 633) (by decide +kernel)⟩
theorem lw_p18 : lw_okq (⟨"WindHall$Settling", "spreadOfLatest", "(I)I"⟩, 8) := ⟨⟨by decide +kernel, by decide +kernel⟩, List.mem_of_getElem? (i := 210) (by decide +kernel), List.mem_of_getElem? (i := 636) (by decide +kernel), List.mem_of_getElem? (i := 637) (by decide +kernel)⟩
theorem lw_p19 : lw_okq (⟨"WindHall$Settling", "readingAgo", "(II)I"⟩, 8) := ⟨⟨by decide +kernel, by decide +kernel⟩, List.mem_of_getElem? (i := 210) (by decide +kernel), List.mem_of_getElem? (i := 642) (by decide +kernel), List.mem_of_getElem? (i := 643) (by decide +kernel)⟩
theorem lw_p20 : lw_okq (⟨"WindHall$Tubes", "canMend", "(III)Z"⟩, 4) := ⟨⟨by decide +kernel, by decide +kernel⟩, List.mem_of_getElem? (i := 250) (by decide +kernel), List.mem_of_getElem? (i := 739) (by decide +kernel), List.mem_of_getElem? (i := 740) (by decide +kernel)⟩
theorem lw_p21 : lw_okq (⟨"WindHallModel", "readingOf", "(IIII)I"⟩, 42) := ⟨⟨by decide +kernel, by decide +kernel⟩, List.mem_of_getElem? (i := 762) (by decide +kernel), List.mem_of_getElem? (i := 922) (by decide +kernel), List.mem_of_getElem? (i := 923) (by decide +kernel)⟩
theorem lw_p22 : lw_okq (⟨"WindHallModel", "products", "(IIII)I"⟩, 42) := ⟨⟨by decide +kernel, by decide +kernel⟩, List.mem_of_getElem? (i := 762) (by decide +kernel), List.mem_of_getElem? (i := 926) (by decide +kernel), List.mem_of_getElem? (i := 927) (by decide +kernel)⟩
theorem lw_p23 : lw_okq (⟨"WindHallModel", "determinant", "()J"⟩, 42) := ⟨⟨by decide +kernel, by decide +kernel⟩, List.mem_of_getElem? (i := 762) (by decide +kernel), List.mem_of_getElem? (i := 940) (by decide +kernel), List.mem_of_getElem? (i := 941) (by decide +kernel)⟩
theorem lw_p24 : lw_okq (⟨"WindHallModel", "replaced", "(I)J"⟩, 42) := ⟨⟨by decide +kernel, by decide +kernel⟩, List.mem_of_getElem? (i := 762) (by decide +kernel), List.mem_of_getElem? (i := 944) (by decide +kernel), List.mem_of_getElem? (i := 945) (by decide +kernel)⟩
theorem lw_p25 : lw_okq (⟨"WindHallModel", "isCorrection", "(I)Z"⟩, 42) := ⟨⟨by decide +kernel, by decide +kernel⟩, List.mem_of_getElem? (i := 762) (by decide +kernel), List.mem_of_getElem? (i := 991) (by decide +kernel), List.mem_of_getElem? (i := 992) (by decide +kernel)⟩
theorem lw_p26 : lw_okq (⟨"WindHallModel", "begins", "()V"⟩, 42) := ⟨⟨by decide +kernel, by decide +kernel⟩, List.mem_of_getElem? (i := 762) (by decide +kernel), List.mem_of_getElem? (i := 1013) (by decide +kernel), List.mem_of_getElem? (i := 1014) (by decide +kernel)⟩
theorem lw_p27 : lw_okq (⟨"WindHallModel", "does", "(I)V"⟩, 42) := ⟨⟨by decide +kernel, by decide +kernel⟩, List.mem_of_getElem? (i := 762) (by decide +kernel), List.mem_of_getElem? (i := 1017) (by decide +kernel), List.mem_of_getElem? (i := 1018) (by decide +kernel)⟩
theorem lw_p28 : lw_okq (⟨"WindHallModel", "cosine", "(I)I"⟩, 42) := ⟨⟨by decide +kernel, by decide +kernel⟩, List.mem_of_getElem? (i := 762) (by decide +kernel), List.mem_of_getElem? (i := 1021) (by decide +kernel), List.mem_of_getElem? (i := 1022) (by decide +kernel)⟩
theorem lw_p29 : lw_okq (⟨"WindHallModel", "sine", "(I)I"⟩, 42) := ⟨⟨by decide +kernel, by decide +kernel⟩, List.mem_of_getElem? (i := 762) (by decide +kernel), List.mem_of_getElem? (i := 1025) (by decide +kernel), List.mem_of_getElem? (i := 1026) (by decide +kernel)⟩
theorem lw_p30 : lw_okq (⟨"WindHallModel", "tells", "()V"⟩, 42) := ⟨⟨by decide +kernel, by decide +kernel⟩, List.mem_of_getElem? (i := 762) (by decide +kernel), List.mem_of_getElem? (i := 1033) (by decide +kernel), List.mem_of_getElem? (i := 1034) (by decide +kernel)⟩
theorem lw_p31 : lw_okq (⟨"WindHallModel", "isPlace", "(I)Z"⟩, 42) := ⟨⟨by decide +kernel, by decide +kernel⟩, List.mem_of_getElem? (i := 762) (by decide +kernel), List.mem_of_getElem? (i := 1052) (by decide +kernel), List.mem_of_getElem? (i := 1053) (by decide +kernel)⟩
def lw_privs_2 : List (MethodName × Nat) := [(⟨"WindHall$Settling", "firstBeyond", "([I)I"⟩, 8), (⟨"WindHall$Settling", "isSettled", "()Z"⟩, 8), (⟨"WindHall$Settling", "spreadOfLatest", "(I)I"⟩, 8), (⟨"WindHall$Settling", "readingAgo", "(II)I"⟩, 8), (⟨"WindHall$Tubes", "canMend", "(III)Z"⟩, 4), (⟨"WindHallModel", "readingOf", "(IIII)I"⟩, 42), (⟨"WindHallModel", "products", "(IIII)I"⟩, 42), (⟨"WindHallModel", "determinant", "()J"⟩, 42), (⟨"WindHallModel", "replaced", "(I)J"⟩, 42), (⟨"WindHallModel", "isCorrection", "(I)Z"⟩, 42), (⟨"WindHallModel", "begins", "()V"⟩, 42), (⟨"WindHallModel", "does", "(I)V"⟩, 42), (⟨"WindHallModel", "cosine", "(I)I"⟩, 42), (⟨"WindHallModel", "sine", "(I)I"⟩, 42), (⟨"WindHallModel", "tells", "()V"⟩, 42), (⟨"WindHallModel", "isPlace", "(I)Z"⟩, 42)]
theorem lw_r2 : ∀ q ∈ lw_privs_2, lw_okq q := List.forall_mem_cons.mpr ⟨lw_p16, List.forall_mem_cons.mpr ⟨lw_p17, List.forall_mem_cons.mpr ⟨lw_p18, List.forall_mem_cons.mpr ⟨lw_p19, List.forall_mem_cons.mpr ⟨lw_p20, List.forall_mem_cons.mpr ⟨lw_p21, List.forall_mem_cons.mpr ⟨lw_p22, List.forall_mem_cons.mpr ⟨lw_p23, List.forall_mem_cons.mpr ⟨lw_p24, List.forall_mem_cons.mpr ⟨lw_p25, List.forall_mem_cons.mpr ⟨lw_p26, List.forall_mem_cons.mpr ⟨lw_p27, List.forall_mem_cons.mpr ⟨lw_p28, List.forall_mem_cons.mpr ⟨lw_p29, List.forall_mem_cons.mpr ⟨lw_p30, List.forall_mem_cons.mpr ⟨lw_p31, fun _ h => absurd h List.not_mem_nil⟩⟩⟩⟩⟩⟩⟩⟩⟩⟩⟩⟩⟩⟩⟩⟩
theorem lw_p32 : lw_okq (⟨"WindHallModel", "move", "(III)I"⟩, 42) := ⟨⟨by decide +kernel, by decide +kernel⟩, List.mem_of_getElem? (i := 762) (by decide +kernel), List.mem_of_getElem? (i := 1060) (by decide +kernel), List.mem_of_getElem? (i := 1061) (by decide +kernel)⟩
theorem lw_p33 : lw_okq (⟨"WindHallModel", "findAll", "()I"⟩, 42) := ⟨⟨by decide +kernel, by decide +kernel⟩, List.mem_of_getElem? (i := 762) (by decide +kernel), List.mem_of_getElem? (i := 1068) (by decide +kernel), List.mem_of_getElem? (i := 1069) (by decide +kernel)⟩
theorem lw_p34 : lw_okq (⟨"WindHallModel", "best", "(II)I"⟩, 42) := ⟨⟨by decide +kernel, by decide +kernel⟩, List.mem_of_getElem? (i := 762) (by decide +kernel), List.mem_of_getElem? (i := 1072) (by decide +kernel), List.mem_of_getElem? (i := 1073) (by decide +kernel)⟩
theorem lw_p35 : lw_okq (⟨"WindHallModel", "cost", "(II)I"⟩, 42) := ⟨⟨by decide +kernel, by decide +kernel⟩, List.mem_of_getElem? (i := 762) (by decide +kernel), List.mem_of_getElem? (i := 1076) (by decide +kernel), List.mem_of_getElem? (i := 1077) (by decide +kernel)⟩
theorem lw_p36 : lw_okq (⟨"WindHallModel", "behind", "(II)I"⟩, 42) := ⟨⟨by decide +kernel, by decide +kernel⟩, List.mem_of_getElem? (i := 762) (by decide +kernel), List.mem_of_getElem? (i := 1080) (by decide +kernel), List.mem_of_getElem? (i := 1081) (by decide +kernel)⟩
theorem lw_p37 : lw_okq (⟨"WindHallModel", "waits", "()V"⟩, 42) := ⟨⟨by decide +kernel, by decide +kernel⟩, List.mem_of_getElem? (i := 762) (by decide +kernel), List.mem_of_getElem? (i := 1094) (by decide +kernel), List.mem_of_getElem? (i := 1095) (by decide +kernel)⟩
theorem lw_p38 : lw_okq (⟨"WindHallModel", "isSettled", "()Z"⟩, 42) := ⟨⟨by decide +kernel, by decide +kernel⟩, List.mem_of_getElem? (i := 762) (by decide +kernel), List.mem_of_getElem? (i := 1102) (by decide +kernel), List.mem_of_getElem? (i := 1103) (by decide +kernel)⟩
theorem lw_p39 : lw_okq (⟨"WindHallModel", "lostMany", "()I"⟩, 42) := ⟨⟨by decide +kernel, by decide +kernel⟩, List.mem_of_getElem? (i := 762) (by decide +kernel), List.mem_of_getElem? (i := 1136) (by decide +kernel), List.mem_of_getElem? (i := 1137) (by decide +kernel)⟩
def lw_privs_3 : List (MethodName × Nat) := [(⟨"WindHallModel", "move", "(III)I"⟩, 42), (⟨"WindHallModel", "findAll", "()I"⟩, 42), (⟨"WindHallModel", "best", "(II)I"⟩, 42), (⟨"WindHallModel", "cost", "(II)I"⟩, 42), (⟨"WindHallModel", "behind", "(II)I"⟩, 42), (⟨"WindHallModel", "waits", "()V"⟩, 42), (⟨"WindHallModel", "isSettled", "()Z"⟩, 42), (⟨"WindHallModel", "lostMany", "()I"⟩, 42)]
theorem lw_r3 : ∀ q ∈ lw_privs_3, lw_okq q := List.forall_mem_cons.mpr ⟨lw_p32, List.forall_mem_cons.mpr ⟨lw_p33, List.forall_mem_cons.mpr ⟨lw_p34, List.forall_mem_cons.mpr ⟨lw_p35, List.forall_mem_cons.mpr ⟨lw_p36, List.forall_mem_cons.mpr ⟨lw_p37, List.forall_mem_cons.mpr ⟨lw_p38, List.forall_mem_cons.mpr ⟨lw_p39, fun _ h => absurd h List.not_mem_nil⟩⟩⟩⟩⟩⟩⟩⟩
def lw_privs : List (MethodName × Nat) := lw_privs_1 ++ (lw_privs_2 ++ (lw_privs_3))
def lw_tbl : List Cond := k2_sels lw_privs ++ tables_1
theorem lw_privs_ok : ∀ q ∈ lw_privs, lw_okq q := by
  show ∀ q ∈ lw_privs_1 ++ (lw_privs_2 ++ (lw_privs_3)), lw_okq q
  exact List.forall_mem_append.mpr ⟨lw_r1, List.forall_mem_append.mpr ⟨lw_r2, lw_r3⟩⟩
end
section
/-! plain facts to paste, each family by itself; over the kit's nI, lN and upd -/
/-! ===== drawers: more things than places ===== -/
theorem fb_holes : ∀ (m n : Nat) (f : Nat → Nat), (∀ i, i < n → f i < m) → (∀ i j, i < j → j < n → f i ≠ f j) → n ≤ m := by
  intro m
  induction m with
  | zero =>
    intro n f h1 _
    rcases Nat.eq_zero_or_pos n with h | h
    · omega
    · exact absurd (h1 0 h) (Nat.not_lt_zero _)
  | succ m ih =>
    intro n f h1 h2
    by_cases hx : ∃ i, i < n ∧ f i = m
    · obtain ⟨a, ha, hfa⟩ := hx
      have hg := ih (n - 1) (fun i => if i < a then f i else f (i + 1)) (by
        intro i hi
        by_cases q : i < a
        · simp only [if_pos q]
          have b1 := h1 i (by omega)
          have b2 := h2 i a q ha
          omega
        · simp only [if_neg q]
          have b1 := h1 (i + 1) (by omega)
          have b2 := h2 a (i + 1) (by omega) (by omega)
          omega) (by
        intro i j hij hj
        by_cases q : i < a
        · by_cases r : j < a
          · simp only [if_pos q, if_pos r]
            exact h2 i j hij (by omega)
          · simp only [if_pos q, if_neg r]
            exact h2 i (j + 1) (by omega) (by omega)
        · have r : ¬ j < a := by omega
          simp only [if_neg q, if_neg r]
          exact h2 (i + 1) (j + 1) (by omega) (by omega))
      omega
    · have hg := ih n f (fun i hi => by
        have b1 := h1 i hi
        have b2 : f i ≠ m := fun e => hx ⟨i, hi, e⟩
        omega) h2
      omega
/-- two of them in one place -/
theorem fb_twice {m n : Nat} {f : Nat → Nat} (h : ∀ i, i < n → f i < m) (hm : m < n) : ∃ i j, i < j ∧ j < n ∧ f i = f j := by
  refine Classical.byContradiction fun hx => ?_
  have := fb_holes m n f h (fun i j hij hj e => hx ⟨i, j, hij, hj, e⟩)
  omega
/-- as many as places, none twice: each place is taken -/
theorem fb_onto {n : Nat} {f : Nat → Nat} (h : ∀ i, i < n → f i < n) (h2 : ∀ i j, i < j → j < n → f i ≠ f j) {y : Nat} (hy : y < n) : ∃ i, i < n ∧ f i = y := by
  refine Classical.byContradiction fun hx => ?_
  have hne : ∀ i, i < n → f i ≠ y := fun i hi e => hx ⟨i, hi, e⟩
  have := fb_holes (n - 1) n (fun i => if f i < y then f i else f i - 1) (by
    intro i hi
    have b1 := h i hi
    have b2 := hne i hi
    by_cases q : f i < y
    · simp only [if_pos q]; omega
    · simp only [if_neg q]; omega) (by
    intro i j hij hj
    have b1 := hne i (by omega)
    have b2 := hne j hj
    have b3 := h2 i j hij hj
    by_cases q : f i < y
    · by_cases r : f j < y
      · simp only [if_pos q, if_pos r]; exact b3
      · simp only [if_pos q, if_neg r]; omega
    · by_cases r : f j < y
      · simp only [if_neg q, if_pos r]; omega
      · simp only [if_neg q, if_neg r]; omega)
  omega
/-! ===== how many places have a property ===== -/
def fb_ct (p : Nat → Bool) : Nat → Nat
  | 0 => 0
  | n + 1 => fb_ct p n + (if p n then 1 else 0)
theorem fb_ct_succ (p : Nat → Bool) (n : Nat) : fb_ct p (n + 1) = fb_ct p n + (if p n then 1 else 0) := rfl
theorem fb_ct_le (p : Nat → Bool) : ∀ n, fb_ct p n ≤ n
  | 0 => Nat.le_refl _
  | n + 1 => by
    have h := fb_ct_le p n
    rw [fb_ct_succ]
    split <;> omega
theorem fb_ct_step (p : Nat → Bool) (m : Nat) : ∀ n, fb_ct p m ≤ fb_ct p (m + n)
  | 0 => Nat.le_refl _
  | n + 1 => by
    have h := fb_ct_step p m n
    show fb_ct p m ≤ fb_ct p (m + n + 1)
    rw [fb_ct_succ]
    omega
theorem fb_ct_mono (p : Nat → Bool) {m n : Nat} (h : m ≤ n) : fb_ct p m ≤ fb_ct p n := by
  have := fb_ct_step p m (n - m)
  rwa [Nat.add_sub_cancel' h] at this
theorem fb_ct_cong {p q : Nat → Bool} : ∀ {n : Nat}, (∀ k, k < n → p k = q k) → fb_ct p n = fb_ct q n
  | 0, _ => rfl
  | n + 1, h => by
    rw [fb_ct_succ, fb_ct_succ, fb_ct_cong (fun k hk => h k (by omega)), h n (by omega)]
/-- one place changed -/
theorem fb_ct_out (p : Nat → Bool) (b : Bool) {i n : Nat} (h : n ≤ i) : fb_ct (fun k => if k = i then b else p k) n = fb_ct p n :=
  fb_ct_cong fun k hk => if_neg (by omega)
theorem fb_ct_upd (p : Nat → Bool) (b : Bool) {i : Nat} : ∀ {n : Nat}, i < n → fb_ct (fun k => if k = i then b else p k) n + (if p i then 1 else 0) = fb_ct p n + (if b then 1 else 0)
  | 0, h => absurd h (Nat.not_lt_zero i)
  | n + 1, h => by
    rw [fb_ct_succ, fb_ct_succ]
    rcases Nat.lt_or_ge i n with q | q
    · have := fb_ct_upd p b q
      have e : (if n = i then b else p n) = p n := if_neg (by omega)
      rw [e]
      omega
    · have e : i = n := by omega
      subst e
      rw [fb_ct_out p b (Nat.le_refl _)]
      simp only [if_true]
      omega
theorem fb_ct_sub {p q : Nat → Bool} : ∀ {n : Nat}, (∀ k, k < n → p k = true → q k = true) → fb_ct p n ≤ fb_ct q n
  | 0, _ => Nat.le_refl _
  | n + 1, h => by
    have h1 := fb_ct_sub (n := n) (p := p) (q := q) (fun k hk => h k (by omega))
    have h2 := h n (by omega)
    rw [fb_ct_succ, fb_ct_succ]
    cases hp : p n <;> cases hq : q n <;> simp_all <;> omega
theorem fb_ct_or {p q : Nat → Bool} : ∀ {n : Nat}, (∀ k, k < n → ¬ (p k = true ∧ q k = true)) → fb_ct (fun k => p k || q k) n = fb_ct p n + fb_ct q n
  | 0, _ => rfl
  | n + 1, h => by
    have h1 := fb_ct_or (n := n) (p := p) (q := q) (fun k hk => h k (by omega))
    have h2 := h n (by omega)
    rw [fb_ct_succ, fb_ct_succ, fb_ct_succ, h1]
    cases hp : p n <;> cases hq : q n <;> simp_all <;> omega
theorem fb_ct_not (p : Nat → Bool) : ∀ n, fb_ct p n + fb_ct (fun k => !p k) n = n
  | 0 => rfl
  | n + 1 => by
    have h := fb_ct_not p n
    rw [fb_ct_succ, fb_ct_succ]
    cases p n <;> simp <;> omega
theorem fb_ct_split (p : Nat → Bool) (m : Nat) : ∀ n, fb_ct p (m + n) = fb_ct p m + fb_ct (fun k => p (m + k)) n
  | 0 => rfl
  | n + 1 => by
    have h := fb_ct_split p m n
    show fb_ct p (m + n + 1) = _
    rw [fb_ct_succ, fb_ct_succ, h, Nat.add_assoc]
theorem fb_ct_zero {p : Nat → Bool} : ∀ {n : Nat}, fb_ct p n = 0 ↔ ∀ k, k < n → p k = false
  | 0 => ⟨fun _ k hk => absurd hk (Nat.not_lt_zero k), fun _ => rfl⟩
  | n + 1 => by
    have h := fb_ct_zero (p := p) (n := n)
    rw [fb_ct_succ]
    constructor
    · intro e k hk
      have e1 : fb_ct p n = 0 := by omega
      rcases Nat.lt_or_ge k n with q | q
      · exact h.mp e1 k q
      · have ek : k = n := by omega
        subst ek
        cases hp : p k
        · rfl
        · simp [hp] at e
    · intro a
      rw [h.mpr (fun k hk => a k (by omega)), a n (by omega)]
      rfl
theorem fb_ct_pos {p : Nat → Bool} {n : Nat} : 0 < fb_ct p n ↔ ∃ k, k < n ∧ p k = true := by
  constructor
  · intro h
    refine Classical.byContradiction fun hx => ?_
    have := fb_ct_zero.mpr (fun k hk => by
      cases hp : p k
      · rfl
      · exact absurd ⟨k, hk, hp⟩ hx : ∀ k, k < n → p k = false)
    omega
  · rintro ⟨k, hk, hp⟩
    rcases Nat.eq_zero_or_pos (fb_ct p n) with e | e
    · have := fb_ct_zero.mp e k hk
      rw [this] at hp
      cases hp
    · exact e
theorem fb_ct_all {p : Nat → Bool} {n : Nat} : fb_ct p n = n ↔ ∀ k, k < n → p k = true := by
  have h := fb_ct_not p n
  constructor
  · intro e k hk
    have z : fb_ct (fun k => !p k) n = 0 := by omega
    have := fb_ct_zero.mp z k hk
    cases hp : p k
    · simp [hp] at this
    · rfl
  · intro a
    have z : fb_ct (fun k => !p k) n = 0 := fb_ct_zero.mpr (fun k hk => by simp [a k hk])
    omega
/-- the k-th place with the property -/
theorem fb_ct_kth {p : Nat → Bool} {k : Nat} : ∀ {n : Nat}, k < fb_ct p n → ∃ i, i < n ∧ p i = true ∧ fb_ct p i = k
  | 0, h => absurd h (Nat.not_lt_zero k)
  | n + 1, h => by
    rcases Nat.lt_or_ge k (fb_ct p n) with q | q
    · obtain ⟨i, h1, h2⟩ := fb_ct_kth q
      exact ⟨i, by omega, h2⟩
    · rw [fb_ct_succ] at h
      cases hp : p n
      · simp [hp] at h; omega
      · simp [hp] at h
        exact ⟨n, by omega, hp, by omega⟩
theorem fb_ct_kth_one {p : Nat → Bool} {i j : Nat} (hi : p i = true) (hj : p j = true) (e : fb_ct p i = fb_ct p j) : i = j := by
  have key : ∀ a b : Nat, a < b → p a = true → fb_ct p a < fb_ct p b := by
    intro a b hab ha
    have h := fb_ct_mono p (show a + 1 ≤ b from hab)
    rw [fb_ct_succ, ha] at h
    simp at h
    omega
  rcases Nat.lt_trichotomy i j with q | q | q
  · have := key i j q hi; omega
  · exact q
  · have := key j i q hj; omega
/-! ===== sums over a range: one place changed, parts, bounds ===== -/
def fb_sm (f : Nat → Nat) : Nat → Nat
  | 0 => 0
  | n + 1 => fb_sm f n + f n
theorem fb_sm_succ (f : Nat → Nat) (n : Nat) : fb_sm f (n + 1) = fb_sm f n + f n := rfl
theorem fb_sm_cong {f g : Nat → Nat} : ∀ {n : Nat}, (∀ k, k < n → f k = g k) → fb_sm f n = fb_sm g n
  | 0, _ => rfl
  | n + 1, h => by rw [fb_sm_succ, fb_sm_succ, fb_sm_cong (fun k hk => h k (by omega)), h n (by omega)]
theorem fb_sm_out (f : Nat → Nat) (v : Nat) {i n : Nat} (h : n ≤ i) : fb_sm (fun k => if k = i then v else f k) n = fb_sm f n :=
  fb_sm_cong fun k hk => if_neg (by omega)
theorem fb_sm_upd (f : Nat → Nat) (v : Nat) {i : Nat} : ∀ {n : Nat}, i < n → fb_sm (fun k => if k = i then v else f k) n + f i = fb_sm f n + v
  | 0, h => absurd h (Nat.not_lt_zero i)
  | n + 1, h => by
    rw [fb_sm_succ, fb_sm_succ]
    rcases Nat.lt_or_ge i n with q | q
    · have := fb_sm_upd f v q
      have e : (if n = i then v else f n) = f n := if_neg (by omega)
      rw [e]
      omega
    · have e : i = n := by omega
      subst e
      rw [fb_sm_out f v (Nat.le_refl _)]
      simp only [if_true]
      omega
theorem fb_sm_add (f g : Nat → Nat) : ∀ n, fb_sm (fun k => f k + g k) n = fb_sm f n + fb_sm g n
  | 0 => rfl
  | n + 1 => by
    have h := fb_sm_add f g n
    rw [fb_sm_succ, fb_sm_succ, fb_sm_succ, h]
    omega
theorem fb_sm_le {f g : Nat → Nat} : ∀ {n : Nat}, (∀ k, k < n → f k ≤ g k) → fb_sm f n ≤ fb_sm g n
  | 0, _ => Nat.le_refl _
  | n + 1, h => by
    have h1 := fb_sm_le (n := n) (f := f) (g := g) (fun k hk => h k (by omega))
    have h2 := h n (by omega)
    rw [fb_sm_succ, fb_sm_succ]
    omega
theorem fb_sm_const (c : Nat) : ∀ n, fb_sm (fun _ => c) n = n * c
  | 0 => by rw [Nat.zero_mul]; rfl
  | n + 1 => by rw [fb_sm_succ, fb_sm_const c n, Nat.succ_mul]
theorem fb_sm_bound {f : Nat → Nat} {c n : Nat} (h : ∀ k, k < n → f k ≤ c) : fb_sm f n ≤ n * c := by
  rw [← fb_sm_const c n]
  exact fb_sm_le h
theorem fb_sm_mono (f : Nat → Nat) (m : Nat) : ∀ n, fb_sm f m ≤ fb_sm f (m + n)
  | 0 => Nat.le_refl _
  | n + 1 => by
    have h := fb_sm_mono f m n
    show fb_sm f m ≤ fb_sm f (m + n + 1)
    rw [fb_sm_succ]
    omega
theorem fb_sm_part (f : Nat → Nat) {i n : Nat} (h : i < n) : fb_sm f i + f i ≤ fb_sm f n := by
  have := fb_sm_mono f (i + 1) (n - (i + 1))
  rw [fb_sm_succ, show i + 1 + (n - (i + 1)) = n by omega] at this
  exact this
theorem fb_sm_split (f : Nat → Nat) (m : Nat) : ∀ n, fb_sm f (m + n) = fb_sm f m + fb_sm (fun k => f (m + k)) n
  | 0 => rfl
  | n + 1 => by
    have h := fb_sm_split f m n
    show fb_sm f (m + n + 1) = _
    rw [fb_sm_succ, fb_sm_succ, h, Nat.add_assoc]
theorem fb_sm_zero {f : Nat → Nat} {n : Nat} (h : fb_sm f n = 0) : ∀ k, k < n → f k = 0 := fun k hk => by
  have := fb_sm_part f hk
  omega
/-- the same over whole numbers -/
def fb_si (f : Nat → Int) : Nat → Int
  | 0 => 0
  | n + 1 => fb_si f n + f n
theorem fb_si_succ (f : Nat → Int) (n : Nat) : fb_si f (n + 1) = fb_si f n + f n := rfl
theorem fb_si_cong {f g : Nat → Int} : ∀ {n : Nat}, (∀ k, k < n → f k = g k) → fb_si f n = fb_si g n
  | 0, _ => rfl
  | n + 1, h => by rw [fb_si_succ, fb_si_succ, fb_si_cong (fun k hk => h k (by omega)), h n (by omega)]
theorem fb_si_out (f : Nat → Int) (v : Int) {i n : Nat} (h : n ≤ i) : fb_si (fun k => if k = i then v else f k) n = fb_si f n :=
  fb_si_cong fun k hk => if_neg (by omega)
theorem fb_si_upd (f : Nat → Int) (v : Int) {i : Nat} : ∀ {n : Nat}, i < n → fb_si (fun k => if k = i then v else f k) n = fb_si f n - f i + v
  | 0, h => absurd h (Nat.not_lt_zero i)
  | n + 1, h => by
    rw [fb_si_succ, fb_si_succ]
    rcases Nat.lt_or_ge i n with q | q
    · have := fb_si_upd f v q
      have e : (if n = i then v else f n) = f n := if_neg (by omega)
      rw [e]
      omega
    · have e : i = n := by omega
      subst e
      rw [fb_si_out f v (Nat.le_refl _)]
      simp only [if_true]
      omega
theorem fb_si_add (f g : Nat → Int) : ∀ n, fb_si (fun k => f k + g k) n = fb_si f n + fb_si g n
  | 0 => rfl
  | n + 1 => by
    have h := fb_si_add f g n
    rw [fb_si_succ, fb_si_succ, fb_si_succ, h]
    omega
theorem fb_si_sub (f g : Nat → Int) : ∀ n, fb_si (fun k => f k - g k) n = fb_si f n - fb_si g n
  | 0 => rfl
  | n + 1 => by
    have h := fb_si_sub f g n
    rw [fb_si_succ, fb_si_succ, fb_si_succ, h]
    omega
theorem fb_si_mul (c : Int) (f : Nat → Int) : ∀ n, fb_si (fun k => c * f k) n = c * fb_si f n
  | 0 => (Int.mul_zero c).symm
  | n + 1 => by
    have h := fb_si_mul c f n
    rw [fb_si_succ, fb_si_succ, h, Int.mul_add]
theorem fb_si_split (f : Nat → Int) (m : Nat) : ∀ n, fb_si f (m + n) = fb_si f m + fb_si (fun k => f (m + k)) n
  | 0 => (Int.add_zero _).symm
  | n + 1 => by
    have h := fb_si_split f m n
    show fb_si f (m + n + 1) = _
    rw [fb_si_succ, fb_si_succ, h, Int.add_assoc]
theorem fb_si_nat (f : Nat → Nat) : ∀ n, fb_si (fun k => (f k : Int)) n = (fb_sm f n : Int)
  | 0 => rfl
  | n + 1 => by
    have h := fb_si_nat f n
    rw [fb_si_succ, fb_sm_succ, h]
    omega
theorem fb_si_bound {f : Nat → Int} {c : Int} (hc : 0 ≤ c) : ∀ {n : Nat}, (∀ k, k < n → -c ≤ f k ∧ f k ≤ c) → -(n * c) ≤ fb_si f n ∧ fb_si f n ≤ n * c
  | 0, _ => by simp [fb_si]
  | n + 1, h => by
    have h1 := fb_si_bound (n := n) (f := f) hc (fun k hk => h k (by omega))
    have h2 := h n (by omega)
    have e : ((n + 1 : Nat) : Int) * c = n * c + c := by rw [Int.natCast_add, Int.add_mul]; simp
    rw [fb_si_succ, e]
    omega
/-! ===== bits of a long that isn't negative ===== -/
theorem fb_andL (a b : Nat) : lN a &&& lN b = lN (a &&& b) := by
  apply Int64.toBitVec_inj.1
  show BitVec.ofNat 64 a &&& BitVec.ofNat 64 b = BitVec.ofNat 64 (a &&& b)
  apply BitVec.eq_of_getLsbD_eq
  intro i hi
  simp [hi]
theorem fb_orL (a b : Nat) : lN a ||| lN b = lN (a ||| b) := by
  apply Int64.toBitVec_inj.1
  show BitVec.ofNat 64 a ||| BitVec.ofNat 64 b = BitVec.ofNat 64 (a ||| b)
  apply BitVec.eq_of_getLsbD_eq
  intro i hi
  simp [hi]
theorem fb_xorL (a b : Nat) : lN a ^^^ lN b = lN (a ^^^ b) := by
  apply Int64.toBitVec_inj.1
  show BitVec.ofNat 64 a ^^^ BitVec.ofNat 64 b = BitVec.ofNat 64 (a ^^^ b)
  apply BitVec.eq_of_getLsbD_eq
  intro i hi
  simp [hi]
theorem fb_xorI (a b : Nat) : nI a ^^^ nI b = nI (a ^^^ b) := by
  apply Int32.toBitVec_inj.1
  show BitVec.ofNat 32 a ^^^ BitVec.ofNat 32 b = BitVec.ofNat 32 (a ^^^ b)
  apply BitVec.eq_of_getLsbD_eq
  intro i hi
  simp [hi]
theorem fb_maskL (n k : Nat) : lN n &&& lN (2 ^ k - 1) = lN (n % 2 ^ k) := by rw [fb_andL, Nat.and_two_pow_sub_one_eq_mod]
theorem fb_or_sumL {a k : Nat} (b : Nat) (h : a < 2 ^ k) : lN (2 ^ k * b) ||| lN a = lN (2 ^ k * b + a) := by rw [fb_orL, Nat.two_pow_add_eq_or_of_lt h]
theorem fb_lN_inj {a b : Nat} (ha : a < 2 ^ 63) (hb : b < 2 ^ 63) : lN a = lN b ↔ a = b := by
  constructor
  · intro h
    have h1 : (BitVec.ofNat 64 a).toNat = (BitVec.ofNat 64 b).toNat := congrArg (fun x : Int64 => x.toBitVec.toNat) h
    rw [BitVec.toNat_ofNat, BitVec.toNat_ofNat, Nat.mod_eq_of_lt (by omega), Nat.mod_eq_of_lt (by omega)] at h1
    exact h1
  · rintro rfl; rfl
theorem fb_bit_nat (n j : Nat) : n &&& 2 ^ j = 0 ↔ n.testBit j = false := by
  constructor
  · intro h
    have h1 : (n &&& 2 ^ j).testBit j = false := by rw [h]; simp
    rw [Nat.testBit_and] at h1
    simpa using h1
  · intro h
    apply Nat.eq_of_testBit_eq
    intro i
    rw [Nat.testBit_and]
    by_cases hi : j = i
    · subst hi; simp [h]
    · first | (simp [Nat.testBit_two_pow, hi]; done) | (simp [Nat.testBit_two_pow_of_ne hi]; done)
/-- one bit of a long -/
theorem fb_bitL {n j : Nat} (hj : j < 63) : lN n &&& lN (2 ^ j) = 0 ↔ n.testBit j = false := by
  have h2 : (2 : Nat) ^ j < 2 ^ 63 := Nat.pow_lt_pow_right (by decide) hj
  have hle : n &&& 2 ^ j ≤ 2 ^ j := Nat.and_le_right
  rw [fb_andL, ← fb_bit_nat, show (0 : Int64) = lN 0 from rfl]
  exact fb_lN_inj (by omega) (by decide)
/-- a bit set, a bit taken off -/
theorem fb_bit_set (n j i : Nat) : (n ||| 2 ^ j).testBit i = (n.testBit i || decide (i = j)) := by
  rw [Nat.testBit_or]
  by_cases h : j = i
  · subst h; simp
  · have h2 : ¬ i = j := fun e => h e.symm
    first | (simp [Nat.testBit_two_pow, h, h2]; done) | (simp [Nat.testBit_two_pow_of_ne h, h2]; done)
theorem fb_bit_flip (n j i : Nat) : (n ^^^ 2 ^ j).testBit i = (n.testBit i ^^ decide (i = j)) := by
  rw [Nat.testBit_xor]
  by_cases h : j = i
  · subst h; simp
  · have h2 : ¬ i = j := fun e => h e.symm
    first | (simp [Nat.testBit_two_pow, h, h2]; done) | (simp [Nat.testBit_two_pow_of_ne h, h2]; done)
/-! ===== a stretch of an array written over by a function ===== -/
def fb_put {α : Type} (f g : Nat → α) (a n : Nat) : Nat → α := fun k => if a ≤ k ∧ k < a + n then g (k - a) else f k
theorem fb_put_0 {α : Type} (f g : Nat → α) (a : Nat) : fb_put f g a 0 = f := funext fun k => if_neg (by omega)
theorem fb_put_in {α : Type} {f g : Nat → α} {a n k : Nat} (h1 : a ≤ k) (h2 : k < a + n) : fb_put f g a n k = g (k - a) := if_pos ⟨h1, h2⟩
theorem fb_put_out {α : Type} {f g : Nat → α} {a n k : Nat} (h : k < a ∨ a + n ≤ k) : fb_put f g a n k = f k := if_neg (by omega)
theorem fb_put_succ (f g : Nat → Int32) (a n : Nat) : upd (fb_put f g a n) (a + n) (g n) = fb_put f g a (n + 1) := by
  funext k
  by_cases h : k = a + n
  · subst h
    simp [upd, fb_put]
  · by_cases h1 : a ≤ k ∧ k < a + n
    · have h2 : a ≤ k ∧ k < a + (n + 1) := by omega
      simp only [upd, fb_put, if_neg h, if_pos h1, if_pos h2]
    · have h2 : ¬ (a ≤ k ∧ k < a + (n + 1)) := by omega
      simp only [upd, fb_put, if_neg h, if_neg h1, if_neg h2]
/-- .. from the far end down -/
theorem fb_put_down (f g : Nat → Int32) {a n m : Nat} (h : m < n) : upd (fb_put f (fun k => g (k + (m + 1))) (a + (m + 1)) (n - (m + 1))) (a + m) (g m) = fb_put f (fun k => g (k + m)) (a + m) (n - m) := by
  funext k
  by_cases h0 : k = a + m
  · subst h0
    simp only [upd, if_true]
    rw [fb_put_in (by omega) (by omega)]
    exact congrArg g (by omega)
  · simp only [upd, if_neg h0]
    by_cases h1 : a + (m + 1) ≤ k ∧ k < a + (m + 1) + (n - (m + 1))
    · rw [fb_put_in h1.1 h1.2, fb_put_in (by omega) (by omega)]
      exact congrArg g (by omega)
    · rw [fb_put_out (by omega), fb_put_out (by omega)]
theorem fb_put_cong {α : Type} {f f2 g g2 : Nat → α} {a n : Nat} (hf : ∀ k, (k < a ∨ a + n ≤ k) → f k = f2 k) (hg : ∀ k, k < n → g k = g2 k) : fb_put f g a n = fb_put f2 g2 a n := by
  funext k
  by_cases h : a ≤ k ∧ k < a + n
  · rw [fb_put_in h.1 h.2, fb_put_in h.1 h.2, hg _ (by omega)]
  · rw [fb_put_out (by omega), fb_put_out (by omega), hf _ (by omega)]
/-! ===== the least, the first, the best so far; that there is one alone ===== -/
theorem fb_first {p : Nat → Prop} [DecidablePred p] : ∀ {n : Nat}, (∃ i, i < n ∧ p i) → ∃ i, i < n ∧ p i ∧ ∀ j, j < i → ¬ p j
  | 0, h => by obtain ⟨i, hi, -⟩ := h; exact absurd hi (Nat.not_lt_zero i)
  | n + 1, h => by
    by_cases q : ∃ i, i < n ∧ p i
    · obtain ⟨i, h1, h2⟩ := fb_first q
      exact ⟨i, by omega, h2⟩
    · obtain ⟨i, h1, h2⟩ := h
      have e : i = n := by
        rcases Nat.lt_or_ge i n with r | r
        · exact absurd ⟨i, r, h2⟩ q
        · omega
      subst e
      exact ⟨i, by omega, h2, fun j hj hp => q ⟨j, hj, hp⟩⟩
theorem fb_first_one {p : Nat → Prop} {i j : Nat} (hi : p i) (hi2 : ∀ k, k < i → ¬ p k) (hj : p j) (hj2 : ∀ k, k < j → ¬ p k) : i = j := by
  rcases Nat.lt_trichotomy i j with q | q | q
  · exact absurd hi (hj2 i q)
  · exact q
  · exact absurd hj (hi2 j q)
theorem fb_last {p : Nat → Prop} [DecidablePred p] : ∀ {n : Nat}, (∃ i, i < n ∧ p i) → ∃ i, i < n ∧ p i ∧ ∀ j, i < j → j < n → ¬ p j
  | 0, h => by obtain ⟨i, hi, -⟩ := h; exact absurd hi (Nat.not_lt_zero i)
  | n + 1, h => by
    by_cases q : p n
    · exact ⟨n, by omega, q, fun j h1 h2 => by omega⟩
    · obtain ⟨i, h1, h2⟩ := h
      have hi : i < n := by
        rcases Nat.lt_or_ge i n with r | r
        · exact r
        · have e : i = n := by omega
          subst e
          exact absurd h2 q
      obtain ⟨i2, a1, a2, a3⟩ := fb_last (n := n) ⟨i, hi, h2⟩
      refine ⟨i2, by omega, a2, fun j b1 b2 => ?_⟩
      rcases Nat.lt_or_ge j n with r | r
      · exact a3 j b1 r
      · have e : j = n := by omega
        subst e
        exact q
/-- the first greatest -/
theorem fb_best (f : Nat → Int) : ∀ {n : Nat}, 0 < n → ∃ i, i < n ∧ (∀ j, j < n → f j ≤ f i) ∧ ∀ j, j < i → f j < f i
  | 0, h => absurd h (Nat.lt_irrefl 0)
  | 1, _ => ⟨0, by omega, fun j hj => by have e : j = 0 := by omega
                                         subst e; exact Int.le_refl _, fun j hj => absurd hj (Nat.not_lt_zero j)⟩
  | n + 2, _ => by
    obtain ⟨i, h1, h2, h3⟩ := fb_best f (n := n + 1) (by omega)
    by_cases q : f i < f (n + 1)
    · refine ⟨n + 1, by omega, fun j hj => ?_, fun j hj => ?_⟩
      · rcases Nat.lt_or_ge j (n + 1) with r | r
        · have := h2 j r; omega
        · have e : j = n + 1 := by omega
          subst e; exact Int.le_refl _
      · have := h2 j hj; omega
    · refine ⟨i, by omega, fun j hj => ?_, h3⟩
      rcases Nat.lt_or_ge j (n + 1) with r | r
      · exact h2 j r
      · have e : j = n + 1 := by omega
        subst e; omega
theorem fb_best_one {f : Nat → Int} {n i j : Nat} (hi : i < n) (hi2 : ∀ k, k < n → f k ≤ f i) (hi3 : ∀ k, k < i → f k < f i) (hj : j < n) (hj2 : ∀ k, k < n → f k ≤ f j) (hj3 : ∀ k, k < j → f k < f j) : i = j := by
  rcases Nat.lt_trichotomy i j with q | q | q
  · have a := hj3 i q
    have b := hi2 j hj
    omega
  · exact q
  · have a := hi3 j q
    have b := hj2 i hi
    omega
/-- the first least -/
theorem fb_low (f : Nat → Int) {n : Nat} (h : 0 < n) : ∃ i, i < n ∧ (∀ j, j < n → f i ≤ f j) ∧ ∀ j, j < i → f i < f j := by
  obtain ⟨i, h1, h2, h3⟩ := fb_best (fun k => -f k) h
  exact ⟨i, h1, fun j hj => by have := h2 j hj; omega, fun j hj => by have := h3 j hj; omega⟩
/-! ===== signed ints as whole numbers, within bounds ===== -/
theorem fb_rng (x : Int32) : -2147483648 ≤ x.toInt ∧ x.toInt < 2147483648 := by
  have h1 := Int32.le_toInt x
  have h2 := Int32.toInt_lt x
  omega
theorem fb_bmod {z : Int} (h1 : -2147483648 ≤ z) (h2 : z < 2147483648) : z.bmod (2 ^ 32) = z := by
  rw [Int.bmod_eq_of_le (by omega) (by omega)]
theorem fb_addI {x y : Int32} (h1 : -2147483648 ≤ x.toInt + y.toInt) (h2 : x.toInt + y.toInt < 2147483648) : (x + y).toInt = x.toInt + y.toInt := by
  rw [Int32.toInt_add, fb_bmod h1 h2]
theorem fb_subI {x y : Int32} (h1 : -2147483648 ≤ x.toInt - y.toInt) (h2 : x.toInt - y.toInt < 2147483648) : (x - y).toInt = x.toInt - y.toInt := by
  rw [Int32.toInt_sub, fb_bmod h1 h2]
theorem fb_mulI {x y : Int32} (h1 : -2147483648 ≤ x.toInt * y.toInt) (h2 : x.toInt * y.toInt < 2147483648) : (x * y).toInt = x.toInt * y.toInt := by
  rw [Int32.toInt_mul, fb_bmod h1 h2]
theorem fb_negI {x : Int32} (h : x.toInt ≠ -2147483648) : (-x).toInt = -x.toInt := by
  have := fb_rng x
  rw [Int32.toInt_neg, fb_bmod (by omega) (by omega)]
theorem fb_ofI {z : Int} (h1 : -2147483648 ≤ z) (h2 : z < 2147483648) : (Int32.ofInt z).toInt = z := by
  rw [Int32.toInt_ofInt, fb_bmod h1 h2]
theorem fb_asI (x : Int32) : Int32.ofInt x.toInt = x := Int32.ofInt_toInt x
theorem fb_rngL (x : Int64) : -9223372036854775808 ≤ x.toInt ∧ x.toInt < 9223372036854775808 := by
  have h1 := Int64.le_toInt x
  have h2 := Int64.toInt_lt x
  omega
theorem fb_bmodL {z : Int} (h1 : -9223372036854775808 ≤ z) (h2 : z < 9223372036854775808) : z.bmod (2 ^ 64) = z := by
  rw [Int.bmod_eq_of_le (by omega) (by omega)]
theorem fb_addL {x y : Int64} (h1 : -9223372036854775808 ≤ x.toInt + y.toInt) (h2 : x.toInt + y.toInt < 9223372036854775808) : (x + y).toInt = x.toInt + y.toInt := by
  rw [Int64.toInt_add, fb_bmodL h1 h2]
theorem fb_subL {x y : Int64} (h1 : -9223372036854775808 ≤ x.toInt - y.toInt) (h2 : x.toInt - y.toInt < 9223372036854775808) : (x - y).toInt = x.toInt - y.toInt := by
  rw [Int64.toInt_sub, fb_bmodL h1 h2]
theorem fb_mulL {x y : Int64} (h1 : -9223372036854775808 ≤ x.toInt * y.toInt) (h2 : x.toInt * y.toInt < 9223372036854775808) : (x * y).toInt = x.toInt * y.toInt := by
  rw [Int64.toInt_mul, fb_bmodL h1 h2]
/-! ===== cuts of what is narrow already ===== -/
theorem fb_byte {x : Int32} (h1 : -128 ≤ x.toInt) (h2 : x.toInt < 128) : x.toInt8.toInt32 = x := by
  apply Int32.toInt_inj.1
  rw [Int8.toInt_toInt32, Int32.toInt_toInt8, Int.bmod_eq_of_le (by omega) (by omega)]
theorem fb_short {x : Int32} (h1 : -32768 ≤ x.toInt) (h2 : x.toInt < 32768) : x.toInt16.toInt32 = x := by
  apply Int32.toInt_inj.1
  rw [Int16.toInt_toInt32, Int32.toInt_toInt16, Int.bmod_eq_of_le (by omega) (by omega)]
theorem fb_byte_rng (x : Int32) : -128 ≤ x.toInt8.toInt32.toInt ∧ x.toInt8.toInt32.toInt < 128 := by
  rw [Int8.toInt_toInt32]
  have h1 := Int8.le_toInt x.toInt8
  have h2 := Int8.toInt_lt x.toInt8
  omega
theorem fb_short_rng (x : Int32) : -32768 ≤ x.toInt16.toInt32.toInt ∧ x.toInt16.toInt32.toInt < 32768 := by
  rw [Int16.toInt_toInt32]
  have h1 := Int16.le_toInt x.toInt16
  have h2 := Int16.toInt_lt x.toInt16
  omega
theorem fb_byte_twice (x : Int32) : x.toInt8.toInt32.toInt8.toInt32 = x.toInt8.toInt32 := fb_byte (fb_byte_rng x).1 (fb_byte_rng x).2
theorem fb_short_twice (x : Int32) : x.toInt16.toInt32.toInt16.toInt32 = x.toInt16.toInt32 := fb_short (fb_short_rng x).1 (fb_short_rng x).2
theorem fb_char {n : Nat} (h : n < 65536) : (nI n).toUInt32.toUInt16.toUInt32.toInt32 = nI n := by
  apply Int32.toBitVec_inj.1
  apply BitVec.eq_of_toNat_eq
  have e1 : (nI n).toBitVec.toNat = n := by
    show (BitVec.ofNat 32 n).toNat = n
    rw [BitVec.toNat_ofNat, Nat.mod_eq_of_lt (by omega)]
  have e2 : ((nI n).toUInt32.toUInt16.toUInt32).toNat = n := by
    rw [UInt16.toNat_toUInt32, UInt32.toNat_toUInt16]
    show (nI n).toBitVec.toNat % 2 ^ 16 = n
    rw [e1, Nat.mod_eq_of_lt (by omega)]
  rw [e1]
  exact e2
end
section
/-! ===== BEGIN words of one list among another's, by their places ===== -/
theorem goodIn_r {big : List Cond} (ws : List Cond) (ps : List Nat) (hp : ws = ps.filterMap (fun i => big[i]?)) (h : ws.all goodWord = true) : GoodIn big ws := by
  intro w hw
  have h1 := List.all_eq_true.mp h w hw
  rw [hp] at hw
  obtain ⟨i, -, hi⟩ := List.mem_filterMap.mp hw
  have hm : w ∈ big := by first | exact List.mem_of_getElem? hi | exact List.getElem?_mem hi
  exact ⟨hm, good_of_word h1⟩
theorem goodIn_app {big a b : List Cond} (ha : GoodIn big a) (hb : GoodIn big b) : GoodIn big (a ++ b) := fun w h => (List.mem_append.mp h).elim (ha w) (hb w)
theorem goodIn_ca {big a b : List Cond} {c : Cond} (ha : GoodIn big (c :: a)) (hb : GoodIn big b) : GoodIn big (c :: (a ++ b)) := fun w h => (List.mem_cons.mp h).elim (fun e => ha w (List.mem_cons.mpr (Or.inl e))) (fun h => (List.mem_append.mp h).elim (fun h => ha w (List.mem_cons.mpr (Or.inr h))) (hb w))
theorem goodIn_sub {big ws : List Cond} (hm : ∀ w ∈ ws, w ∈ big) (h : ws.all goodWord = true) : GoodIn big ws := fun w hw => ⟨hm w hw, good_of_word (List.all_eq_true.mp h w hw)⟩
/-! ===== END ===== -/

def RX0 : String := "WindHall$Balance"
def TX0 : u_T := fun k => match k with
  | 0 => ("WindHall$Balance", "first", "[[I", true)
  | 1 => ("WindHall$Balance", "second", "[[I", true)
  | 2 => ("WindHall$Balance", "load", "[I", true)
  | 3 => ("WindHall$Balance", "still", "Z", false)
  | 4 => ("WindHall$Balance", "away", "I", false)
  | 5 => ("WindHall$Balance", "given", "[I", true)
  | _ => ("WindHall$Balance", "equations", "LWindHall$Equations;", true)
def tyX0 : Nat → FieldType := fun k => match k with
  | 0 => .array (.array .int)
  | 1 => .array (.array .int)
  | 2 => .array .int
  | 3 => .boolean
  | 4 => .int
  | 5 => .array .int
  | _ => .object "WindHall$Equations"
abbrev wsX00 : List Cond := u_ws RX0 TX0 7
abbrev cX0_init : ByteArray := prog_2_method_1_code
def yX0_init : MethodName := ⟨RX0, "<init>", "()V"⟩
abbrev cX0_readingOf : ByteArray := prog_2_method_2_code
def yX0_readingOf : MethodName := ⟨RX0, "readingOf", "(IIII)I"⟩
abbrev cX0_productsOf : ByteArray := prog_2_method_3_code
def yX0_productsOf : MethodName := ⟨RX0, "productsOf", "(IIII)I"⟩
abbrev cX0_goBack : ByteArray := prog_2_method_4_code
def yX0_goBack : MethodName := ⟨RX0, "goBack", "(IIII)I"⟩
abbrev cX0_setLeft : ByteArray := prog_2_method_5_code
def yX0_setLeft : MethodName := ⟨RX0, "setLeft", "()V"⟩
abbrev cX0_goRound : ByteArray := prog_2_method_6_code
def yX0_goRound : MethodName := ⟨RX0, "goRound", "(J)Z"⟩
abbrev cX0_nearestLoad : ByteArray := prog_2_method_7_code
def yX0_nearestLoad : MethodName := ⟨RX0, "nearestLoad", "(JJ)I"⟩
abbrev cX0_greatestDistance : ByteArray := prog_2_method_8_code
def yX0_greatestDistance : MethodName := ⟨RX0, "greatestDistance", "()I"⟩
def RX1 : String := "WindHall$Calibration"
def TX1 : u_T := fun k => match k with
  | 0 => ("WindHall$Calibration", "loads", "[[I", true)
  | 1 => ("WindHall$Calibration", "readings", "[[I", true)
  | 2 => ("WindHall$Calibration", "count", "I", false)
  | _ => ("WindHall$Calibration", "equations", "LWindHall$Equations;", true)
def tyX1 : Nat → FieldType := fun k => match k with
  | 0 => .array (.array .int)
  | 1 => .array (.array .int)
  | 2 => .int
  | _ => .object "WindHall$Equations"
abbrev wsX10 : List Cond := u_ws RX1 TX1 4
abbrev cX1_init : ByteArray := prog_3_method_1_code
def yX1_init : MethodName := ⟨RX1, "<init>", "()V"⟩
abbrev cX1_partOfFit : ByteArray := prog_3_method_2_code
def yX1_partOfFit : MethodName := ⟨RX1, "partOfFit", "(IIZ)J"⟩
abbrev cX1_setEquations : ByteArray := prog_3_method_3_code
def yX1_setEquations : MethodName := ⟨RX1, "setEquations", "(I)V"⟩
abbrev cX1_sumOfProducts : ByteArray := prog_3_method_4_code
def yX1_sumOfProducts : MethodName := ⟨RX1, "sumOfProducts", "(II)J"⟩
abbrev cX1_commonDivisor : ByteArray := prog_3_method_5_code
def yX1_commonDivisor : MethodName := ⟨RX1, "commonDivisor", "(JJ)J"⟩
abbrev cX1_greatestMiss : ByteArray := prog_3_method_6_code
def yX1_greatestMiss : MethodName := ⟨RX1, "greatestMiss", "(ILWindHall$Balance;)I"⟩
def RX2 : String := "WindHall$Correction"
def TX2 : u_T := fun k => match k with
  | 0 => ("WindHall$Correction", "on", "Z", false)
  | 1 => ("WindHall$Correction", "kind", "I", false)
  | 2 => ("WindHall$Correction", "u", "I", false)
  | 3 => ("WindHall$Correction", "v", "I", false)
  | _ => ("WindHall$Correction", "w", "I", false)
def tyX2 : Nat → FieldType := fun k => match k with
  | 0 => .boolean
  | 1 => .int
  | 2 => .int
  | 3 => .int
  | _ => .int
abbrev wsX20 : List Cond := u_ws RX2 TX2 5
abbrev cX2_init : ByteArray := prog_4_method_1_code
def yX2_init : MethodName := ⟨RX2, "<init>", "()V"⟩
abbrev cX2_isAsTold : ByteArray := prog_4_method_2_code
def yX2_isAsTold : MethodName := ⟨RX2, "isAsTold", "(IIII)Z"⟩
abbrev cX2_become : ByteArray := prog_4_method_3_code
def yX2_become : MethodName := ⟨RX2, "become", "(IIII)V"⟩
abbrev cX2_change : ByteArray := prog_4_method_4_code
def yX2_change : MethodName := ⟨RX2, "change", "([JII)V"⟩
abbrev cX2_lessen : ByteArray := prog_4_method_5_code
def yX2_lessen : MethodName := ⟨RX2, "lessen", "([JIII)V"⟩
abbrev cX2_drifted : ByteArray := prog_4_method_6_code
def yX2_drifted : MethodName := ⟨RX2, "drifted", "(II)I"⟩
abbrev cX2_cos : ByteArray := prog_4_method_7_code
def yX2_cos : MethodName := ⟨RX2, "cos", "(I)I"⟩
abbrev cX2_share : ByteArray := prog_4_method_8_code
def yX2_share : MethodName := ⟨RX2, "share", "(I)I"⟩
def RX3 : String := "WindHall$Corrections"
def TX3 : u_T := fun k => match k with
  | 0 => ("WindHall$Corrections", "row", "[LWindHall$Correction;", true)
  | 1 => ("WindHall$Corrections", "count", "I", false)
  | 2 => ("WindHall$Corrections", "told", "[I", true)
  | 3 => ("WindHall$Corrections", "time", "I", false)
  | 4 => ("WindHall$Corrections", "angle", "I", false)
  | 5 => ("WindHall$Corrections", "now", "[J", true)
  | _ => ("WindHall$Corrections", "other", "[J", true)
def tyX3 : Nat → FieldType := fun k => match k with
  | 0 => .array (.object "WindHall$Correction")
  | 1 => .int
  | 2 => .array .int
  | 3 => .int
  | 4 => .int
  | 5 => .array .long
  | _ => .array .long
abbrev wsX30 : List Cond := u_ws RX3 TX3 7
abbrev cX3_init : ByteArray := prog_5_method_1_code
def yX3_init : MethodName := ⟨RX3, "<init>", "()V"⟩
abbrev cX3_append : ByteArray := prog_5_method_2_code
def yX3_append : MethodName := ⟨RX3, "append", "(IIII)I"⟩
abbrev cX3_goThrough : ByteArray := prog_5_method_3_code
def yX3_goThrough : MethodName := ⟨RX3, "goThrough", "(I[J)V"⟩
abbrev cX3_changeIfOn : ByteArray := prog_5_method_4_code
def yX3_changeIfOn : MethodName := ⟨RX3, "changeIfOn", "(I[J)V"⟩
abbrev cX3_isFelt : ByteArray := prog_5_method_5_code
def yX3_isFelt : MethodName := ⟨RX3, "isFelt", "(I)Z"⟩
abbrev cX3_isOrderFelt : ByteArray := prog_5_method_6_code
def yX3_isOrderFelt : MethodName := ⟨RX3, "isOrderFelt", "(I)Z"⟩
abbrev cX3_differ : ByteArray := prog_5_method_7_code
def yX3_differ : MethodName := ⟨RX3, "differ", "()Z"⟩
def RX4 : String := "WindHall$Equations"
def TX4 : u_T := fun k => match k with
  | 0 => ("WindHall$Equations", "left", "[[J", true)
  | _ => ("WindHall$Equations", "right", "[J", true)
def tyX4 : Nat → FieldType := fun k => match k with
  | 0 => .array (.array .long)
  | _ => .array .long
abbrev wsX40 : List Cond := u_ws RX4 TX4 2
abbrev cX4_init : ByteArray := prog_6_method_1_code
def yX4_init : MethodName := ⟨RX4, "<init>", "()V"⟩
abbrev cX4_determinant : ByteArray := prog_6_method_2_code
def yX4_determinant : MethodName := ⟨RX4, "determinant", "(I)J"⟩
abbrev cX4_term : ByteArray := prog_6_method_3_code
def yX4_term : MethodName := ⟨RX4, "term", "(III)J"⟩
def RX5 : String := "WindHall$Program"
def TX5 : u_T := fun k => match k with
  | 0 => ("WindHall$Program", "count", "I", false)
  | 1 => ("WindHall$Program", "isDone", "[Z", true)
  | 2 => ("WindHall$Program", "move", "[[I", true)
  | 3 => ("WindHall$Program", "isPlanned", "Z", false)
  | 4 => ("WindHall$Program", "planned", "I", false)
  | 5 => ("WindHall$Program", "leastSum", "I", false)
  | 6 => ("WindHall$Program", "row", "[I", true)
  | 7 => ("WindHall$Program", "angle", "[I", true)
  | 8 => ("WindHall$Program", "speed", "[I", true)
  | _ => ("WindHall$Program", "rest", "[I", true)
def tyX5 : Nat → FieldType := fun k => match k with
  | 0 => .int
  | 1 => .array .boolean
  | 2 => .array (.array .int)
  | 3 => .boolean
  | 4 => .int
  | 5 => .int
  | 6 => .array .int
  | 7 => .array .int
  | 8 => .array .int
  | _ => .array .int
abbrev wsX50 : List Cond := u_ws RX5 TX5 10
abbrev cX5_init : ByteArray := prog_7_method_1_code
def yX5_init : MethodName := ⟨RX5, "<init>", "()V"⟩
abbrev cX5_append : ByteArray := prog_7_method_2_code
def yX5_append : MethodName := ⟨RX5, "append", "(II)I"⟩
abbrev cX5_setMove : ByteArray := prog_7_method_3_code
def yX5_setMove : MethodName := ⟨RX5, "setMove", "(II)V"⟩
abbrev cX5_howManyDone : ByteArray := prog_7_method_4_code
def yX5_howManyDone : MethodName := ⟨RX5, "howManyDone", "()I"⟩
abbrev cX5_plan : ByteArray := prog_7_method_5_code
def yX5_plan : MethodName := ⟨RX5, "plan", "()V"⟩
abbrev cX5_setOfOpen : ByteArray := prog_7_method_6_code
def yX5_setOfOpen : MethodName := ⟨RX5, "setOfOpen", "()I"⟩
abbrev cX5_setRest : ByteArray := prog_7_method_7_code
def yX5_setRest : MethodName := ⟨RX5, "setRest", "(II)V"⟩
abbrev cX5_cell : ByteArray := prog_7_method_8_code
def yX5_cell : MethodName := ⟨RX5, "cell", "(II)I"⟩
abbrev cX5_isIn : ByteArray := prog_7_method_9_code
def yX5_isIn : MethodName := ⟨RX5, "isIn", "(II)Z"⟩
abbrev cX5_sumBy : ByteArray := prog_7_method_10_code
def yX5_sumBy : MethodName := ⟨RX5, "sumBy", "(III)I"⟩
abbrev cX5_setOrder : ByteArray := prog_7_method_11_code
def yX5_setOrder : MethodName := ⟨RX5, "setOrder", "(I)V"⟩
abbrev cX5_firstOfLeast : ByteArray := prog_7_method_12_code
def yX5_firstOfLeast : MethodName := ⟨RX5, "firstOfLeast", "(II)I"⟩
def RX6 : String := "WindHall$Settling"
def TX6 : u_T := fun k => match k with
  | 0 => ("WindHall$Settling", "n", "I", false)
  | 1 => ("WindHall$Settling", "d", "I", false)
  | 2 => ("WindHall$Settling", "most", "I", false)
  | 3 => ("WindHall$Settling", "limit", "I", false)
  | 4 => ("WindHall$Settling", "state", "I", false)
  | 5 => ("WindHall$Settling", "came", "I", false)
  | 6 => ("WindHall$Settling", "beyond", "I", false)
  | _ => ("WindHall$Settling", "latest", "[[I", true)
def tyX6 : Nat → FieldType := fun k => match k with
  | 0 => .int
  | 1 => .int
  | 2 => .int
  | 3 => .int
  | 4 => .int
  | 5 => .int
  | 6 => .int
  | _ => .array (.array .int)
abbrev wsX60 : List Cond := u_ws RX6 TX6 8
abbrev cX6_init : ByteArray := prog_8_method_1_code
def yX6_init : MethodName := ⟨RX6, "<init>", "()V"⟩
abbrev cX6_startAnew : ByteArray := prog_8_method_2_code
def yX6_startAnew : MethodName := ⟨RX6, "startAnew", "()V"⟩
abbrev cX6_take : ByteArray := prog_8_method_3_code
def yX6_take : MethodName := ⟨RX6, "take", "(III)I"⟩
abbrev cX6_firstBeyond : ByteArray := prog_8_method_4_code
def yX6_firstBeyond : MethodName := ⟨RX6, "firstBeyond", "([I)I"⟩
abbrev cX6_isSettled : ByteArray := prog_8_method_5_code
def yX6_isSettled : MethodName := ⟨RX6, "isSettled", "()Z"⟩
abbrev cX6_spreadOfLatest : ByteArray := prog_8_method_6_code
def yX6_spreadOfLatest : MethodName := ⟨RX6, "spreadOfLatest", "(I)I"⟩
abbrev cX6_sumOfLatest : ByteArray := prog_8_method_7_code
def yX6_sumOfLatest : MethodName := ⟨RX6, "sumOfLatest", "(I)I"⟩
abbrev cX6_readingAgo : ByteArray := prog_8_method_8_code
def yX6_readingAgo : MethodName := ⟨RX6, "readingAgo", "(II)I"⟩
def RX7 : String := "WindHall$Sheet"
def TX7 : u_T := fun k => match k with
  | 0 => ("WindHall$Sheet", "lane", "I", false)
  | 1 => ("WindHall$Sheet", "size", "I", false)
  | _ => ("WindHall$Sheet", "cells", "[I", true)
def tyX7 : Nat → FieldType := fun k => match k with
  | 0 => .int
  | 1 => .int
  | _ => .array .int
abbrev wsX70 : List Cond := u_ws RX7 TX7 3
abbrev cX7_init : ByteArray := prog_9_method_1_code
def yX7_init : MethodName := ⟨RX7, "<init>", "()V"⟩
abbrev cX7_makeNew : ByteArray := prog_9_method_2_code
def yX7_makeNew : MethodName := ⟨RX7, "makeNew", "(II)V"⟩
abbrev cX7_faultOfLane : ByteArray := prog_9_method_3_code
def yX7_faultOfLane : MethodName := ⟨RX7, "faultOfLane", "(I)I"⟩
abbrev cX7_faultOfCells : ByteArray := prog_9_method_4_code
def yX7_faultOfCells : MethodName := ⟨RX7, "faultOfCells", "(II)I"⟩
abbrev cX7_set : ByteArray := prog_9_method_5_code
def yX7_set : MethodName := ⟨RX7, "set", "(II)V"⟩
abbrev cX7_get : ByteArray := prog_9_method_6_code
def yX7_get : MethodName := ⟨RX7, "get", "(I)I"⟩
def RX8 : String := "WindHall$Tubes"
def TX8 : u_T := fun k => match k with
  | 0 => ("WindHall$Tubes", "count", "I", false)
  | 1 => ("WindHall$Tubes", "isLost", "[Z", true)
  | 2 => ("WindHall$Tubes", "pressure", "[I", true)
  | _ => ("WindHall$Tubes", "area", "[I", true)
def tyX8 : Nat → FieldType := fun k => match k with
  | 0 => .int
  | 1 => .array .boolean
  | 2 => .array .int
  | _ => .array .int
abbrev wsX80 : List Cond := u_ws RX8 TX8 4
abbrev cX8_init : ByteArray := prog_10_method_1_code
def yX8_init : MethodName := ⟨RX8, "<init>", "()V"⟩
abbrev cX8_isPressure : ByteArray := prog_10_method_2_code
def yX8_isPressure : MethodName := ⟨RX8, "isPressure", "(I)Z"⟩
abbrev cX8_append : ByteArray := prog_10_method_3_code
def yX8_append : MethodName := ⟨RX8, "append", "(I)I"⟩
abbrev cX8_takeFrom : ByteArray := prog_10_method_4_code
def yX8_takeFrom : MethodName := ⟨RX8, "takeFrom", "(LWindHall$Sheet;I)V"⟩
abbrev cX8_howManyLost : ByteArray := prog_10_method_5_code
def yX8_howManyLost : MethodName := ⟨RX8, "howManyLost", "()I"⟩
abbrev cX8_sum : ByteArray := prog_10_method_6_code
def yX8_sum : MethodName := ⟨RX8, "sum", "()I"⟩
abbrev cX8_compare : ByteArray := prog_10_method_7_code
def yX8_compare : MethodName := ⟨RX8, "compare", "(II)I"⟩
abbrev cX8_canMend : ByteArray := prog_10_method_8_code
def yX8_canMend : MethodName := ⟨RX8, "canMend", "(III)Z"⟩
abbrev cX8_pressureOfLost : ByteArray := prog_10_method_9_code
def yX8_pressureOfLost : MethodName := ⟨RX8, "pressureOfLost", "(I)I"⟩
def RX9 : String := "WindHall"
def TX9 : u_T := fun k => match k with
  | 0 => ("WindHall", "balance", "LWindHall$Balance;", true)
  | 1 => ("WindHall", "calibration", "LWindHall$Calibration;", true)
  | 2 => ("WindHall", "corrections", "LWindHall$Corrections;", true)
  | 3 => ("WindHall", "program", "LWindHall$Program;", true)
  | 4 => ("WindHall", "settling", "LWindHall$Settling;", true)
  | 5 => ("WindHall", "tubes", "LWindHall$Tubes;", true)
  | _ => ("WindHall", "sheets", "[LWindHall$Sheet;", true)
def tyX9 : Nat → FieldType := fun k => match k with
  | 0 => .object "WindHall$Balance"
  | 1 => .object "WindHall$Calibration"
  | 2 => .object "WindHall$Corrections"
  | 3 => .object "WindHall$Program"
  | 4 => .object "WindHall$Settling"
  | 5 => .object "WindHall$Tubes"
  | _ => .array (.object "WindHall$Sheet")
abbrev wsX90 : List Cond := u_ws RX9 TX9 7
abbrev cX9_init : ByteArray := prog_1_method_1_code
def yX9_init : MethodName := ⟨RX9, "<init>", "()V"⟩
abbrev cX9_first : ByteArray := prog_1_method_2_code
def yX9_first : MethodName := ⟨RX9, "first", "(III)I"⟩
abbrev cX9_second : ByteArray := prog_1_method_3_code
def yX9_second : MethodName := ⟨RX9, "second", "(III)I"⟩
abbrev cX9_reading : ByteArray := prog_1_method_4_code
def yX9_reading : MethodName := ⟨RX9, "reading", "(IIII)I"⟩
abbrev cX9_back : ByteArray := prog_1_method_5_code
def yX9_back : MethodName := ⟨RX9, "back", "(IIII)I"⟩
abbrev cX9_found : ByteArray := prog_1_method_6_code
def yX9_found : MethodName := ⟨RX9, "found", "(I)I"⟩
abbrev cX9_point : ByteArray := prog_1_method_7_code
def yX9_point : MethodName := ⟨RX9, "point", "(IIIIII)I"⟩
abbrev cX9_fit : ByteArray := prog_1_method_8_code
def yX9_fit : MethodName := ⟨RX9, "fit", "(III)J"⟩
abbrev cX9_miss : ByteArray := prog_1_method_9_code
def yX9_miss : MethodName := ⟨RX9, "miss", "(I)I"⟩
abbrev cX9_forget : ByteArray := prog_1_method_10_code
def yX9_forget : MethodName := ⟨RX9, "forget", "()I"⟩
abbrev cX9_correct : ByteArray := prog_1_method_11_code
def yX9_correct : MethodName := ⟨RX9, "correct", "(IIII)I"⟩
abbrev cX9_turn : ByteArray := prog_1_method_12_code
def yX9_turn : MethodName := ⟨RX9, "turn", "(IZ)I"⟩
abbrev cX9_swap : ByteArray := prog_1_method_13_code
def yX9_swap : MethodName := ⟨RX9, "swap", "(I)I"⟩
abbrev cX9_drop : ByteArray := prog_1_method_14_code
def yX9_drop : MethodName := ⟨RX9, "drop", "()I"⟩
abbrev cX9_raw : ByteArray := prog_1_method_15_code
def yX9_raw : MethodName := ⟨RX9, "raw", "(IIIII)I"⟩
abbrev cX9_corrected : ByteArray := prog_1_method_16_code
def yX9_corrected : MethodName := ⟨RX9, "corrected", "(II)J"⟩
abbrev cX9_touches : ByteArray := prog_1_method_17_code
def yX9_touches : MethodName := ⟨RX9, "touches", "(I)I"⟩
abbrev cX9_minds : ByteArray := prog_1_method_18_code
def yX9_minds : MethodName := ⟨RX9, "minds", "(I)I"⟩
abbrev cX9_place : ByteArray := prog_1_method_19_code
def yX9_place : MethodName := ⟨RX9, "place", "(II)I"⟩
abbrev cX9_done : ByteArray := prog_1_method_20_code
def yX9_done : MethodName := ⟨RX9, "done", "(IZ)I"⟩
abbrev cX9_moves : ByteArray := prog_1_method_21_code
def yX9_moves : MethodName := ⟨RX9, "moves", "(II)I"⟩
abbrev cX9_least : ByteArray := prog_1_method_22_code
def yX9_least : MethodName := ⟨RX9, "least", "()I"⟩
abbrev cX9_order : ByteArray := prog_1_method_23_code
def yX9_order : MethodName := ⟨RX9, "order", "(I)I"⟩
abbrev cX9_rule : ByteArray := prog_1_method_24_code
def yX9_rule : MethodName := ⟨RX9, "rule", "(IIII)I"⟩
abbrev cX9_come : ByteArray := prog_1_method_25_code
def yX9_come : MethodName := ⟨RX9, "come", "(III)I"⟩
abbrev cX9_settled : ByteArray := prog_1_method_26_code
def yX9_settled : MethodName := ⟨RX9, "settled", "(I)I"⟩
abbrev cX9_anew : ByteArray := prog_1_method_27_code
def yX9_anew : MethodName := ⟨RX9, "anew", "()I"⟩
abbrev cX9_tube : ByteArray := prog_1_method_28_code
def yX9_tube : MethodName := ⟨RX9, "tube", "(I)I"⟩
abbrev cX9_press : ByteArray := prog_1_method_29_code
def yX9_press : MethodName := ⟨RX9, "press", "(IZI)I"⟩
abbrev cX9_sheet : ByteArray := prog_1_method_30_code
def yX9_sheet : MethodName := ⟨RX9, "sheet", "(III)I"⟩
abbrev cX9_lay : ByteArray := prog_1_method_31_code
def yX9_lay : MethodName := ⟨RX9, "lay", "(III)I"⟩
abbrev cX9_scan : ByteArray := prog_1_method_32_code
def yX9_scan : MethodName := ⟨RX9, "scan", "(III)I"⟩
abbrev cX9_force : ByteArray := prog_1_method_33_code
def yX9_force : MethodName := ⟨RX9, "force", "()I"⟩
abbrev cX9_check : ByteArray := prog_1_method_34_code
def yX9_check : MethodName := ⟨RX9, "check", "(II)I"⟩
abbrev cX9_fill : ByteArray := prog_1_method_35_code
def yX9_fill : MethodName := ⟨RX9, "fill", "(I)I"⟩
abbrev cX9_count : ByteArray := prog_1_method_36_code
def yX9_count : MethodName := ⟨RX9, "count", "(I)I"⟩
abbrev cX9_isIndex : ByteArray := prog_1_method_37_code
def yX9_isIndex : MethodName := ⟨RX9, "isIndex", "(II)Z"⟩
abbrev cX9_isWithin : ByteArray := prog_1_method_38_code
def yX9_isWithin : MethodName := ⟨RX9, "isWithin", "(II)Z"⟩
abbrev cX9_areLoads : ByteArray := prog_1_method_39_code
def yX9_areLoads : MethodName := ⟨RX9, "areLoads", "(III)Z"⟩
abbrev cX9_areReadings : ByteArray := prog_1_method_40_code
def yX9_areReadings : MethodName := ⟨RX9, "areReadings", "(III)Z"⟩
abbrev cX9_setRow : ByteArray := prog_1_method_41_code
def yX9_setRow : MethodName := ⟨RX9, "setRow", "([IIII)V"⟩
abbrev cX9_answerOfFault : ByteArray := prog_1_method_42_code
def yX9_answerOfFault : MethodName := ⟨RX9, "answerOfFault", "(I)I"⟩
def RX10 : String := "WindHallModel"
def TX10 : u_T := fun k => match k with
  | 0 => ("WindHallModel", "a", "[I", true)
  | 1 => ("WindHallModel", "b", "[I", true)
  | 2 => ("WindHallModel", "m", "[J", true)
  | 3 => ("WindHallModel", "right", "[J", true)
  | 4 => ("WindHallModel", "loads", "[I", true)
  | 5 => ("WindHallModel", "still", "I", false)
  | 6 => ("WindHallModel", "away", "I", false)
  | 7 => ("WindHallModel", "points", "I", false)
  | 8 => ("WindHallModel", "pLoads", "[I", true)
  | 9 => ("WindHallModel", "pReads", "[I", true)
  | 10 => ("WindHallModel", "corrections", "I", false)
  | 11 => ("WindHallModel", "cKind", "[I", true)
  | 12 => ("WindHallModel", "cU", "[I", true)
  | 13 => ("WindHallModel", "cV", "[I", true)
  | 14 => ("WindHallModel", "cW", "[I", true)
  | 15 => ("WindHallModel", "cOn", "[Z", true)
  | 16 => ("WindHallModel", "raws", "[I", true)
  | 17 => ("WindHallModel", "time", "I", false)
  | 18 => ("WindHallModel", "angle", "I", false)
  | 19 => ("WindHallModel", "quarter", "[I", true)
  | 20 => ("WindHallModel", "now", "[J", true)
  | 21 => ("WindHallModel", "told", "[J", true)
  | 22 => ("WindHallModel", "places", "I", false)
  | 23 => ("WindHallModel", "angles", "[I", true)
  | 24 => ("WindHallModel", "speeds", "[I", true)
  | 25 => ("WindHallModel", "isDone", "[Z", true)
  | 26 => ("WindHallModel", "leasts", "[I", true)
  | 27 => ("WindHallModel", "ruleN", "I", false)
  | 28 => ("WindHallModel", "ruleD", "I", false)
  | 29 => ("WindHallModel", "ruleMost", "I", false)
  | 30 => ("WindHallModel", "ruleLimit", "I", false)
  | 31 => ("WindHallModel", "state", "I", false)
  | 32 => ("WindHallModel", "came", "I", false)
  | 33 => ("WindHallModel", "beyond", "I", false)
  | 34 => ("WindHallModel", "rows", "[I", true)
  | 35 => ("WindHallModel", "tubes", "I", false)
  | 36 => ("WindHallModel", "areas", "[I", true)
  | 37 => ("WindHallModel", "pressures", "[I", true)
  | 38 => ("WindHallModel", "isLost", "[Z", true)
  | 39 => ("WindHallModel", "lanes", "[I", true)
  | 40 => ("WindHallModel", "sizes", "[I", true)
  | _ => ("WindHallModel", "cells", "[I", true)
def tyX10 : Nat → FieldType := fun k => match k with
  | 0 => .array .int
  | 1 => .array .int
  | 2 => .array .long
  | 3 => .array .long
  | 4 => .array .int
  | 5 => .int
  | 6 => .int
  | 7 => .int
  | 8 => .array .int
  | 9 => .array .int
  | 10 => .int
  | 11 => .array .int
  | 12 => .array .int
  | 13 => .array .int
  | 14 => .array .int
  | 15 => .array .boolean
  | 16 => .array .int
  | 17 => .int
  | 18 => .int
  | 19 => .array .int
  | 20 => .array .long
  | 21 => .array .long
  | 22 => .int
  | 23 => .array .int
  | 24 => .array .int
  | 25 => .array .boolean
  | 26 => .array .int
  | 27 => .int
  | 28 => .int
  | 29 => .int
  | 30 => .int
  | 31 => .int
  | 32 => .int
  | 33 => .int
  | 34 => .array .int
  | 35 => .int
  | 36 => .array .int
  | 37 => .array .int
  | 38 => .array .boolean
  | 39 => .array .int
  | 40 => .array .int
  | _ => .array .int
abbrev wsX100 : List Cond := u_ws RX10 TX10 42
abbrev cX10_init : ByteArray := prog_12_method_1_code
def yX10_init : MethodName := ⟨RX10, "<init>", "()V"⟩
abbrev cX10_in : ByteArray := prog_12_method_3_code
def yX10_in : MethodName := ⟨RX10, "in", "(JJJ)Z"⟩
abbrev cX10_isReading : ByteArray := prog_12_method_4_code
def yX10_isReading : MethodName := ⟨RX10, "isReading", "(I)Z"⟩
abbrev cX10_isLoad : ByteArray := prog_12_method_5_code
def yX10_isLoad : MethodName := ⟨RX10, "isLoad", "(I)Z"⟩
abbrev cX10_down : ByteArray := prog_12_method_6_code
def yX10_down : MethodName := ⟨RX10, "down", "(JJ)J"⟩
abbrev cX10_first : ByteArray := prog_12_method_7_code
def yX10_first : MethodName := ⟨RX10, "first", "(III)I"⟩
abbrev cX10_second : ByteArray := prog_12_method_8_code
def yX10_second : MethodName := ⟨RX10, "second", "(III)I"⟩
abbrev cX10_products : ByteArray := prog_12_method_9_code
def yX10_products : MethodName := ⟨RX10, "products", "(IIII)I"⟩
abbrev cX10_readingOf : ByteArray := prog_12_method_10_code
def yX10_readingOf : MethodName := ⟨RX10, "readingOf", "(IIII)I"⟩
abbrev cX10_reading : ByteArray := prog_12_method_11_code
def yX10_reading : MethodName := ⟨RX10, "reading", "(IIII)I"⟩
abbrev cX10_determinant : ByteArray := prog_12_method_12_code
def yX10_determinant : MethodName := ⟨RX10, "determinant", "()J"⟩
abbrev cX10_replaced : ByteArray := prog_12_method_13_code
def yX10_replaced : MethodName := ⟨RX10, "replaced", "(I)J"⟩
abbrev cX10_back : ByteArray := prog_12_method_14_code
def yX10_back : MethodName := ⟨RX10, "back", "(IIII)I"⟩
abbrev cX10_nearest : ByteArray := prog_12_method_15_code
def yX10_nearest : MethodName := ⟨RX10, "nearest", "(JJ)J"⟩
abbrev cX10_found : ByteArray := prog_12_method_16_code
def yX10_found : MethodName := ⟨RX10, "found", "(I)I"⟩
abbrev cX10_point : ByteArray := prog_12_method_17_code
def yX10_point : MethodName := ⟨RX10, "point", "(IIIIII)I"⟩
abbrev cX10_divisor : ByteArray := prog_12_method_18_code
def yX10_divisor : MethodName := ⟨RX10, "divisor", "(JJ)J"⟩
abbrev cX10_fit : ByteArray := prog_12_method_19_code
def yX10_fit : MethodName := ⟨RX10, "fit", "(III)J"⟩
abbrev cX10_miss : ByteArray := prog_12_method_20_code
def yX10_miss : MethodName := ⟨RX10, "miss", "(I)I"⟩
abbrev cX10_forget : ByteArray := prog_12_method_21_code
def yX10_forget : MethodName := ⟨RX10, "forget", "()I"⟩
abbrev cX10_isCorrection : ByteArray := prog_12_method_22_code
def yX10_isCorrection : MethodName := ⟨RX10, "isCorrection", "(I)Z"⟩
abbrev cX10_correct : ByteArray := prog_12_method_23_code
def yX10_correct : MethodName := ⟨RX10, "correct", "(IIII)I"⟩
abbrev cX10_turn : ByteArray := prog_12_method_24_code
def yX10_turn : MethodName := ⟨RX10, "turn", "(IZ)I"⟩
abbrev cX10_swap : ByteArray := prog_12_method_25_code
def yX10_swap : MethodName := ⟨RX10, "swap", "(I)I"⟩
abbrev cX10_drop : ByteArray := prog_12_method_26_code
def yX10_drop : MethodName := ⟨RX10, "drop", "()I"⟩
abbrev cX10_raw : ByteArray := prog_12_method_27_code
def yX10_raw : MethodName := ⟨RX10, "raw", "(IIIII)I"⟩
abbrev cX10_cosine : ByteArray := prog_12_method_28_code
def yX10_cosine : MethodName := ⟨RX10, "cosine", "(I)I"⟩
abbrev cX10_sine : ByteArray := prog_12_method_29_code
def yX10_sine : MethodName := ⟨RX10, "sine", "(I)I"⟩
abbrev cX10_begins : ByteArray := prog_12_method_30_code
def yX10_begins : MethodName := ⟨RX10, "begins", "()V"⟩
abbrev cX10_does : ByteArray := prog_12_method_31_code
def yX10_does : MethodName := ⟨RX10, "does", "(I)V"⟩
abbrev cX10_corrected : ByteArray := prog_12_method_32_code
def yX10_corrected : MethodName := ⟨RX10, "corrected", "(II)J"⟩
abbrev cX10_tells : ByteArray := prog_12_method_33_code
def yX10_tells : MethodName := ⟨RX10, "tells", "()V"⟩
abbrev cX10_touches : ByteArray := prog_12_method_34_code
def yX10_touches : MethodName := ⟨RX10, "touches", "(I)I"⟩
abbrev cX10_minds : ByteArray := prog_12_method_35_code
def yX10_minds : MethodName := ⟨RX10, "minds", "(I)I"⟩
abbrev cX10_isPlace : ByteArray := prog_12_method_36_code
def yX10_isPlace : MethodName := ⟨RX10, "isPlace", "(I)Z"⟩
abbrev cX10_place : ByteArray := prog_12_method_37_code
def yX10_place : MethodName := ⟨RX10, "place", "(II)I"⟩
abbrev cX10_done : ByteArray := prog_12_method_38_code
def yX10_done : MethodName := ⟨RX10, "done", "(IZ)I"⟩
abbrev cX10_move : ByteArray := prog_12_method_39_code
def yX10_move : MethodName := ⟨RX10, "move", "(III)I"⟩
abbrev cX10_moves : ByteArray := prog_12_method_40_code
def yX10_moves : MethodName := ⟨RX10, "moves", "(II)I"⟩
abbrev cX10_behind : ByteArray := prog_12_method_41_code
def yX10_behind : MethodName := ⟨RX10, "behind", "(II)I"⟩
abbrev cX10_cost : ByteArray := prog_12_method_42_code
def yX10_cost : MethodName := ⟨RX10, "cost", "(II)I"⟩
abbrev cX10_best : ByteArray := prog_12_method_43_code
def yX10_best : MethodName := ⟨RX10, "best", "(II)I"⟩
abbrev cX10_findAll : ByteArray := prog_12_method_44_code
def yX10_findAll : MethodName := ⟨RX10, "findAll", "()I"⟩
abbrev cX10_least : ByteArray := prog_12_method_45_code
def yX10_least : MethodName := ⟨RX10, "least", "()I"⟩
abbrev cX10_order : ByteArray := prog_12_method_46_code
def yX10_order : MethodName := ⟨RX10, "order", "(I)I"⟩
abbrev cX10_waits : ByteArray := prog_12_method_47_code
def yX10_waits : MethodName := ⟨RX10, "waits", "()V"⟩
abbrev cX10_rule : ByteArray := prog_12_method_48_code
def yX10_rule : MethodName := ⟨RX10, "rule", "(IIII)I"⟩
abbrev cX10_isSettled : ByteArray := prog_12_method_49_code
def yX10_isSettled : MethodName := ⟨RX10, "isSettled", "()Z"⟩
abbrev cX10_come : ByteArray := prog_12_method_50_code
def yX10_come : MethodName := ⟨RX10, "come", "(III)I"⟩
abbrev cX10_settled : ByteArray := prog_12_method_51_code
def yX10_settled : MethodName := ⟨RX10, "settled", "(I)I"⟩
abbrev cX10_anew : ByteArray := prog_12_method_52_code
def yX10_anew : MethodName := ⟨RX10, "anew", "()I"⟩
abbrev cX10_tube : ByteArray := prog_12_method_53_code
def yX10_tube : MethodName := ⟨RX10, "tube", "(I)I"⟩
abbrev cX10_press : ByteArray := prog_12_method_54_code
def yX10_press : MethodName := ⟨RX10, "press", "(IZI)I"⟩
abbrev cX10_sheet : ByteArray := prog_12_method_55_code
def yX10_sheet : MethodName := ⟨RX10, "sheet", "(III)I"⟩
abbrev cX10_lay : ByteArray := prog_12_method_56_code
def yX10_lay : MethodName := ⟨RX10, "lay", "(III)I"⟩
abbrev cX10_lostMany : ByteArray := prog_12_method_57_code
def yX10_lostMany : MethodName := ⟨RX10, "lostMany", "()I"⟩
abbrev cX10_scan : ByteArray := prog_12_method_58_code
def yX10_scan : MethodName := ⟨RX10, "scan", "(III)I"⟩
abbrev cX10_force : ByteArray := prog_12_method_59_code
def yX10_force : MethodName := ⟨RX10, "force", "()I"⟩
abbrev cX10_check : ByteArray := prog_12_method_60_code
def yX10_check : MethodName := ⟨RX10, "check", "(II)I"⟩
abbrev cX10_fill : ByteArray := prog_12_method_61_code
def yX10_fill : MethodName := ⟨RX10, "fill", "(I)I"⟩
abbrev cX10_count : ByteArray := prog_12_method_62_code
def yX10_count : MethodName := ⟨RX10, "count", "(I)I"⟩
def RJ6 : String := "java/lang/Integer"
def TJ6 : u_T := fun k => match k with
  | _ => ("", "", "", false)
def tyJ6 : Nat → FieldType := fun k => match k with
  | _ => .int
abbrev wsJ60 : List Cond := u_ws RJ6 TJ6 0
abbrev cJ6_bitCount_0f7a4 : ByteArray := prog_13_method_49_code
def yJ6_bitCount_0f7a4 : MethodName := ⟨RJ6, "bitCount", "(I)I"⟩
def RJ9 : String := "java/lang/Math"
def TJ9 : u_T := fun k => match k with
  | _ => ("", "", "", false)
def tyJ9 : Nat → FieldType := fun k => match k with
  | _ => .int
abbrev wsJ90 : List Cond := u_ws RJ9 TJ9 0
abbrev cJ9_floorDiv_7cf53 : ByteArray := prog_14_method_47_code
def yJ9_floorDiv_7cf53 : MethodName := ⟨RJ9, "floorDiv", "(II)I"⟩
abbrev cJ9_floorDiv_f86c9 : ByteArray := prog_14_method_49_code
def yJ9_floorDiv_f86c9 : MethodName := ⟨RJ9, "floorDiv", "(JJ)J"⟩
abbrev cJ9_floorMod_7cf53 : ByteArray := prog_14_method_50_code
def yJ9_floorMod_7cf53 : MethodName := ⟨RJ9, "floorMod", "(II)I"⟩
abbrev cJ9_abs_0f7a4 : ByteArray := prog_14_method_59_code
def yJ9_abs_0f7a4 : MethodName := ⟨RJ9, "abs", "(I)I"⟩
abbrev cJ9_abs_067f4 : ByteArray := prog_14_method_61_code
def yJ9_abs_067f4 : MethodName := ⟨RJ9, "abs", "(J)J"⟩
abbrev cJ9_max_7cf53 : ByteArray := prog_14_method_65_code
def yJ9_max_7cf53 : MethodName := ⟨RJ9, "max", "(II)I"⟩
abbrev cJ9_max_f86c9 : ByteArray := prog_14_method_66_code
def yJ9_max_f86c9 : MethodName := ⟨RJ9, "max", "(JJ)J"⟩
abbrev cJ9_min_7cf53 : ByteArray := prog_14_method_69_code
def yJ9_min_7cf53 : MethodName := ⟨RJ9, "min", "(II)I"⟩
abbrev cJ9_min_f86c9 : ByteArray := prog_14_method_70_code
def yJ9_min_f86c9 : MethodName := ⟨RJ9, "min", "(JJ)J"⟩
def RL : String := "WindHallLaw"
abbrev cL_law : ByteArray := code
def yL_law : MethodName := ⟨RL, "law", "([I)Z"⟩
def wsX4_init : List Cond := .code yX4_init cX4_init 1 none :: ([.methodLink RX4 3 objectInit, .instanceMethod objectInit, .code objectInit ⟨#[0xb1]⟩ 1 none, .classLink RX4 9 "[[J", .arrayClass .long, .fieldLink RX4 11 "WindHall$Equations" "left" "[[J", .fieldLink RX4 16 "WindHall$Equations" "right" "[J"] ++ wsX40)
def wsX0_init : List Cond := .code yX0_init cX0_init 1 none :: ([.methodLink RX0 3 objectInit, .instanceMethod objectInit, .code objectInit ⟨#[0xb1]⟩ 1 none, .classLink RX0 9 "[I", .arrayClass .int, .fieldLink RX0 11 "WindHall$Balance" "first" "[[I", .classLink RX0 17 "[[I", .fieldLink RX0 18 "WindHall$Balance" "second" "[[I", .fieldLink RX0 21 "WindHall$Balance" "load" "[I", .fieldLink RX0 24 "WindHall$Balance" "still" "Z", .fieldLink RX0 28 "WindHall$Balance" "away" "I", .fieldLink RX0 32 "WindHall$Balance" "given" "[I", .classLink RX0 35 RX4, .instantiable RX4 2, .initialized RX4, .fieldLink RX0 38 "WindHall$Balance" "equations" "LWindHall$Equations;", .instanceMethod yX4_init, .code yX4_init cX4_init 1 none, .methodLink RX4 3 objectInit, .classLink RX4 9 "[[J", .arrayClass .long, .fieldLink RX4 11 "WindHall$Equations" "left" "[[J", .fieldLink RX4 16 "WindHall$Equations" "right" "[J"] ++ wsX00 ++ wsX40)
def wsX0_productsOf : List Cond := .code yX0_productsOf cX0_productsOf 6 (some .int) :: ([.fieldLink RX0 18 "WindHall$Balance" "second" "[[I"] ++ wsX00)
def wsX0_readingOf : List Cond := .code yX0_readingOf cX0_readingOf 6 (some .int) :: ([.fieldLink RX0 11 "WindHall$Balance" "first" "[[I", .methodLink RX0 42 yX0_productsOf, .instanceMethod yX0_productsOf, .selects RX0 yX0_productsOf yX0_productsOf, .initialized RX0, .code yX0_productsOf cX0_productsOf 6 (some .int), .fieldLink RX0 18 "WindHall$Balance" "second" "[[I"] ++ wsX00)
def wsX0_setLeft : List Cond := .code yX0_setLeft cX0_setLeft 3 none :: ([.fieldLink RX0 38 "WindHall$Balance" "equations" "LWindHall$Equations;", .fieldLink RX0 67 "WindHall$Equations" "left" "[[J", .fieldLink RX0 11 "WindHall$Balance" "first" "[[I"] ++ wsX00 ++ wsX40)
def wsX4_term : List Cond := .code yX4_term cX4_term 4 (some .long) :: ([.fieldLink RX4 16 "WindHall$Equations" "right" "[J", .fieldLink RX4 11 "WindHall$Equations" "left" "[[J"] ++ wsX40)
def wsX4_determinant : List Cond := .code yX4_determinant cX4_determinant 9 (some .long) :: ([.methodLink RX4 20 yX4_term, .instanceMethod yX4_term, .selects RX4 yX4_term yX4_term, .initialized RX4, .code yX4_term cX4_term 4 (some .long), .fieldLink RX4 16 "WindHall$Equations" "right" "[J", .fieldLink RX4 11 "WindHall$Equations" "left" "[[J"] ++ wsX40)
def wsX9_setRow : List Cond := .code yX9_setRow cX9_setRow 4 none :: ([])
def wsJ9_floorDiv_f86c9 : List Cond := .code yJ9_floorDiv_f86c9 cJ9_floorDiv_f86c9 6 (some .long) :: ([])
def wsX0_nearestLoad : List Cond := .code yX0_nearestLoad cX0_nearestLoad 6 (some .int) :: ([.constantLong RX0 79 (2), .constantLong RX0 87 (-50), .constantLong RX0 89 (50), .methodLink RX0 91 Lib.MathLoose.min_long.x, .static Lib.MathLoose.min_long.x, .initialized "java/lang/Math", .code Lib.MathLoose.min_long.x Lib.MathLoose.min_long.code 4 (some .long), .methodLink RX0 94 Lib.MathLoose.max_long.x, .static Lib.MathLoose.max_long.x, .code Lib.MathLoose.max_long.x Lib.MathLoose.max_long.code 4 (some .long), .methodLink RX0 81 yJ9_floorDiv_f86c9, .static yJ9_floorDiv_f86c9, .initialized RJ9, .code yJ9_floorDiv_f86c9 cJ9_floorDiv_f86c9 6 (some .long)])
def wsX0_goRound_r1 : List Cond := [Cond.fieldLink RX0 38 "WindHall$Balance" "equations" "LWindHall$Equations;", Cond.fieldLink RX0 71 "WindHall$Equations" "right" "[J", Cond.fieldLink RX0 32 "WindHall$Balance" "given" "[I", Cond.fieldLink RX0 21 "WindHall$Balance" "load" "[I", Cond.methodLink RX0 42 yX0_productsOf, Cond.instanceMethod yX0_productsOf, Cond.selects RX0 yX0_productsOf yX0_productsOf, Cond.initialized RX0, Cond.code yX0_productsOf cX0_productsOf 6 (some .int), Cond.fieldLink RX0 18 "WindHall$Balance" "second" "[[I", Cond.methodLink RX0 49 yX4_determinant, Cond.instanceMethod yX4_determinant, Cond.selects RX4 yX4_determinant yX4_determinant, Cond.initialized RX4, Cond.code yX4_determinant cX4_determinant 9 (some .long), Cond.methodLink RX4 20 yX4_term, Cond.instanceMethod yX4_term, Cond.selects RX4 yX4_term yX4_term, Cond.code yX4_term cX4_term 4 (some .long), Cond.fieldLink RX4 16 "WindHall$Equations" "right" "[J", Cond.fieldLink RX4 11 "WindHall$Equations" "left" "[[J", Cond.methodLink RX0 75 yX0_nearestLoad, Cond.static yX0_nearestLoad, Cond.code yX0_nearestLoad cX0_nearestLoad 6 (some .int)]
def wsX0_goRound_r2 : List Cond := [Cond.constantLong RX0 79 (2), Cond.constantLong RX0 87 (-50), Cond.constantLong RX0 89 (50), Cond.methodLink RX0 91 Lib.MathLoose.min_long.x, Cond.static Lib.MathLoose.min_long.x, Cond.initialized "java/lang/Math", Cond.code Lib.MathLoose.min_long.x Lib.MathLoose.min_long.code 4 (some .long), Cond.methodLink RX0 94 Lib.MathLoose.max_long.x, Cond.static Lib.MathLoose.max_long.x, Cond.code Lib.MathLoose.max_long.x Lib.MathLoose.max_long.code 4 (some .long), Cond.methodLink RX0 81 yJ9_floorDiv_f86c9, Cond.static yJ9_floorDiv_f86c9, Cond.initialized RJ9, Cond.code yJ9_floorDiv_f86c9 cJ9_floorDiv_f86c9 6 (some .long)]
def wsX0_goRound : List Cond := .code yX0_goRound cX0_goRound 6 (some .boolean) :: ((wsX0_goRound_r1 ++ wsX0_goRound_r2) ++ wsX00 ++ wsX40)
def wsX0_greatestDistance : List Cond := .code yX0_greatestDistance cX0_greatestDistance 4 (some .int) :: ([.fieldLink RX0 32 "WindHall$Balance" "given" "[I", .fieldLink RX0 21 "WindHall$Balance" "load" "[I", .methodLink RX0 100 Lib.Math.abs.name, .static Lib.Math.abs.name, .initialized "java/lang/Math", .code Lib.Math.abs.name Lib.Math.abs.code 1 (some .int), .methodLink RX0 104 Lib.Math.max.name, .static Lib.Math.max.name, .code Lib.Math.max.name Lib.Math.max.code 2 (some .int), .methodLink RX0 97 yX0_readingOf, .instanceMethod yX0_readingOf, .selects RX0 yX0_readingOf yX0_readingOf, .initialized RX0, .code yX0_readingOf cX0_readingOf 6 (some .int), .fieldLink RX0 11 "WindHall$Balance" "first" "[[I", .methodLink RX0 42 yX0_productsOf, .instanceMethod yX0_productsOf, .selects RX0 yX0_productsOf yX0_productsOf, .code yX0_productsOf cX0_productsOf 6 (some .int), .fieldLink RX0 18 "WindHall$Balance" "second" "[[I"] ++ wsX00)
def wsX0_goBack_r1 : List Cond := [Cond.fieldLink RX0 38 "WindHall$Balance" "equations" "LWindHall$Equations;", Cond.fieldLink RX0 32 "WindHall$Balance" "given" "[I", Cond.fieldLink RX0 21 "WindHall$Balance" "load" "[I", Cond.fieldLink RX0 24 "WindHall$Balance" "still" "Z", Cond.constantLong RX0 57 (100), Cond.fieldLink RX0 28 "WindHall$Balance" "away" "I", Cond.methodLink RX0 46 yX0_setLeft, Cond.instanceMethod yX0_setLeft, Cond.selects RX0 yX0_setLeft yX0_setLeft, Cond.initialized RX0, Cond.code yX0_setLeft cX0_setLeft 3 none, Cond.fieldLink RX0 67 "WindHall$Equations" "left" "[[J", Cond.fieldLink RX0 11 "WindHall$Balance" "first" "[[I", Cond.methodLink RX0 49 yX4_determinant, Cond.instanceMethod yX4_determinant, Cond.selects RX4 yX4_determinant yX4_determinant, Cond.initialized RX4, Cond.code yX4_determinant cX4_determinant 9 (some .long), Cond.methodLink RX4 20 yX4_term, Cond.instanceMethod yX4_term, Cond.selects RX4 yX4_term yX4_term, Cond.code yX4_term cX4_term 4 (some .long), Cond.fieldLink RX4 16 "WindHall$Equations" "right" "[J", Cond.fieldLink RX4 11 "WindHall$Equations" "left" "[[J"]
def wsX0_goBack_r2 : List Cond := [Cond.static yX9_setRow, Cond.initialized RX9, Cond.code yX9_setRow cX9_setRow 4 none, Cond.methodLink RX0 59 yX0_goRound, Cond.instanceMethod yX0_goRound, Cond.selects RX0 yX0_goRound yX0_goRound, Cond.code yX0_goRound cX0_goRound 6 (some .boolean), Cond.fieldLink RX0 71 "WindHall$Equations" "right" "[J", Cond.methodLink RX0 42 yX0_productsOf, Cond.instanceMethod yX0_productsOf, Cond.selects RX0 yX0_productsOf yX0_productsOf, Cond.code yX0_productsOf cX0_productsOf 6 (some .int), Cond.fieldLink RX0 18 "WindHall$Balance" "second" "[[I", Cond.methodLink RX0 75 yX0_nearestLoad, Cond.static yX0_nearestLoad, Cond.code yX0_nearestLoad cX0_nearestLoad 6 (some .int), Cond.constantLong RX0 79 (2), Cond.constantLong RX0 87 (-50), Cond.constantLong RX0 89 (50), Cond.methodLink RX0 91 Lib.MathLoose.min_long.x, Cond.static Lib.MathLoose.min_long.x, Cond.initialized "java/lang/Math", Cond.code Lib.MathLoose.min_long.x Lib.MathLoose.min_long.code 4 (some .long), Cond.methodLink RX0 94 Lib.MathLoose.max_long.x]
def wsX0_goBack_r3 : List Cond := [Cond.static Lib.MathLoose.max_long.x, Cond.code Lib.MathLoose.max_long.x Lib.MathLoose.max_long.code 4 (some .long), Cond.methodLink RX0 81 yJ9_floorDiv_f86c9, Cond.static yJ9_floorDiv_f86c9, Cond.initialized RJ9, Cond.code yJ9_floorDiv_f86c9 cJ9_floorDiv_f86c9 6 (some .long), Cond.methodLink RX0 63 yX0_greatestDistance, Cond.instanceMethod yX0_greatestDistance, Cond.selects RX0 yX0_greatestDistance yX0_greatestDistance, Cond.code yX0_greatestDistance cX0_greatestDistance 4 (some .int), Cond.methodLink RX0 100 Lib.Math.abs.name, Cond.static Lib.Math.abs.name, Cond.code Lib.Math.abs.name Lib.Math.abs.code 1 (some .int), Cond.methodLink RX0 104 Lib.Math.max.name, Cond.static Lib.Math.max.name, Cond.code Lib.Math.max.name Lib.Math.max.code 2 (some .int), Cond.methodLink RX0 97 yX0_readingOf, Cond.instanceMethod yX0_readingOf, Cond.selects RX0 yX0_readingOf yX0_readingOf, Cond.code yX0_readingOf cX0_readingOf 6 (some .int)]
def wsX0_goBack : List Cond := .code yX0_goBack cX0_goBack 8 (some .int) :: ((wsX0_goBack_r1 ++ (wsX0_goBack_r2 ++ wsX0_goBack_r3)) ++ wsX00 ++ wsX40)
def wsX1_init : List Cond := .code yX1_init cX1_init 1 none :: ([.methodLink RX1 3 objectInit, .instanceMethod objectInit, .code objectInit ⟨#[0xb1]⟩ 1 none, .classLink RX1 11 "[[I", .arrayClass .int, .fieldLink RX1 13 "WindHall$Calibration" "loads" "[[I", .fieldLink RX1 16 "WindHall$Calibration" "readings" "[[I", .fieldLink RX1 19 "WindHall$Calibration" "count" "I", .classLink RX1 23 RX4, .instantiable RX4 2, .initialized RX4, .fieldLink RX1 26 "WindHall$Calibration" "equations" "LWindHall$Equations;", .instanceMethod yX4_init, .code yX4_init cX4_init 1 none, .methodLink RX4 3 objectInit, .classLink RX4 9 "[[J", .arrayClass .long, .fieldLink RX4 11 "WindHall$Equations" "left" "[[J", .fieldLink RX4 16 "WindHall$Equations" "right" "[J"] ++ wsX10 ++ wsX40)
def wsX1_sumOfProducts : List Cond := .code yX1_sumOfProducts cX1_sumOfProducts 6 (some .long) :: ([.fieldLink RX1 19 "WindHall$Calibration" "count" "I", .fieldLink RX1 13 "WindHall$Calibration" "loads" "[[I"] ++ wsX10)
def wsX1_setEquations : List Cond := .code yX1_setEquations cX1_setEquations 6 none :: ([.fieldLink RX1 19 "WindHall$Calibration" "count" "I", .fieldLink RX1 13 "WindHall$Calibration" "loads" "[[I", .fieldLink RX1 16 "WindHall$Calibration" "readings" "[[I", .fieldLink RX1 26 "WindHall$Calibration" "equations" "LWindHall$Equations;", .fieldLink RX1 50 "WindHall$Equations" "right" "[J", .fieldLink RX1 54 "WindHall$Equations" "left" "[[J", .methodLink RX1 58 yX1_sumOfProducts, .instanceMethod yX1_sumOfProducts, .selects RX1 yX1_sumOfProducts yX1_sumOfProducts, .initialized RX1, .code yX1_sumOfProducts cX1_sumOfProducts 6 (some .long)] ++ wsX10 ++ wsX40)
def wsX1_commonDivisor : List Cond := .code yX1_commonDivisor cX1_commonDivisor 7 (some .long) :: ([])
def wsX1_partOfFit_r1 : List Cond := [Cond.fieldLink RX1 26 "WindHall$Calibration" "equations" "LWindHall$Equations;", Cond.constantLong RX1 38 (100), Cond.methodLink RX1 40 Lib.MathLoose.abs_long.x, Cond.static Lib.MathLoose.abs_long.x, Cond.initialized "java/lang/Math", Cond.code Lib.MathLoose.abs_long.x Lib.MathLoose.abs_long.code 2 (some .long), Cond.methodLink RX1 30 yX1_setEquations, Cond.instanceMethod yX1_setEquations, Cond.selects RX1 yX1_setEquations yX1_setEquations, Cond.initialized RX1, Cond.code yX1_setEquations cX1_setEquations 6 none, Cond.fieldLink RX1 19 "WindHall$Calibration" "count" "I", Cond.fieldLink RX1 13 "WindHall$Calibration" "loads" "[[I", Cond.fieldLink RX1 16 "WindHall$Calibration" "readings" "[[I", Cond.fieldLink RX1 50 "WindHall$Equations" "right" "[J", Cond.fieldLink RX1 54 "WindHall$Equations" "left" "[[J", Cond.methodLink RX1 58 yX1_sumOfProducts, Cond.instanceMethod yX1_sumOfProducts, Cond.selects RX1 yX1_sumOfProducts yX1_sumOfProducts, Cond.code yX1_sumOfProducts cX1_sumOfProducts 6 (some .long), Cond.methodLink RX1 34 yX4_determinant, Cond.instanceMethod yX4_determinant, Cond.selects RX4 yX4_determinant yX4_determinant, Cond.initialized RX4]
def wsX1_partOfFit_r2 : List Cond := [Cond.code yX4_determinant cX4_determinant 9 (some .long), Cond.methodLink RX4 20 yX4_term, Cond.instanceMethod yX4_term, Cond.selects RX4 yX4_term yX4_term, Cond.code yX4_term cX4_term 4 (some .long), Cond.fieldLink RX4 16 "WindHall$Equations" "right" "[J", Cond.fieldLink RX4 11 "WindHall$Equations" "left" "[[J", Cond.methodLink RX1 46 yX1_commonDivisor, Cond.static yX1_commonDivisor, Cond.code yX1_commonDivisor cX1_commonDivisor 7 (some .long)]
def wsX1_partOfFit : List Cond := .code yX1_partOfFit cX1_partOfFit 12 (some .long) :: ((wsX1_partOfFit_r1 ++ wsX1_partOfFit_r2) ++ wsX10 ++ wsX40)
def wsX1_greatestMiss : List Cond := .code yX1_greatestMiss cX1_greatestMiss 7 (some .int) :: ([.fieldLink RX1 19 "WindHall$Calibration" "count" "I", .fieldLink RX1 13 "WindHall$Calibration" "loads" "[[I", .fieldLink RX1 16 "WindHall$Calibration" "readings" "[[I", .methodLink RX1 68 Lib.Math.abs.name, .static Lib.Math.abs.name, .initialized "java/lang/Math", .code Lib.Math.abs.name Lib.Math.abs.code 1 (some .int), .methodLink RX1 71 Lib.Math.max.name, .static Lib.Math.max.name, .code Lib.Math.max.name Lib.Math.max.code 2 (some .int), .methodLink RX1 62 yX0_readingOf, .instanceMethod yX0_readingOf, .selects RX0 yX0_readingOf yX0_readingOf, .initialized RX0, .code yX0_readingOf cX0_readingOf 6 (some .int), .fieldLink RX0 11 "WindHall$Balance" "first" "[[I", .methodLink RX0 42 yX0_productsOf, .instanceMethod yX0_productsOf, .selects RX0 yX0_productsOf yX0_productsOf, .code yX0_productsOf cX0_productsOf 6 (some .int), .fieldLink RX0 18 "WindHall$Balance" "second" "[[I"] ++ wsX10 ++ wsX00)
def wsX2_init : List Cond := .code yX2_init cX2_init 1 none :: ([.methodLink RX2 3 objectInit, .instanceMethod objectInit, .code objectInit ⟨#[0xb1]⟩ 1 none, .fieldLink RX2 9 "WindHall$Correction" "on" "Z", .fieldLink RX2 15 "WindHall$Correction" "kind" "I", .fieldLink RX2 19 "WindHall$Correction" "u" "I", .fieldLink RX2 22 "WindHall$Correction" "v" "I", .fieldLink RX2 25 "WindHall$Correction" "w" "I"] ++ wsX20)
def wsX9_isWithin : List Cond := .code yX9_isWithin cX9_isWithin 2 (some .boolean) :: ([])
def wsX2_isAsTold : List Cond := .code yX2_isAsTold cX2_isAsTold 4 (some .boolean) :: ([.static yX9_isWithin, .initialized RX9, .code yX9_isWithin cX9_isWithin 2 (some .boolean)])
def wsX2_become : List Cond := .code yX2_become cX2_become 5 none :: ([.fieldLink RX2 9 "WindHall$Correction" "on" "Z", .fieldLink RX2 15 "WindHall$Correction" "kind" "I", .fieldLink RX2 19 "WindHall$Correction" "u" "I", .fieldLink RX2 22 "WindHall$Correction" "v" "I", .fieldLink RX2 25 "WindHall$Correction" "w" "I"] ++ wsX20)
def wsX2_lessen : List Cond := .code yX2_lessen cX2_lessen 4 none :: ([])
def wsJ9_floorDiv_7cf53 : List Cond := .code yJ9_floorDiv_7cf53 cJ9_floorDiv_7cf53 3 (some .int) :: ([])
def wsX2_drifted : List Cond := .code yX2_drifted cX2_drifted 2 (some .int) :: ([.methodLink RX2 55 yJ9_floorDiv_7cf53, .static yJ9_floorDiv_7cf53, .initialized RJ9, .code yJ9_floorDiv_7cf53 cJ9_floorDiv_7cf53 3 (some .int)])
def wsJ9_floorMod_7cf53 : List Cond := .code yJ9_floorMod_7cf53 cJ9_floorMod_7cf53 3 (some .int) :: ([])
def wsX2_cos : List Cond := .code yX2_cos cX2_cos 1 (some .int) :: ([.fieldLink RX2 57 "WindHall$Correction" "COS" "[I", .methodLink RX2 61 yJ9_floorMod_7cf53, .static yJ9_floorMod_7cf53, .initialized RJ9, .code yJ9_floorMod_7cf53 cJ9_floorMod_7cf53 3 (some .int)])
def wsX2_share : List Cond := .code yX2_share cX2_share 2 (some .int) :: ([.fieldLink RX2 19 "WindHall$Correction" "u" "I", .methodLink RX2 55 yJ9_floorDiv_7cf53, .static yJ9_floorDiv_7cf53, .initialized RJ9, .code yJ9_floorDiv_7cf53 cJ9_floorDiv_7cf53 3 (some .int)] ++ wsX20)
def wsX2_change_r1 : List Cond := [Cond.fieldLink RX2 15 "WindHall$Correction" "kind" "I", Cond.fieldLink RX2 19 "WindHall$Correction" "u" "I", Cond.fieldLink RX2 22 "WindHall$Correction" "v" "I", Cond.fieldLink RX2 25 "WindHall$Correction" "w" "I", Cond.constantLong RX2 40 (100), Cond.methodLink RX2 32 yX2_lessen, Cond.static yX2_lessen, Cond.initialized RX2, Cond.code yX2_lessen cX2_lessen 4 none, Cond.methodLink RX2 36 yX2_drifted, Cond.static yX2_drifted, Cond.code yX2_drifted cX2_drifted 2 (some .int), Cond.methodLink RX2 55 yJ9_floorDiv_7cf53, Cond.static yJ9_floorDiv_7cf53, Cond.initialized RJ9, Cond.code yJ9_floorDiv_7cf53 cJ9_floorDiv_7cf53 3 (some .int), Cond.methodLink RX2 42 yJ9_floorDiv_f86c9, Cond.static yJ9_floorDiv_f86c9, Cond.code yJ9_floorDiv_f86c9 cJ9_floorDiv_f86c9 6 (some .long), Cond.methodLink RX2 48 yX2_cos, Cond.static yX2_cos, Cond.code yX2_cos cX2_cos 1 (some .int), Cond.fieldLink RX2 57 "WindHall$Correction" "COS" "[I", Cond.methodLink RX2 61 yJ9_floorMod_7cf53]
def wsX2_change_r2 : List Cond := [Cond.static yJ9_floorMod_7cf53, Cond.code yJ9_floorMod_7cf53 cJ9_floorMod_7cf53 3 (some .int), Cond.methodLink RX2 52 yX2_share, Cond.instanceMethod yX2_share, Cond.selects RX2 yX2_share yX2_share, Cond.code yX2_share cX2_share 2 (some .int)]
def wsX2_change : List Cond := .code yX2_change cX2_change 5 none :: ((wsX2_change_r1 ++ wsX2_change_r2) ++ wsX20)
def wsX3_init : List Cond := .code yX3_init cX3_init 2 none :: ([.methodLink RX3 3 objectInit, .instanceMethod objectInit, .code objectInit ⟨#[0xb1]⟩ 1 none, .classLink RX3 11 RX2, .fieldLink RX3 13 "WindHall$Corrections" "row" "[LWindHall$Correction;", .fieldLink RX3 17 "WindHall$Corrections" "count" "I", .arrayClass .int, .fieldLink RX3 21 "WindHall$Corrections" "told" "[I", .fieldLink RX3 25 "WindHall$Corrections" "time" "I", .fieldLink RX3 28 "WindHall$Corrections" "angle" "I", .arrayClass .long, .fieldLink RX3 31 "WindHall$Corrections" "now" "[J", .fieldLink RX3 35 "WindHall$Corrections" "other" "[J", .instantiable RX2 5, .initialized RX2, .instanceMethod yX2_init, .code yX2_init cX2_init 1 none, .methodLink RX2 3 objectInit, .fieldLink RX2 9 "WindHall$Correction" "on" "Z", .fieldLink RX2 15 "WindHall$Correction" "kind" "I", .fieldLink RX2 19 "WindHall$Correction" "u" "I", .fieldLink RX2 22 "WindHall$Correction" "v" "I", .fieldLink RX2 25 "WindHall$Correction" "w" "I"] ++ wsX30 ++ wsX20)
def wsX3_append : List Cond := .code yX3_append cX3_append 5 (some .int) :: ([.fieldLink RX3 13 "WindHall$Corrections" "row" "[LWindHall$Correction;", .fieldLink RX3 17 "WindHall$Corrections" "count" "I", .methodLink RX3 39 yX2_become, .instanceMethod yX2_become, .selects RX2 yX2_become yX2_become, .initialized RX2, .code yX2_become cX2_become 5 none, .fieldLink RX2 9 "WindHall$Correction" "on" "Z", .fieldLink RX2 15 "WindHall$Correction" "kind" "I", .fieldLink RX2 19 "WindHall$Correction" "u" "I", .fieldLink RX2 22 "WindHall$Correction" "v" "I", .fieldLink RX2 25 "WindHall$Correction" "w" "I"] ++ wsX30 ++ wsX20)
def wsX3_changeIfOn_r1 : List Cond := [Cond.fieldLink RX3 13 "WindHall$Corrections" "row" "[LWindHall$Correction;", Cond.fieldLink RX3 47 "WindHall$Correction" "on" "Z", Cond.fieldLink RX3 25 "WindHall$Corrections" "time" "I", Cond.fieldLink RX3 28 "WindHall$Corrections" "angle" "I", Cond.methodLink RX3 51 yX2_change, Cond.instanceMethod yX2_change, Cond.selects RX2 yX2_change yX2_change, Cond.initialized RX2, Cond.code yX2_change cX2_change 5 none, Cond.fieldLink RX2 15 "WindHall$Correction" "kind" "I", Cond.fieldLink RX2 19 "WindHall$Correction" "u" "I", Cond.fieldLink RX2 22 "WindHall$Correction" "v" "I", Cond.fieldLink RX2 25 "WindHall$Correction" "w" "I", Cond.constantLong RX2 40 (100), Cond.methodLink RX2 32 yX2_lessen, Cond.static yX2_lessen, Cond.code yX2_lessen cX2_lessen 4 none, Cond.methodLink RX2 36 yX2_drifted, Cond.static yX2_drifted, Cond.code yX2_drifted cX2_drifted 2 (some .int), Cond.methodLink RX2 55 yJ9_floorDiv_7cf53, Cond.static yJ9_floorDiv_7cf53, Cond.initialized RJ9, Cond.code yJ9_floorDiv_7cf53 cJ9_floorDiv_7cf53 3 (some .int)]
def wsX3_changeIfOn_r2 : List Cond := [Cond.methodLink RX2 42 yJ9_floorDiv_f86c9, Cond.static yJ9_floorDiv_f86c9, Cond.code yJ9_floorDiv_f86c9 cJ9_floorDiv_f86c9 6 (some .long), Cond.methodLink RX2 48 yX2_cos, Cond.static yX2_cos, Cond.code yX2_cos cX2_cos 1 (some .int), Cond.fieldLink RX2 57 "WindHall$Correction" "COS" "[I", Cond.methodLink RX2 61 yJ9_floorMod_7cf53, Cond.static yJ9_floorMod_7cf53, Cond.code yJ9_floorMod_7cf53 cJ9_floorMod_7cf53 3 (some .int), Cond.methodLink RX2 52 yX2_share, Cond.instanceMethod yX2_share, Cond.selects RX2 yX2_share yX2_share, Cond.code yX2_share cX2_share 2 (some .int)]
def wsX3_changeIfOn : List Cond := .code yX3_changeIfOn cX3_changeIfOn 3 none :: ((wsX3_changeIfOn_r1 ++ wsX3_changeIfOn_r2) ++ wsX30 ++ wsX20)
def wsX3_goThrough_r1 : List Cond := [Cond.fieldLink RX3 21 "WindHall$Corrections" "told" "[I", Cond.methodLink RX3 43 yX3_changeIfOn, Cond.instanceMethod yX3_changeIfOn, Cond.selects RX3 yX3_changeIfOn yX3_changeIfOn, Cond.initialized RX3, Cond.code yX3_changeIfOn cX3_changeIfOn 3 none, Cond.fieldLink RX3 13 "WindHall$Corrections" "row" "[LWindHall$Correction;", Cond.fieldLink RX3 47 "WindHall$Correction" "on" "Z", Cond.fieldLink RX3 25 "WindHall$Corrections" "time" "I", Cond.fieldLink RX3 28 "WindHall$Corrections" "angle" "I", Cond.methodLink RX3 51 yX2_change, Cond.instanceMethod yX2_change, Cond.selects RX2 yX2_change yX2_change, Cond.initialized RX2, Cond.code yX2_change cX2_change 5 none, Cond.fieldLink RX2 15 "WindHall$Correction" "kind" "I", Cond.fieldLink RX2 19 "WindHall$Correction" "u" "I", Cond.fieldLink RX2 22 "WindHall$Correction" "v" "I", Cond.fieldLink RX2 25 "WindHall$Correction" "w" "I", Cond.constantLong RX2 40 (100), Cond.methodLink RX2 32 yX2_lessen, Cond.static yX2_lessen, Cond.code yX2_lessen cX2_lessen 4 none, Cond.methodLink RX2 36 yX2_drifted]
def wsX3_goThrough_r2 : List Cond := [Cond.static yX2_drifted, Cond.code yX2_drifted cX2_drifted 2 (some .int), Cond.methodLink RX2 55 yJ9_floorDiv_7cf53, Cond.static yJ9_floorDiv_7cf53, Cond.initialized RJ9, Cond.code yJ9_floorDiv_7cf53 cJ9_floorDiv_7cf53 3 (some .int), Cond.methodLink RX2 42 yJ9_floorDiv_f86c9, Cond.static yJ9_floorDiv_f86c9, Cond.code yJ9_floorDiv_f86c9 cJ9_floorDiv_f86c9 6 (some .long), Cond.methodLink RX2 48 yX2_cos, Cond.static yX2_cos, Cond.code yX2_cos cX2_cos 1 (some .int), Cond.fieldLink RX2 57 "WindHall$Correction" "COS" "[I", Cond.methodLink RX2 61 yJ9_floorMod_7cf53, Cond.static yJ9_floorMod_7cf53, Cond.code yJ9_floorMod_7cf53 cJ9_floorMod_7cf53 3 (some .int), Cond.methodLink RX2 52 yX2_share, Cond.instanceMethod yX2_share, Cond.selects RX2 yX2_share yX2_share, Cond.code yX2_share cX2_share 2 (some .int)]
def wsX3_goThrough : List Cond := .code yX3_goThrough cX3_goThrough 4 none :: ((wsX3_goThrough_r1 ++ wsX3_goThrough_r2) ++ wsX30 ++ wsX20)
def wsX3_differ : List Cond := .code yX3_differ cX3_differ 1 (some .boolean) :: ([.fieldLink RX3 31 "WindHall$Corrections" "now" "[J", .fieldLink RX3 35 "WindHall$Corrections" "other" "[J"] ++ wsX30)
def wsX3_isFelt_r1 : List Cond := [Cond.fieldLink RX3 31 "WindHall$Corrections" "now" "[J", Cond.fieldLink RX3 35 "WindHall$Corrections" "other" "[J", Cond.fieldLink RX3 13 "WindHall$Corrections" "row" "[LWindHall$Correction;", Cond.fieldLink RX3 25 "WindHall$Corrections" "time" "I", Cond.fieldLink RX3 28 "WindHall$Corrections" "angle" "I", Cond.methodLink RX3 55 yX3_goThrough, Cond.instanceMethod yX3_goThrough, Cond.selects RX3 yX3_goThrough yX3_goThrough, Cond.initialized RX3, Cond.code yX3_goThrough cX3_goThrough 4 none, Cond.fieldLink RX3 21 "WindHall$Corrections" "told" "[I", Cond.methodLink RX3 43 yX3_changeIfOn, Cond.instanceMethod yX3_changeIfOn, Cond.selects RX3 yX3_changeIfOn yX3_changeIfOn, Cond.code yX3_changeIfOn cX3_changeIfOn 3 none, Cond.fieldLink RX3 47 "WindHall$Correction" "on" "Z", Cond.methodLink RX3 51 yX2_change, Cond.instanceMethod yX2_change, Cond.selects RX2 yX2_change yX2_change, Cond.initialized RX2, Cond.code yX2_change cX2_change 5 none, Cond.fieldLink RX2 15 "WindHall$Correction" "kind" "I", Cond.fieldLink RX2 19 "WindHall$Correction" "u" "I", Cond.fieldLink RX2 22 "WindHall$Correction" "v" "I"]
def wsX3_isFelt_r2 : List Cond := [Cond.fieldLink RX2 25 "WindHall$Correction" "w" "I", Cond.constantLong RX2 40 (100), Cond.methodLink RX2 32 yX2_lessen, Cond.static yX2_lessen, Cond.code yX2_lessen cX2_lessen 4 none, Cond.methodLink RX2 36 yX2_drifted, Cond.static yX2_drifted, Cond.code yX2_drifted cX2_drifted 2 (some .int), Cond.methodLink RX2 55 yJ9_floorDiv_7cf53, Cond.static yJ9_floorDiv_7cf53, Cond.initialized RJ9, Cond.code yJ9_floorDiv_7cf53 cJ9_floorDiv_7cf53 3 (some .int), Cond.methodLink RX2 42 yJ9_floorDiv_f86c9, Cond.static yJ9_floorDiv_f86c9, Cond.code yJ9_floorDiv_f86c9 cJ9_floorDiv_f86c9 6 (some .long), Cond.methodLink RX2 48 yX2_cos, Cond.static yX2_cos, Cond.code yX2_cos cX2_cos 1 (some .int), Cond.fieldLink RX2 57 "WindHall$Correction" "COS" "[I", Cond.methodLink RX2 61 yJ9_floorMod_7cf53, Cond.static yJ9_floorMod_7cf53, Cond.code yJ9_floorMod_7cf53 cJ9_floorMod_7cf53 3 (some .int), Cond.methodLink RX2 52 yX2_share, Cond.instanceMethod yX2_share]
def wsX3_isFelt_r3 : List Cond := [Cond.selects RX2 yX2_share yX2_share, Cond.code yX2_share cX2_share 2 (some .int), Cond.methodLink RX3 58 yX3_differ, Cond.instanceMethod yX3_differ, Cond.selects RX3 yX3_differ yX3_differ, Cond.code yX3_differ cX3_differ 1 (some .boolean)]
def wsX3_isFelt : List Cond := .code yX3_isFelt cX3_isFelt 2 (some .boolean) :: ((wsX3_isFelt_r1 ++ (wsX3_isFelt_r2 ++ wsX3_isFelt_r3)) ++ wsX30 ++ wsX20)
def wsX3_isOrderFelt_r1 : List Cond := [Cond.fieldLink RX3 31 "WindHall$Corrections" "now" "[J", Cond.fieldLink RX3 35 "WindHall$Corrections" "other" "[J", Cond.methodLink RX3 55 yX3_goThrough, Cond.instanceMethod yX3_goThrough, Cond.selects RX3 yX3_goThrough yX3_goThrough, Cond.initialized RX3, Cond.code yX3_goThrough cX3_goThrough 4 none, Cond.fieldLink RX3 21 "WindHall$Corrections" "told" "[I", Cond.methodLink RX3 43 yX3_changeIfOn, Cond.instanceMethod yX3_changeIfOn, Cond.selects RX3 yX3_changeIfOn yX3_changeIfOn, Cond.code yX3_changeIfOn cX3_changeIfOn 3 none, Cond.fieldLink RX3 13 "WindHall$Corrections" "row" "[LWindHall$Correction;", Cond.fieldLink RX3 47 "WindHall$Correction" "on" "Z", Cond.fieldLink RX3 25 "WindHall$Corrections" "time" "I", Cond.fieldLink RX3 28 "WindHall$Corrections" "angle" "I", Cond.methodLink RX3 51 yX2_change, Cond.instanceMethod yX2_change, Cond.selects RX2 yX2_change yX2_change, Cond.initialized RX2, Cond.code yX2_change cX2_change 5 none, Cond.fieldLink RX2 15 "WindHall$Correction" "kind" "I", Cond.fieldLink RX2 19 "WindHall$Correction" "u" "I", Cond.fieldLink RX2 22 "WindHall$Correction" "v" "I"]
def wsX3_isOrderFelt_r2 : List Cond := [Cond.fieldLink RX2 25 "WindHall$Correction" "w" "I", Cond.constantLong RX2 40 (100), Cond.methodLink RX2 32 yX2_lessen, Cond.static yX2_lessen, Cond.code yX2_lessen cX2_lessen 4 none, Cond.methodLink RX2 36 yX2_drifted, Cond.static yX2_drifted, Cond.code yX2_drifted cX2_drifted 2 (some .int), Cond.methodLink RX2 55 yJ9_floorDiv_7cf53, Cond.static yJ9_floorDiv_7cf53, Cond.initialized RJ9, Cond.code yJ9_floorDiv_7cf53 cJ9_floorDiv_7cf53 3 (some .int), Cond.methodLink RX2 42 yJ9_floorDiv_f86c9, Cond.static yJ9_floorDiv_f86c9, Cond.code yJ9_floorDiv_f86c9 cJ9_floorDiv_f86c9 6 (some .long), Cond.methodLink RX2 48 yX2_cos, Cond.static yX2_cos, Cond.code yX2_cos cX2_cos 1 (some .int), Cond.fieldLink RX2 57 "WindHall$Correction" "COS" "[I", Cond.methodLink RX2 61 yJ9_floorMod_7cf53, Cond.static yJ9_floorMod_7cf53, Cond.code yJ9_floorMod_7cf53 cJ9_floorMod_7cf53 3 (some .int), Cond.methodLink RX2 52 yX2_share, Cond.instanceMethod yX2_share]
def wsX3_isOrderFelt_r3 : List Cond := [Cond.selects RX2 yX2_share yX2_share, Cond.code yX2_share cX2_share 2 (some .int), Cond.methodLink RX3 58 yX3_differ, Cond.instanceMethod yX3_differ, Cond.selects RX3 yX3_differ yX3_differ, Cond.code yX3_differ cX3_differ 1 (some .boolean)]
def wsX3_isOrderFelt : List Cond := .code yX3_isOrderFelt cX3_isOrderFelt 2 (some .boolean) :: ((wsX3_isOrderFelt_r1 ++ (wsX3_isOrderFelt_r2 ++ wsX3_isOrderFelt_r3)) ++ wsX30 ++ wsX20)
def wsX5_init : List Cond := .code yX5_init cX5_init 1 none :: ([.methodLink RX5 5 objectInit, .instanceMethod objectInit, .code objectInit ⟨#[0xb1]⟩ 1 none, .fieldLink RX5 11 "WindHall$Program" "count" "I", .arrayClass .boolean, .fieldLink RX5 15 "WindHall$Program" "isDone" "[Z", .classLink RX5 19 "[[I", .arrayClass .int, .fieldLink RX5 21 "WindHall$Program" "move" "[[I", .fieldLink RX5 24 "WindHall$Program" "isPlanned" "Z", .fieldLink RX5 28 "WindHall$Program" "planned" "I", .fieldLink RX5 31 "WindHall$Program" "leastSum" "I", .fieldLink RX5 34 "WindHall$Program" "row" "[I", .fieldLink RX5 38 "WindHall$Program" "angle" "[I", .fieldLink RX5 41 "WindHall$Program" "speed" "[I", .fieldLink RX5 44 "WindHall$Program" "rest" "[I"] ++ wsX50)
def wsX5_setMove : List Cond := .code yX5_setMove cX5_setMove 5 none :: ([.fieldLink RX5 38 "WindHall$Program" "angle" "[I", .methodLink RX5 51 Lib.Math.abs.name, .static Lib.Math.abs.name, .initialized "java/lang/Math", .code Lib.Math.abs.name Lib.Math.abs.code 1 (some .int), .methodLink RX5 57 Lib.Math.min.name, .static Lib.Math.min.name, .code Lib.Math.min.name Lib.Math.min.code 2 (some .int), .fieldLink RX5 41 "WindHall$Program" "speed" "[I", .fieldLink RX5 21 "WindHall$Program" "move" "[[I"] ++ wsX50)
def wsX5_append : List Cond := .code yX5_append cX5_append 5 (some .int) :: ([.fieldLink RX5 11 "WindHall$Program" "count" "I", .fieldLink RX5 38 "WindHall$Program" "angle" "[I", .fieldLink RX5 41 "WindHall$Program" "speed" "[I", .fieldLink RX5 15 "WindHall$Program" "isDone" "[Z", .fieldLink RX5 24 "WindHall$Program" "isPlanned" "Z", .methodLink RX5 47 yX5_setMove, .instanceMethod yX5_setMove, .selects RX5 yX5_setMove yX5_setMove, .initialized RX5, .code yX5_setMove cX5_setMove 5 none, .methodLink RX5 51 Lib.Math.abs.name, .static Lib.Math.abs.name, .initialized "java/lang/Math", .code Lib.Math.abs.name Lib.Math.abs.code 1 (some .int), .methodLink RX5 57 Lib.Math.min.name, .static Lib.Math.min.name, .code Lib.Math.min.name Lib.Math.min.code 2 (some .int), .fieldLink RX5 21 "WindHall$Program" "move" "[[I"] ++ wsX50)
def wsX5_howManyDone : List Cond := .code yX5_howManyDone cX5_howManyDone 3 (some .int) :: ([.fieldLink RX5 11 "WindHall$Program" "count" "I", .fieldLink RX5 15 "WindHall$Program" "isDone" "[Z"] ++ wsX50)
def wsX5_setOfOpen : List Cond := .code yX5_setOfOpen cX5_setOfOpen 3 (some .int) :: ([.fieldLink RX5 11 "WindHall$Program" "count" "I", .fieldLink RX5 15 "WindHall$Program" "isDone" "[Z"] ++ wsX50)
def wsX5_isIn : List Cond := .code yX5_isIn cX5_isIn 2 (some .boolean) :: ([])
def wsX5_cell : List Cond := .code yX5_cell cX5_cell 2 (some .int) :: ([])
def wsX5_sumBy : List Cond := .code yX5_sumBy cX5_sumBy 4 (some .int) :: ([.fieldLink RX5 21 "WindHall$Program" "move" "[[I", .fieldLink RX5 44 "WindHall$Program" "rest" "[I", .methodLink RX5 68 yX5_cell, .static yX5_cell, .initialized RX5, .code yX5_cell cX5_cell 2 (some .int)] ++ wsX50)
def wsX5_firstOfLeast : List Cond := .code yX5_firstOfLeast cX5_firstOfLeast 7 (some .int) :: ([.constant RX5 91 (2147483647), .fieldLink RX5 11 "WindHall$Program" "count" "I", .methodLink RX5 75 yX5_isIn, .static yX5_isIn, .initialized RX5, .code yX5_isIn cX5_isIn 2 (some .boolean), .methodLink RX5 82 yX5_sumBy, .instanceMethod yX5_sumBy, .selects RX5 yX5_sumBy yX5_sumBy, .code yX5_sumBy cX5_sumBy 4 (some .int), .fieldLink RX5 21 "WindHall$Program" "move" "[[I", .fieldLink RX5 44 "WindHall$Program" "rest" "[I", .methodLink RX5 68 yX5_cell, .static yX5_cell, .code yX5_cell cX5_cell 2 (some .int)] ++ wsX50)
def wsX5_setRest : List Cond := .code yX5_setRest cX5_setRest 4 none :: ([.fieldLink RX5 11 "WindHall$Program" "count" "I", .fieldLink RX5 44 "WindHall$Program" "rest" "[I", .methodLink RX5 75 yX5_isIn, .static yX5_isIn, .initialized RX5, .code yX5_isIn cX5_isIn 2 (some .boolean), .methodLink RX5 68 yX5_cell, .static yX5_cell, .code yX5_cell cX5_cell 2 (some .int), .methodLink RX5 79 yX5_firstOfLeast, .instanceMethod yX5_firstOfLeast, .selects RX5 yX5_firstOfLeast yX5_firstOfLeast, .code yX5_firstOfLeast cX5_firstOfLeast 7 (some .int), .constant RX5 91 (2147483647), .methodLink RX5 82 yX5_sumBy, .instanceMethod yX5_sumBy, .selects RX5 yX5_sumBy yX5_sumBy, .code yX5_sumBy cX5_sumBy 4 (some .int), .fieldLink RX5 21 "WindHall$Program" "move" "[[I"] ++ wsX50)
def wsJ6_bitCount_0f7a4 : List Cond := .code yJ6_bitCount_0f7a4 cJ6_bitCount_0f7a4 1 (some .int) :: ([.constant RJ6 265 (1431655765), .constant RJ6 266 (858993459), .constant RJ6 267 (252645135)])
def wsX5_setOrder_r1 : List Cond := [Cond.fieldLink RX5 28 "WindHall$Program" "planned" "I", Cond.fieldLink RX5 34 "WindHall$Program" "row" "[I", Cond.methodLink RX5 86 yJ6_bitCount_0f7a4, Cond.static yJ6_bitCount_0f7a4, Cond.initialized RJ6, Cond.code yJ6_bitCount_0f7a4 cJ6_bitCount_0f7a4 1 (some .int), Cond.constant RJ6 265 (1431655765), Cond.constant RJ6 266 (858993459), Cond.constant RJ6 267 (252645135), Cond.methodLink RX5 79 yX5_firstOfLeast, Cond.instanceMethod yX5_firstOfLeast, Cond.selects RX5 yX5_firstOfLeast yX5_firstOfLeast, Cond.initialized RX5, Cond.code yX5_firstOfLeast cX5_firstOfLeast 7 (some .int), Cond.constant RX5 91 (2147483647), Cond.fieldLink RX5 11 "WindHall$Program" "count" "I", Cond.methodLink RX5 75 yX5_isIn, Cond.static yX5_isIn, Cond.code yX5_isIn cX5_isIn 2 (some .boolean), Cond.methodLink RX5 82 yX5_sumBy, Cond.instanceMethod yX5_sumBy, Cond.selects RX5 yX5_sumBy yX5_sumBy, Cond.code yX5_sumBy cX5_sumBy 4 (some .int), Cond.fieldLink RX5 21 "WindHall$Program" "move" "[[I"]
def wsX5_setOrder_r2 : List Cond := [Cond.fieldLink RX5 44 "WindHall$Program" "rest" "[I", Cond.methodLink RX5 68 yX5_cell, Cond.static yX5_cell, Cond.code yX5_cell cX5_cell 2 (some .int)]
def wsX5_setOrder : List Cond := .code yX5_setOrder cX5_setOrder 6 none :: ((wsX5_setOrder_r1 ++ wsX5_setOrder_r2) ++ wsX50)
def wsX5_plan_r1 : List Cond := [Cond.fieldLink RX5 24 "WindHall$Program" "isPlanned" "Z", Cond.fieldLink RX5 44 "WindHall$Program" "rest" "[I", Cond.fieldLink RX5 31 "WindHall$Program" "leastSum" "I", Cond.methodLink RX5 61 yX5_setOfOpen, Cond.instanceMethod yX5_setOfOpen, Cond.selects RX5 yX5_setOfOpen yX5_setOfOpen, Cond.initialized RX5, Cond.code yX5_setOfOpen cX5_setOfOpen 3 (some .int), Cond.fieldLink RX5 11 "WindHall$Program" "count" "I", Cond.fieldLink RX5 15 "WindHall$Program" "isDone" "[Z", Cond.methodLink RX5 65 yX5_setRest, Cond.instanceMethod yX5_setRest, Cond.selects RX5 yX5_setRest yX5_setRest, Cond.code yX5_setRest cX5_setRest 4 none, Cond.methodLink RX5 75 yX5_isIn, Cond.static yX5_isIn, Cond.code yX5_isIn cX5_isIn 2 (some .boolean), Cond.methodLink RX5 68 yX5_cell, Cond.static yX5_cell, Cond.code yX5_cell cX5_cell 2 (some .int), Cond.methodLink RX5 79 yX5_firstOfLeast, Cond.instanceMethod yX5_firstOfLeast, Cond.selects RX5 yX5_firstOfLeast yX5_firstOfLeast, Cond.code yX5_firstOfLeast cX5_firstOfLeast 7 (some .int)]
def wsX5_plan_r2 : List Cond := [Cond.constant RX5 91 (2147483647), Cond.methodLink RX5 82 yX5_sumBy, Cond.instanceMethod yX5_sumBy, Cond.selects RX5 yX5_sumBy yX5_sumBy, Cond.code yX5_sumBy cX5_sumBy 4 (some .int), Cond.fieldLink RX5 21 "WindHall$Program" "move" "[[I", Cond.methodLink RX5 71 yX5_setOrder, Cond.instanceMethod yX5_setOrder, Cond.selects RX5 yX5_setOrder yX5_setOrder, Cond.code yX5_setOrder cX5_setOrder 6 none, Cond.fieldLink RX5 28 "WindHall$Program" "planned" "I", Cond.fieldLink RX5 34 "WindHall$Program" "row" "[I", Cond.methodLink RX5 86 yJ6_bitCount_0f7a4, Cond.static yJ6_bitCount_0f7a4, Cond.initialized RJ6, Cond.code yJ6_bitCount_0f7a4 cJ6_bitCount_0f7a4 1 (some .int), Cond.constant RJ6 265 (1431655765), Cond.constant RJ6 266 (858993459), Cond.constant RJ6 267 (252645135)]
def wsX5_plan : List Cond := .code yX5_plan cX5_plan 3 none :: ((wsX5_plan_r1 ++ wsX5_plan_r2) ++ wsX50)
def wsX6_init : List Cond := .code yX6_init cX6_init 1 none :: ([.methodLink RX6 3 objectInit, .instanceMethod objectInit, .code objectInit ⟨#[0xb1]⟩ 1 none, .fieldLink RX6 9 "WindHall$Settling" "n" "I", .fieldLink RX6 15 "WindHall$Settling" "d" "I", .fieldLink RX6 18 "WindHall$Settling" "most" "I", .constant RX6 21 (1000000), .fieldLink RX6 22 "WindHall$Settling" "limit" "I", .fieldLink RX6 25 "WindHall$Settling" "state" "I", .fieldLink RX6 28 "WindHall$Settling" "came" "I", .fieldLink RX6 31 "WindHall$Settling" "beyond" "I", .classLink RX6 34 "[[I", .arrayClass .int, .fieldLink RX6 36 "WindHall$Settling" "latest" "[[I"] ++ wsX60)
def wsX6_startAnew : List Cond := .code yX6_startAnew cX6_startAnew 1 none :: ([.fieldLink RX6 25 "WindHall$Settling" "state" "I", .fieldLink RX6 28 "WindHall$Settling" "came" "I", .fieldLink RX6 31 "WindHall$Settling" "beyond" "I"] ++ wsX60)
def wsX6_firstBeyond : List Cond := .code yX6_firstBeyond cX6_firstBeyond 3 (some .int) :: ([.methodLink RX6 51 Lib.Math.abs.name, .static Lib.Math.abs.name, .initialized "java/lang/Math", .code Lib.Math.abs.name Lib.Math.abs.code 1 (some .int), .fieldLink RX6 22 "WindHall$Settling" "limit" "I"] ++ wsX60)
def wsX6_readingAgo : List Cond := .code yX6_readingAgo cX6_readingAgo 3 (some .int) :: ([.fieldLink RX6 36 "WindHall$Settling" "latest" "[[I", .fieldLink RX6 28 "WindHall$Settling" "came" "I", .methodLink RX6 72 yJ9_floorMod_7cf53, .static yJ9_floorMod_7cf53, .initialized RJ9, .code yJ9_floorMod_7cf53 cJ9_floorMod_7cf53 3 (some .int)] ++ wsX60)
def wsX6_spreadOfLatest : List Cond := .code yX6_spreadOfLatest cX6_spreadOfLatest 6 (some .int) :: ([.constant RX6 60 (2000000), .constant RX6 61 (-2000000), .fieldLink RX6 9 "WindHall$Settling" "n" "I", .methodLink RX6 66 Lib.Math.min.name, .static Lib.Math.min.name, .initialized "java/lang/Math", .code Lib.Math.min.name Lib.Math.min.code 2 (some .int), .methodLink RX6 69 Lib.Math.max.name, .static Lib.Math.max.name, .code Lib.Math.max.name Lib.Math.max.code 2 (some .int), .methodLink RX6 62 yX6_readingAgo, .instanceMethod yX6_readingAgo, .selects RX6 yX6_readingAgo yX6_readingAgo, .initialized RX6, .code yX6_readingAgo cX6_readingAgo 3 (some .int), .fieldLink RX6 36 "WindHall$Settling" "latest" "[[I", .fieldLink RX6 28 "WindHall$Settling" "came" "I", .methodLink RX6 72 yJ9_floorMod_7cf53, .static yJ9_floorMod_7cf53, .initialized RJ9, .code yJ9_floorMod_7cf53 cJ9_floorMod_7cf53 3 (some .int)] ++ wsX60)
def wsX6_isSettled_r1 : List Cond := [Cond.fieldLink RX6 28 "WindHall$Settling" "came" "I", Cond.fieldLink RX6 9 "WindHall$Settling" "n" "I", Cond.fieldLink RX6 15 "WindHall$Settling" "d" "I", Cond.methodLink RX6 57 yX6_spreadOfLatest, Cond.instanceMethod yX6_spreadOfLatest, Cond.selects RX6 yX6_spreadOfLatest yX6_spreadOfLatest, Cond.initialized RX6, Cond.code yX6_spreadOfLatest cX6_spreadOfLatest 6 (some .int), Cond.constant RX6 60 (2000000), Cond.constant RX6 61 (-2000000), Cond.methodLink RX6 66 Lib.Math.min.name, Cond.static Lib.Math.min.name, Cond.initialized "java/lang/Math", Cond.code Lib.Math.min.name Lib.Math.min.code 2 (some .int), Cond.methodLink RX6 69 Lib.Math.max.name, Cond.static Lib.Math.max.name, Cond.code Lib.Math.max.name Lib.Math.max.code 2 (some .int), Cond.methodLink RX6 62 yX6_readingAgo, Cond.instanceMethod yX6_readingAgo, Cond.selects RX6 yX6_readingAgo yX6_readingAgo, Cond.code yX6_readingAgo cX6_readingAgo 3 (some .int), Cond.fieldLink RX6 36 "WindHall$Settling" "latest" "[[I", Cond.methodLink RX6 72 yJ9_floorMod_7cf53, Cond.static yJ9_floorMod_7cf53]
def wsX6_isSettled_r2 : List Cond := [Cond.initialized RJ9, Cond.code yJ9_floorMod_7cf53 cJ9_floorMod_7cf53 3 (some .int)]
def wsX6_isSettled : List Cond := .code yX6_isSettled cX6_isSettled 2 (some .boolean) :: ((wsX6_isSettled_r1 ++ wsX6_isSettled_r2) ++ wsX60)
def wsX6_take_r1 : List Cond := [Cond.fieldLink RX6 36 "WindHall$Settling" "latest" "[[I", Cond.fieldLink RX6 28 "WindHall$Settling" "came" "I", Cond.fieldLink RX6 31 "WindHall$Settling" "beyond" "I", Cond.fieldLink RX6 25 "WindHall$Settling" "state" "I", Cond.fieldLink RX6 18 "WindHall$Settling" "most" "I", Cond.static yX9_setRow, Cond.initialized RX9, Cond.code yX9_setRow cX9_setRow 4 none, Cond.methodLink RX6 43 yX6_firstBeyond, Cond.instanceMethod yX6_firstBeyond, Cond.selects RX6 yX6_firstBeyond yX6_firstBeyond, Cond.initialized RX6, Cond.code yX6_firstBeyond cX6_firstBeyond 3 (some .int), Cond.methodLink RX6 51 Lib.Math.abs.name, Cond.static Lib.Math.abs.name, Cond.initialized "java/lang/Math", Cond.code Lib.Math.abs.name Lib.Math.abs.code 1 (some .int), Cond.fieldLink RX6 22 "WindHall$Settling" "limit" "I", Cond.methodLink RX6 47 yX6_isSettled, Cond.instanceMethod yX6_isSettled, Cond.selects RX6 yX6_isSettled yX6_isSettled, Cond.code yX6_isSettled cX6_isSettled 2 (some .boolean), Cond.fieldLink RX6 9 "WindHall$Settling" "n" "I", Cond.fieldLink RX6 15 "WindHall$Settling" "d" "I"]
def wsX6_take_r2 : List Cond := [Cond.methodLink RX6 57 yX6_spreadOfLatest, Cond.instanceMethod yX6_spreadOfLatest, Cond.selects RX6 yX6_spreadOfLatest yX6_spreadOfLatest, Cond.code yX6_spreadOfLatest cX6_spreadOfLatest 6 (some .int), Cond.constant RX6 60 (2000000), Cond.constant RX6 61 (-2000000), Cond.methodLink RX6 66 Lib.Math.min.name, Cond.static Lib.Math.min.name, Cond.code Lib.Math.min.name Lib.Math.min.code 2 (some .int), Cond.methodLink RX6 69 Lib.Math.max.name, Cond.static Lib.Math.max.name, Cond.code Lib.Math.max.name Lib.Math.max.code 2 (some .int), Cond.methodLink RX6 62 yX6_readingAgo, Cond.instanceMethod yX6_readingAgo, Cond.selects RX6 yX6_readingAgo yX6_readingAgo, Cond.code yX6_readingAgo cX6_readingAgo 3 (some .int), Cond.methodLink RX6 72 yJ9_floorMod_7cf53, Cond.static yJ9_floorMod_7cf53, Cond.initialized RJ9, Cond.code yJ9_floorMod_7cf53 cJ9_floorMod_7cf53 3 (some .int)]
def wsX6_take : List Cond := .code yX6_take cX6_take 5 (some .int) :: ((wsX6_take_r1 ++ wsX6_take_r2) ++ wsX60)
def wsX6_sumOfLatest : List Cond := .code yX6_sumOfLatest cX6_sumOfLatest 4 (some .int) :: ([.fieldLink RX6 9 "WindHall$Settling" "n" "I", .methodLink RX6 62 yX6_readingAgo, .instanceMethod yX6_readingAgo, .selects RX6 yX6_readingAgo yX6_readingAgo, .initialized RX6, .code yX6_readingAgo cX6_readingAgo 3 (some .int), .fieldLink RX6 36 "WindHall$Settling" "latest" "[[I", .fieldLink RX6 28 "WindHall$Settling" "came" "I", .methodLink RX6 72 yJ9_floorMod_7cf53, .static yJ9_floorMod_7cf53, .initialized RJ9, .code yJ9_floorMod_7cf53 cJ9_floorMod_7cf53 3 (some .int)] ++ wsX60)
def wsX7_init : List Cond := .code yX7_init cX7_init 1 none :: ([.methodLink RX7 1 objectInit, .instanceMethod objectInit, .code objectInit ⟨#[0xb1]⟩ 1 none, .fieldLink RX7 9 "WindHall$Sheet" "lane" "I", .fieldLink RX7 13 "WindHall$Sheet" "size" "I", .arrayClass .int, .fieldLink RX7 16 "WindHall$Sheet" "cells" "[I"] ++ wsX70)
def wsX7_makeNew : List Cond := .code yX7_makeNew cX7_makeNew 4 none :: ([.fieldLink RX7 9 "WindHall$Sheet" "lane" "I", .fieldLink RX7 13 "WindHall$Sheet" "size" "I", .fieldLink RX7 16 "WindHall$Sheet" "cells" "[I"] ++ wsX70)
def wsX7_faultOfLane : List Cond := .code yX7_faultOfLane cX7_faultOfLane 2 (some .int) :: ([.fieldLink RX7 9 "WindHall$Sheet" "lane" "I"] ++ wsX70)
def wsX7_faultOfCells : List Cond := .code yX7_faultOfCells cX7_faultOfCells 4 (some .int) :: ([.fieldLink RX7 9 "WindHall$Sheet" "lane" "I", .fieldLink RX7 13 "WindHall$Sheet" "size" "I"] ++ wsX70)
def wsX7_set : List Cond := .code yX7_set cX7_set 3 none :: ([.fieldLink RX7 9 "WindHall$Sheet" "lane" "I", .fieldLink RX7 16 "WindHall$Sheet" "cells" "[I"] ++ wsX70)
def wsX7_get : List Cond := .code yX7_get cX7_get 2 (some .int) :: ([.fieldLink RX7 16 "WindHall$Sheet" "cells" "[I"] ++ wsX70)
def wsX8_init : List Cond := .code yX8_init cX8_init 1 none :: ([.methodLink RX8 3 objectInit, .instanceMethod objectInit, .code objectInit ⟨#[0xb1]⟩ 1 none, .fieldLink RX8 9 "WindHall$Tubes" "count" "I", .arrayClass .boolean, .fieldLink RX8 15 "WindHall$Tubes" "isLost" "[Z", .arrayClass .int, .fieldLink RX8 19 "WindHall$Tubes" "pressure" "[I", .fieldLink RX8 23 "WindHall$Tubes" "area" "[I"] ++ wsX80)
def wsX8_isPressure : List Cond := .code yX8_isPressure cX8_isPressure 1 (some .boolean) :: ([.static yX9_isWithin, .initialized RX9, .code yX9_isWithin cX9_isWithin 2 (some .boolean)])
def wsX8_append : List Cond := .code yX8_append cX8_append 2 (some .int) :: ([.fieldLink RX8 23 "WindHall$Tubes" "area" "[I", .fieldLink RX8 9 "WindHall$Tubes" "count" "I", .fieldLink RX8 15 "WindHall$Tubes" "isLost" "[Z", .fieldLink RX8 19 "WindHall$Tubes" "pressure" "[I"] ++ wsX80)
def wsX8_takeFrom : List Cond := .code yX8_takeFrom cX8_takeFrom 5 none :: ([.fieldLink RX8 9 "WindHall$Tubes" "count" "I", .fieldLink RX8 15 "WindHall$Tubes" "isLost" "[Z", .fieldLink RX8 19 "WindHall$Tubes" "pressure" "[I", .methodLink RX8 30 yX7_get, .instanceMethod yX7_get, .selects RX7 yX7_get yX7_get, .initialized RX7, .code yX7_get cX7_get 2 (some .int), .fieldLink RX7 16 "WindHall$Sheet" "cells" "[I", .methodLink RX8 36 yX8_isPressure, .static yX8_isPressure, .initialized RX8, .code yX8_isPressure cX8_isPressure 1 (some .boolean), .static yX9_isWithin, .initialized RX9, .code yX9_isWithin cX9_isWithin 2 (some .boolean)] ++ wsX80 ++ wsX70)
def wsX8_howManyLost : List Cond := .code yX8_howManyLost cX8_howManyLost 3 (some .int) :: ([.fieldLink RX8 9 "WindHall$Tubes" "count" "I", .fieldLink RX8 15 "WindHall$Tubes" "isLost" "[Z"] ++ wsX80)
def wsX8_sum : List Cond := .code yX8_sum cX8_sum 3 (some .int) :: ([.fieldLink RX8 9 "WindHall$Tubes" "count" "I", .fieldLink RX8 23 "WindHall$Tubes" "area" "[I", .fieldLink RX8 19 "WindHall$Tubes" "pressure" "[I"] ++ wsX80)
def wsX8_canMend : List Cond := .code yX8_canMend cX8_canMend 7 (some .boolean) :: ([.fieldLink RX8 23 "WindHall$Tubes" "area" "[I", .fieldLink RX8 19 "WindHall$Tubes" "pressure" "[I", .methodLink RX8 57 Lib.Math.max.name, .static Lib.Math.max.name, .initialized "java/lang/Math", .code Lib.Math.max.name Lib.Math.max.code 2 (some .int), .methodLink RX8 60 Lib.Math.min.name, .static Lib.Math.min.name, .code Lib.Math.min.name Lib.Math.min.code 2 (some .int), .methodLink RX8 53 yJ9_floorDiv_7cf53, .static yJ9_floorDiv_7cf53, .initialized RJ9, .code yJ9_floorDiv_7cf53 cJ9_floorDiv_7cf53 3 (some .int)] ++ wsX80)
def wsX8_compare_r1 : List Cond := [Cond.methodLink RX8 44 Lib.Math.abs.name, Cond.static Lib.Math.abs.name, Cond.initialized "java/lang/Math", Cond.code Lib.Math.abs.name Lib.Math.abs.code 1 (some .int), Cond.fieldLink RX8 9 "WindHall$Tubes" "count" "I", Cond.methodLink RX8 40 yX8_sum, Cond.instanceMethod yX8_sum, Cond.selects RX8 yX8_sum yX8_sum, Cond.initialized RX8, Cond.code yX8_sum cX8_sum 3 (some .int), Cond.fieldLink RX8 23 "WindHall$Tubes" "area" "[I", Cond.fieldLink RX8 19 "WindHall$Tubes" "pressure" "[I", Cond.methodLink RX8 49 yX8_canMend, Cond.instanceMethod yX8_canMend, Cond.selects RX8 yX8_canMend yX8_canMend, Cond.code yX8_canMend cX8_canMend 7 (some .boolean), Cond.methodLink RX8 57 Lib.Math.max.name, Cond.static Lib.Math.max.name, Cond.code Lib.Math.max.name Lib.Math.max.code 2 (some .int), Cond.methodLink RX8 60 Lib.Math.min.name, Cond.static Lib.Math.min.name, Cond.code Lib.Math.min.name Lib.Math.min.code 2 (some .int), Cond.methodLink RX8 53 yJ9_floorDiv_7cf53, Cond.static yJ9_floorDiv_7cf53]
def wsX8_compare_r2 : List Cond := [Cond.initialized RJ9, Cond.code yJ9_floorDiv_7cf53 cJ9_floorDiv_7cf53 3 (some .int)]
def wsX8_compare : List Cond := .code yX8_compare cX8_compare 6 (some .int) :: ((wsX8_compare_r1 ++ wsX8_compare_r2) ++ wsX80)
def wsX8_pressureOfLost : List Cond := .code yX8_pressureOfLost cX8_pressureOfLost 5 (some .int) :: ([.fieldLink RX8 9 "WindHall$Tubes" "count" "I", .fieldLink RX8 15 "WindHall$Tubes" "isLost" "[Z", .fieldLink RX8 23 "WindHall$Tubes" "area" "[I", .methodLink RX8 40 yX8_sum, .instanceMethod yX8_sum, .selects RX8 yX8_sum yX8_sum, .initialized RX8, .code yX8_sum cX8_sum 3 (some .int), .fieldLink RX8 19 "WindHall$Tubes" "pressure" "[I", .methodLink RX8 53 yJ9_floorDiv_7cf53, .static yJ9_floorDiv_7cf53, .initialized RJ9, .code yJ9_floorDiv_7cf53 cJ9_floorDiv_7cf53 3 (some .int), .methodLink RX8 36 yX8_isPressure, .static yX8_isPressure, .code yX8_isPressure cX8_isPressure 1 (some .boolean), .static yX9_isWithin, .initialized RX9, .code yX9_isWithin cX9_isWithin 2 (some .boolean)] ++ wsX80)
def wsX9_init_r1 : List Cond := [Cond.methodLink RX9 1 objectInit, Cond.instanceMethod objectInit, Cond.code objectInit ⟨#[0xb1]⟩ 1 none, Cond.classLink RX9 7 RX0, Cond.instantiable RX0 7, Cond.initialized RX0, Cond.fieldLink RX9 10 "WindHall" "balance" "LWindHall$Balance;", Cond.classLink RX9 16 RX1, Cond.instantiable RX1 4, Cond.initialized RX1, Cond.fieldLink RX9 19 "WindHall" "calibration" "LWindHall$Calibration;", Cond.classLink RX9 23 RX3, Cond.instantiable RX3 7, Cond.initialized RX3, Cond.fieldLink RX9 26 "WindHall" "corrections" "LWindHall$Corrections;", Cond.classLink RX9 30 RX5, Cond.instantiable RX5 10, Cond.initialized RX5, Cond.fieldLink RX9 33 "WindHall" "program" "LWindHall$Program;", Cond.classLink RX9 37 RX6, Cond.instantiable RX6 8, Cond.initialized RX6, Cond.fieldLink RX9 40 "WindHall" "settling" "LWindHall$Settling;", Cond.classLink RX9 44 RX8]
def wsX9_init_r2 : List Cond := [Cond.instantiable RX8 4, Cond.initialized RX8, Cond.fieldLink RX9 47 "WindHall" "tubes" "LWindHall$Tubes;", Cond.classLink RX9 51 RX7, Cond.fieldLink RX9 53 "WindHall" "sheets" "[LWindHall$Sheet;", Cond.instantiable RX7 3, Cond.initialized RX7, Cond.instanceMethod yX0_init, Cond.code yX0_init cX0_init 1 none, Cond.methodLink RX0 3 objectInit, Cond.classLink RX0 9 "[I", Cond.arrayClass .int, Cond.fieldLink RX0 11 "WindHall$Balance" "first" "[[I", Cond.classLink RX0 17 "[[I", Cond.fieldLink RX0 18 "WindHall$Balance" "second" "[[I", Cond.fieldLink RX0 21 "WindHall$Balance" "load" "[I", Cond.fieldLink RX0 24 "WindHall$Balance" "still" "Z", Cond.fieldLink RX0 28 "WindHall$Balance" "away" "I", Cond.fieldLink RX0 32 "WindHall$Balance" "given" "[I", Cond.classLink RX0 35 RX4, Cond.instantiable RX4 2, Cond.initialized RX4, Cond.fieldLink RX0 38 "WindHall$Balance" "equations" "LWindHall$Equations;", Cond.instanceMethod yX4_init]
def wsX9_init_r3 : List Cond := [Cond.code yX4_init cX4_init 1 none, Cond.methodLink RX4 3 objectInit, Cond.classLink RX4 9 "[[J", Cond.arrayClass .long, Cond.fieldLink RX4 11 "WindHall$Equations" "left" "[[J", Cond.fieldLink RX4 16 "WindHall$Equations" "right" "[J", Cond.instanceMethod yX1_init, Cond.code yX1_init cX1_init 1 none, Cond.methodLink RX1 3 objectInit, Cond.classLink RX1 11 "[[I", Cond.fieldLink RX1 13 "WindHall$Calibration" "loads" "[[I", Cond.fieldLink RX1 16 "WindHall$Calibration" "readings" "[[I", Cond.fieldLink RX1 19 "WindHall$Calibration" "count" "I", Cond.classLink RX1 23 RX4, Cond.fieldLink RX1 26 "WindHall$Calibration" "equations" "LWindHall$Equations;", Cond.methodLink RX9 25 yX3_init, Cond.instanceMethod yX3_init, Cond.code yX3_init cX3_init 2 none, Cond.methodLink RX3 3 objectInit, Cond.classLink RX3 11 RX2, Cond.fieldLink RX3 13 "WindHall$Corrections" "row" "[LWindHall$Correction;", Cond.fieldLink RX3 17 "WindHall$Corrections" "count" "I", Cond.fieldLink RX3 21 "WindHall$Corrections" "told" "[I", Cond.fieldLink RX3 25 "WindHall$Corrections" "time" "I"]
def wsX9_init_r4 : List Cond := [Cond.fieldLink RX3 28 "WindHall$Corrections" "angle" "I", Cond.fieldLink RX3 31 "WindHall$Corrections" "now" "[J", Cond.fieldLink RX3 35 "WindHall$Corrections" "other" "[J", Cond.instantiable RX2 5, Cond.initialized RX2, Cond.instanceMethod yX2_init, Cond.code yX2_init cX2_init 1 none, Cond.methodLink RX2 3 objectInit, Cond.fieldLink RX2 9 "WindHall$Correction" "on" "Z", Cond.fieldLink RX2 15 "WindHall$Correction" "kind" "I", Cond.fieldLink RX2 19 "WindHall$Correction" "u" "I", Cond.fieldLink RX2 22 "WindHall$Correction" "v" "I", Cond.fieldLink RX2 25 "WindHall$Correction" "w" "I", Cond.instanceMethod yX5_init, Cond.code yX5_init cX5_init 1 none, Cond.methodLink RX5 5 objectInit, Cond.fieldLink RX5 11 "WindHall$Program" "count" "I", Cond.arrayClass .boolean, Cond.fieldLink RX5 15 "WindHall$Program" "isDone" "[Z", Cond.classLink RX5 19 "[[I", Cond.fieldLink RX5 21 "WindHall$Program" "move" "[[I", Cond.fieldLink RX5 24 "WindHall$Program" "isPlanned" "Z", Cond.fieldLink RX5 28 "WindHall$Program" "planned" "I", Cond.fieldLink RX5 31 "WindHall$Program" "leastSum" "I"]
def wsX9_init_r5 : List Cond := [Cond.fieldLink RX5 34 "WindHall$Program" "row" "[I", Cond.fieldLink RX5 38 "WindHall$Program" "angle" "[I", Cond.fieldLink RX5 41 "WindHall$Program" "speed" "[I", Cond.fieldLink RX5 44 "WindHall$Program" "rest" "[I", Cond.instanceMethod yX6_init, Cond.code yX6_init cX6_init 1 none, Cond.methodLink RX6 3 objectInit, Cond.fieldLink RX6 9 "WindHall$Settling" "n" "I", Cond.fieldLink RX6 15 "WindHall$Settling" "d" "I", Cond.fieldLink RX6 18 "WindHall$Settling" "most" "I", Cond.constant RX6 21 (1000000), Cond.fieldLink RX6 22 "WindHall$Settling" "limit" "I", Cond.fieldLink RX6 25 "WindHall$Settling" "state" "I", Cond.fieldLink RX6 28 "WindHall$Settling" "came" "I", Cond.fieldLink RX6 31 "WindHall$Settling" "beyond" "I", Cond.classLink RX6 34 "[[I", Cond.fieldLink RX6 36 "WindHall$Settling" "latest" "[[I", Cond.instanceMethod yX8_init, Cond.code yX8_init cX8_init 1 none, Cond.methodLink RX8 3 objectInit, Cond.fieldLink RX8 9 "WindHall$Tubes" "count" "I", Cond.fieldLink RX8 15 "WindHall$Tubes" "isLost" "[Z", Cond.fieldLink RX8 19 "WindHall$Tubes" "pressure" "[I", Cond.fieldLink RX8 23 "WindHall$Tubes" "area" "[I"]
def wsX9_init_r6 : List Cond := [Cond.instanceMethod yX7_init, Cond.code yX7_init cX7_init 1 none, Cond.methodLink RX7 1 objectInit, Cond.fieldLink RX7 9 "WindHall$Sheet" "lane" "I", Cond.fieldLink RX7 13 "WindHall$Sheet" "size" "I", Cond.fieldLink RX7 16 "WindHall$Sheet" "cells" "[I"]
def wsX9_init : List Cond := .code yX9_init cX9_init 2 none :: ((wsX9_init_r1 ++ (wsX9_init_r2 ++ (wsX9_init_r3 ++ (wsX9_init_r4 ++ (wsX9_init_r5 ++ wsX9_init_r6))))) ++ wsX00 ++ wsX90 ++ wsX10 ++ wsX30 ++ wsX50 ++ wsX60 ++ wsX80 ++ wsX70 ++ wsX40 ++ wsX20)
def wsX9_isIndex : List Cond := .code yX9_isIndex cX9_isIndex 2 (some .boolean) :: ([])
def wsX9_first : List Cond := .code yX9_first cX9_first 4 (some .int) :: ([.fieldLink RX9 10 "WindHall" "balance" "LWindHall$Balance;", .fieldLink RX9 65 "WindHall$Balance" "first" "[[I", .methodLink RX9 58 yX9_isIndex, .static yX9_isIndex, .initialized RX9, .code yX9_isIndex cX9_isIndex 2 (some .boolean), .methodLink RX9 62 yX9_isWithin, .static yX9_isWithin, .code yX9_isWithin cX9_isWithin 2 (some .boolean)] ++ wsX90 ++ wsX00)
def wsX9_second : List Cond := .code yX9_second cX9_second 4 (some .int) :: ([.fieldLink RX9 10 "WindHall" "balance" "LWindHall$Balance;", .fieldLink RX9 69 "WindHall$Balance" "second" "[[I", .methodLink RX9 58 yX9_isIndex, .static yX9_isIndex, .initialized RX9, .code yX9_isIndex cX9_isIndex 2 (some .boolean), .methodLink RX9 62 yX9_isWithin, .static yX9_isWithin, .code yX9_isWithin cX9_isWithin 2 (some .boolean)] ++ wsX90 ++ wsX00)
def wsX9_areLoads : List Cond := .code yX9_areLoads cX9_areLoads 3 (some .boolean) :: ([.methodLink RX9 62 yX9_isWithin, .static yX9_isWithin, .initialized RX9, .code yX9_isWithin cX9_isWithin 2 (some .boolean)])
def wsX9_reading : List Cond := .code yX9_reading cX9_reading 5 (some .int) :: ([.constant RX9 76 (9999999), .fieldLink RX9 10 "WindHall" "balance" "LWindHall$Balance;", .methodLink RX9 58 yX9_isIndex, .static yX9_isIndex, .initialized RX9, .code yX9_isIndex cX9_isIndex 2 (some .boolean), .methodLink RX9 72 yX9_areLoads, .static yX9_areLoads, .code yX9_areLoads cX9_areLoads 3 (some .boolean), .methodLink RX9 62 yX9_isWithin, .static yX9_isWithin, .code yX9_isWithin cX9_isWithin 2 (some .boolean), .methodLink RX9 77 yX0_readingOf, .instanceMethod yX0_readingOf, .selects RX0 yX0_readingOf yX0_readingOf, .initialized RX0, .code yX0_readingOf cX0_readingOf 6 (some .int), .fieldLink RX0 11 "WindHall$Balance" "first" "[[I", .methodLink RX0 42 yX0_productsOf, .instanceMethod yX0_productsOf, .selects RX0 yX0_productsOf yX0_productsOf, .code yX0_productsOf cX0_productsOf 6 (some .int), .fieldLink RX0 18 "WindHall$Balance" "second" "[[I"] ++ wsX90 ++ wsX00)
def wsX9_areReadings : List Cond := .code yX9_areReadings cX9_areReadings 3 (some .boolean) :: ([.constant RX9 189 (2000000), .methodLink RX9 62 yX9_isWithin, .static yX9_isWithin, .initialized RX9, .code yX9_isWithin cX9_isWithin 2 (some .boolean)])
def wsX9_back_r1 : List Cond := [Cond.fieldLink RX9 10 "WindHall" "balance" "LWindHall$Balance;", Cond.methodLink RX9 81 yX9_areReadings, Cond.static yX9_areReadings, Cond.initialized RX9, Cond.code yX9_areReadings cX9_areReadings 3 (some .boolean), Cond.constant RX9 189 (2000000), Cond.methodLink RX9 62 yX9_isWithin, Cond.static yX9_isWithin, Cond.code yX9_isWithin cX9_isWithin 2 (some .boolean), Cond.methodLink RX9 84 yX0_goBack, Cond.instanceMethod yX0_goBack, Cond.selects RX0 yX0_goBack yX0_goBack, Cond.initialized RX0, Cond.code yX0_goBack cX0_goBack 8 (some .int), Cond.fieldLink RX0 38 "WindHall$Balance" "equations" "LWindHall$Equations;", Cond.fieldLink RX0 32 "WindHall$Balance" "given" "[I", Cond.fieldLink RX0 21 "WindHall$Balance" "load" "[I", Cond.fieldLink RX0 24 "WindHall$Balance" "still" "Z", Cond.constantLong RX0 57 (100), Cond.fieldLink RX0 28 "WindHall$Balance" "away" "I", Cond.methodLink RX0 46 yX0_setLeft, Cond.instanceMethod yX0_setLeft, Cond.selects RX0 yX0_setLeft yX0_setLeft, Cond.code yX0_setLeft cX0_setLeft 3 none]
def wsX9_back_r2 : List Cond := [Cond.fieldLink RX0 67 "WindHall$Equations" "left" "[[J", Cond.fieldLink RX0 11 "WindHall$Balance" "first" "[[I", Cond.methodLink RX0 49 yX4_determinant, Cond.instanceMethod yX4_determinant, Cond.selects RX4 yX4_determinant yX4_determinant, Cond.initialized RX4, Cond.code yX4_determinant cX4_determinant 9 (some .long), Cond.methodLink RX4 20 yX4_term, Cond.instanceMethod yX4_term, Cond.selects RX4 yX4_term yX4_term, Cond.code yX4_term cX4_term 4 (some .long), Cond.fieldLink RX4 16 "WindHall$Equations" "right" "[J", Cond.fieldLink RX4 11 "WindHall$Equations" "left" "[[J", Cond.static yX9_setRow, Cond.code yX9_setRow cX9_setRow 4 none, Cond.methodLink RX0 59 yX0_goRound, Cond.instanceMethod yX0_goRound, Cond.selects RX0 yX0_goRound yX0_goRound, Cond.code yX0_goRound cX0_goRound 6 (some .boolean), Cond.fieldLink RX0 71 "WindHall$Equations" "right" "[J", Cond.methodLink RX0 42 yX0_productsOf, Cond.instanceMethod yX0_productsOf, Cond.selects RX0 yX0_productsOf yX0_productsOf, Cond.code yX0_productsOf cX0_productsOf 6 (some .int)]
def wsX9_back_r3 : List Cond := [Cond.fieldLink RX0 18 "WindHall$Balance" "second" "[[I", Cond.methodLink RX0 75 yX0_nearestLoad, Cond.static yX0_nearestLoad, Cond.code yX0_nearestLoad cX0_nearestLoad 6 (some .int), Cond.constantLong RX0 79 (2), Cond.constantLong RX0 87 (-50), Cond.constantLong RX0 89 (50), Cond.methodLink RX0 91 Lib.MathLoose.min_long.x, Cond.static Lib.MathLoose.min_long.x, Cond.initialized "java/lang/Math", Cond.code Lib.MathLoose.min_long.x Lib.MathLoose.min_long.code 4 (some .long), Cond.methodLink RX0 94 Lib.MathLoose.max_long.x, Cond.static Lib.MathLoose.max_long.x, Cond.code Lib.MathLoose.max_long.x Lib.MathLoose.max_long.code 4 (some .long), Cond.methodLink RX0 81 yJ9_floorDiv_f86c9, Cond.static yJ9_floorDiv_f86c9, Cond.initialized RJ9, Cond.code yJ9_floorDiv_f86c9 cJ9_floorDiv_f86c9 6 (some .long), Cond.methodLink RX0 63 yX0_greatestDistance, Cond.instanceMethod yX0_greatestDistance, Cond.selects RX0 yX0_greatestDistance yX0_greatestDistance, Cond.code yX0_greatestDistance cX0_greatestDistance 4 (some .int), Cond.methodLink RX0 100 Lib.Math.abs.name, Cond.static Lib.Math.abs.name]
def wsX9_back_r4 : List Cond := [Cond.code Lib.Math.abs.name Lib.Math.abs.code 1 (some .int), Cond.methodLink RX0 104 Lib.Math.max.name, Cond.static Lib.Math.max.name, Cond.code Lib.Math.max.name Lib.Math.max.code 2 (some .int), Cond.methodLink RX0 97 yX0_readingOf, Cond.instanceMethod yX0_readingOf, Cond.selects RX0 yX0_readingOf yX0_readingOf, Cond.code yX0_readingOf cX0_readingOf 6 (some .int)]
def wsX9_back : List Cond := .code yX9_back cX9_back 5 (some .int) :: ((wsX9_back_r1 ++ (wsX9_back_r2 ++ (wsX9_back_r3 ++ wsX9_back_r4))) ++ wsX90 ++ wsX00 ++ wsX40)
def wsX9_found : List Cond := .code yX9_found cX9_found 2 (some .int) :: ([.fieldLink RX9 10 "WindHall" "balance" "LWindHall$Balance;", .fieldLink RX9 87 "WindHall$Balance" "load" "[I", .fieldLink RX9 91 "WindHall$Balance" "still" "Z", .fieldLink RX9 95 "WindHall$Balance" "away" "I", .methodLink RX9 58 yX9_isIndex, .static yX9_isIndex, .initialized RX9, .code yX9_isIndex cX9_isIndex 2 (some .boolean)] ++ wsX90 ++ wsX00)
def wsX9_point : List Cond := .code yX9_point cX9_point 7 (some .int) :: ([.fieldLink RX9 19 "WindHall" "calibration" "LWindHall$Calibration;", .fieldLink RX9 99 "WindHall$Calibration" "count" "I", .fieldLink RX9 102 "WindHall$Calibration" "loads" "[[I", .fieldLink RX9 109 "WindHall$Calibration" "readings" "[[I", .methodLink RX9 72 yX9_areLoads, .static yX9_areLoads, .initialized RX9, .code yX9_areLoads cX9_areLoads 3 (some .boolean), .methodLink RX9 62 yX9_isWithin, .static yX9_isWithin, .code yX9_isWithin cX9_isWithin 2 (some .boolean), .methodLink RX9 81 yX9_areReadings, .static yX9_areReadings, .code yX9_areReadings cX9_areReadings 3 (some .boolean), .constant RX9 189 (2000000), .methodLink RX9 105 yX9_setRow, .static yX9_setRow, .code yX9_setRow cX9_setRow 4 none] ++ wsX90 ++ wsX10)
def wsX9_fit_r1 : List Cond := [Cond.constantLong RX9 112 (-1000000000000), Cond.fieldLink RX9 19 "WindHall" "calibration" "LWindHall$Calibration;", Cond.methodLink RX9 58 yX9_isIndex, Cond.static yX9_isIndex, Cond.initialized RX9, Cond.code yX9_isIndex cX9_isIndex 2 (some .boolean), Cond.methodLink RX9 114 yX1_partOfFit, Cond.instanceMethod yX1_partOfFit, Cond.selects RX1 yX1_partOfFit yX1_partOfFit, Cond.initialized RX1, Cond.code yX1_partOfFit cX1_partOfFit 12 (some .long), Cond.fieldLink RX1 26 "WindHall$Calibration" "equations" "LWindHall$Equations;", Cond.constantLong RX1 38 (100), Cond.methodLink RX1 40 Lib.MathLoose.abs_long.x, Cond.static Lib.MathLoose.abs_long.x, Cond.initialized "java/lang/Math", Cond.code Lib.MathLoose.abs_long.x Lib.MathLoose.abs_long.code 2 (some .long), Cond.methodLink RX1 30 yX1_setEquations, Cond.instanceMethod yX1_setEquations, Cond.selects RX1 yX1_setEquations yX1_setEquations, Cond.code yX1_setEquations cX1_setEquations 6 none, Cond.fieldLink RX1 19 "WindHall$Calibration" "count" "I", Cond.fieldLink RX1 13 "WindHall$Calibration" "loads" "[[I", Cond.fieldLink RX1 16 "WindHall$Calibration" "readings" "[[I"]
def wsX9_fit_r2 : List Cond := [Cond.fieldLink RX1 50 "WindHall$Equations" "right" "[J", Cond.fieldLink RX1 54 "WindHall$Equations" "left" "[[J", Cond.methodLink RX1 58 yX1_sumOfProducts, Cond.instanceMethod yX1_sumOfProducts, Cond.selects RX1 yX1_sumOfProducts yX1_sumOfProducts, Cond.code yX1_sumOfProducts cX1_sumOfProducts 6 (some .long), Cond.methodLink RX1 34 yX4_determinant, Cond.instanceMethod yX4_determinant, Cond.selects RX4 yX4_determinant yX4_determinant, Cond.initialized RX4, Cond.code yX4_determinant cX4_determinant 9 (some .long), Cond.methodLink RX4 20 yX4_term, Cond.instanceMethod yX4_term, Cond.selects RX4 yX4_term yX4_term, Cond.code yX4_term cX4_term 4 (some .long), Cond.fieldLink RX4 16 "WindHall$Equations" "right" "[J", Cond.fieldLink RX4 11 "WindHall$Equations" "left" "[[J", Cond.methodLink RX1 46 yX1_commonDivisor, Cond.static yX1_commonDivisor, Cond.code yX1_commonDivisor cX1_commonDivisor 7 (some .long)]
def wsX9_fit : List Cond := .code yX9_fit cX9_fit 4 (some .long) :: ((wsX9_fit_r1 ++ wsX9_fit_r2) ++ wsX90 ++ wsX10 ++ wsX40)
def wsX9_miss_r1 : List Cond := [Cond.fieldLink RX9 19 "WindHall" "calibration" "LWindHall$Calibration;", Cond.fieldLink RX9 99 "WindHall$Calibration" "count" "I", Cond.fieldLink RX9 10 "WindHall" "balance" "LWindHall$Balance;", Cond.methodLink RX9 58 yX9_isIndex, Cond.static yX9_isIndex, Cond.initialized RX9, Cond.code yX9_isIndex cX9_isIndex 2 (some .boolean), Cond.methodLink RX9 118 yX1_greatestMiss, Cond.instanceMethod yX1_greatestMiss, Cond.selects RX1 yX1_greatestMiss yX1_greatestMiss, Cond.initialized RX1, Cond.code yX1_greatestMiss cX1_greatestMiss 7 (some .int), Cond.fieldLink RX1 19 "WindHall$Calibration" "count" "I", Cond.fieldLink RX1 13 "WindHall$Calibration" "loads" "[[I", Cond.fieldLink RX1 16 "WindHall$Calibration" "readings" "[[I", Cond.methodLink RX1 68 Lib.Math.abs.name, Cond.static Lib.Math.abs.name, Cond.initialized "java/lang/Math", Cond.code Lib.Math.abs.name Lib.Math.abs.code 1 (some .int), Cond.methodLink RX1 71 Lib.Math.max.name, Cond.static Lib.Math.max.name, Cond.code Lib.Math.max.name Lib.Math.max.code 2 (some .int), Cond.methodLink RX1 62 yX0_readingOf, Cond.instanceMethod yX0_readingOf]
def wsX9_miss_r2 : List Cond := [Cond.selects RX0 yX0_readingOf yX0_readingOf, Cond.initialized RX0, Cond.code yX0_readingOf cX0_readingOf 6 (some .int), Cond.fieldLink RX0 11 "WindHall$Balance" "first" "[[I", Cond.methodLink RX0 42 yX0_productsOf, Cond.instanceMethod yX0_productsOf, Cond.selects RX0 yX0_productsOf yX0_productsOf, Cond.code yX0_productsOf cX0_productsOf 6 (some .int), Cond.fieldLink RX0 18 "WindHall$Balance" "second" "[[I"]
def wsX9_miss : List Cond := .code yX9_miss cX9_miss 2 (some .int) :: ((wsX9_miss_r1 ++ wsX9_miss_r2) ++ wsX90 ++ wsX10 ++ wsX00)
def wsX9_forget : List Cond := .code yX9_forget cX9_forget 2 (some .int) :: ([.fieldLink RX9 19 "WindHall" "calibration" "LWindHall$Calibration;", .fieldLink RX9 99 "WindHall$Calibration" "count" "I"] ++ wsX90 ++ wsX10)
def wsX9_correct_r1 : List Cond := [Cond.fieldLink RX9 26 "WindHall" "corrections" "LWindHall$Corrections;", Cond.fieldLink RX9 128 "WindHall$Corrections" "count" "I", Cond.methodLink RX9 122 yX2_isAsTold, Cond.static yX2_isAsTold, Cond.initialized RX2, Cond.code yX2_isAsTold cX2_isAsTold 4 (some .boolean), Cond.static yX9_isWithin, Cond.initialized RX9, Cond.code yX9_isWithin cX9_isWithin 2 (some .boolean), Cond.methodLink RX9 129 yX3_append, Cond.instanceMethod yX3_append, Cond.selects RX3 yX3_append yX3_append, Cond.initialized RX3, Cond.code yX3_append cX3_append 5 (some .int), Cond.fieldLink RX3 13 "WindHall$Corrections" "row" "[LWindHall$Correction;", Cond.fieldLink RX3 17 "WindHall$Corrections" "count" "I", Cond.methodLink RX3 39 yX2_become, Cond.instanceMethod yX2_become, Cond.selects RX2 yX2_become yX2_become, Cond.code yX2_become cX2_become 5 none, Cond.fieldLink RX2 9 "WindHall$Correction" "on" "Z", Cond.fieldLink RX2 15 "WindHall$Correction" "kind" "I", Cond.fieldLink RX2 19 "WindHall$Correction" "u" "I", Cond.fieldLink RX2 22 "WindHall$Correction" "v" "I"]
def wsX9_correct_r2 : List Cond := [Cond.fieldLink RX2 25 "WindHall$Correction" "w" "I"]
def wsX9_correct : List Cond := .code yX9_correct cX9_correct 5 (some .int) :: ((wsX9_correct_r1 ++ wsX9_correct_r2) ++ wsX90 ++ wsX30 ++ wsX20)
def wsX9_turn : List Cond := .code yX9_turn cX9_turn 4 (some .int) :: ([.fieldLink RX9 26 "WindHall" "corrections" "LWindHall$Corrections;", .fieldLink RX9 128 "WindHall$Corrections" "count" "I", .fieldLink RX9 132 "WindHall$Corrections" "row" "[LWindHall$Correction;", .fieldLink RX9 136 "WindHall$Correction" "on" "Z", .methodLink RX9 58 yX9_isIndex, .static yX9_isIndex, .initialized RX9, .code yX9_isIndex cX9_isIndex 2 (some .boolean)] ++ wsX90 ++ wsX30 ++ wsX20)
def wsX9_swap : List Cond := .code yX9_swap cX9_swap 3 (some .int) :: ([.fieldLink RX9 26 "WindHall" "corrections" "LWindHall$Corrections;", .fieldLink RX9 128 "WindHall$Corrections" "count" "I", .fieldLink RX9 132 "WindHall$Corrections" "row" "[LWindHall$Correction;", .methodLink RX9 58 yX9_isIndex, .static yX9_isIndex, .initialized RX9, .code yX9_isIndex cX9_isIndex 2 (some .boolean)] ++ wsX90 ++ wsX30)
def wsX9_drop : List Cond := .code yX9_drop cX9_drop 1 (some .int) :: ([.fieldLink RX9 26 "WindHall" "corrections" "LWindHall$Corrections;", .fieldLink RX9 128 "WindHall$Corrections" "count" "I"] ++ wsX90 ++ wsX30)
def wsX9_raw : List Cond := .code yX9_raw cX9_raw 6 (some .int) :: ([.fieldLink RX9 26 "WindHall" "corrections" "LWindHall$Corrections;", .fieldLink RX9 139 "WindHall$Corrections" "told" "[I", .fieldLink RX9 142 "WindHall$Corrections" "time" "I", .fieldLink RX9 145 "WindHall$Corrections" "angle" "I", .methodLink RX9 81 yX9_areReadings, .static yX9_areReadings, .initialized RX9, .code yX9_areReadings cX9_areReadings 3 (some .boolean), .constant RX9 189 (2000000), .methodLink RX9 62 yX9_isWithin, .static yX9_isWithin, .code yX9_isWithin cX9_isWithin 2 (some .boolean), .methodLink RX9 58 yX9_isIndex, .static yX9_isIndex, .code yX9_isIndex cX9_isIndex 2 (some .boolean), .methodLink RX9 105 yX9_setRow, .static yX9_setRow, .code yX9_setRow cX9_setRow 4 none] ++ wsX90 ++ wsX30)
def wsX9_corrected_r1 : List Cond := [Cond.fieldLink RX9 26 "WindHall" "corrections" "LWindHall$Corrections;", Cond.fieldLink RX9 128 "WindHall$Corrections" "count" "I", Cond.fieldLink RX9 148 "WindHall$Corrections" "now" "[J", Cond.methodLink RX9 58 yX9_isIndex, Cond.static yX9_isIndex, Cond.initialized RX9, Cond.code yX9_isIndex cX9_isIndex 2 (some .boolean), Cond.methodLink RX9 152 yX3_goThrough, Cond.instanceMethod yX3_goThrough, Cond.selects RX3 yX3_goThrough yX3_goThrough, Cond.initialized RX3, Cond.code yX3_goThrough cX3_goThrough 4 none, Cond.fieldLink RX3 21 "WindHall$Corrections" "told" "[I", Cond.methodLink RX3 43 yX3_changeIfOn, Cond.instanceMethod yX3_changeIfOn, Cond.selects RX3 yX3_changeIfOn yX3_changeIfOn, Cond.code yX3_changeIfOn cX3_changeIfOn 3 none, Cond.fieldLink RX3 13 "WindHall$Corrections" "row" "[LWindHall$Correction;", Cond.fieldLink RX3 47 "WindHall$Correction" "on" "Z", Cond.fieldLink RX3 25 "WindHall$Corrections" "time" "I", Cond.fieldLink RX3 28 "WindHall$Corrections" "angle" "I", Cond.methodLink RX3 51 yX2_change, Cond.instanceMethod yX2_change, Cond.selects RX2 yX2_change yX2_change]
def wsX9_corrected_r2 : List Cond := [Cond.initialized RX2, Cond.code yX2_change cX2_change 5 none, Cond.fieldLink RX2 15 "WindHall$Correction" "kind" "I", Cond.fieldLink RX2 19 "WindHall$Correction" "u" "I", Cond.fieldLink RX2 22 "WindHall$Correction" "v" "I", Cond.fieldLink RX2 25 "WindHall$Correction" "w" "I", Cond.constantLong RX2 40 (100), Cond.methodLink RX2 32 yX2_lessen, Cond.static yX2_lessen, Cond.code yX2_lessen cX2_lessen 4 none, Cond.methodLink RX2 36 yX2_drifted, Cond.static yX2_drifted, Cond.code yX2_drifted cX2_drifted 2 (some .int), Cond.methodLink RX2 55 yJ9_floorDiv_7cf53, Cond.static yJ9_floorDiv_7cf53, Cond.initialized RJ9, Cond.code yJ9_floorDiv_7cf53 cJ9_floorDiv_7cf53 3 (some .int), Cond.methodLink RX2 42 yJ9_floorDiv_f86c9, Cond.static yJ9_floorDiv_f86c9, Cond.code yJ9_floorDiv_f86c9 cJ9_floorDiv_f86c9 6 (some .long), Cond.methodLink RX2 48 yX2_cos, Cond.static yX2_cos, Cond.code yX2_cos cX2_cos 1 (some .int), Cond.fieldLink RX2 57 "WindHall$Correction" "COS" "[I"]
def wsX9_corrected_r3 : List Cond := [Cond.methodLink RX2 61 yJ9_floorMod_7cf53, Cond.static yJ9_floorMod_7cf53, Cond.code yJ9_floorMod_7cf53 cJ9_floorMod_7cf53 3 (some .int), Cond.methodLink RX2 52 yX2_share, Cond.instanceMethod yX2_share, Cond.selects RX2 yX2_share yX2_share, Cond.code yX2_share cX2_share 2 (some .int)]
def wsX9_corrected : List Cond := .code yX9_corrected cX9_corrected 3 (some .long) :: ((wsX9_corrected_r1 ++ (wsX9_corrected_r2 ++ wsX9_corrected_r3)) ++ wsX90 ++ wsX30 ++ wsX20)
def wsX9_touches_r1 : List Cond := [Cond.fieldLink RX9 26 "WindHall" "corrections" "LWindHall$Corrections;", Cond.fieldLink RX9 128 "WindHall$Corrections" "count" "I", Cond.methodLink RX9 58 yX9_isIndex, Cond.static yX9_isIndex, Cond.initialized RX9, Cond.code yX9_isIndex cX9_isIndex 2 (some .boolean), Cond.methodLink RX9 156 yX3_isFelt, Cond.instanceMethod yX3_isFelt, Cond.selects RX3 yX3_isFelt yX3_isFelt, Cond.initialized RX3, Cond.code yX3_isFelt cX3_isFelt 2 (some .boolean), Cond.fieldLink RX3 31 "WindHall$Corrections" "now" "[J", Cond.fieldLink RX3 35 "WindHall$Corrections" "other" "[J", Cond.fieldLink RX3 13 "WindHall$Corrections" "row" "[LWindHall$Correction;", Cond.fieldLink RX3 25 "WindHall$Corrections" "time" "I", Cond.fieldLink RX3 28 "WindHall$Corrections" "angle" "I", Cond.methodLink RX3 55 yX3_goThrough, Cond.instanceMethod yX3_goThrough, Cond.selects RX3 yX3_goThrough yX3_goThrough, Cond.code yX3_goThrough cX3_goThrough 4 none, Cond.fieldLink RX3 21 "WindHall$Corrections" "told" "[I", Cond.methodLink RX3 43 yX3_changeIfOn, Cond.instanceMethod yX3_changeIfOn, Cond.selects RX3 yX3_changeIfOn yX3_changeIfOn]
def wsX9_touches_r2 : List Cond := [Cond.code yX3_changeIfOn cX3_changeIfOn 3 none, Cond.fieldLink RX3 47 "WindHall$Correction" "on" "Z", Cond.methodLink RX3 51 yX2_change, Cond.instanceMethod yX2_change, Cond.selects RX2 yX2_change yX2_change, Cond.initialized RX2, Cond.code yX2_change cX2_change 5 none, Cond.fieldLink RX2 15 "WindHall$Correction" "kind" "I", Cond.fieldLink RX2 19 "WindHall$Correction" "u" "I", Cond.fieldLink RX2 22 "WindHall$Correction" "v" "I", Cond.fieldLink RX2 25 "WindHall$Correction" "w" "I", Cond.constantLong RX2 40 (100), Cond.methodLink RX2 32 yX2_lessen, Cond.static yX2_lessen, Cond.code yX2_lessen cX2_lessen 4 none, Cond.methodLink RX2 36 yX2_drifted, Cond.static yX2_drifted, Cond.code yX2_drifted cX2_drifted 2 (some .int), Cond.methodLink RX2 55 yJ9_floorDiv_7cf53, Cond.static yJ9_floorDiv_7cf53, Cond.initialized RJ9, Cond.code yJ9_floorDiv_7cf53 cJ9_floorDiv_7cf53 3 (some .int), Cond.methodLink RX2 42 yJ9_floorDiv_f86c9, Cond.static yJ9_floorDiv_f86c9]
def wsX9_touches_r3 : List Cond := [Cond.code yJ9_floorDiv_f86c9 cJ9_floorDiv_f86c9 6 (some .long), Cond.methodLink RX2 48 yX2_cos, Cond.static yX2_cos, Cond.code yX2_cos cX2_cos 1 (some .int), Cond.fieldLink RX2 57 "WindHall$Correction" "COS" "[I", Cond.methodLink RX2 61 yJ9_floorMod_7cf53, Cond.static yJ9_floorMod_7cf53, Cond.code yJ9_floorMod_7cf53 cJ9_floorMod_7cf53 3 (some .int), Cond.methodLink RX2 52 yX2_share, Cond.instanceMethod yX2_share, Cond.selects RX2 yX2_share yX2_share, Cond.code yX2_share cX2_share 2 (some .int), Cond.methodLink RX3 58 yX3_differ, Cond.instanceMethod yX3_differ, Cond.selects RX3 yX3_differ yX3_differ, Cond.code yX3_differ cX3_differ 1 (some .boolean)]
def wsX9_touches : List Cond := .code yX9_touches cX9_touches 2 (some .int) :: ((wsX9_touches_r1 ++ (wsX9_touches_r2 ++ wsX9_touches_r3)) ++ wsX90 ++ wsX30 ++ wsX20)
def wsX9_minds_r1 : List Cond := [Cond.fieldLink RX9 26 "WindHall" "corrections" "LWindHall$Corrections;", Cond.fieldLink RX9 128 "WindHall$Corrections" "count" "I", Cond.methodLink RX9 58 yX9_isIndex, Cond.static yX9_isIndex, Cond.initialized RX9, Cond.code yX9_isIndex cX9_isIndex 2 (some .boolean), Cond.methodLink RX9 160 yX3_isOrderFelt, Cond.instanceMethod yX3_isOrderFelt, Cond.selects RX3 yX3_isOrderFelt yX3_isOrderFelt, Cond.initialized RX3, Cond.code yX3_isOrderFelt cX3_isOrderFelt 2 (some .boolean), Cond.fieldLink RX3 31 "WindHall$Corrections" "now" "[J", Cond.fieldLink RX3 35 "WindHall$Corrections" "other" "[J", Cond.methodLink RX3 55 yX3_goThrough, Cond.instanceMethod yX3_goThrough, Cond.selects RX3 yX3_goThrough yX3_goThrough, Cond.code yX3_goThrough cX3_goThrough 4 none, Cond.fieldLink RX3 21 "WindHall$Corrections" "told" "[I", Cond.methodLink RX3 43 yX3_changeIfOn, Cond.instanceMethod yX3_changeIfOn, Cond.selects RX3 yX3_changeIfOn yX3_changeIfOn, Cond.code yX3_changeIfOn cX3_changeIfOn 3 none, Cond.fieldLink RX3 13 "WindHall$Corrections" "row" "[LWindHall$Correction;", Cond.fieldLink RX3 47 "WindHall$Correction" "on" "Z"]
def wsX9_minds_r2 : List Cond := [Cond.fieldLink RX3 25 "WindHall$Corrections" "time" "I", Cond.fieldLink RX3 28 "WindHall$Corrections" "angle" "I", Cond.methodLink RX3 51 yX2_change, Cond.instanceMethod yX2_change, Cond.selects RX2 yX2_change yX2_change, Cond.initialized RX2, Cond.code yX2_change cX2_change 5 none, Cond.fieldLink RX2 15 "WindHall$Correction" "kind" "I", Cond.fieldLink RX2 19 "WindHall$Correction" "u" "I", Cond.fieldLink RX2 22 "WindHall$Correction" "v" "I", Cond.fieldLink RX2 25 "WindHall$Correction" "w" "I", Cond.constantLong RX2 40 (100), Cond.methodLink RX2 32 yX2_lessen, Cond.static yX2_lessen, Cond.code yX2_lessen cX2_lessen 4 none, Cond.methodLink RX2 36 yX2_drifted, Cond.static yX2_drifted, Cond.code yX2_drifted cX2_drifted 2 (some .int), Cond.methodLink RX2 55 yJ9_floorDiv_7cf53, Cond.static yJ9_floorDiv_7cf53, Cond.initialized RJ9, Cond.code yJ9_floorDiv_7cf53 cJ9_floorDiv_7cf53 3 (some .int), Cond.methodLink RX2 42 yJ9_floorDiv_f86c9, Cond.static yJ9_floorDiv_f86c9]
def wsX9_minds_r3 : List Cond := [Cond.code yJ9_floorDiv_f86c9 cJ9_floorDiv_f86c9 6 (some .long), Cond.methodLink RX2 48 yX2_cos, Cond.static yX2_cos, Cond.code yX2_cos cX2_cos 1 (some .int), Cond.fieldLink RX2 57 "WindHall$Correction" "COS" "[I", Cond.methodLink RX2 61 yJ9_floorMod_7cf53, Cond.static yJ9_floorMod_7cf53, Cond.code yJ9_floorMod_7cf53 cJ9_floorMod_7cf53 3 (some .int), Cond.methodLink RX2 52 yX2_share, Cond.instanceMethod yX2_share, Cond.selects RX2 yX2_share yX2_share, Cond.code yX2_share cX2_share 2 (some .int), Cond.methodLink RX3 58 yX3_differ, Cond.instanceMethod yX3_differ, Cond.selects RX3 yX3_differ yX3_differ, Cond.code yX3_differ cX3_differ 1 (some .boolean)]
def wsX9_minds : List Cond := .code yX9_minds cX9_minds 2 (some .int) :: ((wsX9_minds_r1 ++ (wsX9_minds_r2 ++ wsX9_minds_r3)) ++ wsX90 ++ wsX30 ++ wsX20)
def wsX9_place_r1 : List Cond := [Cond.fieldLink RX9 33 "WindHall" "program" "LWindHall$Program;", Cond.fieldLink RX9 163 "WindHall$Program" "count" "I", Cond.methodLink RX9 58 yX9_isIndex, Cond.static yX9_isIndex, Cond.initialized RX9, Cond.code yX9_isIndex cX9_isIndex 2 (some .boolean), Cond.methodLink RX9 164 yX5_append, Cond.instanceMethod yX5_append, Cond.selects RX5 yX5_append yX5_append, Cond.initialized RX5, Cond.code yX5_append cX5_append 5 (some .int), Cond.fieldLink RX5 11 "WindHall$Program" "count" "I", Cond.fieldLink RX5 38 "WindHall$Program" "angle" "[I", Cond.fieldLink RX5 41 "WindHall$Program" "speed" "[I", Cond.fieldLink RX5 15 "WindHall$Program" "isDone" "[Z", Cond.fieldLink RX5 24 "WindHall$Program" "isPlanned" "Z", Cond.methodLink RX5 47 yX5_setMove, Cond.instanceMethod yX5_setMove, Cond.selects RX5 yX5_setMove yX5_setMove, Cond.code yX5_setMove cX5_setMove 5 none, Cond.methodLink RX5 51 Lib.Math.abs.name, Cond.static Lib.Math.abs.name, Cond.initialized "java/lang/Math", Cond.code Lib.Math.abs.name Lib.Math.abs.code 1 (some .int)]
def wsX9_place_r2 : List Cond := [Cond.methodLink RX5 57 Lib.Math.min.name, Cond.static Lib.Math.min.name, Cond.code Lib.Math.min.name Lib.Math.min.code 2 (some .int), Cond.fieldLink RX5 21 "WindHall$Program" "move" "[[I"]
def wsX9_place : List Cond := .code yX9_place cX9_place 3 (some .int) :: ((wsX9_place_r1 ++ wsX9_place_r2) ++ wsX90 ++ wsX50)
def wsX9_done : List Cond := .code yX9_done cX9_done 4 (some .int) :: ([.fieldLink RX9 33 "WindHall" "program" "LWindHall$Program;", .fieldLink RX9 163 "WindHall$Program" "count" "I", .fieldLink RX9 167 "WindHall$Program" "isDone" "[Z", .fieldLink RX9 171 "WindHall$Program" "isPlanned" "Z", .methodLink RX9 58 yX9_isIndex, .static yX9_isIndex, .initialized RX9, .code yX9_isIndex cX9_isIndex 2 (some .boolean)] ++ wsX90 ++ wsX50)
def wsX9_moves : List Cond := .code yX9_moves cX9_moves 3 (some .int) :: ([.fieldLink RX9 33 "WindHall" "program" "LWindHall$Program;", .fieldLink RX9 163 "WindHall$Program" "count" "I", .fieldLink RX9 174 "WindHall$Program" "move" "[[I", .methodLink RX9 58 yX9_isIndex, .static yX9_isIndex, .initialized RX9, .code yX9_isIndex cX9_isIndex 2 (some .boolean)] ++ wsX90 ++ wsX50)
def wsX9_least_r1 : List Cond := [Cond.fieldLink RX9 33 "WindHall" "program" "LWindHall$Program;", Cond.fieldLink RX9 180 "WindHall$Program" "leastSum" "I", Cond.methodLink RX9 177 yX5_plan, Cond.instanceMethod yX5_plan, Cond.selects RX5 yX5_plan yX5_plan, Cond.initialized RX5, Cond.code yX5_plan cX5_plan 3 none, Cond.fieldLink RX5 24 "WindHall$Program" "isPlanned" "Z", Cond.fieldLink RX5 44 "WindHall$Program" "rest" "[I", Cond.fieldLink RX5 31 "WindHall$Program" "leastSum" "I", Cond.methodLink RX5 61 yX5_setOfOpen, Cond.instanceMethod yX5_setOfOpen, Cond.selects RX5 yX5_setOfOpen yX5_setOfOpen, Cond.code yX5_setOfOpen cX5_setOfOpen 3 (some .int), Cond.fieldLink RX5 11 "WindHall$Program" "count" "I", Cond.fieldLink RX5 15 "WindHall$Program" "isDone" "[Z", Cond.methodLink RX5 65 yX5_setRest, Cond.instanceMethod yX5_setRest, Cond.selects RX5 yX5_setRest yX5_setRest, Cond.code yX5_setRest cX5_setRest 4 none, Cond.methodLink RX5 75 yX5_isIn, Cond.static yX5_isIn, Cond.code yX5_isIn cX5_isIn 2 (some .boolean), Cond.methodLink RX5 68 yX5_cell]
def wsX9_least_r2 : List Cond := [Cond.static yX5_cell, Cond.code yX5_cell cX5_cell 2 (some .int), Cond.methodLink RX5 79 yX5_firstOfLeast, Cond.instanceMethod yX5_firstOfLeast, Cond.selects RX5 yX5_firstOfLeast yX5_firstOfLeast, Cond.code yX5_firstOfLeast cX5_firstOfLeast 7 (some .int), Cond.constant RX5 91 (2147483647), Cond.methodLink RX5 82 yX5_sumBy, Cond.instanceMethod yX5_sumBy, Cond.selects RX5 yX5_sumBy yX5_sumBy, Cond.code yX5_sumBy cX5_sumBy 4 (some .int), Cond.fieldLink RX5 21 "WindHall$Program" "move" "[[I", Cond.methodLink RX5 71 yX5_setOrder, Cond.instanceMethod yX5_setOrder, Cond.selects RX5 yX5_setOrder yX5_setOrder, Cond.code yX5_setOrder cX5_setOrder 6 none, Cond.fieldLink RX5 28 "WindHall$Program" "planned" "I", Cond.fieldLink RX5 34 "WindHall$Program" "row" "[I", Cond.methodLink RX5 86 yJ6_bitCount_0f7a4, Cond.static yJ6_bitCount_0f7a4, Cond.initialized RJ6, Cond.code yJ6_bitCount_0f7a4 cJ6_bitCount_0f7a4 1 (some .int), Cond.constant RJ6 265 (1431655765), Cond.constant RJ6 266 (858993459)]
def wsX9_least_r3 : List Cond := [Cond.constant RJ6 267 (252645135)]
def wsX9_least : List Cond := .code yX9_least cX9_least 1 (some .int) :: ((wsX9_least_r1 ++ (wsX9_least_r2 ++ wsX9_least_r3)) ++ wsX90 ++ wsX50)
def wsX9_order_r1 : List Cond := [Cond.fieldLink RX9 33 "WindHall" "program" "LWindHall$Program;", Cond.fieldLink RX9 183 "WindHall$Program" "planned" "I", Cond.fieldLink RX9 186 "WindHall$Program" "row" "[I", Cond.methodLink RX9 177 yX5_plan, Cond.instanceMethod yX5_plan, Cond.selects RX5 yX5_plan yX5_plan, Cond.initialized RX5, Cond.code yX5_plan cX5_plan 3 none, Cond.fieldLink RX5 24 "WindHall$Program" "isPlanned" "Z", Cond.fieldLink RX5 44 "WindHall$Program" "rest" "[I", Cond.fieldLink RX5 31 "WindHall$Program" "leastSum" "I", Cond.methodLink RX5 61 yX5_setOfOpen, Cond.instanceMethod yX5_setOfOpen, Cond.selects RX5 yX5_setOfOpen yX5_setOfOpen, Cond.code yX5_setOfOpen cX5_setOfOpen 3 (some .int), Cond.fieldLink RX5 11 "WindHall$Program" "count" "I", Cond.fieldLink RX5 15 "WindHall$Program" "isDone" "[Z", Cond.methodLink RX5 65 yX5_setRest, Cond.instanceMethod yX5_setRest, Cond.selects RX5 yX5_setRest yX5_setRest, Cond.code yX5_setRest cX5_setRest 4 none, Cond.methodLink RX5 75 yX5_isIn, Cond.static yX5_isIn, Cond.code yX5_isIn cX5_isIn 2 (some .boolean)]
def wsX9_order_r2 : List Cond := [Cond.methodLink RX5 68 yX5_cell, Cond.static yX5_cell, Cond.code yX5_cell cX5_cell 2 (some .int), Cond.methodLink RX5 79 yX5_firstOfLeast, Cond.instanceMethod yX5_firstOfLeast, Cond.selects RX5 yX5_firstOfLeast yX5_firstOfLeast, Cond.code yX5_firstOfLeast cX5_firstOfLeast 7 (some .int), Cond.constant RX5 91 (2147483647), Cond.methodLink RX5 82 yX5_sumBy, Cond.instanceMethod yX5_sumBy, Cond.selects RX5 yX5_sumBy yX5_sumBy, Cond.code yX5_sumBy cX5_sumBy 4 (some .int), Cond.fieldLink RX5 21 "WindHall$Program" "move" "[[I", Cond.methodLink RX5 71 yX5_setOrder, Cond.instanceMethod yX5_setOrder, Cond.selects RX5 yX5_setOrder yX5_setOrder, Cond.code yX5_setOrder cX5_setOrder 6 none, Cond.fieldLink RX5 28 "WindHall$Program" "planned" "I", Cond.fieldLink RX5 34 "WindHall$Program" "row" "[I", Cond.methodLink RX5 86 yJ6_bitCount_0f7a4, Cond.static yJ6_bitCount_0f7a4, Cond.initialized RJ6, Cond.code yJ6_bitCount_0f7a4 cJ6_bitCount_0f7a4 1 (some .int), Cond.constant RJ6 265 (1431655765)]
def wsX9_order_r3 : List Cond := [Cond.constant RJ6 266 (858993459), Cond.constant RJ6 267 (252645135)]
def wsX9_order : List Cond := .code yX9_order cX9_order 2 (some .int) :: ((wsX9_order_r1 ++ (wsX9_order_r2 ++ wsX9_order_r3)) ++ wsX90 ++ wsX50)
def wsX9_rule : List Cond := .code yX9_rule cX9_rule 6 (some .int) :: ([.constant RX9 188 (100000), .constant RX9 189 (2000000), .fieldLink RX9 40 "WindHall" "settling" "LWindHall$Settling;", .fieldLink RX9 190 "WindHall$Settling" "n" "I", .fieldLink RX9 193 "WindHall$Settling" "d" "I", .fieldLink RX9 196 "WindHall$Settling" "most" "I", .fieldLink RX9 199 "WindHall$Settling" "limit" "I", .methodLink RX9 202 yX6_startAnew, .instanceMethod yX6_startAnew, .selects RX6 yX6_startAnew yX6_startAnew, .initialized RX6, .code yX6_startAnew cX6_startAnew 1 none, .fieldLink RX6 25 "WindHall$Settling" "state" "I", .fieldLink RX6 28 "WindHall$Settling" "came" "I", .fieldLink RX6 31 "WindHall$Settling" "beyond" "I"] ++ wsX90 ++ wsX60)
def wsX9_come_r1 : List Cond := [Cond.fieldLink RX9 40 "WindHall" "settling" "LWindHall$Settling;", Cond.fieldLink RX9 205 "WindHall$Settling" "state" "I", Cond.methodLink RX9 81 yX9_areReadings, Cond.static yX9_areReadings, Cond.initialized RX9, Cond.code yX9_areReadings cX9_areReadings 3 (some .boolean), Cond.constant RX9 189 (2000000), Cond.methodLink RX9 62 yX9_isWithin, Cond.static yX9_isWithin, Cond.code yX9_isWithin cX9_isWithin 2 (some .boolean), Cond.methodLink RX9 208 yX6_take, Cond.instanceMethod yX6_take, Cond.selects RX6 yX6_take yX6_take, Cond.initialized RX6, Cond.code yX6_take cX6_take 5 (some .int), Cond.fieldLink RX6 36 "WindHall$Settling" "latest" "[[I", Cond.fieldLink RX6 28 "WindHall$Settling" "came" "I", Cond.fieldLink RX6 31 "WindHall$Settling" "beyond" "I", Cond.fieldLink RX6 25 "WindHall$Settling" "state" "I", Cond.fieldLink RX6 18 "WindHall$Settling" "most" "I", Cond.static yX9_setRow, Cond.code yX9_setRow cX9_setRow 4 none, Cond.methodLink RX6 43 yX6_firstBeyond, Cond.instanceMethod yX6_firstBeyond]
def wsX9_come_r2 : List Cond := [Cond.selects RX6 yX6_firstBeyond yX6_firstBeyond, Cond.code yX6_firstBeyond cX6_firstBeyond 3 (some .int), Cond.methodLink RX6 51 Lib.Math.abs.name, Cond.static Lib.Math.abs.name, Cond.initialized "java/lang/Math", Cond.code Lib.Math.abs.name Lib.Math.abs.code 1 (some .int), Cond.fieldLink RX6 22 "WindHall$Settling" "limit" "I", Cond.methodLink RX6 47 yX6_isSettled, Cond.instanceMethod yX6_isSettled, Cond.selects RX6 yX6_isSettled yX6_isSettled, Cond.code yX6_isSettled cX6_isSettled 2 (some .boolean), Cond.fieldLink RX6 9 "WindHall$Settling" "n" "I", Cond.fieldLink RX6 15 "WindHall$Settling" "d" "I", Cond.methodLink RX6 57 yX6_spreadOfLatest, Cond.instanceMethod yX6_spreadOfLatest, Cond.selects RX6 yX6_spreadOfLatest yX6_spreadOfLatest, Cond.code yX6_spreadOfLatest cX6_spreadOfLatest 6 (some .int), Cond.constant RX6 60 (2000000), Cond.constant RX6 61 (-2000000), Cond.methodLink RX6 66 Lib.Math.min.name, Cond.static Lib.Math.min.name, Cond.code Lib.Math.min.name Lib.Math.min.code 2 (some .int), Cond.methodLink RX6 69 Lib.Math.max.name, Cond.static Lib.Math.max.name]
def wsX9_come_r3 : List Cond := [Cond.code Lib.Math.max.name Lib.Math.max.code 2 (some .int), Cond.methodLink RX6 62 yX6_readingAgo, Cond.instanceMethod yX6_readingAgo, Cond.selects RX6 yX6_readingAgo yX6_readingAgo, Cond.code yX6_readingAgo cX6_readingAgo 3 (some .int), Cond.methodLink RX6 72 yJ9_floorMod_7cf53, Cond.static yJ9_floorMod_7cf53, Cond.initialized RJ9, Cond.code yJ9_floorMod_7cf53 cJ9_floorMod_7cf53 3 (some .int)]
def wsX9_come : List Cond := .code yX9_come cX9_come 4 (some .int) :: ((wsX9_come_r1 ++ (wsX9_come_r2 ++ wsX9_come_r3)) ++ wsX90 ++ wsX60)
def wsX9_settled : List Cond := .code yX9_settled cX9_settled 2 (some .int) :: ([.fieldLink RX9 40 "WindHall" "settling" "LWindHall$Settling;", .fieldLink RX9 205 "WindHall$Settling" "state" "I", .fieldLink RX9 212 "WindHall$Settling" "came" "I", .fieldLink RX9 215 "WindHall$Settling" "beyond" "I", .methodLink RX9 218 yX6_sumOfLatest, .instanceMethod yX6_sumOfLatest, .selects RX6 yX6_sumOfLatest yX6_sumOfLatest, .initialized RX6, .code yX6_sumOfLatest cX6_sumOfLatest 4 (some .int), .fieldLink RX6 9 "WindHall$Settling" "n" "I", .methodLink RX6 62 yX6_readingAgo, .instanceMethod yX6_readingAgo, .selects RX6 yX6_readingAgo yX6_readingAgo, .code yX6_readingAgo cX6_readingAgo 3 (some .int), .fieldLink RX6 36 "WindHall$Settling" "latest" "[[I", .fieldLink RX6 28 "WindHall$Settling" "came" "I", .methodLink RX6 72 yJ9_floorMod_7cf53, .static yJ9_floorMod_7cf53, .initialized RJ9, .code yJ9_floorMod_7cf53 cJ9_floorMod_7cf53 3 (some .int)] ++ wsX90 ++ wsX60)
def wsX9_anew : List Cond := .code yX9_anew cX9_anew 2 (some .int) :: ([.fieldLink RX9 40 "WindHall" "settling" "LWindHall$Settling;", .fieldLink RX9 212 "WindHall$Settling" "came" "I", .methodLink RX9 202 yX6_startAnew, .instanceMethod yX6_startAnew, .selects RX6 yX6_startAnew yX6_startAnew, .initialized RX6, .code yX6_startAnew cX6_startAnew 1 none, .fieldLink RX6 25 "WindHall$Settling" "state" "I", .fieldLink RX6 28 "WindHall$Settling" "came" "I", .fieldLink RX6 31 "WindHall$Settling" "beyond" "I"] ++ wsX90 ++ wsX60)
def wsX9_tube : List Cond := .code yX9_tube cX9_tube 2 (some .int) :: ([.fieldLink RX9 47 "WindHall" "tubes" "LWindHall$Tubes;", .fieldLink RX9 222 "WindHall$Tubes" "count" "I", .methodLink RX9 223 yX8_append, .instanceMethod yX8_append, .selects RX8 yX8_append yX8_append, .initialized RX8, .code yX8_append cX8_append 2 (some .int), .fieldLink RX8 23 "WindHall$Tubes" "area" "[I", .fieldLink RX8 9 "WindHall$Tubes" "count" "I", .fieldLink RX8 15 "WindHall$Tubes" "isLost" "[Z", .fieldLink RX8 19 "WindHall$Tubes" "pressure" "[I"] ++ wsX90 ++ wsX80)
def wsX9_press : List Cond := .code yX9_press cX9_press 4 (some .int) :: ([.fieldLink RX9 47 "WindHall" "tubes" "LWindHall$Tubes;", .fieldLink RX9 222 "WindHall$Tubes" "count" "I", .fieldLink RX9 228 "WindHall$Tubes" "isLost" "[Z", .fieldLink RX9 231 "WindHall$Tubes" "pressure" "[I", .methodLink RX9 58 yX9_isIndex, .static yX9_isIndex, .initialized RX9, .code yX9_isIndex cX9_isIndex 2 (some .boolean), .methodLink RX9 225 yX8_isPressure, .static yX8_isPressure, .initialized RX8, .code yX8_isPressure cX8_isPressure 1 (some .boolean), .static yX9_isWithin, .code yX9_isWithin cX9_isWithin 2 (some .boolean)] ++ wsX90 ++ wsX80)
def wsX9_answerOfFault : List Cond := .code yX9_answerOfFault cX9_answerOfFault 1 (some .int) :: ([])
def wsX9_sheet : List Cond := .code yX9_sheet cX9_sheet 4 (some .int) :: ([.fieldLink RX9 53 "WindHall" "sheets" "[LWindHall$Sheet;", .methodLink RX9 58 yX9_isIndex, .static yX9_isIndex, .initialized RX9, .code yX9_isIndex cX9_isIndex 2 (some .boolean), .methodLink RX9 234 yX9_answerOfFault, .static yX9_answerOfFault, .code yX9_answerOfFault cX9_answerOfFault 1 (some .int), .methodLink RX9 237 yX7_makeNew, .instanceMethod yX7_makeNew, .selects RX7 yX7_makeNew yX7_makeNew, .initialized RX7, .code yX7_makeNew cX7_makeNew 4 none, .fieldLink RX7 9 "WindHall$Sheet" "lane" "I", .fieldLink RX7 13 "WindHall$Sheet" "size" "I", .fieldLink RX7 16 "WindHall$Sheet" "cells" "[I"] ++ wsX90 ++ wsX70)
def wsX9_lay : List Cond := .code yX9_lay cX9_lay 5 (some .int) :: ([.fieldLink RX9 53 "WindHall" "sheets" "[LWindHall$Sheet;", .methodLink RX9 58 yX9_isIndex, .static yX9_isIndex, .initialized RX9, .code yX9_isIndex cX9_isIndex 2 (some .boolean), .methodLink RX9 241 yX7_faultOfCells, .instanceMethod yX7_faultOfCells, .selects RX7 yX7_faultOfCells yX7_faultOfCells, .initialized RX7, .code yX7_faultOfCells cX7_faultOfCells 4 (some .int), .fieldLink RX7 9 "WindHall$Sheet" "lane" "I", .fieldLink RX7 13 "WindHall$Sheet" "size" "I", .methodLink RX9 234 yX9_answerOfFault, .static yX9_answerOfFault, .code yX9_answerOfFault cX9_answerOfFault 1 (some .int), .methodLink RX9 244 yX7_set, .instanceMethod yX7_set, .selects RX7 yX7_set yX7_set, .code yX7_set cX7_set 3 none, .fieldLink RX7 16 "WindHall$Sheet" "cells" "[I"] ++ wsX90 ++ wsX70)
def wsX9_scan_r1 : List Cond := [Cond.fieldLink RX9 53 "WindHall" "sheets" "[LWindHall$Sheet;", Cond.fieldLink RX9 47 "WindHall" "tubes" "LWindHall$Tubes;", Cond.fieldLink RX9 222 "WindHall$Tubes" "count" "I", Cond.methodLink RX9 58 yX9_isIndex, Cond.static yX9_isIndex, Cond.initialized RX9, Cond.code yX9_isIndex cX9_isIndex 2 (some .boolean), Cond.methodLink RX9 247 yX7_faultOfLane, Cond.instanceMethod yX7_faultOfLane, Cond.selects RX7 yX7_faultOfLane yX7_faultOfLane, Cond.initialized RX7, Cond.code yX7_faultOfLane cX7_faultOfLane 2 (some .int), Cond.fieldLink RX7 9 "WindHall$Sheet" "lane" "I", Cond.methodLink RX9 241 yX7_faultOfCells, Cond.instanceMethod yX7_faultOfCells, Cond.selects RX7 yX7_faultOfCells yX7_faultOfCells, Cond.code yX7_faultOfCells cX7_faultOfCells 4 (some .int), Cond.fieldLink RX7 13 "WindHall$Sheet" "size" "I", Cond.methodLink RX9 234 yX9_answerOfFault, Cond.static yX9_answerOfFault, Cond.code yX9_answerOfFault cX9_answerOfFault 1 (some .int), Cond.methodLink RX9 250 yX8_takeFrom, Cond.instanceMethod yX8_takeFrom, Cond.selects RX8 yX8_takeFrom yX8_takeFrom]
def wsX9_scan_r2 : List Cond := [Cond.initialized RX8, Cond.code yX8_takeFrom cX8_takeFrom 5 none, Cond.fieldLink RX8 9 "WindHall$Tubes" "count" "I", Cond.fieldLink RX8 15 "WindHall$Tubes" "isLost" "[Z", Cond.fieldLink RX8 19 "WindHall$Tubes" "pressure" "[I", Cond.methodLink RX8 30 yX7_get, Cond.instanceMethod yX7_get, Cond.selects RX7 yX7_get yX7_get, Cond.code yX7_get cX7_get 2 (some .int), Cond.fieldLink RX7 16 "WindHall$Sheet" "cells" "[I", Cond.methodLink RX8 36 yX8_isPressure, Cond.static yX8_isPressure, Cond.code yX8_isPressure cX8_isPressure 1 (some .boolean), Cond.static yX9_isWithin, Cond.code yX9_isWithin cX9_isWithin 2 (some .boolean), Cond.methodLink RX9 254 yX8_howManyLost, Cond.instanceMethod yX8_howManyLost, Cond.selects RX8 yX8_howManyLost yX8_howManyLost, Cond.code yX8_howManyLost cX8_howManyLost 3 (some .int)]
def wsX9_scan : List Cond := .code yX9_scan cX9_scan 5 (some .int) :: ((wsX9_scan_r1 ++ wsX9_scan_r2) ++ wsX90 ++ wsX80 ++ wsX70)
def wsX9_force : List Cond := .code yX9_force cX9_force 1 (some .int) :: ([.fieldLink RX9 47 "WindHall" "tubes" "LWindHall$Tubes;", .methodLink RX9 258 yX8_sum, .instanceMethod yX8_sum, .selects RX8 yX8_sum yX8_sum, .initialized RX8, .code yX8_sum cX8_sum 3 (some .int), .fieldLink RX8 9 "WindHall$Tubes" "count" "I", .fieldLink RX8 23 "WindHall$Tubes" "area" "[I", .fieldLink RX8 19 "WindHall$Tubes" "pressure" "[I"] ++ wsX90 ++ wsX80)
def wsX9_check_r1 : List Cond := [Cond.constant RX9 188 (100000), Cond.constant RX9 189 (2000000), Cond.fieldLink RX9 47 "WindHall" "tubes" "LWindHall$Tubes;", Cond.methodLink RX9 62 yX9_isWithin, Cond.static yX9_isWithin, Cond.initialized RX9, Cond.code yX9_isWithin cX9_isWithin 2 (some .boolean), Cond.methodLink RX9 254 yX8_howManyLost, Cond.instanceMethod yX8_howManyLost, Cond.selects RX8 yX8_howManyLost yX8_howManyLost, Cond.initialized RX8, Cond.code yX8_howManyLost cX8_howManyLost 3 (some .int), Cond.fieldLink RX8 9 "WindHall$Tubes" "count" "I", Cond.fieldLink RX8 15 "WindHall$Tubes" "isLost" "[Z", Cond.methodLink RX9 261 yX8_compare, Cond.instanceMethod yX8_compare, Cond.selects RX8 yX8_compare yX8_compare, Cond.code yX8_compare cX8_compare 6 (some .int), Cond.methodLink RX8 44 Lib.Math.abs.name, Cond.static Lib.Math.abs.name, Cond.initialized "java/lang/Math", Cond.code Lib.Math.abs.name Lib.Math.abs.code 1 (some .int), Cond.methodLink RX8 40 yX8_sum, Cond.instanceMethod yX8_sum]
def wsX9_check_r2 : List Cond := [Cond.selects RX8 yX8_sum yX8_sum, Cond.code yX8_sum cX8_sum 3 (some .int), Cond.fieldLink RX8 23 "WindHall$Tubes" "area" "[I", Cond.fieldLink RX8 19 "WindHall$Tubes" "pressure" "[I", Cond.methodLink RX8 49 yX8_canMend, Cond.instanceMethod yX8_canMend, Cond.selects RX8 yX8_canMend yX8_canMend, Cond.code yX8_canMend cX8_canMend 7 (some .boolean), Cond.methodLink RX8 57 Lib.Math.max.name, Cond.static Lib.Math.max.name, Cond.code Lib.Math.max.name Lib.Math.max.code 2 (some .int), Cond.methodLink RX8 60 Lib.Math.min.name, Cond.static Lib.Math.min.name, Cond.code Lib.Math.min.name Lib.Math.min.code 2 (some .int), Cond.methodLink RX8 53 yJ9_floorDiv_7cf53, Cond.static yJ9_floorDiv_7cf53, Cond.initialized RJ9, Cond.code yJ9_floorDiv_7cf53 cJ9_floorDiv_7cf53 3 (some .int)]
def wsX9_check : List Cond := .code yX9_check cX9_check 3 (some .int) :: ((wsX9_check_r1 ++ wsX9_check_r2) ++ wsX90 ++ wsX80)
def wsX9_fill_r1 : List Cond := [Cond.constant RX9 189 (2000000), Cond.fieldLink RX9 47 "WindHall" "tubes" "LWindHall$Tubes;", Cond.methodLink RX9 62 yX9_isWithin, Cond.static yX9_isWithin, Cond.initialized RX9, Cond.code yX9_isWithin cX9_isWithin 2 (some .boolean), Cond.methodLink RX9 254 yX8_howManyLost, Cond.instanceMethod yX8_howManyLost, Cond.selects RX8 yX8_howManyLost yX8_howManyLost, Cond.initialized RX8, Cond.code yX8_howManyLost cX8_howManyLost 3 (some .int), Cond.fieldLink RX8 9 "WindHall$Tubes" "count" "I", Cond.fieldLink RX8 15 "WindHall$Tubes" "isLost" "[Z", Cond.methodLink RX9 264 yX8_pressureOfLost, Cond.instanceMethod yX8_pressureOfLost, Cond.selects RX8 yX8_pressureOfLost yX8_pressureOfLost, Cond.code yX8_pressureOfLost cX8_pressureOfLost 5 (some .int), Cond.fieldLink RX8 23 "WindHall$Tubes" "area" "[I", Cond.methodLink RX8 40 yX8_sum, Cond.instanceMethod yX8_sum, Cond.selects RX8 yX8_sum yX8_sum, Cond.code yX8_sum cX8_sum 3 (some .int), Cond.fieldLink RX8 19 "WindHall$Tubes" "pressure" "[I", Cond.methodLink RX8 53 yJ9_floorDiv_7cf53]
def wsX9_fill_r2 : List Cond := [Cond.static yJ9_floorDiv_7cf53, Cond.initialized RJ9, Cond.code yJ9_floorDiv_7cf53 cJ9_floorDiv_7cf53 3 (some .int), Cond.methodLink RX8 36 yX8_isPressure, Cond.static yX8_isPressure, Cond.code yX8_isPressure cX8_isPressure 1 (some .boolean)]
def wsX9_fill : List Cond := .code yX9_fill cX9_fill 2 (some .int) :: ((wsX9_fill_r1 ++ wsX9_fill_r2) ++ wsX90 ++ wsX80)
def wsX9_count : List Cond := .code yX9_count cX9_count 2 (some .int) :: ([.fieldLink RX9 19 "WindHall" "calibration" "LWindHall$Calibration;", .fieldLink RX9 99 "WindHall$Calibration" "count" "I", .fieldLink RX9 26 "WindHall" "corrections" "LWindHall$Corrections;", .fieldLink RX9 128 "WindHall$Corrections" "count" "I", .fieldLink RX9 33 "WindHall" "program" "LWindHall$Program;", .fieldLink RX9 163 "WindHall$Program" "count" "I", .fieldLink RX9 47 "WindHall" "tubes" "LWindHall$Tubes;", .fieldLink RX9 222 "WindHall$Tubes" "count" "I", .methodLink RX9 267 yX5_howManyDone, .instanceMethod yX5_howManyDone, .selects RX5 yX5_howManyDone yX5_howManyDone, .initialized RX5, .code yX5_howManyDone cX5_howManyDone 3 (some .int), .fieldLink RX5 11 "WindHall$Program" "count" "I", .fieldLink RX5 15 "WindHall$Program" "isDone" "[Z", .methodLink RX9 254 yX8_howManyLost, .instanceMethod yX8_howManyLost, .selects RX8 yX8_howManyLost yX8_howManyLost, .initialized RX8, .code yX8_howManyLost cX8_howManyLost 3 (some .int), .fieldLink RX8 9 "WindHall$Tubes" "count" "I", .fieldLink RX8 15 "WindHall$Tubes" "isLost" "[Z"] ++ wsX90 ++ wsX10 ++ wsX30 ++ wsX50 ++ wsX80)
def wsX10_init_r1 : List Cond := [Cond.methodLink RX10 1 objectInit, Cond.instanceMethod objectInit, Cond.code objectInit ⟨#[0xb1]⟩ 1 none, Cond.arrayClass .int, Cond.fieldLink RX10 7 "WindHallModel" "a" "[I", Cond.fieldLink RX10 13 "WindHallModel" "b" "[I", Cond.arrayClass .long, Cond.fieldLink RX10 16 "WindHallModel" "m" "[J", Cond.fieldLink RX10 20 "WindHallModel" "right" "[J", Cond.fieldLink RX10 23 "WindHallModel" "loads" "[I", Cond.fieldLink RX10 26 "WindHallModel" "pLoads" "[I", Cond.fieldLink RX10 29 "WindHallModel" "pReads" "[I", Cond.fieldLink RX10 32 "WindHallModel" "cKind" "[I", Cond.fieldLink RX10 35 "WindHallModel" "cU" "[I", Cond.fieldLink RX10 38 "WindHallModel" "cV" "[I", Cond.fieldLink RX10 41 "WindHallModel" "cW" "[I", Cond.arrayClass .boolean, Cond.fieldLink RX10 44 "WindHallModel" "cOn" "[Z", Cond.fieldLink RX10 48 "WindHallModel" "raws" "[I", Cond.fieldLink RX10 51 "WindHallModel" "quarter" "[I", Cond.fieldLink RX10 54 "WindHallModel" "now" "[J", Cond.fieldLink RX10 57 "WindHallModel" "told" "[J", Cond.fieldLink RX10 60 "WindHallModel" "angles" "[I", Cond.fieldLink RX10 63 "WindHallModel" "speeds" "[I"]
def wsX10_init_r2 : List Cond := [Cond.fieldLink RX10 66 "WindHallModel" "isDone" "[Z", Cond.fieldLink RX10 69 "WindHallModel" "leasts" "[I", Cond.fieldLink RX10 72 "WindHallModel" "ruleN" "I", Cond.fieldLink RX10 76 "WindHallModel" "ruleD" "I", Cond.fieldLink RX10 79 "WindHallModel" "ruleMost" "I", Cond.constant RX10 82 (1000000), Cond.fieldLink RX10 83 "WindHallModel" "ruleLimit" "I", Cond.fieldLink RX10 86 "WindHallModel" "beyond" "I", Cond.fieldLink RX10 89 "WindHallModel" "rows" "[I", Cond.fieldLink RX10 92 "WindHallModel" "areas" "[I", Cond.fieldLink RX10 95 "WindHallModel" "pressures" "[I", Cond.fieldLink RX10 98 "WindHallModel" "isLost" "[Z", Cond.fieldLink RX10 101 "WindHallModel" "lanes" "[I", Cond.fieldLink RX10 104 "WindHallModel" "sizes" "[I", Cond.fieldLink RX10 107 "WindHallModel" "cells" "[I"]
def wsX10_init : List Cond := .code yX10_init cX10_init 2 none :: ((wsX10_init_r1 ++ wsX10_init_r2) ++ wsX100)
def wsX10_in : List Cond := .code yX10_in cX10_in 6 (some .boolean) :: ([])
def wsX10_isReading : List Cond := .code yX10_isReading cX10_isReading 1 (some .boolean) :: ([.constantLong RX10 110 (-2000000), .constantLong RX10 112 (2000000), .methodLink RX10 114 yX10_in, .static yX10_in, .initialized RX10, .code yX10_in cX10_in 6 (some .boolean)])
def wsX10_isLoad : List Cond := .code yX10_isLoad cX10_isLoad 1 (some .boolean) :: ([.constantLong RX10 118 (-50), .constantLong RX10 120 (50), .methodLink RX10 114 yX10_in, .static yX10_in, .initialized RX10, .code yX10_in cX10_in 6 (some .boolean)])
def wsX10_down : List Cond := .code yX10_down cX10_down 6 (some .long) :: ([])
def wsX10_first : List Cond := .code yX10_first cX10_first 4 (some .int) :: ([.constantLong RX10 122 (2), .constantLong RX10 124 (-100), .constantLong RX10 126 (100), .fieldLink RX10 7 "WindHallModel" "a" "[I", .methodLink RX10 114 yX10_in, .static yX10_in, .initialized RX10, .code yX10_in cX10_in 6 (some .boolean)] ++ wsX100)
def wsX10_second : List Cond := .code yX10_second cX10_second 4 (some .int) :: ([.constantLong RX10 122 (2), .constantLong RX10 128 (5), .constantLong RX10 130 (-20), .constantLong RX10 132 (20), .fieldLink RX10 13 "WindHallModel" "b" "[I", .methodLink RX10 114 yX10_in, .static yX10_in, .initialized RX10, .code yX10_in cX10_in 6 (some .boolean)] ++ wsX100)
def wsX10_products : List Cond := .code yX10_products cX10_products 6 (some .int) :: ([.fieldLink RX10 13 "WindHallModel" "b" "[I"] ++ wsX100)
def wsX10_readingOf : List Cond := .code yX10_readingOf cX10_readingOf 5 (some .int) :: ([.fieldLink RX10 7 "WindHallModel" "a" "[I", .methodLink RX10 134 yX10_products, .instanceMethod yX10_products, .selects RX10 yX10_products yX10_products, .initialized RX10, .code yX10_products cX10_products 6 (some .int), .fieldLink RX10 13 "WindHallModel" "b" "[I"] ++ wsX100)
def wsX10_reading : List Cond := .code yX10_reading cX10_reading 5 (some .int) :: ([.constantLong RX10 122 (2), .constant RX10 145 (9999999), .methodLink RX10 114 yX10_in, .static yX10_in, .initialized RX10, .code yX10_in cX10_in 6 (some .boolean), .methodLink RX10 138 yX10_isLoad, .static yX10_isLoad, .code yX10_isLoad cX10_isLoad 1 (some .boolean), .constantLong RX10 118 (-50), .constantLong RX10 120 (50), .methodLink RX10 142 yX10_readingOf, .instanceMethod yX10_readingOf, .selects RX10 yX10_readingOf yX10_readingOf, .code yX10_readingOf cX10_readingOf 5 (some .int), .fieldLink RX10 7 "WindHallModel" "a" "[I", .methodLink RX10 134 yX10_products, .instanceMethod yX10_products, .selects RX10 yX10_products yX10_products, .code yX10_products cX10_products 6 (some .int), .fieldLink RX10 13 "WindHallModel" "b" "[I"] ++ wsX100)
def wsX10_determinant : List Cond := .code yX10_determinant cX10_determinant 1 (some .long) :: ([.fieldLink RX10 16 "WindHallModel" "m" "[J"] ++ wsX100)
def wsX10_replaced : List Cond := .code yX10_replaced cX10_replaced 10 (some .long) :: ([.fieldLink RX10 16 "WindHallModel" "m" "[J", .fieldLink RX10 20 "WindHallModel" "right" "[J", .methodLink RX10 146 yX10_determinant, .instanceMethod yX10_determinant, .selects RX10 yX10_determinant yX10_determinant, .initialized RX10, .code yX10_determinant cX10_determinant 1 (some .long)] ++ wsX100)
def wsX10_nearest : List Cond := .code yX10_nearest cX10_nearest 10 (some .long) :: ([.constantLong RX10 126 (100), .constantLong RX10 122 (2), .constantLong RX10 118 (-50), .constantLong RX10 120 (50), .methodLink RX10 167 yX10_down, .static yX10_down, .initialized RX10, .code yX10_down cX10_down 6 (some .long)])
def wsX10_back_r1 : List Cond := [Cond.constantLong RX10 120 (50), Cond.fieldLink RX10 16 "WindHallModel" "m" "[J", Cond.fieldLink RX10 7 "WindHallModel" "a" "[I", Cond.fieldLink RX10 23 "WindHallModel" "loads" "[I", Cond.fieldLink RX10 153 "WindHallModel" "still" "I", Cond.fieldLink RX10 20 "WindHallModel" "right" "[J", Cond.fieldLink RX10 164 "WindHallModel" "away" "I", Cond.methodLink RX10 150 yX10_isReading, Cond.static yX10_isReading, Cond.initialized RX10, Cond.code yX10_isReading cX10_isReading 1 (some .boolean), Cond.constantLong RX10 110 (-2000000), Cond.constantLong RX10 112 (2000000), Cond.methodLink RX10 114 yX10_in, Cond.static yX10_in, Cond.code yX10_in cX10_in 6 (some .boolean), Cond.methodLink RX10 146 yX10_determinant, Cond.instanceMethod yX10_determinant, Cond.selects RX10 yX10_determinant yX10_determinant, Cond.code yX10_determinant cX10_determinant 1 (some .long), Cond.methodLink RX10 134 yX10_products, Cond.instanceMethod yX10_products, Cond.selects RX10 yX10_products yX10_products, Cond.code yX10_products cX10_products 6 (some .int)]
def wsX10_back_r2 : List Cond := [Cond.fieldLink RX10 13 "WindHallModel" "b" "[I", Cond.methodLink RX10 156 yX10_replaced, Cond.instanceMethod yX10_replaced, Cond.selects RX10 yX10_replaced yX10_replaced, Cond.code yX10_replaced cX10_replaced 10 (some .long), Cond.methodLink RX10 160 yX10_nearest, Cond.static yX10_nearest, Cond.code yX10_nearest cX10_nearest 10 (some .long), Cond.constantLong RX10 126 (100), Cond.constantLong RX10 122 (2), Cond.constantLong RX10 118 (-50), Cond.methodLink RX10 167 yX10_down, Cond.static yX10_down, Cond.code yX10_down cX10_down 6 (some .long), Cond.methodLink RX10 142 yX10_readingOf, Cond.instanceMethod yX10_readingOf, Cond.selects RX10 yX10_readingOf yX10_readingOf, Cond.code yX10_readingOf cX10_readingOf 5 (some .int)]
def wsX10_back : List Cond := .code yX10_back cX10_back 14 (some .int) :: ((wsX10_back_r1 ++ wsX10_back_r2) ++ wsX100)
def wsX10_found : List Cond := .code yX10_found cX10_found 2 (some .int) :: ([.constantLong RX10 122 (2), .fieldLink RX10 23 "WindHallModel" "loads" "[I", .fieldLink RX10 153 "WindHallModel" "still" "I", .fieldLink RX10 164 "WindHallModel" "away" "I", .methodLink RX10 114 yX10_in, .static yX10_in, .initialized RX10, .code yX10_in cX10_in 6 (some .boolean)] ++ wsX100)
def wsX10_point : List Cond := .code yX10_point cX10_point 8 (some .int) :: ([.fieldLink RX10 170 "WindHallModel" "points" "I", .fieldLink RX10 26 "WindHallModel" "pLoads" "[I", .fieldLink RX10 29 "WindHallModel" "pReads" "[I", .methodLink RX10 138 yX10_isLoad, .static yX10_isLoad, .initialized RX10, .code yX10_isLoad cX10_isLoad 1 (some .boolean), .constantLong RX10 118 (-50), .constantLong RX10 120 (50), .methodLink RX10 114 yX10_in, .static yX10_in, .code yX10_in cX10_in 6 (some .boolean), .methodLink RX10 150 yX10_isReading, .static yX10_isReading, .code yX10_isReading cX10_isReading 1 (some .boolean), .constantLong RX10 110 (-2000000), .constantLong RX10 112 (2000000)] ++ wsX100)
def wsX10_divisor : List Cond := .code yX10_divisor cX10_divisor 10 (some .long) :: ([])
def wsX10_fit : List Cond := .code yX10_fit cX10_fit 10 (some .long) :: ([.constantLong RX10 122 (2), .constantLong RX10 173 (-1000000000000), .fieldLink RX10 20 "WindHallModel" "right" "[J", .fieldLink RX10 16 "WindHallModel" "m" "[J", .fieldLink RX10 170 "WindHallModel" "points" "I", .fieldLink RX10 26 "WindHallModel" "pLoads" "[I", .fieldLink RX10 29 "WindHallModel" "pReads" "[I", .constantLong RX10 126 (100), .methodLink RX10 114 yX10_in, .static yX10_in, .initialized RX10, .code yX10_in cX10_in 6 (some .boolean), .methodLink RX10 146 yX10_determinant, .instanceMethod yX10_determinant, .selects RX10 yX10_determinant yX10_determinant, .code yX10_determinant cX10_determinant 1 (some .long), .methodLink RX10 156 yX10_replaced, .instanceMethod yX10_replaced, .selects RX10 yX10_replaced yX10_replaced, .code yX10_replaced cX10_replaced 10 (some .long), .methodLink RX10 175 yX10_divisor, .static yX10_divisor, .code yX10_divisor cX10_divisor 10 (some .long)] ++ wsX100)
def wsX10_miss : List Cond := .code yX10_miss cX10_miss 5 (some .int) :: ([.constantLong RX10 122 (2), .fieldLink RX10 170 "WindHallModel" "points" "I", .fieldLink RX10 29 "WindHallModel" "pReads" "[I", .fieldLink RX10 26 "WindHallModel" "pLoads" "[I", .methodLink RX10 114 yX10_in, .static yX10_in, .initialized RX10, .code yX10_in cX10_in 6 (some .boolean), .methodLink RX10 142 yX10_readingOf, .instanceMethod yX10_readingOf, .selects RX10 yX10_readingOf yX10_readingOf, .code yX10_readingOf cX10_readingOf 5 (some .int), .fieldLink RX10 7 "WindHallModel" "a" "[I", .methodLink RX10 134 yX10_products, .instanceMethod yX10_products, .selects RX10 yX10_products yX10_products, .code yX10_products cX10_products 6 (some .int), .fieldLink RX10 13 "WindHallModel" "b" "[I"] ++ wsX100)
def wsX10_forget : List Cond := .code yX10_forget cX10_forget 2 (some .int) :: ([.fieldLink RX10 170 "WindHallModel" "points" "I"] ++ wsX100)
def wsX10_isCorrection : List Cond := .code yX10_isCorrection cX10_isCorrection 2 (some .boolean) :: ([.fieldLink RX10 178 "WindHallModel" "corrections" "I", .methodLink RX10 114 yX10_in, .static yX10_in, .initialized RX10, .code yX10_in cX10_in 6 (some .boolean)] ++ wsX100)
def wsX10_correct : List Cond := .code yX10_correct cX10_correct 5 (some .int) :: ([.constantLong RX10 181 (4), .constantLong RX10 183 (-300), .constantLong RX10 185 (-10000), .constantLong RX10 187 (300), .constantLong RX10 189 (10000), .fieldLink RX10 178 "WindHallModel" "corrections" "I", .fieldLink RX10 32 "WindHallModel" "cKind" "[I", .fieldLink RX10 35 "WindHallModel" "cU" "[I", .fieldLink RX10 38 "WindHallModel" "cV" "[I", .fieldLink RX10 41 "WindHallModel" "cW" "[I", .fieldLink RX10 44 "WindHallModel" "cOn" "[Z", .methodLink RX10 114 yX10_in, .static yX10_in, .initialized RX10, .code yX10_in cX10_in 6 (some .boolean)] ++ wsX100)
def wsX10_turn : List Cond := .code yX10_turn cX10_turn 4 (some .int) :: ([.fieldLink RX10 44 "WindHallModel" "cOn" "[Z", .methodLink RX10 191 yX10_isCorrection, .instanceMethod yX10_isCorrection, .selects RX10 yX10_isCorrection yX10_isCorrection, .initialized RX10, .code yX10_isCorrection cX10_isCorrection 2 (some .boolean), .fieldLink RX10 178 "WindHallModel" "corrections" "I", .methodLink RX10 114 yX10_in, .static yX10_in, .code yX10_in cX10_in 6 (some .boolean)] ++ wsX100)
def wsX10_swap : List Cond := .code yX10_swap cX10_swap 7 (some .int) :: ([.fieldLink RX10 32 "WindHallModel" "cKind" "[I", .fieldLink RX10 35 "WindHallModel" "cU" "[I", .fieldLink RX10 38 "WindHallModel" "cV" "[I", .fieldLink RX10 41 "WindHallModel" "cW" "[I", .fieldLink RX10 44 "WindHallModel" "cOn" "[Z", .methodLink RX10 191 yX10_isCorrection, .instanceMethod yX10_isCorrection, .selects RX10 yX10_isCorrection yX10_isCorrection, .initialized RX10, .code yX10_isCorrection cX10_isCorrection 2 (some .boolean), .fieldLink RX10 178 "WindHallModel" "corrections" "I", .methodLink RX10 114 yX10_in, .static yX10_in, .code yX10_in cX10_in 6 (some .boolean)] ++ wsX100)
def wsX10_drop : List Cond := .code yX10_drop cX10_drop 1 (some .int) :: ([.fieldLink RX10 178 "WindHallModel" "corrections" "I"] ++ wsX100)
def wsX10_raw : List Cond := .code yX10_raw cX10_raw 6 (some .int) :: ([.constantLong RX10 194 (1000), .constantLong RX10 196 (23), .fieldLink RX10 48 "WindHallModel" "raws" "[I", .fieldLink RX10 198 "WindHallModel" "time" "I", .fieldLink RX10 201 "WindHallModel" "angle" "I", .methodLink RX10 150 yX10_isReading, .static yX10_isReading, .initialized RX10, .code yX10_isReading cX10_isReading 1 (some .boolean), .constantLong RX10 110 (-2000000), .constantLong RX10 112 (2000000), .methodLink RX10 114 yX10_in, .static yX10_in, .code yX10_in cX10_in 6 (some .boolean)] ++ wsX100)
def wsX10_cosine : List Cond := .code yX10_cosine cX10_cosine 3 (some .int) :: ([.fieldLink RX10 51 "WindHallModel" "quarter" "[I"] ++ wsX100)
def wsX10_sine : List Cond := .code yX10_sine cX10_sine 2 (some .int) :: ([.methodLink RX10 204 yX10_cosine, .instanceMethod yX10_cosine, .selects RX10 yX10_cosine yX10_cosine, .initialized RX10, .code yX10_cosine cX10_cosine 3 (some .int), .fieldLink RX10 51 "WindHallModel" "quarter" "[I"] ++ wsX100)
def wsX10_begins : List Cond := .code yX10_begins cX10_begins 2 none :: ([.fieldLink RX10 54 "WindHallModel" "now" "[J", .fieldLink RX10 48 "WindHallModel" "raws" "[I"] ++ wsX100)
def wsX10_does : List Cond := .code yX10_does cX10_does 11 none :: ([.fieldLink RX10 35 "WindHallModel" "cU" "[I", .fieldLink RX10 38 "WindHallModel" "cV" "[I", .fieldLink RX10 41 "WindHallModel" "cW" "[I", .fieldLink RX10 32 "WindHallModel" "cKind" "[I", .fieldLink RX10 54 "WindHallModel" "now" "[J", .constantLong RX10 126 (100), .fieldLink RX10 201 "WindHallModel" "angle" "I", .constantLong RX10 194 (1000), .constantLong RX10 122 (2), .fieldLink RX10 198 "WindHallModel" "time" "I", .methodLink RX10 167 yX10_down, .static yX10_down, .initialized RX10, .code yX10_down cX10_down 6 (some .long), .methodLink RX10 204 yX10_cosine, .instanceMethod yX10_cosine, .selects RX10 yX10_cosine yX10_cosine, .code yX10_cosine cX10_cosine 3 (some .int), .fieldLink RX10 51 "WindHallModel" "quarter" "[I", .methodLink RX10 208 yX10_sine, .instanceMethod yX10_sine, .selects RX10 yX10_sine yX10_sine, .code yX10_sine cX10_sine 2 (some .int)] ++ wsX100)
def wsX10_corrected_r1 : List Cond := [Cond.constantLong RX10 122 (2), Cond.fieldLink RX10 178 "WindHallModel" "corrections" "I", Cond.fieldLink RX10 44 "WindHallModel" "cOn" "[Z", Cond.fieldLink RX10 54 "WindHallModel" "now" "[J", Cond.methodLink RX10 114 yX10_in, Cond.static yX10_in, Cond.initialized RX10, Cond.code yX10_in cX10_in 6 (some .boolean), Cond.methodLink RX10 211 yX10_begins, Cond.instanceMethod yX10_begins, Cond.selects RX10 yX10_begins yX10_begins, Cond.code yX10_begins cX10_begins 2 none, Cond.fieldLink RX10 48 "WindHallModel" "raws" "[I", Cond.methodLink RX10 214 yX10_does, Cond.instanceMethod yX10_does, Cond.selects RX10 yX10_does yX10_does, Cond.code yX10_does cX10_does 11 none, Cond.fieldLink RX10 35 "WindHallModel" "cU" "[I", Cond.fieldLink RX10 38 "WindHallModel" "cV" "[I", Cond.fieldLink RX10 41 "WindHallModel" "cW" "[I", Cond.fieldLink RX10 32 "WindHallModel" "cKind" "[I", Cond.constantLong RX10 126 (100), Cond.fieldLink RX10 201 "WindHallModel" "angle" "I", Cond.constantLong RX10 194 (1000)]
def wsX10_corrected_r2 : List Cond := [Cond.fieldLink RX10 198 "WindHallModel" "time" "I", Cond.methodLink RX10 167 yX10_down, Cond.static yX10_down, Cond.code yX10_down cX10_down 6 (some .long), Cond.methodLink RX10 204 yX10_cosine, Cond.instanceMethod yX10_cosine, Cond.selects RX10 yX10_cosine yX10_cosine, Cond.code yX10_cosine cX10_cosine 3 (some .int), Cond.fieldLink RX10 51 "WindHallModel" "quarter" "[I", Cond.methodLink RX10 208 yX10_sine, Cond.instanceMethod yX10_sine, Cond.selects RX10 yX10_sine yX10_sine, Cond.code yX10_sine cX10_sine 2 (some .int)]
def wsX10_corrected : List Cond := .code yX10_corrected cX10_corrected 4 (some .long) :: ((wsX10_corrected_r1 ++ wsX10_corrected_r2) ++ wsX100)
def wsX10_tells_r1 : List Cond := [Cond.fieldLink RX10 178 "WindHallModel" "corrections" "I", Cond.fieldLink RX10 57 "WindHallModel" "told" "[J", Cond.methodLink RX10 218 yX10_corrected, Cond.instanceMethod yX10_corrected, Cond.selects RX10 yX10_corrected yX10_corrected, Cond.initialized RX10, Cond.code yX10_corrected cX10_corrected 4 (some .long), Cond.constantLong RX10 122 (2), Cond.fieldLink RX10 44 "WindHallModel" "cOn" "[Z", Cond.fieldLink RX10 54 "WindHallModel" "now" "[J", Cond.methodLink RX10 114 yX10_in, Cond.static yX10_in, Cond.code yX10_in cX10_in 6 (some .boolean), Cond.methodLink RX10 211 yX10_begins, Cond.instanceMethod yX10_begins, Cond.selects RX10 yX10_begins yX10_begins, Cond.code yX10_begins cX10_begins 2 none, Cond.fieldLink RX10 48 "WindHallModel" "raws" "[I", Cond.methodLink RX10 214 yX10_does, Cond.instanceMethod yX10_does, Cond.selects RX10 yX10_does yX10_does, Cond.code yX10_does cX10_does 11 none, Cond.fieldLink RX10 35 "WindHallModel" "cU" "[I", Cond.fieldLink RX10 38 "WindHallModel" "cV" "[I"]
def wsX10_tells_r2 : List Cond := [Cond.fieldLink RX10 41 "WindHallModel" "cW" "[I", Cond.fieldLink RX10 32 "WindHallModel" "cKind" "[I", Cond.constantLong RX10 126 (100), Cond.fieldLink RX10 201 "WindHallModel" "angle" "I", Cond.constantLong RX10 194 (1000), Cond.fieldLink RX10 198 "WindHallModel" "time" "I", Cond.methodLink RX10 167 yX10_down, Cond.static yX10_down, Cond.code yX10_down cX10_down 6 (some .long), Cond.methodLink RX10 204 yX10_cosine, Cond.instanceMethod yX10_cosine, Cond.selects RX10 yX10_cosine yX10_cosine, Cond.code yX10_cosine cX10_cosine 3 (some .int), Cond.fieldLink RX10 51 "WindHallModel" "quarter" "[I", Cond.methodLink RX10 208 yX10_sine, Cond.instanceMethod yX10_sine, Cond.selects RX10 yX10_sine yX10_sine, Cond.code yX10_sine cX10_sine 2 (some .int)]
def wsX10_tells : List Cond := .code yX10_tells cX10_tells 3 none :: ((wsX10_tells_r1 ++ wsX10_tells_r2) ++ wsX100)
def wsX10_touches_r1 : List Cond := [Cond.fieldLink RX10 44 "WindHallModel" "cOn" "[Z", Cond.fieldLink RX10 178 "WindHallModel" "corrections" "I", Cond.fieldLink RX10 57 "WindHallModel" "told" "[J", Cond.methodLink RX10 191 yX10_isCorrection, Cond.instanceMethod yX10_isCorrection, Cond.selects RX10 yX10_isCorrection yX10_isCorrection, Cond.initialized RX10, Cond.code yX10_isCorrection cX10_isCorrection 2 (some .boolean), Cond.methodLink RX10 114 yX10_in, Cond.static yX10_in, Cond.code yX10_in cX10_in 6 (some .boolean), Cond.methodLink RX10 222 yX10_tells, Cond.instanceMethod yX10_tells, Cond.selects RX10 yX10_tells yX10_tells, Cond.code yX10_tells cX10_tells 3 none, Cond.methodLink RX10 218 yX10_corrected, Cond.instanceMethod yX10_corrected, Cond.selects RX10 yX10_corrected yX10_corrected, Cond.code yX10_corrected cX10_corrected 4 (some .long), Cond.constantLong RX10 122 (2), Cond.fieldLink RX10 54 "WindHallModel" "now" "[J", Cond.methodLink RX10 211 yX10_begins, Cond.instanceMethod yX10_begins, Cond.selects RX10 yX10_begins yX10_begins]
def wsX10_touches_r2 : List Cond := [Cond.code yX10_begins cX10_begins 2 none, Cond.fieldLink RX10 48 "WindHallModel" "raws" "[I", Cond.methodLink RX10 214 yX10_does, Cond.instanceMethod yX10_does, Cond.selects RX10 yX10_does yX10_does, Cond.code yX10_does cX10_does 11 none, Cond.fieldLink RX10 35 "WindHallModel" "cU" "[I", Cond.fieldLink RX10 38 "WindHallModel" "cV" "[I", Cond.fieldLink RX10 41 "WindHallModel" "cW" "[I", Cond.fieldLink RX10 32 "WindHallModel" "cKind" "[I", Cond.constantLong RX10 126 (100), Cond.fieldLink RX10 201 "WindHallModel" "angle" "I", Cond.constantLong RX10 194 (1000), Cond.fieldLink RX10 198 "WindHallModel" "time" "I", Cond.methodLink RX10 167 yX10_down, Cond.static yX10_down, Cond.code yX10_down cX10_down 6 (some .long), Cond.methodLink RX10 204 yX10_cosine, Cond.instanceMethod yX10_cosine, Cond.selects RX10 yX10_cosine yX10_cosine, Cond.code yX10_cosine cX10_cosine 3 (some .int), Cond.fieldLink RX10 51 "WindHallModel" "quarter" "[I", Cond.methodLink RX10 208 yX10_sine, Cond.instanceMethod yX10_sine]
def wsX10_touches_r3 : List Cond := [Cond.selects RX10 yX10_sine yX10_sine, Cond.code yX10_sine cX10_sine 2 (some .int)]
def wsX10_touches : List Cond := .code yX10_touches cX10_touches 5 (some .int) :: ((wsX10_touches_r1 ++ (wsX10_touches_r2 ++ wsX10_touches_r3)) ++ wsX100)
def wsX10_minds_r1 : List Cond := [Cond.fieldLink RX10 57 "WindHallModel" "told" "[J", Cond.methodLink RX10 191 yX10_isCorrection, Cond.instanceMethod yX10_isCorrection, Cond.selects RX10 yX10_isCorrection yX10_isCorrection, Cond.initialized RX10, Cond.code yX10_isCorrection cX10_isCorrection 2 (some .boolean), Cond.fieldLink RX10 178 "WindHallModel" "corrections" "I", Cond.methodLink RX10 114 yX10_in, Cond.static yX10_in, Cond.code yX10_in cX10_in 6 (some .boolean), Cond.methodLink RX10 222 yX10_tells, Cond.instanceMethod yX10_tells, Cond.selects RX10 yX10_tells yX10_tells, Cond.code yX10_tells cX10_tells 3 none, Cond.methodLink RX10 218 yX10_corrected, Cond.instanceMethod yX10_corrected, Cond.selects RX10 yX10_corrected yX10_corrected, Cond.code yX10_corrected cX10_corrected 4 (some .long), Cond.constantLong RX10 122 (2), Cond.fieldLink RX10 44 "WindHallModel" "cOn" "[Z", Cond.fieldLink RX10 54 "WindHallModel" "now" "[J", Cond.methodLink RX10 211 yX10_begins, Cond.instanceMethod yX10_begins, Cond.selects RX10 yX10_begins yX10_begins]
def wsX10_minds_r2 : List Cond := [Cond.code yX10_begins cX10_begins 2 none, Cond.fieldLink RX10 48 "WindHallModel" "raws" "[I", Cond.methodLink RX10 214 yX10_does, Cond.instanceMethod yX10_does, Cond.selects RX10 yX10_does yX10_does, Cond.code yX10_does cX10_does 11 none, Cond.fieldLink RX10 35 "WindHallModel" "cU" "[I", Cond.fieldLink RX10 38 "WindHallModel" "cV" "[I", Cond.fieldLink RX10 41 "WindHallModel" "cW" "[I", Cond.fieldLink RX10 32 "WindHallModel" "cKind" "[I", Cond.constantLong RX10 126 (100), Cond.fieldLink RX10 201 "WindHallModel" "angle" "I", Cond.constantLong RX10 194 (1000), Cond.fieldLink RX10 198 "WindHallModel" "time" "I", Cond.methodLink RX10 167 yX10_down, Cond.static yX10_down, Cond.code yX10_down cX10_down 6 (some .long), Cond.methodLink RX10 204 yX10_cosine, Cond.instanceMethod yX10_cosine, Cond.selects RX10 yX10_cosine yX10_cosine, Cond.code yX10_cosine cX10_cosine 3 (some .int), Cond.fieldLink RX10 51 "WindHallModel" "quarter" "[I", Cond.methodLink RX10 208 yX10_sine, Cond.instanceMethod yX10_sine]
def wsX10_minds_r3 : List Cond := [Cond.selects RX10 yX10_sine yX10_sine, Cond.code yX10_sine cX10_sine 2 (some .int), Cond.methodLink RX10 225 yX10_swap, Cond.instanceMethod yX10_swap, Cond.selects RX10 yX10_swap yX10_swap, Cond.code yX10_swap cX10_swap 7 (some .int)]
def wsX10_minds : List Cond := .code yX10_minds cX10_minds 4 (some .int) :: ((wsX10_minds_r1 ++ (wsX10_minds_r2 ++ wsX10_minds_r3)) ++ wsX100)
def wsX10_isPlace : List Cond := .code yX10_isPlace cX10_isPlace 2 (some .boolean) :: ([.fieldLink RX10 228 "WindHallModel" "places" "I", .methodLink RX10 114 yX10_in, .static yX10_in, .initialized RX10, .code yX10_in cX10_in 6 (some .boolean)] ++ wsX100)
def wsX10_place : List Cond := .code yX10_place cX10_place 3 (some .int) :: ([.constantLong RX10 196 (23), .constantLong RX10 231 (9), .fieldLink RX10 228 "WindHallModel" "places" "I", .fieldLink RX10 60 "WindHallModel" "angles" "[I", .fieldLink RX10 63 "WindHallModel" "speeds" "[I", .fieldLink RX10 66 "WindHallModel" "isDone" "[Z", .methodLink RX10 114 yX10_in, .static yX10_in, .initialized RX10, .code yX10_in cX10_in 6 (some .boolean)] ++ wsX100)
def wsX10_done : List Cond := .code yX10_done cX10_done 4 (some .int) :: ([.fieldLink RX10 66 "WindHallModel" "isDone" "[Z", .methodLink RX10 233 yX10_isPlace, .instanceMethod yX10_isPlace, .selects RX10 yX10_isPlace yX10_isPlace, .initialized RX10, .code yX10_isPlace cX10_isPlace 2 (some .boolean), .fieldLink RX10 228 "WindHallModel" "places" "I", .methodLink RX10 114 yX10_in, .static yX10_in, .code yX10_in cX10_in 6 (some .boolean)] ++ wsX100)
def wsX10_move : List Cond := .code yX10_move cX10_move 6 (some .int) :: ([.fieldLink RX10 60 "WindHallModel" "angles" "[I", .fieldLink RX10 63 "WindHallModel" "speeds" "[I"] ++ wsX100)
def wsX10_moves : List Cond := .code yX10_moves cX10_moves 3 (some .int) :: ([.fieldLink RX10 60 "WindHallModel" "angles" "[I", .fieldLink RX10 63 "WindHallModel" "speeds" "[I", .methodLink RX10 233 yX10_isPlace, .instanceMethod yX10_isPlace, .selects RX10 yX10_isPlace yX10_isPlace, .initialized RX10, .code yX10_isPlace cX10_isPlace 2 (some .boolean), .fieldLink RX10 228 "WindHallModel" "places" "I", .methodLink RX10 114 yX10_in, .static yX10_in, .code yX10_in cX10_in 6 (some .boolean), .methodLink RX10 236 yX10_move, .instanceMethod yX10_move, .selects RX10 yX10_move yX10_move, .code yX10_move cX10_move 6 (some .int)] ++ wsX100)
def wsX10_behind : List Cond := .code yX10_behind cX10_behind 3 (some .int) :: ([.fieldLink RX10 69 "WindHallModel" "leasts" "[I"] ++ wsX100)
def wsX10_cost : List Cond := .code yX10_cost cX10_cost 3 (some .int) :: ([.fieldLink RX10 60 "WindHallModel" "angles" "[I", .fieldLink RX10 63 "WindHallModel" "speeds" "[I", .methodLink RX10 236 yX10_move, .instanceMethod yX10_move, .selects RX10 yX10_move yX10_move, .initialized RX10, .code yX10_move cX10_move 6 (some .int)] ++ wsX100)
def wsX10_best : List Cond := .code yX10_best cX10_best 6 (some .int) :: ([.fieldLink RX10 228 "WindHallModel" "places" "I", .methodLink RX10 240 yX10_cost, .instanceMethod yX10_cost, .selects RX10 yX10_cost yX10_cost, .initialized RX10, .code yX10_cost cX10_cost 3 (some .int), .fieldLink RX10 60 "WindHallModel" "angles" "[I", .fieldLink RX10 63 "WindHallModel" "speeds" "[I", .methodLink RX10 236 yX10_move, .instanceMethod yX10_move, .selects RX10 yX10_move yX10_move, .code yX10_move cX10_move 6 (some .int), .methodLink RX10 244 yX10_behind, .instanceMethod yX10_behind, .selects RX10 yX10_behind yX10_behind, .code yX10_behind cX10_behind 3 (some .int), .fieldLink RX10 69 "WindHallModel" "leasts" "[I"] ++ wsX100)
def wsX10_findAll : List Cond := .code yX10_findAll cX10_findAll 4 (some .int) :: ([.fieldLink RX10 228 "WindHallModel" "places" "I", .fieldLink RX10 66 "WindHallModel" "isDone" "[Z", .fieldLink RX10 69 "WindHallModel" "leasts" "[I", .methodLink RX10 247 yX10_best, .instanceMethod yX10_best, .selects RX10 yX10_best yX10_best, .initialized RX10, .code yX10_best cX10_best 6 (some .int), .methodLink RX10 240 yX10_cost, .instanceMethod yX10_cost, .selects RX10 yX10_cost yX10_cost, .code yX10_cost cX10_cost 3 (some .int), .fieldLink RX10 60 "WindHallModel" "angles" "[I", .fieldLink RX10 63 "WindHallModel" "speeds" "[I", .methodLink RX10 236 yX10_move, .instanceMethod yX10_move, .selects RX10 yX10_move yX10_move, .code yX10_move cX10_move 6 (some .int), .methodLink RX10 244 yX10_behind, .instanceMethod yX10_behind, .selects RX10 yX10_behind yX10_behind, .code yX10_behind cX10_behind 3 (some .int)] ++ wsX100)
def wsX10_least_r1 : List Cond := [Cond.methodLink RX10 250 yX10_findAll, Cond.instanceMethod yX10_findAll, Cond.selects RX10 yX10_findAll yX10_findAll, Cond.initialized RX10, Cond.code yX10_findAll cX10_findAll 4 (some .int), Cond.fieldLink RX10 228 "WindHallModel" "places" "I", Cond.fieldLink RX10 66 "WindHallModel" "isDone" "[Z", Cond.fieldLink RX10 69 "WindHallModel" "leasts" "[I", Cond.methodLink RX10 247 yX10_best, Cond.instanceMethod yX10_best, Cond.selects RX10 yX10_best yX10_best, Cond.code yX10_best cX10_best 6 (some .int), Cond.methodLink RX10 240 yX10_cost, Cond.instanceMethod yX10_cost, Cond.selects RX10 yX10_cost yX10_cost, Cond.code yX10_cost cX10_cost 3 (some .int), Cond.fieldLink RX10 60 "WindHallModel" "angles" "[I", Cond.fieldLink RX10 63 "WindHallModel" "speeds" "[I", Cond.methodLink RX10 236 yX10_move, Cond.instanceMethod yX10_move, Cond.selects RX10 yX10_move yX10_move, Cond.code yX10_move cX10_move 6 (some .int), Cond.methodLink RX10 244 yX10_behind, Cond.instanceMethod yX10_behind]
def wsX10_least_r2 : List Cond := [Cond.selects RX10 yX10_behind yX10_behind, Cond.code yX10_behind cX10_behind 3 (some .int)]
def wsX10_least : List Cond := .code yX10_least cX10_least 2 (some .int) :: ((wsX10_least_r1 ++ wsX10_least_r2) ++ wsX100)
def wsX10_order_r1 : List Cond := [Cond.methodLink RX10 250 yX10_findAll, Cond.instanceMethod yX10_findAll, Cond.selects RX10 yX10_findAll yX10_findAll, Cond.initialized RX10, Cond.code yX10_findAll cX10_findAll 4 (some .int), Cond.fieldLink RX10 228 "WindHallModel" "places" "I", Cond.fieldLink RX10 66 "WindHallModel" "isDone" "[Z", Cond.fieldLink RX10 69 "WindHallModel" "leasts" "[I", Cond.methodLink RX10 247 yX10_best, Cond.instanceMethod yX10_best, Cond.selects RX10 yX10_best yX10_best, Cond.code yX10_best cX10_best 6 (some .int), Cond.methodLink RX10 240 yX10_cost, Cond.instanceMethod yX10_cost, Cond.selects RX10 yX10_cost yX10_cost, Cond.code yX10_cost cX10_cost 3 (some .int), Cond.fieldLink RX10 60 "WindHallModel" "angles" "[I", Cond.fieldLink RX10 63 "WindHallModel" "speeds" "[I", Cond.methodLink RX10 236 yX10_move, Cond.instanceMethod yX10_move, Cond.selects RX10 yX10_move yX10_move, Cond.code yX10_move cX10_move 6 (some .int), Cond.methodLink RX10 244 yX10_behind, Cond.instanceMethod yX10_behind]
def wsX10_order_r2 : List Cond := [Cond.selects RX10 yX10_behind yX10_behind, Cond.code yX10_behind cX10_behind 3 (some .int)]
def wsX10_order : List Cond := .code yX10_order cX10_order 7 (some .int) :: ((wsX10_order_r1 ++ wsX10_order_r2) ++ wsX100)
def wsX10_waits : List Cond := .code yX10_waits cX10_waits 1 none :: ([.fieldLink RX10 254 "WindHallModel" "state" "I", .fieldLink RX10 257 "WindHallModel" "came" "I", .fieldLink RX10 86 "WindHallModel" "beyond" "I"] ++ wsX100)
def wsX10_rule : List Cond := .code yX10_rule cX10_rule 5 (some .int) :: ([.constantLong RX10 260 (8), .constantLong RX10 262 (100000), .constantLong RX10 126 (100), .constantLong RX10 112 (2000000), .fieldLink RX10 72 "WindHallModel" "ruleN" "I", .fieldLink RX10 76 "WindHallModel" "ruleD" "I", .fieldLink RX10 79 "WindHallModel" "ruleMost" "I", .fieldLink RX10 83 "WindHallModel" "ruleLimit" "I", .methodLink RX10 114 yX10_in, .static yX10_in, .initialized RX10, .code yX10_in cX10_in 6 (some .boolean), .methodLink RX10 264 yX10_waits, .instanceMethod yX10_waits, .selects RX10 yX10_waits yX10_waits, .code yX10_waits cX10_waits 1 none, .fieldLink RX10 254 "WindHallModel" "state" "I", .fieldLink RX10 257 "WindHallModel" "came" "I", .fieldLink RX10 86 "WindHallModel" "beyond" "I"] ++ wsX100)
def wsX10_isSettled : List Cond := .code yX10_isSettled cX10_isSettled 7 (some .boolean) :: ([.fieldLink RX10 257 "WindHallModel" "came" "I", .fieldLink RX10 72 "WindHallModel" "ruleN" "I", .fieldLink RX10 89 "WindHallModel" "rows" "[I", .fieldLink RX10 76 "WindHallModel" "ruleD" "I"] ++ wsX100)
def wsX10_come : List Cond := .code yX10_come cX10_come 6 (some .int) :: ([.fieldLink RX10 254 "WindHallModel" "state" "I", .fieldLink RX10 89 "WindHallModel" "rows" "[I", .fieldLink RX10 257 "WindHallModel" "came" "I", .fieldLink RX10 83 "WindHallModel" "ruleLimit" "I", .fieldLink RX10 86 "WindHallModel" "beyond" "I", .fieldLink RX10 79 "WindHallModel" "ruleMost" "I", .methodLink RX10 150 yX10_isReading, .static yX10_isReading, .initialized RX10, .code yX10_isReading cX10_isReading 1 (some .boolean), .constantLong RX10 110 (-2000000), .constantLong RX10 112 (2000000), .methodLink RX10 114 yX10_in, .static yX10_in, .code yX10_in cX10_in 6 (some .boolean), .methodLink RX10 267 yX10_isSettled, .instanceMethod yX10_isSettled, .selects RX10 yX10_isSettled yX10_isSettled, .code yX10_isSettled cX10_isSettled 7 (some .boolean), .fieldLink RX10 72 "WindHallModel" "ruleN" "I", .fieldLink RX10 76 "WindHallModel" "ruleD" "I"] ++ wsX100)
def wsX10_settled : List Cond := .code yX10_settled cX10_settled 4 (some .int) :: ([.constantLong RX10 271 (3), .constantLong RX10 128 (5), .fieldLink RX10 257 "WindHallModel" "came" "I", .fieldLink RX10 72 "WindHallModel" "ruleN" "I", .fieldLink RX10 254 "WindHallModel" "state" "I", .fieldLink RX10 89 "WindHallModel" "rows" "[I", .fieldLink RX10 86 "WindHallModel" "beyond" "I", .methodLink RX10 114 yX10_in, .static yX10_in, .initialized RX10, .code yX10_in cX10_in 6 (some .boolean)] ++ wsX100)
def wsX10_anew : List Cond := .code yX10_anew cX10_anew 2 (some .int) :: ([.fieldLink RX10 257 "WindHallModel" "came" "I", .methodLink RX10 264 yX10_waits, .instanceMethod yX10_waits, .selects RX10 yX10_waits yX10_waits, .initialized RX10, .code yX10_waits cX10_waits 1 none, .fieldLink RX10 254 "WindHallModel" "state" "I", .fieldLink RX10 86 "WindHallModel" "beyond" "I"] ++ wsX100)
def wsX10_tube : List Cond := .code yX10_tube cX10_tube 2 (some .int) :: ([.constantLong RX10 126 (100), .fieldLink RX10 273 "WindHallModel" "tubes" "I", .fieldLink RX10 92 "WindHallModel" "areas" "[I", .fieldLink RX10 95 "WindHallModel" "pressures" "[I", .fieldLink RX10 98 "WindHallModel" "isLost" "[Z", .methodLink RX10 114 yX10_in, .static yX10_in, .initialized RX10, .code yX10_in cX10_in 6 (some .boolean)] ++ wsX100)
def wsX10_press : List Cond := .code yX10_press cX10_press 4 (some .int) :: ([.fieldLink RX10 273 "WindHallModel" "tubes" "I", .constantLong RX10 276 (-1000), .constantLong RX10 194 (1000), .fieldLink RX10 98 "WindHallModel" "isLost" "[Z", .fieldLink RX10 95 "WindHallModel" "pressures" "[I", .methodLink RX10 114 yX10_in, .static yX10_in, .initialized RX10, .code yX10_in cX10_in 6 (some .boolean)] ++ wsX100)
def wsX10_sheet : List Cond := .code yX10_sheet cX10_sheet 5 (some .int) :: ([.constantLong RX10 271 (3), .constantLong RX10 122 (2), .fieldLink RX10 101 "WindHallModel" "lanes" "[I", .fieldLink RX10 104 "WindHallModel" "sizes" "[I", .fieldLink RX10 107 "WindHallModel" "cells" "[I", .methodLink RX10 114 yX10_in, .static yX10_in, .initialized RX10, .code yX10_in cX10_in 6 (some .boolean)] ++ wsX100)
def wsX10_lay : List Cond := .code yX10_lay cX10_lay 4 (some .int) :: ([.constantLong RX10 271 (3), .fieldLink RX10 101 "WindHallModel" "lanes" "[I", .fieldLink RX10 104 "WindHallModel" "sizes" "[I", .fieldLink RX10 107 "WindHallModel" "cells" "[I", .methodLink RX10 114 yX10_in, .static yX10_in, .initialized RX10, .code yX10_in cX10_in 6 (some .boolean)] ++ wsX100)
def wsX10_lostMany : List Cond := .code yX10_lostMany cX10_lostMany 3 (some .int) :: ([.fieldLink RX10 273 "WindHallModel" "tubes" "I", .fieldLink RX10 98 "WindHallModel" "isLost" "[Z"] ++ wsX100)
def wsX10_scan : List Cond := .code yX10_scan cX10_scan 6 (some .int) :: ([.constantLong RX10 271 (3), .constantLong RX10 122 (2), .fieldLink RX10 101 "WindHallModel" "lanes" "[I", .fieldLink RX10 273 "WindHallModel" "tubes" "I", .fieldLink RX10 104 "WindHallModel" "sizes" "[I", .fieldLink RX10 107 "WindHallModel" "cells" "[I", .fieldLink RX10 98 "WindHallModel" "isLost" "[Z", .constantLong RX10 276 (-1000), .constantLong RX10 194 (1000), .fieldLink RX10 95 "WindHallModel" "pressures" "[I", .methodLink RX10 114 yX10_in, .static yX10_in, .initialized RX10, .code yX10_in cX10_in 6 (some .boolean), .methodLink RX10 278 yX10_lostMany, .instanceMethod yX10_lostMany, .selects RX10 yX10_lostMany yX10_lostMany, .code yX10_lostMany cX10_lostMany 3 (some .int)] ++ wsX100)
def wsX10_force : List Cond := .code yX10_force cX10_force 3 (some .int) :: ([.fieldLink RX10 273 "WindHallModel" "tubes" "I", .fieldLink RX10 98 "WindHallModel" "isLost" "[Z", .fieldLink RX10 92 "WindHallModel" "areas" "[I", .fieldLink RX10 95 "WindHallModel" "pressures" "[I"] ++ wsX100)
def wsX10_check_r1 : List Cond := [Cond.constantLong RX10 262 (100000), Cond.fieldLink RX10 273 "WindHallModel" "tubes" "I", Cond.fieldLink RX10 92 "WindHallModel" "areas" "[I", Cond.fieldLink RX10 95 "WindHallModel" "pressures" "[I", Cond.constantLong RX10 194 (1000), Cond.constantLong RX10 276 (-1000), Cond.methodLink RX10 150 yX10_isReading, Cond.static yX10_isReading, Cond.initialized RX10, Cond.code yX10_isReading cX10_isReading 1 (some .boolean), Cond.constantLong RX10 110 (-2000000), Cond.constantLong RX10 112 (2000000), Cond.methodLink RX10 114 yX10_in, Cond.static yX10_in, Cond.code yX10_in cX10_in 6 (some .boolean), Cond.methodLink RX10 278 yX10_lostMany, Cond.instanceMethod yX10_lostMany, Cond.selects RX10 yX10_lostMany yX10_lostMany, Cond.code yX10_lostMany cX10_lostMany 3 (some .int), Cond.fieldLink RX10 98 "WindHallModel" "isLost" "[Z", Cond.methodLink RX10 281 yX10_force, Cond.instanceMethod yX10_force, Cond.selects RX10 yX10_force yX10_force, Cond.code yX10_force cX10_force 3 (some .int)]
def wsX10_check_r2 : List Cond := [Cond.methodLink RX10 167 yX10_down, Cond.static yX10_down, Cond.code yX10_down cX10_down 6 (some .long)]
def wsX10_check : List Cond := .code yX10_check cX10_check 10 (some .int) :: ((wsX10_check_r1 ++ wsX10_check_r2) ++ wsX100)
def wsX10_fill_r1 : List Cond := [Cond.fieldLink RX10 98 "WindHallModel" "isLost" "[Z", Cond.fieldLink RX10 92 "WindHallModel" "areas" "[I", Cond.constantLong RX10 122 (2), Cond.constantLong RX10 276 (-1000), Cond.constantLong RX10 194 (1000), Cond.methodLink RX10 150 yX10_isReading, Cond.static yX10_isReading, Cond.initialized RX10, Cond.code yX10_isReading cX10_isReading 1 (some .boolean), Cond.constantLong RX10 110 (-2000000), Cond.constantLong RX10 112 (2000000), Cond.methodLink RX10 114 yX10_in, Cond.static yX10_in, Cond.code yX10_in cX10_in 6 (some .boolean), Cond.methodLink RX10 278 yX10_lostMany, Cond.instanceMethod yX10_lostMany, Cond.selects RX10 yX10_lostMany yX10_lostMany, Cond.code yX10_lostMany cX10_lostMany 3 (some .int), Cond.fieldLink RX10 273 "WindHallModel" "tubes" "I", Cond.methodLink RX10 281 yX10_force, Cond.instanceMethod yX10_force, Cond.selects RX10 yX10_force yX10_force, Cond.code yX10_force cX10_force 3 (some .int), Cond.fieldLink RX10 95 "WindHallModel" "pressures" "[I"]
def wsX10_fill_r2 : List Cond := [Cond.methodLink RX10 167 yX10_down, Cond.static yX10_down, Cond.code yX10_down cX10_down 6 (some .long)]
def wsX10_fill : List Cond := .code yX10_fill cX10_fill 7 (some .int) :: ((wsX10_fill_r1 ++ wsX10_fill_r2) ++ wsX100)
def wsX10_count : List Cond := .code yX10_count cX10_count 4 (some .int) :: ([.fieldLink RX10 228 "WindHallModel" "places" "I", .fieldLink RX10 66 "WindHallModel" "isDone" "[Z", .fieldLink RX10 170 "WindHallModel" "points" "I", .fieldLink RX10 178 "WindHallModel" "corrections" "I", .fieldLink RX10 273 "WindHallModel" "tubes" "I", .methodLink RX10 278 yX10_lostMany, .instanceMethod yX10_lostMany, .selects RX10 yX10_lostMany yX10_lostMany, .initialized RX10, .code yX10_lostMany cX10_lostMany 3 (some .int), .fieldLink RX10 98 "WindHallModel" "isLost" "[Z"] ++ wsX100)
def wsJ9_abs_0f7a4 : List Cond := .code yJ9_abs_0f7a4 cJ9_abs_0f7a4 1 (some .int) :: ([])
def wsJ9_abs_067f4 : List Cond := .code yJ9_abs_067f4 cJ9_abs_067f4 2 (some .long) :: ([])
def wsJ9_max_7cf53 : List Cond := .code yJ9_max_7cf53 cJ9_max_7cf53 2 (some .int) :: ([])
def wsJ9_max_f86c9 : List Cond := .code yJ9_max_f86c9 cJ9_max_f86c9 4 (some .long) :: ([])
def wsJ9_min_7cf53 : List Cond := .code yJ9_min_7cf53 cJ9_min_7cf53 2 (some .int) :: ([])
def wsJ9_min_f86c9 : List Cond := .code yJ9_min_f86c9 cJ9_min_f86c9 4 (some .long) :: ([])
def wsL_law_r1 : List Cond := [Cond.classLink RL 7 RX9, Cond.instantiable RX9 7, Cond.initialized RX9, Cond.classLink RL 10 RX10, Cond.instantiable RX10 42, Cond.initialized RX10, Cond.methodLink RL 9 yX9_init, Cond.instanceMethod yX9_init, Cond.code yX9_init cX9_init 2 none, Cond.methodLink RX9 1 objectInit, Cond.instanceMethod objectInit, Cond.code objectInit ⟨#[0xb1]⟩ 1 none, Cond.classLink RX9 7 RX0, Cond.instantiable RX0 7, Cond.initialized RX0, Cond.fieldLink RX9 10 "WindHall" "balance" "LWindHall$Balance;", Cond.classLink RX9 16 RX1, Cond.instantiable RX1 4, Cond.initialized RX1, Cond.fieldLink RX9 19 "WindHall" "calibration" "LWindHall$Calibration;", Cond.classLink RX9 23 RX3, Cond.instantiable RX3 7, Cond.initialized RX3, Cond.fieldLink RX9 26 "WindHall" "corrections" "LWindHall$Corrections;"]
def wsL_law_r2 : List Cond := [Cond.classLink RX9 30 RX5, Cond.instantiable RX5 10, Cond.initialized RX5, Cond.fieldLink RX9 33 "WindHall" "program" "LWindHall$Program;", Cond.classLink RX9 37 RX6, Cond.instantiable RX6 8, Cond.initialized RX6, Cond.fieldLink RX9 40 "WindHall" "settling" "LWindHall$Settling;", Cond.classLink RX9 44 RX8, Cond.instantiable RX8 4, Cond.initialized RX8, Cond.fieldLink RX9 47 "WindHall" "tubes" "LWindHall$Tubes;", Cond.classLink RX9 51 RX7, Cond.fieldLink RX9 53 "WindHall" "sheets" "[LWindHall$Sheet;", Cond.instantiable RX7 3, Cond.initialized RX7, Cond.instanceMethod yX0_init, Cond.code yX0_init cX0_init 1 none, Cond.methodLink RX0 3 objectInit, Cond.classLink RX0 9 "[I", Cond.arrayClass .int, Cond.fieldLink RX0 11 "WindHall$Balance" "first" "[[I", Cond.classLink RX0 17 "[[I", Cond.fieldLink RX0 18 "WindHall$Balance" "second" "[[I"]
def wsL_law_r3 : List Cond := [Cond.fieldLink RX0 21 "WindHall$Balance" "load" "[I", Cond.fieldLink RX0 24 "WindHall$Balance" "still" "Z", Cond.fieldLink RX0 28 "WindHall$Balance" "away" "I", Cond.fieldLink RX0 32 "WindHall$Balance" "given" "[I", Cond.classLink RX0 35 RX4, Cond.instantiable RX4 2, Cond.initialized RX4, Cond.fieldLink RX0 38 "WindHall$Balance" "equations" "LWindHall$Equations;", Cond.instanceMethod yX4_init, Cond.code yX4_init cX4_init 1 none, Cond.methodLink RX4 3 objectInit, Cond.classLink RX4 9 "[[J", Cond.arrayClass .long, Cond.fieldLink RX4 11 "WindHall$Equations" "left" "[[J", Cond.fieldLink RX4 16 "WindHall$Equations" "right" "[J", Cond.instanceMethod yX1_init, Cond.code yX1_init cX1_init 1 none, Cond.methodLink RX1 3 objectInit, Cond.classLink RX1 11 "[[I", Cond.fieldLink RX1 13 "WindHall$Calibration" "loads" "[[I", Cond.fieldLink RX1 16 "WindHall$Calibration" "readings" "[[I", Cond.fieldLink RX1 19 "WindHall$Calibration" "count" "I", Cond.classLink RX1 23 RX4, Cond.fieldLink RX1 26 "WindHall$Calibration" "equations" "LWindHall$Equations;"]
def wsL_law_r4 : List Cond := [Cond.methodLink RX9 25 yX3_init, Cond.instanceMethod yX3_init, Cond.code yX3_init cX3_init 2 none, Cond.methodLink RX3 3 objectInit, Cond.classLink RX3 11 RX2, Cond.fieldLink RX3 13 "WindHall$Corrections" "row" "[LWindHall$Correction;", Cond.fieldLink RX3 17 "WindHall$Corrections" "count" "I", Cond.fieldLink RX3 21 "WindHall$Corrections" "told" "[I", Cond.fieldLink RX3 25 "WindHall$Corrections" "time" "I", Cond.fieldLink RX3 28 "WindHall$Corrections" "angle" "I", Cond.fieldLink RX3 31 "WindHall$Corrections" "now" "[J", Cond.fieldLink RX3 35 "WindHall$Corrections" "other" "[J", Cond.instantiable RX2 5, Cond.initialized RX2, Cond.instanceMethod yX2_init, Cond.code yX2_init cX2_init 1 none, Cond.methodLink RX2 3 objectInit, Cond.fieldLink RX2 9 "WindHall$Correction" "on" "Z", Cond.fieldLink RX2 15 "WindHall$Correction" "kind" "I", Cond.fieldLink RX2 19 "WindHall$Correction" "u" "I", Cond.fieldLink RX2 22 "WindHall$Correction" "v" "I", Cond.fieldLink RX2 25 "WindHall$Correction" "w" "I", Cond.instanceMethod yX5_init, Cond.code yX5_init cX5_init 1 none]
def wsL_law_r5 : List Cond := [Cond.methodLink RX5 5 objectInit, Cond.fieldLink RX5 11 "WindHall$Program" "count" "I", Cond.arrayClass .boolean, Cond.fieldLink RX5 15 "WindHall$Program" "isDone" "[Z", Cond.classLink RX5 19 "[[I", Cond.fieldLink RX5 21 "WindHall$Program" "move" "[[I", Cond.fieldLink RX5 24 "WindHall$Program" "isPlanned" "Z", Cond.fieldLink RX5 28 "WindHall$Program" "planned" "I", Cond.fieldLink RX5 31 "WindHall$Program" "leastSum" "I", Cond.fieldLink RX5 34 "WindHall$Program" "row" "[I", Cond.fieldLink RX5 38 "WindHall$Program" "angle" "[I", Cond.fieldLink RX5 41 "WindHall$Program" "speed" "[I", Cond.fieldLink RX5 44 "WindHall$Program" "rest" "[I", Cond.instanceMethod yX6_init, Cond.code yX6_init cX6_init 1 none, Cond.methodLink RX6 3 objectInit, Cond.fieldLink RX6 9 "WindHall$Settling" "n" "I", Cond.fieldLink RX6 15 "WindHall$Settling" "d" "I", Cond.fieldLink RX6 18 "WindHall$Settling" "most" "I", Cond.constant RX6 21 (1000000), Cond.fieldLink RX6 22 "WindHall$Settling" "limit" "I", Cond.fieldLink RX6 25 "WindHall$Settling" "state" "I", Cond.fieldLink RX6 28 "WindHall$Settling" "came" "I", Cond.fieldLink RX6 31 "WindHall$Settling" "beyond" "I"]
def wsL_law_r6 : List Cond := [Cond.classLink RX6 34 "[[I", Cond.fieldLink RX6 36 "WindHall$Settling" "latest" "[[I", Cond.instanceMethod yX8_init, Cond.code yX8_init cX8_init 1 none, Cond.methodLink RX8 3 objectInit, Cond.fieldLink RX8 9 "WindHall$Tubes" "count" "I", Cond.fieldLink RX8 15 "WindHall$Tubes" "isLost" "[Z", Cond.fieldLink RX8 19 "WindHall$Tubes" "pressure" "[I", Cond.fieldLink RX8 23 "WindHall$Tubes" "area" "[I", Cond.instanceMethod yX7_init, Cond.code yX7_init cX7_init 1 none, Cond.methodLink RX7 1 objectInit, Cond.fieldLink RX7 9 "WindHall$Sheet" "lane" "I", Cond.fieldLink RX7 13 "WindHall$Sheet" "size" "I", Cond.fieldLink RX7 16 "WindHall$Sheet" "cells" "[I", Cond.methodLink RL 12 yX10_init, Cond.instanceMethod yX10_init, Cond.code yX10_init cX10_init 2 none, Cond.methodLink RX10 1 objectInit, Cond.fieldLink RX10 7 "WindHallModel" "a" "[I", Cond.fieldLink RX10 13 "WindHallModel" "b" "[I", Cond.fieldLink RX10 16 "WindHallModel" "m" "[J", Cond.fieldLink RX10 20 "WindHallModel" "right" "[J", Cond.fieldLink RX10 23 "WindHallModel" "loads" "[I"]
def wsL_law_r7 : List Cond := [Cond.fieldLink RX10 26 "WindHallModel" "pLoads" "[I", Cond.fieldLink RX10 29 "WindHallModel" "pReads" "[I", Cond.fieldLink RX10 32 "WindHallModel" "cKind" "[I", Cond.fieldLink RX10 35 "WindHallModel" "cU" "[I", Cond.fieldLink RX10 38 "WindHallModel" "cV" "[I", Cond.fieldLink RX10 41 "WindHallModel" "cW" "[I", Cond.fieldLink RX10 44 "WindHallModel" "cOn" "[Z", Cond.fieldLink RX10 48 "WindHallModel" "raws" "[I", Cond.fieldLink RX10 51 "WindHallModel" "quarter" "[I", Cond.fieldLink RX10 54 "WindHallModel" "now" "[J", Cond.fieldLink RX10 57 "WindHallModel" "told" "[J", Cond.fieldLink RX10 60 "WindHallModel" "angles" "[I", Cond.fieldLink RX10 63 "WindHallModel" "speeds" "[I", Cond.fieldLink RX10 66 "WindHallModel" "isDone" "[Z", Cond.fieldLink RX10 69 "WindHallModel" "leasts" "[I", Cond.fieldLink RX10 72 "WindHallModel" "ruleN" "I", Cond.fieldLink RX10 76 "WindHallModel" "ruleD" "I", Cond.fieldLink RX10 79 "WindHallModel" "ruleMost" "I", Cond.constant RX10 82 (1000000), Cond.fieldLink RX10 83 "WindHallModel" "ruleLimit" "I", Cond.fieldLink RX10 86 "WindHallModel" "beyond" "I", Cond.fieldLink RX10 89 "WindHallModel" "rows" "[I", Cond.fieldLink RX10 92 "WindHallModel" "areas" "[I", Cond.fieldLink RX10 95 "WindHallModel" "pressures" "[I"]
def wsL_law_r8 : List Cond := [Cond.fieldLink RX10 98 "WindHallModel" "isLost" "[Z", Cond.fieldLink RX10 101 "WindHallModel" "lanes" "[I", Cond.fieldLink RX10 104 "WindHallModel" "sizes" "[I", Cond.fieldLink RX10 107 "WindHallModel" "cells" "[I", Cond.methodLink RL 13 yX9_first, Cond.instanceMethod yX9_first, Cond.selects RX9 yX9_first yX9_first, Cond.code yX9_first cX9_first 4 (some .int), Cond.fieldLink RX9 65 "WindHall$Balance" "first" "[[I", Cond.methodLink RX9 58 yX9_isIndex, Cond.static yX9_isIndex, Cond.code yX9_isIndex cX9_isIndex 2 (some .boolean), Cond.methodLink RX9 62 yX9_isWithin, Cond.static yX9_isWithin, Cond.code yX9_isWithin cX9_isWithin 2 (some .boolean), Cond.methodLink RL 17 yX10_first, Cond.instanceMethod yX10_first, Cond.selects RX10 yX10_first yX10_first, Cond.code yX10_first cX10_first 4 (some .int), Cond.constantLong RX10 122 (2), Cond.constantLong RX10 124 (-100), Cond.constantLong RX10 126 (100), Cond.methodLink RX10 114 yX10_in, Cond.static yX10_in]
def wsL_law_r9 : List Cond := [Cond.code yX10_in cX10_in 6 (some .boolean), Cond.methodLink RL 18 yX9_second, Cond.instanceMethod yX9_second, Cond.selects RX9 yX9_second yX9_second, Cond.code yX9_second cX9_second 4 (some .int), Cond.fieldLink RX9 69 "WindHall$Balance" "second" "[[I", Cond.methodLink RL 21 yX10_second, Cond.instanceMethod yX10_second, Cond.selects RX10 yX10_second yX10_second, Cond.code yX10_second cX10_second 4 (some .int), Cond.constantLong RX10 128 (5), Cond.constantLong RX10 130 (-20), Cond.constantLong RX10 132 (20), Cond.methodLink RL 22 yX9_reading, Cond.instanceMethod yX9_reading, Cond.selects RX9 yX9_reading yX9_reading, Cond.code yX9_reading cX9_reading 5 (some .int), Cond.constant RX9 76 (9999999), Cond.methodLink RX9 72 yX9_areLoads, Cond.static yX9_areLoads, Cond.code yX9_areLoads cX9_areLoads 3 (some .boolean), Cond.methodLink RX9 77 yX0_readingOf, Cond.instanceMethod yX0_readingOf, Cond.selects RX0 yX0_readingOf yX0_readingOf]
def wsL_law_r10 : List Cond := [Cond.code yX0_readingOf cX0_readingOf 6 (some .int), Cond.methodLink RX0 42 yX0_productsOf, Cond.instanceMethod yX0_productsOf, Cond.selects RX0 yX0_productsOf yX0_productsOf, Cond.code yX0_productsOf cX0_productsOf 6 (some .int), Cond.methodLink RL 26 yX10_reading, Cond.instanceMethod yX10_reading, Cond.selects RX10 yX10_reading yX10_reading, Cond.code yX10_reading cX10_reading 5 (some .int), Cond.constant RX10 145 (9999999), Cond.methodLink RX10 138 yX10_isLoad, Cond.static yX10_isLoad, Cond.code yX10_isLoad cX10_isLoad 1 (some .boolean), Cond.constantLong RX10 118 (-50), Cond.constantLong RX10 120 (50), Cond.methodLink RX10 142 yX10_readingOf, Cond.instanceMethod yX10_readingOf, Cond.selects RX10 yX10_readingOf yX10_readingOf, Cond.code yX10_readingOf cX10_readingOf 5 (some .int), Cond.methodLink RX10 134 yX10_products, Cond.instanceMethod yX10_products, Cond.selects RX10 yX10_products yX10_products, Cond.code yX10_products cX10_products 6 (some .int), Cond.methodLink RL 27 yX9_back]
def wsL_law_r11 : List Cond := [Cond.instanceMethod yX9_back, Cond.selects RX9 yX9_back yX9_back, Cond.code yX9_back cX9_back 5 (some .int), Cond.methodLink RX9 81 yX9_areReadings, Cond.static yX9_areReadings, Cond.code yX9_areReadings cX9_areReadings 3 (some .boolean), Cond.constant RX9 189 (2000000), Cond.methodLink RX9 84 yX0_goBack, Cond.instanceMethod yX0_goBack, Cond.selects RX0 yX0_goBack yX0_goBack, Cond.code yX0_goBack cX0_goBack 8 (some .int), Cond.constantLong RX0 57 (100), Cond.methodLink RX0 46 yX0_setLeft, Cond.instanceMethod yX0_setLeft, Cond.selects RX0 yX0_setLeft yX0_setLeft, Cond.code yX0_setLeft cX0_setLeft 3 none, Cond.fieldLink RX0 67 "WindHall$Equations" "left" "[[J", Cond.methodLink RX0 49 yX4_determinant, Cond.instanceMethod yX4_determinant, Cond.selects RX4 yX4_determinant yX4_determinant, Cond.code yX4_determinant cX4_determinant 9 (some .long), Cond.methodLink RX4 20 yX4_term, Cond.instanceMethod yX4_term, Cond.selects RX4 yX4_term yX4_term]
def wsL_law_r12 : List Cond := [Cond.code yX4_term cX4_term 4 (some .long), Cond.static yX9_setRow, Cond.code yX9_setRow cX9_setRow 4 none, Cond.methodLink RX0 59 yX0_goRound, Cond.instanceMethod yX0_goRound, Cond.selects RX0 yX0_goRound yX0_goRound, Cond.code yX0_goRound cX0_goRound 6 (some .boolean), Cond.fieldLink RX0 71 "WindHall$Equations" "right" "[J", Cond.methodLink RX0 75 yX0_nearestLoad, Cond.static yX0_nearestLoad, Cond.code yX0_nearestLoad cX0_nearestLoad 6 (some .int), Cond.constantLong RX0 79 (2), Cond.constantLong RX0 87 (-50), Cond.constantLong RX0 89 (50), Cond.methodLink RX0 91 Lib.MathLoose.min_long.x, Cond.static Lib.MathLoose.min_long.x, Cond.initialized "java/lang/Math", Cond.code Lib.MathLoose.min_long.x Lib.MathLoose.min_long.code 4 (some .long), Cond.methodLink RX0 94 Lib.MathLoose.max_long.x, Cond.static Lib.MathLoose.max_long.x, Cond.code Lib.MathLoose.max_long.x Lib.MathLoose.max_long.code 4 (some .long), Cond.methodLink RX0 81 yJ9_floorDiv_f86c9, Cond.static yJ9_floorDiv_f86c9, Cond.initialized RJ9]
def wsL_law_r13 : List Cond := [Cond.code yJ9_floorDiv_f86c9 cJ9_floorDiv_f86c9 6 (some .long), Cond.methodLink RX0 63 yX0_greatestDistance, Cond.instanceMethod yX0_greatestDistance, Cond.selects RX0 yX0_greatestDistance yX0_greatestDistance, Cond.code yX0_greatestDistance cX0_greatestDistance 4 (some .int), Cond.methodLink RX0 100 Lib.Math.abs.name, Cond.static Lib.Math.abs.name, Cond.code Lib.Math.abs.name Lib.Math.abs.code 1 (some .int), Cond.methodLink RX0 104 Lib.Math.max.name, Cond.static Lib.Math.max.name, Cond.code Lib.Math.max.name Lib.Math.max.code 2 (some .int), Cond.methodLink RX0 97 yX0_readingOf, Cond.methodLink RL 30 yX10_back, Cond.instanceMethod yX10_back, Cond.selects RX10 yX10_back yX10_back, Cond.code yX10_back cX10_back 14 (some .int), Cond.fieldLink RX10 153 "WindHallModel" "still" "I", Cond.fieldLink RX10 164 "WindHallModel" "away" "I", Cond.methodLink RX10 150 yX10_isReading, Cond.static yX10_isReading, Cond.code yX10_isReading cX10_isReading 1 (some .boolean), Cond.constantLong RX10 110 (-2000000), Cond.constantLong RX10 112 (2000000), Cond.methodLink RX10 146 yX10_determinant]
def wsL_law_r14 : List Cond := [Cond.instanceMethod yX10_determinant, Cond.selects RX10 yX10_determinant yX10_determinant, Cond.code yX10_determinant cX10_determinant 1 (some .long), Cond.methodLink RX10 156 yX10_replaced, Cond.instanceMethod yX10_replaced, Cond.selects RX10 yX10_replaced yX10_replaced, Cond.code yX10_replaced cX10_replaced 10 (some .long), Cond.methodLink RX10 160 yX10_nearest, Cond.static yX10_nearest, Cond.code yX10_nearest cX10_nearest 10 (some .long), Cond.methodLink RX10 167 yX10_down, Cond.static yX10_down, Cond.code yX10_down cX10_down 6 (some .long), Cond.methodLink RL 31 yX9_found, Cond.instanceMethod yX9_found, Cond.selects RX9 yX9_found yX9_found, Cond.code yX9_found cX9_found 2 (some .int), Cond.fieldLink RX9 87 "WindHall$Balance" "load" "[I", Cond.fieldLink RX9 91 "WindHall$Balance" "still" "Z", Cond.fieldLink RX9 95 "WindHall$Balance" "away" "I", Cond.methodLink RL 35 yX10_found, Cond.instanceMethod yX10_found, Cond.selects RX10 yX10_found yX10_found, Cond.code yX10_found cX10_found 2 (some .int)]
def wsL_law_r15 : List Cond := [Cond.methodLink RL 36 yX9_point, Cond.instanceMethod yX9_point, Cond.selects RX9 yX9_point yX9_point, Cond.code yX9_point cX9_point 7 (some .int), Cond.fieldLink RX9 99 "WindHall$Calibration" "count" "I", Cond.fieldLink RX9 102 "WindHall$Calibration" "loads" "[[I", Cond.fieldLink RX9 109 "WindHall$Calibration" "readings" "[[I", Cond.methodLink RX9 105 yX9_setRow, Cond.methodLink RL 40 yX10_point, Cond.instanceMethod yX10_point, Cond.selects RX10 yX10_point yX10_point, Cond.code yX10_point cX10_point 8 (some .int), Cond.fieldLink RX10 170 "WindHallModel" "points" "I", Cond.methodLink RL 41 yX9_fit, Cond.instanceMethod yX9_fit, Cond.selects RX9 yX9_fit yX9_fit, Cond.code yX9_fit cX9_fit 4 (some .long), Cond.constantLong RX9 112 (-1000000000000), Cond.methodLink RX9 114 yX1_partOfFit, Cond.instanceMethod yX1_partOfFit, Cond.selects RX1 yX1_partOfFit yX1_partOfFit, Cond.code yX1_partOfFit cX1_partOfFit 12 (some .long), Cond.constantLong RX1 38 (100), Cond.methodLink RX1 40 Lib.MathLoose.abs_long.x]
def wsL_law_r16 : List Cond := [Cond.static Lib.MathLoose.abs_long.x, Cond.code Lib.MathLoose.abs_long.x Lib.MathLoose.abs_long.code 2 (some .long), Cond.methodLink RX1 30 yX1_setEquations, Cond.instanceMethod yX1_setEquations, Cond.selects RX1 yX1_setEquations yX1_setEquations, Cond.code yX1_setEquations cX1_setEquations 6 none, Cond.fieldLink RX1 50 "WindHall$Equations" "right" "[J", Cond.fieldLink RX1 54 "WindHall$Equations" "left" "[[J", Cond.methodLink RX1 58 yX1_sumOfProducts, Cond.instanceMethod yX1_sumOfProducts, Cond.selects RX1 yX1_sumOfProducts yX1_sumOfProducts, Cond.code yX1_sumOfProducts cX1_sumOfProducts 6 (some .long), Cond.methodLink RX1 34 yX4_determinant, Cond.methodLink RX1 46 yX1_commonDivisor, Cond.static yX1_commonDivisor, Cond.code yX1_commonDivisor cX1_commonDivisor 7 (some .long), Cond.methodLink RL 45 yX10_fit, Cond.instanceMethod yX10_fit, Cond.selects RX10 yX10_fit yX10_fit, Cond.code yX10_fit cX10_fit 10 (some .long), Cond.constantLong RX10 173 (-1000000000000), Cond.methodLink RX10 175 yX10_divisor, Cond.static yX10_divisor, Cond.code yX10_divisor cX10_divisor 10 (some .long)]
def wsL_law_r17 : List Cond := [Cond.methodLink RL 46 yX9_miss, Cond.instanceMethod yX9_miss, Cond.selects RX9 yX9_miss yX9_miss, Cond.code yX9_miss cX9_miss 2 (some .int), Cond.methodLink RX9 118 yX1_greatestMiss, Cond.instanceMethod yX1_greatestMiss, Cond.selects RX1 yX1_greatestMiss yX1_greatestMiss, Cond.code yX1_greatestMiss cX1_greatestMiss 7 (some .int), Cond.methodLink RX1 68 Lib.Math.abs.name, Cond.methodLink RX1 71 Lib.Math.max.name, Cond.methodLink RX1 62 yX0_readingOf, Cond.methodLink RL 49 yX10_miss, Cond.instanceMethod yX10_miss, Cond.selects RX10 yX10_miss yX10_miss, Cond.code yX10_miss cX10_miss 5 (some .int), Cond.methodLink RL 50 yX9_forget, Cond.instanceMethod yX9_forget, Cond.selects RX9 yX9_forget yX9_forget, Cond.code yX9_forget cX9_forget 2 (some .int), Cond.methodLink RL 54 yX10_forget, Cond.instanceMethod yX10_forget, Cond.selects RX10 yX10_forget yX10_forget, Cond.code yX10_forget cX10_forget 2 (some .int), Cond.methodLink RL 55 yX9_correct]
def wsL_law_r18 : List Cond := [Cond.instanceMethod yX9_correct, Cond.selects RX9 yX9_correct yX9_correct, Cond.code yX9_correct cX9_correct 5 (some .int), Cond.fieldLink RX9 128 "WindHall$Corrections" "count" "I", Cond.methodLink RX9 122 yX2_isAsTold, Cond.static yX2_isAsTold, Cond.code yX2_isAsTold cX2_isAsTold 4 (some .boolean), Cond.methodLink RX9 129 yX3_append, Cond.instanceMethod yX3_append, Cond.selects RX3 yX3_append yX3_append, Cond.code yX3_append cX3_append 5 (some .int), Cond.methodLink RX3 39 yX2_become, Cond.instanceMethod yX2_become, Cond.selects RX2 yX2_become yX2_become, Cond.code yX2_become cX2_become 5 none, Cond.methodLink RL 58 yX10_correct, Cond.instanceMethod yX10_correct, Cond.selects RX10 yX10_correct yX10_correct, Cond.code yX10_correct cX10_correct 5 (some .int), Cond.constantLong RX10 181 (4), Cond.constantLong RX10 183 (-300), Cond.constantLong RX10 185 (-10000), Cond.constantLong RX10 187 (300), Cond.constantLong RX10 189 (10000)]
def wsL_law_r19 : List Cond := [Cond.fieldLink RX10 178 "WindHallModel" "corrections" "I", Cond.methodLink RL 59 yX9_turn, Cond.instanceMethod yX9_turn, Cond.selects RX9 yX9_turn yX9_turn, Cond.code yX9_turn cX9_turn 4 (some .int), Cond.fieldLink RX9 132 "WindHall$Corrections" "row" "[LWindHall$Correction;", Cond.fieldLink RX9 136 "WindHall$Correction" "on" "Z", Cond.methodLink RL 63 yX10_turn, Cond.instanceMethod yX10_turn, Cond.selects RX10 yX10_turn yX10_turn, Cond.code yX10_turn cX10_turn 4 (some .int), Cond.methodLink RX10 191 yX10_isCorrection, Cond.instanceMethod yX10_isCorrection, Cond.selects RX10 yX10_isCorrection yX10_isCorrection, Cond.code yX10_isCorrection cX10_isCorrection 2 (some .boolean), Cond.methodLink RL 64 yX9_swap, Cond.instanceMethod yX9_swap, Cond.selects RX9 yX9_swap yX9_swap, Cond.code yX9_swap cX9_swap 3 (some .int), Cond.methodLink RL 67 yX10_swap, Cond.instanceMethod yX10_swap, Cond.selects RX10 yX10_swap yX10_swap, Cond.code yX10_swap cX10_swap 7 (some .int), Cond.methodLink RL 68 yX9_drop]
def wsL_law_r20 : List Cond := [Cond.instanceMethod yX9_drop, Cond.selects RX9 yX9_drop yX9_drop, Cond.code yX9_drop cX9_drop 1 (some .int), Cond.methodLink RL 71 yX10_drop, Cond.instanceMethod yX10_drop, Cond.selects RX10 yX10_drop yX10_drop, Cond.code yX10_drop cX10_drop 1 (some .int), Cond.methodLink RL 72 yX9_raw, Cond.instanceMethod yX9_raw, Cond.selects RX9 yX9_raw yX9_raw, Cond.code yX9_raw cX9_raw 6 (some .int), Cond.fieldLink RX9 139 "WindHall$Corrections" "told" "[I", Cond.fieldLink RX9 142 "WindHall$Corrections" "time" "I", Cond.fieldLink RX9 145 "WindHall$Corrections" "angle" "I", Cond.methodLink RL 76 yX10_raw, Cond.instanceMethod yX10_raw, Cond.selects RX10 yX10_raw yX10_raw, Cond.code yX10_raw cX10_raw 6 (some .int), Cond.constantLong RX10 194 (1000), Cond.constantLong RX10 196 (23), Cond.fieldLink RX10 198 "WindHallModel" "time" "I", Cond.fieldLink RX10 201 "WindHallModel" "angle" "I", Cond.methodLink RL 77 yX9_corrected, Cond.instanceMethod yX9_corrected]
def wsL_law_r21 : List Cond := [Cond.selects RX9 yX9_corrected yX9_corrected, Cond.code yX9_corrected cX9_corrected 3 (some .long), Cond.fieldLink RX9 148 "WindHall$Corrections" "now" "[J", Cond.methodLink RX9 152 yX3_goThrough, Cond.instanceMethod yX3_goThrough, Cond.selects RX3 yX3_goThrough yX3_goThrough, Cond.code yX3_goThrough cX3_goThrough 4 none, Cond.methodLink RX3 43 yX3_changeIfOn, Cond.instanceMethod yX3_changeIfOn, Cond.selects RX3 yX3_changeIfOn yX3_changeIfOn, Cond.code yX3_changeIfOn cX3_changeIfOn 3 none, Cond.fieldLink RX3 47 "WindHall$Correction" "on" "Z", Cond.methodLink RX3 51 yX2_change, Cond.instanceMethod yX2_change, Cond.selects RX2 yX2_change yX2_change, Cond.code yX2_change cX2_change 5 none, Cond.constantLong RX2 40 (100), Cond.methodLink RX2 32 yX2_lessen, Cond.static yX2_lessen, Cond.code yX2_lessen cX2_lessen 4 none, Cond.methodLink RX2 36 yX2_drifted, Cond.static yX2_drifted, Cond.code yX2_drifted cX2_drifted 2 (some .int), Cond.methodLink RX2 55 yJ9_floorDiv_7cf53]
def wsL_law_r22 : List Cond := [Cond.static yJ9_floorDiv_7cf53, Cond.code yJ9_floorDiv_7cf53 cJ9_floorDiv_7cf53 3 (some .int), Cond.methodLink RX2 42 yJ9_floorDiv_f86c9, Cond.methodLink RX2 48 yX2_cos, Cond.static yX2_cos, Cond.code yX2_cos cX2_cos 1 (some .int), Cond.fieldLink RX2 57 "WindHall$Correction" "COS" "[I", Cond.methodLink RX2 61 yJ9_floorMod_7cf53, Cond.static yJ9_floorMod_7cf53, Cond.code yJ9_floorMod_7cf53 cJ9_floorMod_7cf53 3 (some .int), Cond.methodLink RX2 52 yX2_share, Cond.instanceMethod yX2_share, Cond.selects RX2 yX2_share yX2_share, Cond.code yX2_share cX2_share 2 (some .int), Cond.methodLink RL 81 yX10_corrected, Cond.instanceMethod yX10_corrected, Cond.selects RX10 yX10_corrected yX10_corrected, Cond.code yX10_corrected cX10_corrected 4 (some .long), Cond.methodLink RX10 211 yX10_begins, Cond.instanceMethod yX10_begins, Cond.selects RX10 yX10_begins yX10_begins, Cond.code yX10_begins cX10_begins 2 none, Cond.methodLink RX10 214 yX10_does, Cond.instanceMethod yX10_does]
def wsL_law_r23 : List Cond := [Cond.selects RX10 yX10_does yX10_does, Cond.code yX10_does cX10_does 11 none, Cond.methodLink RX10 204 yX10_cosine, Cond.instanceMethod yX10_cosine, Cond.selects RX10 yX10_cosine yX10_cosine, Cond.code yX10_cosine cX10_cosine 3 (some .int), Cond.methodLink RX10 208 yX10_sine, Cond.instanceMethod yX10_sine, Cond.selects RX10 yX10_sine yX10_sine, Cond.code yX10_sine cX10_sine 2 (some .int), Cond.methodLink RL 82 yX9_touches, Cond.instanceMethod yX9_touches, Cond.selects RX9 yX9_touches yX9_touches, Cond.code yX9_touches cX9_touches 2 (some .int), Cond.methodLink RX9 156 yX3_isFelt, Cond.instanceMethod yX3_isFelt, Cond.selects RX3 yX3_isFelt yX3_isFelt, Cond.code yX3_isFelt cX3_isFelt 2 (some .boolean), Cond.methodLink RX3 55 yX3_goThrough, Cond.methodLink RX3 58 yX3_differ, Cond.instanceMethod yX3_differ, Cond.selects RX3 yX3_differ yX3_differ, Cond.code yX3_differ cX3_differ 1 (some .boolean), Cond.methodLink RL 85 yX10_touches]
def wsL_law_r24 : List Cond := [Cond.instanceMethod yX10_touches, Cond.selects RX10 yX10_touches yX10_touches, Cond.code yX10_touches cX10_touches 5 (some .int), Cond.methodLink RX10 222 yX10_tells, Cond.instanceMethod yX10_tells, Cond.selects RX10 yX10_tells yX10_tells, Cond.code yX10_tells cX10_tells 3 none, Cond.methodLink RX10 218 yX10_corrected, Cond.methodLink RL 86 yX9_minds, Cond.instanceMethod yX9_minds, Cond.selects RX9 yX9_minds yX9_minds, Cond.code yX9_minds cX9_minds 2 (some .int), Cond.methodLink RX9 160 yX3_isOrderFelt, Cond.instanceMethod yX3_isOrderFelt, Cond.selects RX3 yX3_isOrderFelt yX3_isOrderFelt, Cond.code yX3_isOrderFelt cX3_isOrderFelt 2 (some .boolean), Cond.methodLink RL 89 yX10_minds, Cond.instanceMethod yX10_minds, Cond.selects RX10 yX10_minds yX10_minds, Cond.code yX10_minds cX10_minds 4 (some .int), Cond.methodLink RX10 225 yX10_swap, Cond.methodLink RL 90 yX9_place, Cond.instanceMethod yX9_place, Cond.selects RX9 yX9_place yX9_place]
def wsL_law_r25 : List Cond := [Cond.code yX9_place cX9_place 3 (some .int), Cond.fieldLink RX9 163 "WindHall$Program" "count" "I", Cond.methodLink RX9 164 yX5_append, Cond.instanceMethod yX5_append, Cond.selects RX5 yX5_append yX5_append, Cond.code yX5_append cX5_append 5 (some .int), Cond.methodLink RX5 47 yX5_setMove, Cond.instanceMethod yX5_setMove, Cond.selects RX5 yX5_setMove yX5_setMove, Cond.code yX5_setMove cX5_setMove 5 none, Cond.methodLink RX5 51 Lib.Math.abs.name, Cond.methodLink RX5 57 Lib.Math.min.name, Cond.static Lib.Math.min.name, Cond.code Lib.Math.min.name Lib.Math.min.code 2 (some .int), Cond.methodLink RL 94 yX10_place, Cond.instanceMethod yX10_place, Cond.selects RX10 yX10_place yX10_place, Cond.code yX10_place cX10_place 3 (some .int), Cond.constantLong RX10 231 (9), Cond.fieldLink RX10 228 "WindHallModel" "places" "I", Cond.methodLink RL 95 yX9_done, Cond.instanceMethod yX9_done, Cond.selects RX9 yX9_done yX9_done, Cond.code yX9_done cX9_done 4 (some .int)]
def wsL_law_r26 : List Cond := [Cond.fieldLink RX9 167 "WindHall$Program" "isDone" "[Z", Cond.fieldLink RX9 171 "WindHall$Program" "isPlanned" "Z", Cond.methodLink RL 98 yX10_done, Cond.instanceMethod yX10_done, Cond.selects RX10 yX10_done yX10_done, Cond.code yX10_done cX10_done 4 (some .int), Cond.methodLink RX10 233 yX10_isPlace, Cond.instanceMethod yX10_isPlace, Cond.selects RX10 yX10_isPlace yX10_isPlace, Cond.code yX10_isPlace cX10_isPlace 2 (some .boolean), Cond.methodLink RL 99 yX9_moves, Cond.instanceMethod yX9_moves, Cond.selects RX9 yX9_moves yX9_moves, Cond.code yX9_moves cX9_moves 3 (some .int), Cond.fieldLink RX9 174 "WindHall$Program" "move" "[[I", Cond.methodLink RL 102 yX10_moves, Cond.instanceMethod yX10_moves, Cond.selects RX10 yX10_moves yX10_moves, Cond.code yX10_moves cX10_moves 3 (some .int), Cond.methodLink RX10 236 yX10_move, Cond.instanceMethod yX10_move, Cond.selects RX10 yX10_move yX10_move, Cond.code yX10_move cX10_move 6 (some .int), Cond.methodLink RL 103 yX9_least]
def wsL_law_r27 : List Cond := [Cond.instanceMethod yX9_least, Cond.selects RX9 yX9_least yX9_least, Cond.code yX9_least cX9_least 1 (some .int), Cond.fieldLink RX9 180 "WindHall$Program" "leastSum" "I", Cond.methodLink RX9 177 yX5_plan, Cond.instanceMethod yX5_plan, Cond.selects RX5 yX5_plan yX5_plan, Cond.code yX5_plan cX5_plan 3 none, Cond.methodLink RX5 61 yX5_setOfOpen, Cond.instanceMethod yX5_setOfOpen, Cond.selects RX5 yX5_setOfOpen yX5_setOfOpen, Cond.code yX5_setOfOpen cX5_setOfOpen 3 (some .int), Cond.methodLink RX5 65 yX5_setRest, Cond.instanceMethod yX5_setRest, Cond.selects RX5 yX5_setRest yX5_setRest, Cond.code yX5_setRest cX5_setRest 4 none, Cond.methodLink RX5 75 yX5_isIn, Cond.static yX5_isIn, Cond.code yX5_isIn cX5_isIn 2 (some .boolean), Cond.methodLink RX5 68 yX5_cell, Cond.static yX5_cell, Cond.code yX5_cell cX5_cell 2 (some .int), Cond.methodLink RX5 79 yX5_firstOfLeast, Cond.instanceMethod yX5_firstOfLeast]
def wsL_law_r28 : List Cond := [Cond.selects RX5 yX5_firstOfLeast yX5_firstOfLeast, Cond.code yX5_firstOfLeast cX5_firstOfLeast 7 (some .int), Cond.constant RX5 91 (2147483647), Cond.methodLink RX5 82 yX5_sumBy, Cond.instanceMethod yX5_sumBy, Cond.selects RX5 yX5_sumBy yX5_sumBy, Cond.code yX5_sumBy cX5_sumBy 4 (some .int), Cond.methodLink RX5 71 yX5_setOrder, Cond.instanceMethod yX5_setOrder, Cond.selects RX5 yX5_setOrder yX5_setOrder, Cond.code yX5_setOrder cX5_setOrder 6 none, Cond.methodLink RX5 86 yJ6_bitCount_0f7a4, Cond.static yJ6_bitCount_0f7a4, Cond.initialized RJ6, Cond.code yJ6_bitCount_0f7a4 cJ6_bitCount_0f7a4 1 (some .int), Cond.constant RJ6 265 (1431655765), Cond.constant RJ6 266 (858993459), Cond.constant RJ6 267 (252645135), Cond.methodLink RL 106 yX10_least, Cond.instanceMethod yX10_least, Cond.selects RX10 yX10_least yX10_least, Cond.code yX10_least cX10_least 2 (some .int), Cond.methodLink RX10 250 yX10_findAll, Cond.instanceMethod yX10_findAll]
def wsL_law_r29 : List Cond := [Cond.selects RX10 yX10_findAll yX10_findAll, Cond.code yX10_findAll cX10_findAll 4 (some .int), Cond.methodLink RX10 247 yX10_best, Cond.instanceMethod yX10_best, Cond.selects RX10 yX10_best yX10_best, Cond.code yX10_best cX10_best 6 (some .int), Cond.methodLink RX10 240 yX10_cost, Cond.instanceMethod yX10_cost, Cond.selects RX10 yX10_cost yX10_cost, Cond.code yX10_cost cX10_cost 3 (some .int), Cond.methodLink RX10 244 yX10_behind, Cond.instanceMethod yX10_behind, Cond.selects RX10 yX10_behind yX10_behind, Cond.code yX10_behind cX10_behind 3 (some .int), Cond.methodLink RL 107 yX9_order, Cond.instanceMethod yX9_order, Cond.selects RX9 yX9_order yX9_order, Cond.code yX9_order cX9_order 2 (some .int), Cond.fieldLink RX9 183 "WindHall$Program" "planned" "I", Cond.fieldLink RX9 186 "WindHall$Program" "row" "[I", Cond.methodLink RL 110 yX10_order, Cond.instanceMethod yX10_order, Cond.selects RX10 yX10_order yX10_order, Cond.code yX10_order cX10_order 7 (some .int)]
def wsL_law_r30 : List Cond := [Cond.methodLink RL 111 yX9_rule, Cond.instanceMethod yX9_rule, Cond.selects RX9 yX9_rule yX9_rule, Cond.code yX9_rule cX9_rule 6 (some .int), Cond.constant RX9 188 (100000), Cond.fieldLink RX9 190 "WindHall$Settling" "n" "I", Cond.fieldLink RX9 193 "WindHall$Settling" "d" "I", Cond.fieldLink RX9 196 "WindHall$Settling" "most" "I", Cond.fieldLink RX9 199 "WindHall$Settling" "limit" "I", Cond.methodLink RX9 202 yX6_startAnew, Cond.instanceMethod yX6_startAnew, Cond.selects RX6 yX6_startAnew yX6_startAnew, Cond.code yX6_startAnew cX6_startAnew 1 none, Cond.methodLink RL 114 yX10_rule, Cond.instanceMethod yX10_rule, Cond.selects RX10 yX10_rule yX10_rule, Cond.code yX10_rule cX10_rule 5 (some .int), Cond.constantLong RX10 260 (8), Cond.constantLong RX10 262 (100000), Cond.methodLink RX10 264 yX10_waits, Cond.instanceMethod yX10_waits, Cond.selects RX10 yX10_waits yX10_waits, Cond.code yX10_waits cX10_waits 1 none, Cond.fieldLink RX10 254 "WindHallModel" "state" "I"]
def wsL_law_r31 : List Cond := [Cond.fieldLink RX10 257 "WindHallModel" "came" "I", Cond.methodLink RL 115 yX9_come, Cond.instanceMethod yX9_come, Cond.selects RX9 yX9_come yX9_come, Cond.code yX9_come cX9_come 4 (some .int), Cond.fieldLink RX9 205 "WindHall$Settling" "state" "I", Cond.methodLink RX9 208 yX6_take, Cond.instanceMethod yX6_take, Cond.selects RX6 yX6_take yX6_take, Cond.code yX6_take cX6_take 5 (some .int), Cond.methodLink RX6 43 yX6_firstBeyond, Cond.instanceMethod yX6_firstBeyond, Cond.selects RX6 yX6_firstBeyond yX6_firstBeyond, Cond.code yX6_firstBeyond cX6_firstBeyond 3 (some .int), Cond.methodLink RX6 51 Lib.Math.abs.name, Cond.methodLink RX6 47 yX6_isSettled, Cond.instanceMethod yX6_isSettled, Cond.selects RX6 yX6_isSettled yX6_isSettled, Cond.code yX6_isSettled cX6_isSettled 2 (some .boolean), Cond.methodLink RX6 57 yX6_spreadOfLatest, Cond.instanceMethod yX6_spreadOfLatest, Cond.selects RX6 yX6_spreadOfLatest yX6_spreadOfLatest, Cond.code yX6_spreadOfLatest cX6_spreadOfLatest 6 (some .int), Cond.constant RX6 60 (2000000)]
def wsL_law_r32 : List Cond := [Cond.constant RX6 61 (-2000000), Cond.methodLink RX6 66 Lib.Math.min.name, Cond.methodLink RX6 69 Lib.Math.max.name, Cond.methodLink RX6 62 yX6_readingAgo, Cond.instanceMethod yX6_readingAgo, Cond.selects RX6 yX6_readingAgo yX6_readingAgo, Cond.code yX6_readingAgo cX6_readingAgo 3 (some .int), Cond.methodLink RX6 72 yJ9_floorMod_7cf53, Cond.methodLink RL 118 yX10_come, Cond.instanceMethod yX10_come, Cond.selects RX10 yX10_come yX10_come, Cond.code yX10_come cX10_come 6 (some .int), Cond.methodLink RX10 267 yX10_isSettled, Cond.instanceMethod yX10_isSettled, Cond.selects RX10 yX10_isSettled yX10_isSettled, Cond.code yX10_isSettled cX10_isSettled 7 (some .boolean), Cond.methodLink RL 119 yX9_settled, Cond.instanceMethod yX9_settled, Cond.selects RX9 yX9_settled yX9_settled, Cond.code yX9_settled cX9_settled 2 (some .int), Cond.fieldLink RX9 212 "WindHall$Settling" "came" "I", Cond.fieldLink RX9 215 "WindHall$Settling" "beyond" "I", Cond.methodLink RX9 218 yX6_sumOfLatest, Cond.instanceMethod yX6_sumOfLatest]
def wsL_law_r33 : List Cond := [Cond.selects RX6 yX6_sumOfLatest yX6_sumOfLatest, Cond.code yX6_sumOfLatest cX6_sumOfLatest 4 (some .int), Cond.methodLink RL 122 yX10_settled, Cond.instanceMethod yX10_settled, Cond.selects RX10 yX10_settled yX10_settled, Cond.code yX10_settled cX10_settled 4 (some .int), Cond.constantLong RX10 271 (3), Cond.methodLink RL 123 yX9_anew, Cond.instanceMethod yX9_anew, Cond.selects RX9 yX9_anew yX9_anew, Cond.code yX9_anew cX9_anew 2 (some .int), Cond.methodLink RL 126 yX10_anew, Cond.instanceMethod yX10_anew, Cond.selects RX10 yX10_anew yX10_anew, Cond.code yX10_anew cX10_anew 2 (some .int), Cond.methodLink RL 127 yX9_tube, Cond.instanceMethod yX9_tube, Cond.selects RX9 yX9_tube yX9_tube, Cond.code yX9_tube cX9_tube 2 (some .int), Cond.fieldLink RX9 222 "WindHall$Tubes" "count" "I", Cond.methodLink RX9 223 yX8_append, Cond.instanceMethod yX8_append, Cond.selects RX8 yX8_append yX8_append, Cond.code yX8_append cX8_append 2 (some .int)]
def wsL_law_r34 : List Cond := [Cond.methodLink RL 130 yX10_tube, Cond.instanceMethod yX10_tube, Cond.selects RX10 yX10_tube yX10_tube, Cond.code yX10_tube cX10_tube 2 (some .int), Cond.fieldLink RX10 273 "WindHallModel" "tubes" "I", Cond.methodLink RL 131 yX9_press, Cond.instanceMethod yX9_press, Cond.selects RX9 yX9_press yX9_press, Cond.code yX9_press cX9_press 4 (some .int), Cond.fieldLink RX9 228 "WindHall$Tubes" "isLost" "[Z", Cond.fieldLink RX9 231 "WindHall$Tubes" "pressure" "[I", Cond.methodLink RX9 225 yX8_isPressure, Cond.static yX8_isPressure, Cond.code yX8_isPressure cX8_isPressure 1 (some .boolean), Cond.methodLink RL 135 yX10_press, Cond.instanceMethod yX10_press, Cond.selects RX10 yX10_press yX10_press, Cond.code yX10_press cX10_press 4 (some .int), Cond.constantLong RX10 276 (-1000), Cond.methodLink RL 136 yX9_sheet, Cond.instanceMethod yX9_sheet, Cond.selects RX9 yX9_sheet yX9_sheet, Cond.code yX9_sheet cX9_sheet 4 (some .int), Cond.methodLink RX9 234 yX9_answerOfFault]
def wsL_law_r35 : List Cond := [Cond.static yX9_answerOfFault, Cond.code yX9_answerOfFault cX9_answerOfFault 1 (some .int), Cond.methodLink RX9 237 yX7_makeNew, Cond.instanceMethod yX7_makeNew, Cond.selects RX7 yX7_makeNew yX7_makeNew, Cond.code yX7_makeNew cX7_makeNew 4 none, Cond.methodLink RL 139 yX10_sheet, Cond.instanceMethod yX10_sheet, Cond.selects RX10 yX10_sheet yX10_sheet, Cond.code yX10_sheet cX10_sheet 5 (some .int), Cond.methodLink RL 140 yX9_lay, Cond.instanceMethod yX9_lay, Cond.selects RX9 yX9_lay yX9_lay, Cond.code yX9_lay cX9_lay 5 (some .int), Cond.methodLink RX9 241 yX7_faultOfCells, Cond.instanceMethod yX7_faultOfCells, Cond.selects RX7 yX7_faultOfCells yX7_faultOfCells, Cond.code yX7_faultOfCells cX7_faultOfCells 4 (some .int), Cond.methodLink RX9 244 yX7_set, Cond.instanceMethod yX7_set, Cond.selects RX7 yX7_set yX7_set, Cond.code yX7_set cX7_set 3 none, Cond.methodLink RL 143 yX10_lay, Cond.instanceMethod yX10_lay]
def wsL_law_r36 : List Cond := [Cond.selects RX10 yX10_lay yX10_lay, Cond.code yX10_lay cX10_lay 4 (some .int), Cond.methodLink RL 144 yX9_scan, Cond.instanceMethod yX9_scan, Cond.selects RX9 yX9_scan yX9_scan, Cond.code yX9_scan cX9_scan 5 (some .int), Cond.methodLink RX9 247 yX7_faultOfLane, Cond.instanceMethod yX7_faultOfLane, Cond.selects RX7 yX7_faultOfLane yX7_faultOfLane, Cond.code yX7_faultOfLane cX7_faultOfLane 2 (some .int), Cond.methodLink RX9 250 yX8_takeFrom, Cond.instanceMethod yX8_takeFrom, Cond.selects RX8 yX8_takeFrom yX8_takeFrom, Cond.code yX8_takeFrom cX8_takeFrom 5 none, Cond.methodLink RX8 30 yX7_get, Cond.instanceMethod yX7_get, Cond.selects RX7 yX7_get yX7_get, Cond.code yX7_get cX7_get 2 (some .int), Cond.methodLink RX8 36 yX8_isPressure, Cond.methodLink RX9 254 yX8_howManyLost, Cond.instanceMethod yX8_howManyLost, Cond.selects RX8 yX8_howManyLost yX8_howManyLost, Cond.code yX8_howManyLost cX8_howManyLost 3 (some .int), Cond.methodLink RL 147 yX10_scan]
def wsL_law_r37 : List Cond := [Cond.instanceMethod yX10_scan, Cond.selects RX10 yX10_scan yX10_scan, Cond.code yX10_scan cX10_scan 6 (some .int), Cond.methodLink RX10 278 yX10_lostMany, Cond.instanceMethod yX10_lostMany, Cond.selects RX10 yX10_lostMany yX10_lostMany, Cond.code yX10_lostMany cX10_lostMany 3 (some .int), Cond.methodLink RL 148 yX9_force, Cond.instanceMethod yX9_force, Cond.selects RX9 yX9_force yX9_force, Cond.code yX9_force cX9_force 1 (some .int), Cond.methodLink RX9 258 yX8_sum, Cond.instanceMethod yX8_sum, Cond.selects RX8 yX8_sum yX8_sum, Cond.code yX8_sum cX8_sum 3 (some .int), Cond.methodLink RL 151 yX10_force, Cond.instanceMethod yX10_force, Cond.selects RX10 yX10_force yX10_force, Cond.code yX10_force cX10_force 3 (some .int), Cond.methodLink RL 152 yX9_check, Cond.instanceMethod yX9_check, Cond.selects RX9 yX9_check yX9_check, Cond.code yX9_check cX9_check 3 (some .int), Cond.methodLink RX9 261 yX8_compare]
def wsL_law_r38 : List Cond := [Cond.instanceMethod yX8_compare, Cond.selects RX8 yX8_compare yX8_compare, Cond.code yX8_compare cX8_compare 6 (some .int), Cond.methodLink RX8 44 Lib.Math.abs.name, Cond.methodLink RX8 40 yX8_sum, Cond.methodLink RX8 49 yX8_canMend, Cond.instanceMethod yX8_canMend, Cond.selects RX8 yX8_canMend yX8_canMend, Cond.code yX8_canMend cX8_canMend 7 (some .boolean), Cond.methodLink RX8 57 Lib.Math.max.name, Cond.methodLink RX8 60 Lib.Math.min.name, Cond.methodLink RX8 53 yJ9_floorDiv_7cf53, Cond.methodLink RL 155 yX10_check, Cond.instanceMethod yX10_check, Cond.selects RX10 yX10_check yX10_check, Cond.code yX10_check cX10_check 10 (some .int), Cond.methodLink RX10 281 yX10_force, Cond.methodLink RL 156 yX9_fill, Cond.instanceMethod yX9_fill, Cond.selects RX9 yX9_fill yX9_fill, Cond.code yX9_fill cX9_fill 2 (some .int), Cond.methodLink RX9 264 yX8_pressureOfLost, Cond.instanceMethod yX8_pressureOfLost, Cond.selects RX8 yX8_pressureOfLost yX8_pressureOfLost]
def wsL_law_r39 : List Cond := [Cond.code yX8_pressureOfLost cX8_pressureOfLost 5 (some .int), Cond.methodLink RL 159 yX10_fill, Cond.instanceMethod yX10_fill, Cond.selects RX10 yX10_fill yX10_fill, Cond.code yX10_fill cX10_fill 7 (some .int), Cond.methodLink RL 160 yX9_count, Cond.instanceMethod yX9_count, Cond.selects RX9 yX9_count yX9_count, Cond.code yX9_count cX9_count 2 (some .int), Cond.methodLink RX9 267 yX5_howManyDone, Cond.instanceMethod yX5_howManyDone, Cond.selects RX5 yX5_howManyDone yX5_howManyDone, Cond.code yX5_howManyDone cX5_howManyDone 3 (some .int), Cond.methodLink RL 163 yX10_count, Cond.instanceMethod yX10_count, Cond.selects RX10 yX10_count yX10_count, Cond.code yX10_count cX10_count 4 (some .int)]
def wsL_law : List Cond := (wsL_law_r1 ++ (wsL_law_r2 ++ (wsL_law_r3 ++ (wsL_law_r4 ++ (wsL_law_r5 ++ (wsL_law_r6 ++ (wsL_law_r7 ++ (wsL_law_r8 ++ (wsL_law_r9 ++ (wsL_law_r10 ++ (wsL_law_r11 ++ (wsL_law_r12 ++ (wsL_law_r13 ++ (wsL_law_r14 ++ (wsL_law_r15 ++ (wsL_law_r16 ++ (wsL_law_r17 ++ (wsL_law_r18 ++ (wsL_law_r19 ++ (wsL_law_r20 ++ (wsL_law_r21 ++ (wsL_law_r22 ++ (wsL_law_r23 ++ (wsL_law_r24 ++ (wsL_law_r25 ++ (wsL_law_r26 ++ (wsL_law_r27 ++ (wsL_law_r28 ++ (wsL_law_r29 ++ (wsL_law_r30 ++ (wsL_law_r31 ++ (wsL_law_r32 ++ (wsL_law_r33 ++ (wsL_law_r34 ++ (wsL_law_r35 ++ (wsL_law_r36 ++ (wsL_law_r37 ++ (wsL_law_r38 ++ wsL_law_r39)))))))))))))))))))))))))))))))))))))) ++ wsX90 ++ wsX100 ++ wsX00 ++ wsX10 ++ wsX30 ++ wsX50 ++ wsX60 ++ wsX80 ++ wsX70 ++ wsX40 ++ wsX20 ++ ([] : List Cond)
abbrev vwCl : List vw_C := [(RX0, TX0, 7), (RX1, TX1, 4), (RX2, TX2, 5), (RX3, TX3, 7), (RX4, TX4, 2), (RX5, TX5, 10), (RX6, TX6, 8), (RX7, TX7, 3), (RX8, TX8, 4), (RX9, TX9, 7), (RX10, TX10, 42)]
theorem nmX0 : ∀ a, a < 7 → ∀ b, b < 7 → a ≠ b → (TX0 a).2.1 ≠ (TX0 b).2.1 := by decide +kernel
theorem tyX0_ok : ∀ k, k < 7 → parseFieldDescriptor (TX0 k).2.2.1 = some (tyX0 k) := by decide +kernel
theorem nmX1 : ∀ a, a < 4 → ∀ b, b < 4 → a ≠ b → (TX1 a).2.1 ≠ (TX1 b).2.1 := by decide +kernel
theorem tyX1_ok : ∀ k, k < 4 → parseFieldDescriptor (TX1 k).2.2.1 = some (tyX1 k) := by decide +kernel
theorem nmX2 : ∀ a, a < 5 → ∀ b, b < 5 → a ≠ b → (TX2 a).2.1 ≠ (TX2 b).2.1 := by decide +kernel
theorem tyX2_ok : ∀ k, k < 5 → parseFieldDescriptor (TX2 k).2.2.1 = some (tyX2 k) := by decide +kernel
theorem nmX3 : ∀ a, a < 7 → ∀ b, b < 7 → a ≠ b → (TX3 a).2.1 ≠ (TX3 b).2.1 := by decide +kernel
theorem tyX3_ok : ∀ k, k < 7 → parseFieldDescriptor (TX3 k).2.2.1 = some (tyX3 k) := by decide +kernel
theorem nmX4 : ∀ a, a < 2 → ∀ b, b < 2 → a ≠ b → (TX4 a).2.1 ≠ (TX4 b).2.1 := by decide +kernel
theorem tyX4_ok : ∀ k, k < 2 → parseFieldDescriptor (TX4 k).2.2.1 = some (tyX4 k) := by decide +kernel
theorem nmX5 : ∀ a, a < 10 → ∀ b, b < 10 → a ≠ b → (TX5 a).2.1 ≠ (TX5 b).2.1 := by decide +kernel
theorem tyX5_ok : ∀ k, k < 10 → parseFieldDescriptor (TX5 k).2.2.1 = some (tyX5 k) := by decide +kernel
theorem nmX6 : ∀ a, a < 8 → ∀ b, b < 8 → a ≠ b → (TX6 a).2.1 ≠ (TX6 b).2.1 := by decide +kernel
theorem tyX6_ok : ∀ k, k < 8 → parseFieldDescriptor (TX6 k).2.2.1 = some (tyX6 k) := by decide +kernel
theorem nmX7 : ∀ a, a < 3 → ∀ b, b < 3 → a ≠ b → (TX7 a).2.1 ≠ (TX7 b).2.1 := by decide +kernel
theorem tyX7_ok : ∀ k, k < 3 → parseFieldDescriptor (TX7 k).2.2.1 = some (tyX7 k) := by decide +kernel
theorem nmX8 : ∀ a, a < 4 → ∀ b, b < 4 → a ≠ b → (TX8 a).2.1 ≠ (TX8 b).2.1 := by decide +kernel
theorem tyX8_ok : ∀ k, k < 4 → parseFieldDescriptor (TX8 k).2.2.1 = some (tyX8 k) := by decide +kernel
theorem nmX9 : ∀ a, a < 7 → ∀ b, b < 7 → a ≠ b → (TX9 a).2.1 ≠ (TX9 b).2.1 := by decide +kernel
theorem tyX9_ok : ∀ k, k < 7 → parseFieldDescriptor (TX9 k).2.2.1 = some (tyX9 k) := by decide +kernel
theorem nmX10 : ∀ a, a < 42 → ∀ b, b < 42 → a ≠ b → (TX10 a).2.1 ≠ (TX10 b).2.1 := by decide +kernel
theorem tyX10_ok : ∀ k, k < 42 → parseFieldDescriptor (TX10 k).2.2.1 = some (tyX10 k) := by decide +kernel
theorem nmJ6 : ∀ a, a < 0 → ∀ b, b < 0 → a ≠ b → (TJ6 a).2.1 ≠ (TJ6 b).2.1 := by decide +kernel
theorem tyJ6_ok : ∀ k, k < 0 → parseFieldDescriptor (TJ6 k).2.2.1 = some (tyJ6 k) := by decide +kernel
theorem nmJ9 : ∀ a, a < 0 → ∀ b, b < 0 → a ≠ b → (TJ9 a).2.1 ≠ (TJ9 b).2.1 := by decide +kernel
theorem tyJ9_ok : ∀ k, k < 0 → parseFieldDescriptor (TJ9 k).2.2.1 = some (tyJ9 k) := by decide +kernel
end
section
/-! plain facts on numbers and arrays, to paste: each family by itself; over the kit's rows on nI and upd -/
/-! ===== order of ints, in all its forms, and through longs ===== -/
theorem fa_lt (a b : Int32) : a < b ↔ a.toInt < b.toInt := Int32.lt_iff_toInt_lt
theorem fa_le (a b : Int32) : a ≤ b ↔ a.toInt ≤ b.toInt := Int32.le_iff_toInt_le
theorem fa_eq (a b : Int32) : a = b ↔ a.toInt = b.toInt := Int32.toInt_inj.symm
theorem fa_lt64 (a b : Int64) : a < b ↔ a.toInt < b.toInt := Int64.lt_iff_toInt_lt
theorem fa_le64 (a b : Int64) : a ≤ b ↔ a.toInt ≤ b.toInt := Int64.le_iff_toInt_le
theorem fa_eq64 (a b : Int64) : a = b ↔ a.toInt = b.toInt := Int64.toInt_inj.symm
/-- a comparison of two ints taken as longs -/
theorem fa_wide_lt (a b : Int32) : a.toInt64 < b.toInt64 ↔ a < b := by rw [fa_lt64, fa_lt, Int32.toInt_toInt64, Int32.toInt_toInt64]
theorem fa_wide_le (a b : Int32) : a.toInt64 ≤ b.toInt64 ↔ a ≤ b := by rw [fa_le64, fa_le, Int32.toInt_toInt64, Int32.toInt_toInt64]
theorem fa_wide_eq (a b : Int32) : a.toInt64 = b.toInt64 ↔ a = b := by rw [fa_eq64, fa_eq, Int32.toInt_toInt64, Int32.toInt_toInt64]
/-- one strict comparison gives all the others -/
theorem fa_of_lt {a b : Int32} (h : a < b) : a ≤ b ∧ ¬ b ≤ a ∧ ¬ b < a ∧ a ≠ b ∧ b ≠ a := by
  rw [fa_lt] at h
  refine ⟨?_, ?_, ?_, ?_, ?_⟩
  · rw [fa_le]; omega
  · rw [fa_le]; omega
  · rw [fa_lt]; omega
  · intro e; rw [fa_eq] at e; omega
  · intro e; rw [fa_eq] at e; omega
theorem fa_of_nlt {a b : Int32} (h : ¬ a < b) : b ≤ a := by
  rw [fa_lt] at h
  rw [fa_le]
  omega
theorem fa_of_nle {a b : Int32} (h : ¬ a ≤ b) : b < a := by
  rw [fa_le] at h
  rw [fa_lt]
  omega
theorem fa_le_ne {a b : Int32} (h : a ≤ b) (h2 : a ≠ b) : a < b := by
  rw [fa_le] at h
  rw [fa_lt]
  have h3 : a.toInt ≠ b.toInt := fun e => h2 ((fa_eq a b).mpr e)
  omega
theorem fa_three (a b : Int32) : a < b ∨ a = b ∨ b < a := by
  rw [fa_lt, fa_lt, fa_eq]
  omega
theorem fa_trans {a b c : Int32} (h : a < b) (h2 : b ≤ c) : a < c := by
  rw [fa_lt] at *
  rw [fa_le] at h2
  omega
/-! ===== small literals as numbers ===== -/
theorem fa_lit (n : Nat) : (OfNat.ofNat n : Int32) = nI n := rfl
theorem fa_litL (n : Nat) : (OfNat.ofNat n : Int64) = lN n := rfl
/-! ===== bits of a number: 'or', masks, one bit ===== -/
theorem fa_and (a b : Nat) : nI a &&& nI b = nI (a &&& b) := by
  apply Int32.toBitVec_inj.1
  show BitVec.ofNat 32 a &&& BitVec.ofNat 32 b = BitVec.ofNat 32 (a &&& b)
  apply BitVec.eq_of_getLsbD_eq
  intro i hi
  simp [hi]
theorem fa_or (a b : Nat) : nI a ||| nI b = nI (a ||| b) := by
  apply Int32.toBitVec_inj.1
  show BitVec.ofNat 32 a ||| BitVec.ofNat 32 b = BitVec.ofNat 32 (a ||| b)
  apply BitVec.eq_of_getLsbD_eq
  intro i hi
  simp [hi]
/-- a remainder by a power of two, as a mask -/
theorem fa_mask (n k : Nat) : nI n &&& nI (2 ^ k - 1) = nI (n % 2 ^ k) := by rw [fa_and, Nat.and_two_pow_sub_one_eq_mod]
/-- 'or' of a high part and a low one that don't meet is their sum -/
theorem fa_or_sum {a k : Nat} (b : Nat) (h : a < 2 ^ k) : nI (2 ^ k * b) ||| nI a = nI (2 ^ k * b + a) := by rw [fa_or, Nat.two_pow_add_eq_or_of_lt h]
/-- one bit, by 'and' with a power of two -/
theorem fa_bit {n j : Nat} (hj : j < 31) : nI n &&& nI (2 ^ j) = 0 ↔ n.testBit j = false := by
  have h2 : (2 : Nat) ^ j < 2 ^ 31 := Nat.pow_lt_pow_right (by decide) hj
  have hle : n &&& 2 ^ j ≤ 2 ^ j := Nat.and_le_right
  have e : n &&& 2 ^ j = 0 ↔ n.testBit j = false := by
    constructor
    · intro h
      have h1 : (n &&& 2 ^ j).testBit j = false := by rw [h]; simp
      rw [Nat.testBit_and] at h1
      first | simpa using h1 | simpa [Nat.testBit_two_pow_self] using h1 | simpa [Nat.testBit_two_pow] using h1
    · intro h
      apply Nat.eq_of_testBit_eq
      intro i
      rw [Nat.testBit_and]
      by_cases hi : j = i
      · subst hi; simp [h]
      · first | (simp [Nat.testBit_two_pow, hi]; done) | (simp [Nat.testBit_two_pow_of_ne hi]; done)
  rw [fa_and]
  constructor
  · intro h
    apply e.mp
    rcases Nat.eq_zero_or_pos (n &&& 2 ^ j) with z | z
    · exact z
    · exact absurd h (nI_ne0 z (Nat.lt_of_le_of_lt hle h2))
  · intro h
    rw [e.mpr h]; exact nI_0
/-- a remainder by a power of two of a number that isn't negative, as Java divides -/
theorem fa_rem {a k : Nat} (ha : a < 2 ^ 31) (hk : k < 31) : nI a - nI a / nI (2 ^ k) * nI (2 ^ k) = nI (a % 2 ^ k) := pk_rem ha (Nat.two_pow_pos k) (Nat.pow_lt_pow_right (by decide) hk)
/-! ===== cuts to a byte, a short ===== -/
theorem fa_byte_xor (x y : Int32) : (x ^^^ y).toInt8 = x.toInt8 ^^^ y.toInt8 := by
  apply Int8.toBitVec_inj.1
  apply BitVec.eq_of_getLsbD_eq
  intro i hi
  first | (simp [hi]; done) | (simp [hi, BitVec.getLsbD_setWidth, BitVec.getLsbD_signExtend]; done)
theorem fa_short_xor (x y : Int32) : (x ^^^ y).toInt16 = x.toInt16 ^^^ y.toInt16 := by
  apply Int16.toBitVec_inj.1
  apply BitVec.eq_of_getLsbD_eq
  intro i hi
  first | (simp [hi]; done) | (simp [hi, BitVec.getLsbD_setWidth, BitVec.getLsbD_signExtend]; done)
/-- the cut to a byte sees the low byte alone -/
theorem fa_byte_low (x : Int32) : (x &&& 255).toInt8 = x.toInt8 := by
  apply Int8.toBitVec_inj.1
  apply BitVec.eq_of_getLsbD_eq
  intro i hi
  have h2 : (255 : Int32).toBitVec.getLsbD i = true := by
    have : ∀ j : Fin 8, (255 : Int32).toBitVec.getLsbD j.val = true := by decide +kernel
    exact this ⟨i, hi⟩
  have h4 : (x &&& 255).toBitVec.getLsbD i = x.toBitVec.getLsbD i := by
    show (x.toBitVec &&& (255 : Int32).toBitVec).getLsbD i = _
    rw [BitVec.getLsbD_and, h2, Bool.and_true]
  have h3 : i < 32 := by omega
  first
    | (show (((x &&& 255).toBitVec).signExtend 8).getLsbD i = (x.toBitVec.signExtend 8).getLsbD i; rw [BitVec.getLsbD_signExtend, BitVec.getLsbD_signExtend, if_pos h3, if_pos h3, h4])
    | (show (((x &&& 255).toBitVec).setWidth 8).getLsbD i = (x.toBitVec.setWidth 8).getLsbD i; rw [BitVec.getLsbD_setWidth, BitVec.getLsbD_setWidth, h4])
    | (simp [hi, h3, h4]; done)
theorem fa_short_low (x : Int32) : (x &&& 65535).toInt16 = x.toInt16 := by
  apply Int16.toBitVec_inj.1
  apply BitVec.eq_of_getLsbD_eq
  intro i hi
  have h2 : (65535 : Int32).toBitVec.getLsbD i = true := by
    have : ∀ j : Fin 16, (65535 : Int32).toBitVec.getLsbD j.val = true := by decide +kernel
    exact this ⟨i, hi⟩
  have h4 : (x &&& 65535).toBitVec.getLsbD i = x.toBitVec.getLsbD i := by
    show (x.toBitVec &&& (65535 : Int32).toBitVec).getLsbD i = _
    rw [BitVec.getLsbD_and, h2, Bool.and_true]
  have h3 : i < 32 := by omega
  first
    | (show (((x &&& 65535).toBitVec).signExtend 16).getLsbD i = (x.toBitVec.signExtend 16).getLsbD i; rw [BitVec.getLsbD_signExtend, BitVec.getLsbD_signExtend, if_pos h3, if_pos h3, h4])
    | (show (((x &&& 65535).toBitVec).setWidth 16).getLsbD i = (x.toBitVec.setWidth 16).getLsbD i; rw [BitVec.getLsbD_setWidth, BitVec.getLsbD_setWidth, h4])
    | (simp [hi, h3, h4]; done)
/-- a small number is its own byte, its own short -/
theorem fa_byte_small {n : Nat} (h : n < 128) : (nI n).toInt8.toInt32 = nI n := by
  have : ∀ j : Fin 128, (nI j.val).toInt8.toInt32 = nI j.val := by decide +kernel
  exact this ⟨n, h⟩
/-! ===== absolute difference ===== -/
theorem fa_absdiff {a b : Nat} (ha : a < 2 ^ 31) (hb : b < 2 ^ 31) : (if nI a < nI b then nI b - nI a else nI a - nI b) = nI (if a < b then b - a else a - b) := by
  by_cases h : a < b
  · rw [if_pos (nI_lt h hb), if_pos h]
    exact pk_sub (Nat.le_of_lt h)
  · rw [if_neg (nI_nlt (Nat.le_of_not_lt h) ha), if_neg h]
    exact pk_sub (Nat.le_of_not_lt h)
/-! ===== an array behind i stores, a conditional store, a row copied ===== -/
/-- f where k < i, what stood there else -/
def fa_fill {α : Type} (f g : Nat → α) (i : Nat) : Nat → α := fun k => if k < i then f k else g k
theorem fa_fill_0 {α : Type} (f g : Nat → α) : fa_fill f g 0 = g := funext fun k => if_neg (Nat.not_lt_zero k)
theorem fa_fill_in {α : Type} {f g : Nat → α} {i k : Nat} (h : k < i) : fa_fill f g i k = f k := if_pos h
theorem fa_fill_out {α : Type} {f g : Nat → α} {i k : Nat} (h : i ≤ k) : fa_fill f g i k = g k := if_neg (Nat.not_lt.mpr h)
theorem fa_fill_succ (f g : Nat → Int32) (i : Nat) : upd (fa_fill f g i) i (f i) = fa_fill f g (i + 1) := by
  funext k
  by_cases e : k = i
  · subst e
    rw [pk_us]
    exact (if_pos (Nat.lt_succ_self k)).symm
  · rw [pk_un e]
    by_cases h : k < i
    · rw [fa_fill_in h, fa_fill_in (Nat.lt_succ_of_lt h)]
    · rw [fa_fill_out (Nat.le_of_not_lt h), fa_fill_out (by omega)]
/-- a store that changes nothing -/
theorem fa_upd_same {f : Nat → Int32} {i : Nat} {x : Int32} (h : f i = x) : upd f i x = f := by
  funext k
  by_cases e : k = i
  · subst e
    rw [pk_us, h]
  · rw [pk_un e]
/-- a store under a condition, told as one -/
theorem fa_upd_if (c : Prop) [Decidable c] (f : Nat → Int32) (i : Nat) (x : Int32) : (if c then upd f i x else f) = upd f i (if c then x else f i) := by
  by_cases h : c
  · rw [if_pos h, if_pos h]
  · rw [if_neg h, if_neg h, fa_upd_same rfl]
/-- two stores at one place, at two -/
theorem fa_upd_twice (f : Nat → Int32) (i : Nat) (x y : Int32) : upd (upd f i x) i y = upd f i y := by
  funext k
  by_cases e : k = i
  · subst e
    rw [pk_us, pk_us]
  · rw [pk_un e, pk_un e, pk_un e]
theorem fa_upd_swap (f : Nat → Int32) {i j : Nat} (h : i ≠ j) (x y : Int32) : upd (upd f i x) j y = upd (upd f j y) i x := by
  funext k
  by_cases e : k = i
  · subst e
    rw [pk_un h, pk_us, pk_us]
  · by_cases e2 : k = j
    · subst e2
      rw [pk_us, pk_un e, pk_us]
    · rw [pk_un e2, pk_un e, pk_un e, pk_un e2]
/-! ===== the first index with a property; a count ===== -/
/-- the first k < n with p k, n if there is none -/
def fa_first (p : Nat → Bool) : Nat → Nat
  | 0 => 0
  | n + 1 => if fa_first p n < n then fa_first p n else if p n then n else n + 1
theorem fa_first_le (p : Nat → Bool) : ∀ n, fa_first p n ≤ n
  | 0 => Nat.le_refl 0
  | n + 1 => by
    have ih := fa_first_le p n
    unfold fa_first
    split
    · omega
    · split
      · omega
      · omega
theorem fa_first_no (p : Nat → Bool) : ∀ n k, k < fa_first p n → p k = false
  | 0, k, h => absurd h (Nat.not_lt_zero k)
  | n + 1, k, h => by
    have ih := fa_first_no p n
    have hl := fa_first_le p n
    unfold fa_first at h
    split at h
    · exact ih k h
    · rename_i h1
      split at h
      · exact ih k (by omega)
      · rename_i h2
        by_cases e : k = n
        · subst e
          exact Bool.eq_false_iff.mpr h2
        · exact ih k (by omega)
theorem fa_first_yes (p : Nat → Bool) : ∀ n, fa_first p n < n → p (fa_first p n) = true
  | 0, h => absurd h (Nat.not_lt_zero _)
  | n + 1, h => by
    have ih := fa_first_yes p n
    have hl := fa_first_le p n
    unfold fa_first at h ⊢
    split at h
    · rename_i h1
      rw [if_pos h1]
      exact ih h1
    · rename_i h1
      rw [if_neg h1]
      split at h
      · rename_i h2
        rw [if_pos h2]
        exact h2
      · omega
/-- how many k < n have p k -/
def fa_cnt (p : Nat → Bool) : Nat → Nat
  | 0 => 0
  | n + 1 => fa_cnt p n + if p n then 1 else 0
theorem fa_cnt_le (p : Nat → Bool) : ∀ n, fa_cnt p n ≤ n
  | 0 => Nat.le_refl 0
  | n + 1 => by
    have ih := fa_cnt_le p n
    unfold fa_cnt
    split
    · omega
    · omega
theorem fa_cnt_yes {p : Nat → Bool} {n : Nat} (h : p n = true) : fa_cnt p (n + 1) = fa_cnt p n + 1 := by rw [fa_cnt, if_pos h]
theorem fa_cnt_no {p : Nat → Bool} {n : Nat} (h : p n = false) : fa_cnt p (n + 1) = fa_cnt p n := by rw [fa_cnt, if_neg (by rw [h]; decide)]; rfl
theorem fa_cnt_cong {p q : Nat → Bool} : ∀ {n : Nat}, (∀ k, k < n → p k = q k) → fa_cnt p n = fa_cnt q n
  | 0, _ => rfl
  | n + 1, h => by rw [fa_cnt, fa_cnt, fa_cnt_cong (fun k hk => h k (Nat.lt_succ_of_lt hk)), h n (Nat.lt_succ_self n)]
/-! ===== an answer carried into a post; a branch on a boolean answer ===== -/
theorem fa_post {α : Type} {P : α → Prop} {x y : α} (h : x = y) (hp : P y) : P x := h ▸ hp
theorem fa_post2 {α β : Type} {P : α → β → Prop} {x y : α} {u v : β} (h : x = y) (h2 : u = v) (hp : P y v) : P x u := h ▸ h2 ▸ hp
theorem fa_bool {r : Int32} {b : Bool} (h : r = if b then 1 else 0) : (r = 0 ↔ b = false) ∧ (¬ r = 0 ↔ b = true) := by
  subst h
  cases b
  · exact ⟨⟨fun _ => rfl, fun _ => rfl⟩, ⟨fun h => absurd rfl h, fun h => absurd h (by decide)⟩⟩
  · exact ⟨⟨fun h => absurd h (by decide), fun h => absurd h (by decide)⟩, ⟨fun _ => rfl, fun _ => by decide⟩⟩
/-- a boolean's narrowing changes nothing -/
theorem fa_bool_and {r : Int32} (h : r = 0 ∨ r = 1) : r &&& 1 = r := by
  rcases h with rfl | rfl
  · decide
  · decide
theorem fa_bool_prop {c : Prop} [Decidable c] {r : Int32} (h : r = if c then 1 else 0) : (r = 0 ↔ ¬ c) ∧ (¬ r = 0 ↔ c) := by
  subst h
  by_cases hc : c
  · rw [if_pos hc]
    exact ⟨⟨fun h => absurd h (by decide), fun h => absurd hc h⟩, ⟨fun _ => hc, fun _ => by decide⟩⟩
  · rw [if_neg hc]
    exact ⟨⟨fun _ => hc, fun _ => rfl⟩, ⟨fun h => absurd rfl h, fun h => absurd h hc⟩⟩
end
section
def gTab : List (Nat × Nat) := [(0, 9), (0, 0), (4, 3), (1, 3), (1, 3), (1, 3), (4, 3), (1, 6), (1, 6), (1, 6), (1, 3), (1, 3), (0, 4), (5, 3), (2, 3), (2, 3), (2, 3), (2, 3), (0, 1), (4, 12), (1, 3), (1, 3), (1, 3), (1, 3), (1, 3), (1, 3), (1, 3), (1, 3), (1, 3), (1, 3), (1, 3), (1, 3), (4, 12), (1, 3), (1, 3), (1, 3), (1, 3), (1, 3), (1, 3), (1, 3), (1, 3), (1, 3), (1, 3), (1, 3), (1, 3), (0, 4), (5, 3), (2, 3), (2, 3), (2, 3), (2, 3), (0, 3), (6, 10), (1, 3), (2, 3), (2, 3), (0, 2), (0, 2), (0, 2), (0, 2), (0, 2), (0, 2), (0, 2), (0, 2), (0, 2), (0, 2), (0, 5), (3, 9), (4, 10), (1, 10), (1, 10), (1, 10), (1, 10), (1, 10), (1, 10), (1, 10), (1, 10), (1, 10), (1, 10), (1, 9), (1, 10), (1, 10), (1, 5120), (0, 6), (4, 8), (1, 3), (1, 3), (1, 3), (1, 3), (1, 3), (1, 3), (1, 3), (1, 3), (0, 8), (3, 10), (1, 10), (1, 10), (7, 4), (0, 7), (1, 60), (0, 7), (1, 60), (0, 7), (1, 60), (0, 7), (1, 60), (0, 10), (1, 9), (1, 18), (2, 9), (2, 3), (1, 3), (1, 36), (1, 36), (1, 10), (1, 10), (1, 10), (1, 10), (3, 10), (1, 3), (1, 7), (2, 3), (2, 33), (1, 9), (1, 9), (3, 9), (1, 4608), (1, 300), (1, 10), (1, 10), (3, 10), (1, 4), (1, 4), (1, 240)]
def gkd (k : Nat) : Nat := (gTab.getD k (9, 0)).1
def gln (k : Nat) : Nat := (gTab.getD k (9, 0)).2
abbrev gG : Type := va_G × (Nat → ClassId) × (Nat → Nat)
def gR (sg : Nat → Nat) (k i : Nat) : Nat := if k = 52 then sg i else if k = 97 then 98 + 2 * i else k + 1 + i
def gfs (ad : Nat → Nat) (f : Nat → Int32) (k : Nat) : Nat → List Value
  | 0 => [.ref (ad 2), .ref (ad 6), .ref (ad 10), .int (f 3), .int (f 4), .ref (ad 11), .ref (ad 12)]
  | 1 => [.ref (ad 19), .ref (ad 32), .int (f 2), .ref (ad 45)]
  | 2 => [.int (f 0), .int (f 1), .int (f 2), .int (f 3), .int (f 4)]
  | 3 => [.ref (ad 52), .int (f 1), .ref (ad 53), .int (f 3), .int (f 4), .ref (ad 54), .ref (ad 55)]
  | 4 => [.ref (ad (k + 1)), .ref (ad (k + 5))]
  | 5 => [.int (f 0), .ref (ad 67), .ref (ad 68), .int (f 3), .int (f 4), .int (f 5), .ref (ad 79), .ref (ad 80), .ref (ad 81), .ref (ad 82)]
  | 6 => [.int (f 0), .int (f 1), .int (f 2), .int (f 3), .int (f 4), .int (f 5), .int (f 6), .ref (ad 84)]
  | 7 => [.int (f 0), .int (f 1), .ref (ad (k + 1))]
  | 8 => [.int (f 0), .ref (ad 94), .ref (ad 95), .ref (ad 96)]
  | 9 => [.ref (ad 1), .ref (ad 18), .ref (ad 51), .ref (ad 66), .ref (ad 83), .ref (ad 93), .ref (ad 97)]
  | _ => [.ref (ad 107), .ref (ad 108), .ref (ad 109), .ref (ad 110), .ref (ad 111), .int (f 5), .int (f 6), .int (f 7), .ref (ad 112), .ref (ad 113), .int (f 10), .ref (ad 114), .ref (ad 115), .ref (ad 116), .ref (ad 117), .ref (ad 118), .ref (ad 119), .int (f 17), .int (f 18), .ref (ad 120), .ref (ad 121), .ref (ad 122), .int (f 22), .ref (ad 123), .ref (ad 124), .ref (ad 125), .ref (ad 126), .int (f 27), .int (f 28), .int (f 29), .int (f 30), .int (f 31), .int (f 32), .int (f 33), .ref (ad 127), .int (f 35), .ref (ad 128), .ref (ad 129), .ref (ad 130), .ref (ad 131), .ref (ad 132), .ref (ad 133)]
def gE (G : gG) (v : Nat → Nat → Int32) (w : Nat → Nat → Int64) (sg : Nat → Nat) (k : Nat) : va_E :=
  match gkd k with
  | 0 => .inr (gln k, gfs G.2.2 (v k) k (gln k))
  | 1 => .inl (G.2.1 0, gln k, .inl (v k))
  | 2 => .inl (G.2.1 1, gln k, .inr (.inl (w k)))
  | 3 => .inl (G.2.1 2, gln k, .inl (v k))
  | n + 4 => .inl (G.2.1 (n + 3), gln k, .inr (.inr (.inr (.inr (fun i => some (G.2.2 (gR sg k i)))))))
def gW (G : gG) (v : Nat → Nat → Int32) (w : Nat → Nat → Int64) (sg : Nat → Nat) : va_W := (List.range 134).map (fun k => (G.2.2 k, gE G v w sg k))
def gT (cs : Nat → ClassId) : List (ClassId × FieldType) := [(cs 0, .int), (cs 1, .long), (cs 2, .boolean), (cs 3, .array .int), (cs 4, .array .long), (cs 5, .object "WindHall$Correction"), (cs 6, .object "WindHall$Sheet")]
def gA (G : gG) (q : Nat) : Prop := ∃ k, k < 134 ∧ G.2.2 k = q
def gDj (G : gG) : Prop := ∀ i j, i < 134 → j < 134 → G.2.2 i = G.2.2 j → i = j
def gS (A : Nat → Prop) (G : gG) (s : State) (v : Nat → Nat → Int32) (w : Nat → Nat → Int64) (sg : Nat → Nat) (H : Heap) (locs : List Loc) : Prop := va_P G.1 vwCl (gW G v w sg) H ∧ va_S A s.heap H locs
/-- a store: place k, index j -/
def gu (v : Nat → Nat → Int32) (k j : Nat) (x : Int32) : Nat → Nat → Int32 := va_up v k (va_up (v k) j x)
def gul (w : Nat → Nat → Int64) (k j : Nat) (x : Int64) : Nat → Nat → Int64 := va_up w k (va_up (w k) j x)
theorem gu_o {v : Nat → Nat → Int32} {k j : Nat} {x : Int32} {a : Nat} (h : a ≠ k) : gu v k j x a = v a := by simp [gu, va_up, h]
theorem gul_o {v : Nat → Nat → Int64} {k j : Nat} {x : Int64} {a : Nat} (h : a ≠ k) : gul v k j x a = v a := by simp [gul, va_up, h]
theorem gu_s {v : Nat → Nat → Int32} {k j : Nat} {x : Int32} : gu v k j x k = va_up (v k) j x := by simp [gu, va_up]
theorem gul_s {v : Nat → Nat → Int64} {k j : Nat} {x : Int64} : gul v k j x k = va_up (v k) j x := by simp [gul, va_up]
theorem gE_o {G : gG} {v v' : Nat → Nat → Int32} {w w' : Nat → Nat → Int64} {sg sg' : Nat → Nat} {a : Nat} (hv : v' a = v a) (hw : w' a = w a) (hs : a ≠ 52 ∨ sg' = sg) : gE G v' w' sg' a = gE G v w sg a := by
  have hr : ∀ i, gR sg' a i = gR sg a i := fun i => by
    rcases hs with h | h
    · simp [gR, h]
    · rw [h]
  unfold gE
  rw [hv, hw]
  simp only [hr]
theorem gW_at {G : gG} {v : Nat → Nat → Int32} {w : Nat → Nat → Int64} {sg : Nat → Nat} {k : Nat} (hk : k < 134) : (gW G v w sg)[k]? = some (G.2.2 k, gE G v w sg k) := by
  unfold gW
  rw [List.getElem?_map, List.getElem?_range hk]
  rfl
theorem gW_len {G : gG} {v : Nat → Nat → Int32} {w : Nat → Nat → Int64} {sg : Nat → Nat} : (gW G v w sg).length = 134 := by
  unfold gW
  rw [List.length_map, List.length_range]
theorem gW_inv {G : gG} {v : Nat → Nat → Int32} {w : Nat → Nat → Int64} {sg : Nat → Nat} {k : Nat} {q : Nat × va_E} (h : (gW G v w sg)[k]? = some q) : k < 134 ∧ q = (G.2.2 k, gE G v w sg k) := by
  have hk : k < 134 := by
    have := (List.getElem?_eq_some_iff.mp h).1
    rwa [gW_len] at this
  rw [gW_at hk] at h
  exact ⟨hk, (Option.some.inj h).symm⟩
theorem gW_set {G : gG} {v v' : Nat → Nat → Int32} {w w' : Nat → Nat → Int64} {sg sg' : Nat → Nat} {k : Nat} {e' : va_E} (hk : k < 134) (he : gE G v' w' sg' k = e') (ho : ∀ a, a ≠ k → gE G v' w' sg' a = gE G v w sg a) : (gW G v w sg).set k (G.2.2 k, e') = gW G v' w' sg' := by
  apply List.ext_getElem?
  intro i
  by_cases hi : i = k
  · subst hi
    rw [gW_at hk, List.getElem?_set_self (by rw [gW_len]; exact hk), he]
  · rw [List.getElem?_set_ne (fun h => hi h.symm)]
    by_cases h : i < 134
    · rw [gW_at h, gW_at h, ho i hi]
    · rw [List.getElem?_eq_none (by rw [gW_len]; omega), List.getElem?_eq_none (by rw [gW_len]; omega)]
theorem gW_D {A : Nat → Prop} {G : gG} (hj : gDj G) (hA : ∀ q, gA G q → A q) (v : Nat → Nat → Int32) (w : Nat → Nat → Int64) (sg : Nat → Nat) : va_D A (gW G v w sg) := by
  refine ⟨fun i j x y hi hj' hxy => ?_, fun k x hx => ?_⟩
  · obtain ⟨h1, rfl⟩ := gW_inv hi
    obtain ⟨h2, rfl⟩ := gW_inv hj'
    exact hj i j h1 h2 hxy
  · obtain ⟨h1, rfl⟩ := gW_inv hx
    exact hA _ ⟨k, h1, rfl⟩
/-- what the tables say, as every method's start has it -/
def gK (G : gG) (U : State) : Prop := va_K G.1 vwCl (gT G.2.1) U ∧ va_Nw (.methodLinkNest RX0 53 yX9_setRow RX9) U ∧ va_Nw (.methodLinkNest RX2 28 yX9_isWithin RX9) U ∧ va_Nw (.methodLinkNest RX6 39 yX9_setRow RX9) U ∧ va_Nw (.methodLinkNest RX8 26 yX9_isWithin RX9) U
theorem gK_warm {G : gG} {s U : State} (hW : s.WarmedH U.vm) (h : gK G s) : gK G U := ⟨va_K.moved hW.alike h.1, va_Nw.warmM hW h.2.1, va_Nw.warmM hW h.2.2.1, va_Nw.warmM hW h.2.2.2.1, va_Nw.warmM hW h.2.2.2.2⟩
def gCos (i : Nat) : Int32 := ([1000, 966, 866, 707, 500, 259, 0, -259, -500, -707, -866, -966, -1000, -966, -866, -707, -500, -259, 0, 259, 500, 707, 866, 966] : List Int32).getD i 0
/-- the static row COS, outside of A -/
def gX (A : Nat → Prop) (U : State) (H : Heap) : Prop := ∃ t : Nat, va_Z "WindHall$Correction" "COS" "[I" (.ref t) A U H ∧ va_T .int t 24 (fun i => .int (gCos i)) A U H
/-- what a walk has at hand: the machine, the code, the words, the tables, the addresses apart -/
def gC (p : Program) (s : State) (m : MethodId) (c : Code) (cc : ByteArray) (nL : Nat) (args : Array Value) (ws : List Cond) (own : String) (A : Nat → Prop) (G : gG) : Prop := (p.tables.exec = Jvm.exec ∧ c.code = cc ∧ c.maxLocals = nL ∧ s.vm.findClass own = some m.cls ∧ ∀ w ∈ ws, w.before args s = true) ∧ gK G s ∧ gDj G ∧ (∀ q, gA G q → A q) ∧ gX A s s.heap
/-- a contract's start: these arguments, this picture -/
def gPre (G : gG) (v : Nat → Nat → Int32) (w : Nat → Nat → Int64) (sg : Nat → Nat) (As : List Value) : Array Value → State → Prop := va_Pc As (fun U => va_P G.1 vwCl (gW G v w sg) U.heap ∧ gK G U ∧ gDj G ∧ gX (gA G) U U.heap)
abbrev gSt : Type := (Nat → Nat → Int32) × (Nat → Nat → Int64) × (Nat → Nat)
abbrev gQi (G : gG) (P : Int32 → (Nat → Nat → Int32) → (Nat → Nat → Int64) → (Nat → Nat) → Prop) : Array Value → State → Outcome → State → Prop := va_Qi (S := gSt) (fun r u => P r u.1 u.2.1 u.2.2) (fun u t => va_P G.1 vwCl (gW G u.1 u.2.1 u.2.2) t.heap) (gA G)
abbrev gQl (G : gG) (P : Int64 → (Nat → Nat → Int32) → (Nat → Nat → Int64) → (Nat → Nat) → Prop) : Array Value → State → Outcome → State → Prop := va_Ql (S := gSt) (fun r u => P r u.1 u.2.1 u.2.2) (fun u t => va_P G.1 vwCl (gW G u.1 u.2.1 u.2.2) t.heap) (gA G)
abbrev gQv (G : gG) (P : (Nat → Nat → Int32) → (Nat → Nat → Int64) → (Nat → Nat) → Prop) : Array Value → State → Outcome → State → Prop := va_Qv (S := gSt) (fun u => P u.1 u.2.1 u.2.2) (fun u t => va_P G.1 vwCl (gW G u.1 u.2.1 u.2.2) t.heap) (gA G)
theorem gPre_blind {G : gG} {v : Nat → Nat → Int32} {w : Nat → Nat → Int64} {sg : Nat → Nat} {As : List Value} : FrameBlind (gPre G v w sg As) := by
  intro a U g mk q
  obtain ⟨q0, qP, ⟨qK, n1, n2, n3, n4⟩, qD, t, qZ, qT⟩ := q
  have hvm : U.vm = (U.calling g mk a).vm := rfl
  have hal : U.vm.Alike (U.calling g mk a).vm := Vm.Alike.refl U.vm
  exact ⟨q0, qP, ⟨va_K.moved hal qK, va_Nw.same rfl hvm n1, va_Nw.same rfl hvm n2, va_Nw.same rfl hvm n3, va_Nw.same rfl hvm n4⟩, qD, t, va_Z.moved hal qZ, va_T.moved hal qT⟩
section GROWS
variable {p : Program} {l : Launch} {e : Env} {R : Room} {s : State} {m : MethodId} {args : Array Value} {below : List Frame} {meth : Method} {c : Code} {H : Heap} {locs : List Loc} {cells slots : Nat} {Q : State → Prop}
variable {cc : ByteArray} {pc nL : Nat} {ls : Array Slot} {rest : List Value} {A : Nat → Prop} {G : gG} {v : Nat → Nat → Int32} {w : Nat → Nat → Int64} {sg : Nat → Nat} {ws : List Cond} {own : String}
theorem gS_pre (C : gC p s m c cc nL args ws own A G) (h : gS A G s v w sg H locs) (As : List Value) : ∀ U : State, U.heap = H → s.WarmedH U.vm → gPre G v w sg As As.toArray U := fun U hU hW => by
  obtain ⟨t, hZ, hT⟩ := C.2.2.2.2
  have hA := C.2.2.2.1
  refine ⟨rfl, by rw [hU]; exact h.1, gK_warm hW C.2.1, C.2.2.1, t, ?_, ?_⟩
  · rw [hU]
    exact ((hZ.kept h.2.2.1).narrow hA).moved hW.alike
  · rw [hU]
    exact ((hT.kept h.2.2.1).narrow hA).moved hW.alike
theorem g_get (C : gC p s m c cc nL args ws own A G) (h : gS A G s v w sg H locs) (k : Nat) (hk : k < 134) {ci : Nat} {fs : List Value} (he : gE G v w sg k = .inr (ci, fs)) {Cn : String} {T : u_T} {N : Nat} (hc : vwCl[ci]? = some (Cn, T, N)) (hin : ∀ x ∈ u_ws Cn T N, x ∈ ws) (j : Nat) (hj : j < N) {index : Nat} {ref : String} (hlink : Cond.fieldLink own index ref (T j).2.1 (T j).2.2.1 ∈ ws) (hsame : (T j).1 = ref) {x : Value} (hv : fs[j]? = some x) (hdg : decode cc pc = .ok (.getfield index, 3))
    (kk : W p l e R s m args below meth c H locs cells slots Q (F0 m (pc + 3) ls (x :: rest))) : W p l e R s m args below meth c H locs cells slots Q (F0 m pc ls (.ref (G.2.2 k) :: rest)) :=
  va_get C.1.1 C.1.2.1 C.1.2.2.2.2 hin C.1.2.2.2.1 C.2.1.1 h.1 k (by rw [gW_at hk, he]) hc j hj (C.1.2.2.2.2 _ hlink) (fun _ h9 => by rw [← hsame]; exact h9) hv hdg kk
theorem g_put (C : gC p s m c cc nL args ws own A G) (h : gS A G s v w sg H locs) (k : Nat) (hk : k < 134) {ci : Nat} {fs : List Value} (he : gE G v w sg k = .inr (ci, fs)) {Cn : String} {T : u_T} {N : Nat} (hc : vwCl[ci]? = some (Cn, T, N)) (hin : ∀ x ∈ u_ws Cn T N, x ∈ ws) (ty0 : Nat → FieldType) (hty : ∀ k, k < N → parseFieldDescriptor (T k).2.2.1 = some (ty0 k)) (hnm : ∀ a, a < N → ∀ b, b < N → a ≠ b → (T a).2.1 ≠ (T b).2.1) (j : Nat) (hj : j < N) {index : Nat} {ref : String} (hlink : Cond.fieldLink own index ref (T j).2.1 (T j).2.2.1 ∈ ws) (hsame : (T j).1 = ref) (hfin : (T j).2.2.2 = false) {ty : FieldType} {x : Int32} (hd : parseFieldDescriptor (T j).2.2.1 = some ty) (hn : narrow ty (.int x) = .int x) (hfit : fits ty (.int x) = true) (hl : j < fs.length) (hset : gE G (gu v k j x) w sg k = .inr (ci, fs.set j (.int x))) (hdg : decode cc pc = .ok (.putfield index, 3))
    (kk : ∀ (H1 : Heap) (locs1 : List Loc), gS A G s (gu v k j x) w sg H1 locs1 → W p l e R s m args below meth c H1 locs1 cells slots Q (F0 m (pc + 3) ls rest)) : W p l e R s m args below meth c H locs cells slots Q (F0 m pc ls (.int x :: .ref (G.2.2 k) :: rest)) :=
  va_put C.1.1 C.1.2.1 C.1.2.2.2.2 hin ty0 hty hnm C.1.2.2.2.1 C.2.1.1 h.1 (gW_D C.2.2.1 C.2.2.2.1 v w sg) h.2 k (by rw [gW_at hk, he]) hc j hj (C.1.2.2.2.2 _ hlink) (fun _ h9 => by rw [← hsame]; exact h9) hfin hd hn hfit hl hdg (fun H1 locs1 hP hD hS => kk H1 locs1 ⟨by
    rw [← gW_set (v := v) (w := w) (sg := sg) hk hset (fun a ha => gE_o (gu_o ha) rfl (Or.inr rfl))]
    exact hP, hS⟩)
theorem gE_1 {k : Nat} (hk : gkd k = 1) : gE G v w sg k = .inl (G.2.1 0, gln k, .inl (v k)) := by unfold gE; rw [hk]
theorem gE_2 {k : Nat} (hk : gkd k = 2) : gE G v w sg k = .inl (G.2.1 1, gln k, .inr (.inl (w k))) := by unfold gE; rw [hk]
theorem gE_3 {k : Nat} (hk : gkd k = 3) : gE G v w sg k = .inl (G.2.1 2, gln k, .inl (v k)) := by unfold gE; rw [hk]
theorem gE_4 {k : Nat} (n : Nat) (hk : gkd k = n + 4) : gE G v w sg k = .inl (G.2.1 (n + 3), gln k, .inr (.inr (.inr (.inr (fun i => some (G.2.2 (gR sg k i))))))) := by unfold gE; rw [hk]
theorem g_iald (C : gC p s m c cc nL args ws own A G) (h : gS A G s v w sg H locs) (k : Nat) (hk : k < 134) (hd : gkd k = 1) {n : Nat} (hn : gln k = n) {i : Int32} (hin : vp_in i n) (hdg : decode cc pc = .ok (.iaload, 1))
    (kk : W p l e R s m args below meth c H locs cells slots Q (F0 m (pc + 1) ls (.int (v k i.toNatClampNeg) :: rest))) : W p l e R s m args below meth c H locs cells slots Q (F0 m pc ls (.int i :: .ref (G.2.2 k) :: rest)) :=
  va_iald C.1.1 C.1.2.1 C.2.1.1 h.1 k 0 (n := n) (f := v k) (by rw [gW_at hk, gE_1 hd, hn]) rfl hin hdg kk
theorem g_zald (C : gC p s m c cc nL args ws own A G) (h : gS A G s v w sg H locs) (k : Nat) (hk : k < 134) (hd : gkd k = 3) {n : Nat} (hn : gln k = n) {i : Int32} (hin : vp_in i n) (hdg : decode cc pc = .ok (.baload, 1))
    (kk : W p l e R s m args below meth c H locs cells slots Q (F0 m (pc + 1) ls (.int (v k i.toNatClampNeg) :: rest))) : W p l e R s m args below meth c H locs cells slots Q (F0 m pc ls (.int i :: .ref (G.2.2 k) :: rest)) :=
  va_zald C.1.1 C.1.2.1 C.2.1.1 h.1 k 2 (n := n) (f := v k) (by rw [gW_at hk, gE_3 hd, hn]) rfl hin hdg kk
theorem g_lald (C : gC p s m c cc nL args ws own A G) (h : gS A G s v w sg H locs) (k : Nat) (hk : k < 134) (hd : gkd k = 2) {n : Nat} (hn : gln k = n) {i : Int32} (hin : vp_in i n) (hdg : decode cc pc = .ok (.laload, 1))
    (kk : W p l e R s m args below meth c H locs cells slots Q (F0 m (pc + 1) ls (.long (w k i.toNatClampNeg) :: rest))) : W p l e R s m args below meth c H locs cells slots Q (F0 m pc ls (.int i :: .ref (G.2.2 k) :: rest)) :=
  va_lald C.1.1 C.1.2.1 C.2.1.1 h.1 k 1 (n := n) (f := w k) (by rw [gW_at hk, gE_2 hd, hn]) rfl hin hdg kk
theorem g_iast (C : gC p s m c cc nL args ws own A G) (h : gS A G s v w sg H locs) (k : Nat) (hk : k < 134) (hd : gkd k = 1) {n : Nat} (hn : gln k = n) {i x : Int32} (hin : vp_in i n) (hdg : decode cc pc = .ok (.iastore, 1))
    (kk : ∀ (H1 : Heap) (locs1 : List Loc), gS A G s (gu v k i.toNatClampNeg x) w sg H1 locs1 → W p l e R s m args below meth c H1 locs1 cells slots Q (F0 m (pc + 1) ls rest)) : W p l e R s m args below meth c H locs cells slots Q (F0 m pc ls (.int x :: .int i :: .ref (G.2.2 k) :: rest)) :=
  va_iast C.1.1 C.1.2.1 C.2.1.1 h.1 (gW_D C.2.2.1 C.2.2.2.1 v w sg) h.2 k 0 (n := n) (f := v k) (by rw [gW_at hk, gE_1 hd, hn]) rfl hin hdg (fun H1 locs1 hP hD hS => kk H1 locs1 ⟨by
    rw [← gW_set (v := v) (w := w) (sg := sg) hk ((gE_1 hd).trans (by rw [hn, gu_s])) (fun a ha => gE_o (gu_o ha) rfl (Or.inr rfl))]
    exact hP, hS⟩)
theorem g_last (C : gC p s m c cc nL args ws own A G) (h : gS A G s v w sg H locs) (k : Nat) (hk : k < 134) (hd : gkd k = 2) {n : Nat} (hn : gln k = n) {i : Int32} {x : Int64} (hin : vp_in i n) (hdg : decode cc pc = .ok (.lastore, 1))
    (kk : ∀ (H1 : Heap) (locs1 : List Loc), gS A G s v (gul w k i.toNatClampNeg x) sg H1 locs1 → W p l e R s m args below meth c H1 locs1 cells slots Q (F0 m (pc + 1) ls rest)) : W p l e R s m args below meth c H locs cells slots Q (F0 m pc ls (.long x :: .int i :: .ref (G.2.2 k) :: rest)) :=
  va_last C.1.1 C.1.2.1 C.2.1.1 h.1 (gW_D C.2.2.1 C.2.2.2.1 v w sg) h.2 k 1 (n := n) (f := w k) (by rw [gW_at hk, gE_2 hd, hn]) rfl hin hdg (fun H1 locs1 hP hD hS => kk H1 locs1 ⟨by
    rw [← gW_set (v := v) (w := w) (sg := sg) hk ((gE_2 hd).trans (by rw [hn, gul_s])) (fun a ha => gE_o rfl (gul_o ha) (Or.inr rfl))]
    exact hP, hS⟩)
theorem g_zast (C : gC p s m c cc nL args ws own A G) (h : gS A G s v w sg H locs) (k : Nat) (hk : k < 134) (hd : gkd k = 3) {n : Nat} (hn : gln k = n) {i x : Int32} (hin : vp_in i n) (hdg : decode cc pc = .ok (.bastore, 1))
    (kk : ∀ (H1 : Heap) (locs1 : List Loc), gS A G s (gu v k i.toNatClampNeg (vp_nar .boolean x)) w sg H1 locs1 → W p l e R s m args below meth c H1 locs1 cells slots Q (F0 m (pc + 1) ls rest)) : W p l e R s m args below meth c H locs cells slots Q (F0 m pc ls (.int x :: .int i :: .ref (G.2.2 k) :: rest)) :=
  va_zast C.1.1 C.1.2.1 C.2.1.1 h.1 (gW_D C.2.2.1 C.2.2.2.1 v w sg) h.2 k 2 (n := n) (f := v k) (by rw [gW_at hk, gE_3 hd, hn]) rfl hin hdg (fun H1 locs1 hP hD hS => kk H1 locs1 ⟨by
    rw [← gW_set (v := v) (w := w) (sg := sg) hk ((gE_3 hd).trans (by rw [hn, gu_s])) (fun a ha => gE_o (gu_o ha) rfl (Or.inr rfl))]
    exact hP, hS⟩)
theorem g_aald (C : gC p s m c cc nL args ws own A G) (h : gS A G s v w sg H locs) (k : Nat) (hk : k < 134) (t : Nat) (hd : gkd k = t + 4) {n : Nat} (hn : gln k = n) {ty : FieldType} (ht : (gT G.2.1)[t + 3]? = some (G.2.1 (t + 3), ty)) (hty : ty.isReference = true) {i : Int32} (hin : vp_in i n) (hdg : decode cc pc = .ok (.aaload, 1))
    (kk : W p l e R s m args below meth c H locs cells slots Q (F0 m (pc + 1) ls (.ref (G.2.2 (gR sg k i.toNatClampNeg)) :: rest))) : W p l e R s m args below meth c H locs cells slots Q (F0 m pc ls (.int i :: .ref (G.2.2 k) :: rest)) := by
  have ha : (gW G v w sg)[k]? = some (G.2.2 k, .inl (G.2.1 (t + 3), n, .inr (.inr (.inr (.inr (fun i => some (G.2.2 (gR sg k i)))))))) := by rw [gW_at hk, gE_4 t hd, hn]
  have hlt : i.toNatClampNeg < n := Nat.not_le.mp fun q => hin (Or.inr q)
  exact W.aald (v := .ref (G.2.2 (gR sg k i.toNatClampNeg))) (ty := ty) C.1.1 C.1.2.1 (h.1 k _ ha) ((C.2.1.1.2 (t + 3) _ ht).1 n (fun j => va_rf (some (G.2.2 (gR sg k j))))) hty (fun q => by cases q) (by show ¬ (i < 0 ∨ (arrV _ _ _).slots.size ≤ _); rw [arrV_size]; exact hin) (by show (arrV _ _ _).slots[_]? = _; rw [arrV_read _ _ hlt]; rfl) rfl rfl hdg kk
theorem g_recv (C : gC p s m c cc nL args ws own A G) (h : gS A G s v w sg H locs) (k : Nat) (hk : k < 134) {ci : Nat} {fs : List Value} (he : gE G v w sg k = .inr (ci, fs)) {q : vw_C} (hc : vwCl[ci]? = some q) : ∃ cell : Cell, H[G.2.2 k]? = some cell ∧ cell.vm.isStatics = false ∧ s.vm.findClass q.1 = some cell.cls := va_recv C.2.1.1 h.1 hc (by rw [gW_at hk, he])
theorem g_calli (C : gC p s m c cc nL args ws own A G) {P : Int32 → (Nat → Nat → Int32) → (Nat → Nat → Int64) → (Nat → Nat) → Prop} {a : Array Value} {st0 : List Value} (hr : va_Run p l e R s m args below meth c H locs cells slots 0 0 (F0 m pc ls st0) rest (gQi G P a) (gA G)) (h : gS A G s v w sg H locs)
    (kk : ∀ (r : Int32) (v' : Nat → Nat → Int32) (w' : Nat → Nat → Int64) (sg' : Nat → Nat) (H1 : Heap) (locs1 : List Loc), P r v' w' sg' → gS A G s v' w' sg' H1 locs1 → W p l e R s m args below meth c H1 locs1 cells slots Q (F0 m (pc + 3) ls (.int r :: rest))) : W p l e R s m args below meth c H locs cells slots Q (F0 m pc ls st0) :=
  va_calli hr h.2 (fun q _ hq => C.2.2.2.1 q hq) (fun q hq => C.2.2.2.1 q hq) (fun r u t H1 locs1 ht hvm hp hB hz hk hS => kk r u.1 u.2.1 u.2.2 H1 locs1 hp ⟨by rw [← ht]; exact hB, hS⟩)
theorem g_calll (C : gC p s m c cc nL args ws own A G) {P : Int64 → (Nat → Nat → Int32) → (Nat → Nat → Int64) → (Nat → Nat) → Prop} {a : Array Value} {st0 : List Value} (hr : va_Run p l e R s m args below meth c H locs cells slots 0 0 (F0 m pc ls st0) rest (gQl G P a) (gA G)) (h : gS A G s v w sg H locs)
    (kk : ∀ (r : Int64) (v' : Nat → Nat → Int32) (w' : Nat → Nat → Int64) (sg' : Nat → Nat) (H1 : Heap) (locs1 : List Loc), P r v' w' sg' → gS A G s v' w' sg' H1 locs1 → W p l e R s m args below meth c H1 locs1 cells slots Q (F0 m (pc + 3) ls (.long r :: rest))) : W p l e R s m args below meth c H locs cells slots Q (F0 m pc ls st0) :=
  va_calll hr h.2 (fun q _ hq => C.2.2.2.1 q hq) (fun q hq => C.2.2.2.1 q hq) (fun r u t H1 locs1 ht hvm hp hB hz hk hS => kk r u.1 u.2.1 u.2.2 H1 locs1 hp ⟨by rw [← ht]; exact hB, hS⟩)
theorem g_callv (C : gC p s m c cc nL args ws own A G) {P : (Nat → Nat → Int32) → (Nat → Nat → Int64) → (Nat → Nat) → Prop} {a : Array Value} {st0 : List Value} (hr : va_Run p l e R s m args below meth c H locs cells slots 0 0 (F0 m pc ls st0) rest (gQv G P a) (gA G)) (h : gS A G s v w sg H locs)
    (kk : ∀ (v' : Nat → Nat → Int32) (w' : Nat → Nat → Int64) (sg' : Nat → Nat) (H1 : Heap) (locs1 : List Loc), P v' w' sg' → gS A G s v' w' sg' H1 locs1 → W p l e R s m args below meth c H1 locs1 cells slots Q (F0 m (pc + 3) ls rest)) : W p l e R s m args below meth c H locs cells slots Q (F0 m pc ls st0) :=
  va_callv hr h.2 (fun q _ hq => C.2.2.2.1 q hq) (fun q hq => C.2.2.2.1 q hq) (fun u t H1 locs1 ht hvm hp hB hz hk hS => kk u.1 u.2.1 u.2.2 H1 locs1 hp ⟨by rw [← ht]; exact hB, hS⟩)
theorem g_iret (C : gC p s m c cc nL args ws own (gA G) G) (hlk : meth.locks = false) (hr : meth.sig.returnType = some .int) (h : gS (gA G) G s v w sg H locs) {P : Int32 → (Nat → Nat → Int32) → (Nat → Nat → Int64) → (Nat → Nat) → Prop} {x : Int32} (hdg : decode cc pc = .ok (.ireturn, 1)) (hp : P x v w sg) : W p l e R s m args below meth c H locs 0 0 (MQ below (gQi G P) args s 0 0 (gA G)) (F0 m pc ls [.int x]) :=
  W.iret C.1.1 C.1.2.1 hr (fun t ht hW => ⟨⟨x, (v, w, sg), rfl, hp, by show va_P _ _ _ t.heap; rw [ht]; exact h.1⟩, h.2.F ht⟩) h.2.2.2 hdg hlk
theorem g_zret (C : gC p s m c cc nL args ws own (gA G) G) (hlk : meth.locks = false) (hr : meth.sig.returnType = some .boolean) (h : gS (gA G) G s v w sg H locs) {P : Int32 → (Nat → Nat → Int32) → (Nat → Nat → Int64) → (Nat → Nat) → Prop} {x : Int32} (hn : narrow .boolean (.int x) = .int x) (hdg : decode cc pc = .ok (.ireturn, 1)) (hp : P x v w sg) : W p l e R s m args below meth c H locs 0 0 (MQ below (gQi G P) args s 0 0 (gA G)) (F0 m pc ls [.int x]) :=
  W.zret C.1.1 C.1.2.1 hr hn (fun t ht hW => ⟨⟨x, (v, w, sg), rfl, hp, by show va_P _ _ _ t.heap; rw [ht]; exact h.1⟩, h.2.F ht⟩) h.2.2.2 hdg hlk
theorem g_lret (C : gC p s m c cc nL args ws own (gA G) G) (hlk : meth.locks = false) (hr : meth.sig.returnType = some .long) (h : gS (gA G) G s v w sg H locs) {P : Int64 → (Nat → Nat → Int32) → (Nat → Nat → Int64) → (Nat → Nat) → Prop} {x : Int64} (hdg : decode cc pc = .ok (.lreturn, 1)) (hp : P x v w sg) : W p l e R s m args below meth c H locs 0 0 (MQ below (gQl G P) args s 0 0 (gA G)) (F0 m pc ls [.long x]) :=
  W.lret C.1.1 C.1.2.1 hr (fun t ht hW => ⟨⟨x, (v, w, sg), rfl, hp, by show va_P _ _ _ t.heap; rw [ht]; exact h.1⟩, h.2.F ht⟩) h.2.2.2 hdg hlk
theorem g_vret (C : gC p s m c cc nL args ws own (gA G) G) (hlk : meth.locks = false) (hr : meth.sig.returnType = none) (h : gS (gA G) G s v w sg H locs) {P : (Nat → Nat → Int32) → (Nat → Nat → Int64) → (Nat → Nat) → Prop} (hdg : decode cc pc = .ok (.return_, 1)) (hp : P v w sg) : W p l e R s m args below meth c H locs 0 0 (MQ below (gQv G P) args s 0 0 (gA G)) (F0 m pc ls []) :=
  W.vret C.1.1 C.1.2.1 hr (fun t ht hW => ⟨⟨(v, w, sg), rfl, hp, by show va_P _ _ _ t.heap; rw [ht]; exact h.1⟩, h.2.F ht⟩) h.2.2.2 hdg hlk
end GROWS
theorem gM_of {l : Launch} {G : gG} {v : Nat → Nat → Int32} {w : Nat → Nat → Int64} {sg : Nat → Nat} {y : MethodName} {ws ws' : List Cond} {rm : Room} {cc : ByteArray} {maxL : Nat} {ret : Option FieldType} {As : List Value} {Qc : Array Value → State → Outcome → State → Prop} (hy : plainName y.cls = true) (hw : ws = Cond.code y cc maxL ret :: ws') (hn : (lg_sl As).length ≤ maxL)
    (body : ∀ (p : Program) (e : Env) (s : State) (m : MethodId) (args : Array Value) (below : List Frame) (meth : Method) (c : Code) (ls : Array Slot), gC p s m c cc maxL args ws y.cls (gA G) G → meth.locks = false → meth.sig.returnType = ret → gS (gA G) G s v w sg s.heap [] → lv_has ls maxL (lv_args 0 As) → W p l e (headSpec ws rm).room s m args below meth c s.heap [] 0 0 (MQ below Qc args s 0 0 (gA G)) (F0 m 0 ls [])) : Met l y ws rm (gPre G v w sg As) Qc 0 0 (gA G) := by
  refine Met.ofW (cc := cc) (maxL := maxL) (ret := ret) hy hw ?_
  intro p e s m args below meth c s₁ B hml hv
  obtain ⟨rfl, hP, hK, hD, hX⟩ := hv
  have hl := lv_entry As (n := maxL) hn
  rw [lg_entry_eq]
  exact body p e s m _ below meth c _ ⟨⟨B.exec, B.bytes, hml, findClass_of_methodNamed B.named, atoms_spec (ws := ws) B.pre⟩, hK, hD, fun _ h => h, hX⟩ B.notSynchronized B.returns ⟨hP, va_S.rf⟩ hl
theorem gM_ofi {l : Launch} {G : gG} {v : Nat → Nat → Int32} {w : Nat → Nat → Int64} {sg : Nat → Nat} {y : MethodName} {ws ws' : List Cond} {rm : Room} {cc : ByteArray} {maxL : Nat} {As : List Value} {P : Int32 → (Nat → Nat → Int32) → (Nat → Nat → Int64) → (Nat → Nat) → Prop} (hy : plainName y.cls = true) (hw : ws = Cond.code y cc maxL (some .int) :: ws') (hn : (lg_sl As).length ≤ maxL)
    (body : ∀ (p : Program) (e : Env) (R : Room) (s : State) (m : MethodId) (args : Array Value) (below : List Frame) (meth : Method) (c : Code) (Q : State → Prop) (ls : Array Slot), gC p s m c cc maxL args ws y.cls (gA G) G → R = (headSpec ws rm).room → (∀ (x : Int32) (v : Nat → Nat → Int32) (w : Nat → Nat → Int64) (sg : Nat → Nat) (H : Heap) (locs : List Loc) (pc : Nat) (ls : Array Slot), decode cc pc = .ok (.ireturn, 1) → gS (gA G) G s v w sg H locs → P x v w sg → W p l e R s m args below meth c H locs 0 0 Q (F0 m pc ls [.int x])) → gS (gA G) G s v w sg s.heap [] → lv_has ls maxL (lv_args 0 As) → W p l e R s m args below meth c s.heap [] 0 0 Q (F0 m 0 ls [])) : Met l y ws rm (gPre G v w sg As) (gQi G P) 0 0 (gA G) :=
  gM_of hy hw hn (fun p e s m args below meth c ls C hlk hr h hl => body p e _ s m args below meth c _ ls C rfl (fun x v w sg H locs pc ls hdg h hp => g_iret C hlk hr h hdg hp) h hl)
theorem gM_ofz {l : Launch} {G : gG} {v : Nat → Nat → Int32} {w : Nat → Nat → Int64} {sg : Nat → Nat} {y : MethodName} {ws ws' : List Cond} {rm : Room} {cc : ByteArray} {maxL : Nat} {As : List Value} {P : Int32 → (Nat → Nat → Int32) → (Nat → Nat → Int64) → (Nat → Nat) → Prop} (hy : plainName y.cls = true) (hw : ws = Cond.code y cc maxL (some .boolean) :: ws') (hn : (lg_sl As).length ≤ maxL)
    (body : ∀ (p : Program) (e : Env) (R : Room) (s : State) (m : MethodId) (args : Array Value) (below : List Frame) (meth : Method) (c : Code) (Q : State → Prop) (ls : Array Slot), gC p s m c cc maxL args ws y.cls (gA G) G → R = (headSpec ws rm).room → (∀ (x : Int32) (v : Nat → Nat → Int32) (w : Nat → Nat → Int64) (sg : Nat → Nat) (H : Heap) (locs : List Loc) (pc : Nat) (ls : Array Slot), narrow .boolean (.int x) = .int x → decode cc pc = .ok (.ireturn, 1) → gS (gA G) G s v w sg H locs → P x v w sg → W p l e R s m args below meth c H locs 0 0 Q (F0 m pc ls [.int x])) → gS (gA G) G s v w sg s.heap [] → lv_has ls maxL (lv_args 0 As) → W p l e R s m args below meth c s.heap [] 0 0 Q (F0 m 0 ls [])) : Met l y ws rm (gPre G v w sg As) (gQi G P) 0 0 (gA G) :=
  gM_of hy hw hn (fun p e s m args below meth c ls C hlk hr h hl => body p e _ s m args below meth c _ ls C rfl (fun x v w sg H locs pc ls hn hdg h hp => g_zret C hlk hr h hn hdg hp) h hl)
theorem gM_ofl {l : Launch} {G : gG} {v : Nat → Nat → Int32} {w : Nat → Nat → Int64} {sg : Nat → Nat} {y : MethodName} {ws ws' : List Cond} {rm : Room} {cc : ByteArray} {maxL : Nat} {As : List Value} {P : Int64 → (Nat → Nat → Int32) → (Nat → Nat → Int64) → (Nat → Nat) → Prop} (hy : plainName y.cls = true) (hw : ws = Cond.code y cc maxL (some .long) :: ws') (hn : (lg_sl As).length ≤ maxL)
    (body : ∀ (p : Program) (e : Env) (R : Room) (s : State) (m : MethodId) (args : Array Value) (below : List Frame) (meth : Method) (c : Code) (Q : State → Prop) (ls : Array Slot), gC p s m c cc maxL args ws y.cls (gA G) G → R = (headSpec ws rm).room → (∀ (x : Int64) (v : Nat → Nat → Int32) (w : Nat → Nat → Int64) (sg : Nat → Nat) (H : Heap) (locs : List Loc) (pc : Nat) (ls : Array Slot), decode cc pc = .ok (.lreturn, 1) → gS (gA G) G s v w sg H locs → P x v w sg → W p l e R s m args below meth c H locs 0 0 Q (F0 m pc ls [.long x])) → gS (gA G) G s v w sg s.heap [] → lv_has ls maxL (lv_args 0 As) → W p l e R s m args below meth c s.heap [] 0 0 Q (F0 m 0 ls [])) : Met l y ws rm (gPre G v w sg As) (gQl G P) 0 0 (gA G) :=
  gM_of hy hw hn (fun p e s m args below meth c ls C hlk hr h hl => body p e _ s m args below meth c _ ls C rfl (fun x v w sg H locs pc ls hdg h hp => g_lret C hlk hr h hdg hp) h hl)
theorem gM_ofv {l : Launch} {G : gG} {v : Nat → Nat → Int32} {w : Nat → Nat → Int64} {sg : Nat → Nat} {y : MethodName} {ws ws' : List Cond} {rm : Room} {cc : ByteArray} {maxL : Nat} {As : List Value} {P : (Nat → Nat → Int32) → (Nat → Nat → Int64) → (Nat → Nat) → Prop} (hy : plainName y.cls = true) (hw : ws = Cond.code y cc maxL none :: ws') (hn : (lg_sl As).length ≤ maxL)
    (body : ∀ (p : Program) (e : Env) (R : Room) (s : State) (m : MethodId) (args : Array Value) (below : List Frame) (meth : Method) (c : Code) (Q : State → Prop) (ls : Array Slot), gC p s m c cc maxL args ws y.cls (gA G) G → R = (headSpec ws rm).room → (∀ (v : Nat → Nat → Int32) (w : Nat → Nat → Int64) (sg : Nat → Nat) (H : Heap) (locs : List Loc) (pc : Nat) (ls : Array Slot), decode cc pc = .ok (.return_, 1) → gS (gA G) G s v w sg H locs → P v w sg → W p l e R s m args below meth c H locs 0 0 Q (F0 m pc ls [])) → gS (gA G) G s v w sg s.heap [] → lv_has ls maxL (lv_args 0 As) → W p l e R s m args below meth c s.heap [] 0 0 Q (F0 m 0 ls [])) : Met l y ws rm (gPre G v w sg As) (gQv G P) 0 0 (gA G) :=
  gM_of hy hw hn (fun p e s m args below meth c ls C hlk hr h hl => body p e _ s m args below meth c _ ls C rfl (fun v w sg H locs pc ls hdg h hp => g_vret C hlk hr h hdg hp) h hl)
theorem il_of {x : Int32} {X : Int} (h : x.toInt = X) : x.toInt64.toInt = X := by rw [← h]; simp
theorem vp_of {i : Int32} {I : Int} {n : Nat} (h : i.toInt = I) (h1 : 0 ≤ I) (h2 : I < n) : vp_in i n := vp_in_iff.mpr (by rw [h]; exact ⟨h1, h2⟩)
theorem cl_of {i : Int32} {I : Int} (h : i.toInt = I) (h1 : 0 ≤ I) : (i.toNatClampNeg : Int) = I := by
  have : i.toNatClampNeg = i.toInt.toNat := rfl
  rw [this, h]
  omega
theorem ia_add {x a b : Int32} (e : x = a + b) {A B : Int} (ha : a.toInt = A) (hb : b.toInt = B) (h1 : -2147483648 ≤ A + B) (h2 : A + B < 2147483648) : x.toInt = A + B := by subst ha; subst hb; rw [e]; exact fb_addI h1 h2
theorem ia_sub {x a b : Int32} (e : x = a - b) {A B : Int} (ha : a.toInt = A) (hb : b.toInt = B) (h1 : -2147483648 ≤ A - B) (h2 : A - B < 2147483648) : x.toInt = A - B := by subst ha; subst hb; rw [e]; exact fb_subI h1 h2
theorem ia_mul {x a b : Int32} (e : x = a * b) {A B : Int} (ha : a.toInt = A) (hb : b.toInt = B) (h1 : -2147483648 ≤ A * B) (h2 : A * B < 2147483648) : x.toInt = A * B := by subst ha; subst hb; rw [e]; exact fb_mulI h1 h2
theorem ia_neg {x a : Int32} (e : x = -a) {A : Int} (ha : a.toInt = A) (h1 : A ≠ -2147483648) : x.toInt = -A := by subst ha; rw [e]; exact fb_negI h1
theorem la_add {x a b : Int64} (e : x = a + b) {A B : Int} (ha : a.toInt = A) (hb : b.toInt = B) (h1 : -9223372036854775808 ≤ A + B) (h2 : A + B < 9223372036854775808) : x.toInt = A + B := by subst ha; subst hb; rw [e]; exact fb_addL h1 h2
theorem la_sub {x a b : Int64} (e : x = a - b) {A B : Int} (ha : a.toInt = A) (hb : b.toInt = B) (h1 : -9223372036854775808 ≤ A - B) (h2 : A - B < 9223372036854775808) : x.toInt = A - B := by subst ha; subst hb; rw [e]; exact fb_subL h1 h2
theorem la_mul {x a b : Int64} (e : x = a * b) {A B : Int} (ha : a.toInt = A) (hb : b.toInt = B) (h1 : -9223372036854775808 ≤ A * B) (h2 : A * B < 9223372036854775808) : x.toInt = A * B := by subst ha; subst hb; rw [e]; exact fb_mulL h1 h2
theorem i_lt {x y : Int32} {X Y : Int} (hx : x.toInt = X) (hy : y.toInt = Y) : x < y ↔ X < Y := by rw [← hx, ← hy]; exact fa_lt x y
theorem i_le {x y : Int32} {X Y : Int} (hx : x.toInt = X) (hy : y.toInt = Y) : x ≤ y ↔ X ≤ Y := by rw [← hx, ← hy]; exact fa_le x y
theorem i_eq {x y : Int32} {X Y : Int} (hx : x.toInt = X) (hy : y.toInt = Y) : x = y ↔ X = Y := by rw [← hx, ← hy]; exact fa_eq x y
theorem l_lt {x y : Int64} {X Y : Int} (hx : x.toInt = X) (hy : y.toInt = Y) : x < y ↔ X < Y := by rw [← hx, ← hy]; exact fa_lt64 x y
theorem l_le {x y : Int64} {X Y : Int} (hx : x.toInt = X) (hy : y.toInt = Y) : x ≤ y ↔ X ≤ Y := by rw [← hx, ← hy]; exact fa_le64 x y
theorem l_eq {x y : Int64} {X Y : Int} (hx : x.toInt = X) (hy : y.toInt = Y) : x = y ↔ X = Y := by rw [← hx, ← hy]; exact fa_eq64 x y
theorem l_ge0 {x y : Int64} {X Y : Int} (hx : x.toInt = X) (hy : y.toInt = Y) : 0 ≤ lg_cmp x y ↔ Y ≤ X := (lg_cmp_ge x y).trans (l_le hy hx)
theorem l_le0 {x y : Int64} {X Y : Int} (hx : x.toInt = X) (hy : y.toInt = Y) : lg_cmp x y ≤ 0 ↔ X ≤ Y := (lg_cmp_le x y).trans (l_le hx hy)
theorem l_gt0 {x y : Int64} {X Y : Int} (hx : x.toInt = X) (hy : y.toInt = Y) : 0 < lg_cmp x y ↔ Y < X := (lg_cmp_gt x y).trans (l_lt hy hx)
theorem l_lt0 {x y : Int64} {X Y : Int} (hx : x.toInt = X) (hy : y.toInt = Y) : lg_cmp x y < 0 ↔ X < Y := (lg_cmp_lt x y).trans (l_lt hx hy)
theorem l_eq0 {x y : Int64} {X Y : Int} (hx : x.toInt = X) (hy : y.toInt = Y) : lg_cmp x y = 0 ↔ X = Y := (lg_cmp_eq x y).trans (l_eq hx hy)
theorem i_rng (x : Int32) : -2147483648 ≤ x.toInt ∧ x.toInt < 2147483648 := fb_rng x
theorem l_rng (x : Int64) : -9223372036854775808 ≤ x.toInt ∧ x.toInt < 9223372036854775808 := fb_rngL x
end
