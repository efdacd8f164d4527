theorem fP4.tr {v v1 v2 : Nat → Nat → Int32} {w w' : Nat → Nat → Int64} (h : fP4 v v1) (f : fC 69 79 v1 w v2 w') : fP4 v v2 := ⟨(f.1 66 (by decide)).trans h.1, (f.1 67 (by decide)).trans h.2.1, (f.1 80 (by decide)).trans h.2.2.1, (f.1 81 (by decide)).trans h.2.2.2⟩
theorem fP4.st {v v1 : Nat → Nat → Int32} {j : Nat} {x : Int32} (h : fP4 v v1) : fP4 (gu v 66 j x) (gu v1 66 j x) := by
  obtain ⟨a, b, c, d⟩ := h
  refine ⟨?_, ?_, ?_, ?_⟩
  · rw [gu_s, gu_s, a]
  · rw [gu_o (by decide), gu_o (by decide), b]
  · rw [gu_o (by decide), gu_o (by decide), c]
  · rw [gu_o (by decide), gu_o (by decide), d]
