theorem bd_z {X : Int} (h : 0 ≤ X) : bd 0 X := by
  have : (0 : Int32).toInt = 0 := by decide
  exact ⟨by omega, by omega⟩
theorem Rl_V0 : Rl V0 := by
  refine ⟨⟨?_, ?_, ?_⟩, ⟨?_, ?_, ?_⟩, ⟨?_, ?_, ?_, ⟨?_, ?_⟩, ?_, ?_⟩, ⟨?_, ?_, ?_, ?_, ?_, ?_⟩, ?_, ⟨?_, ?_, ?_⟩, ⟨?_, ?_, ?_, ?_⟩, ⟨?_, ?_⟩⟩
  · intro i j hi hj
    rcases (show i = 0 ∨ i = 1 ∨ i = 2 by omega) with rfl | rfl | rfl <;> rcases (show j = 0 ∨ j = 1 ∨ j = 2 by omega) with rfl | rfl | rfl <;> rfl
  · intro i j hi hj
    rcases (show i = 0 ∨ i = 1 ∨ i = 2 by omega) with rfl | rfl | rfl <;> rfl
  · intro i j hi hj
    rcases (show i = 0 ∨ i = 1 ∨ i = 2 by omega) with rfl | rfl | rfl <;> exact (show bd 0 20 from bd_z (by decide))
  · rfl
  · intro k j hk hj
    rcases (show k = 0 ∨ k = 1 ∨ k = 2 ∨ k = 3 ∨ k = 4 ∨ k = 5 ∨ k = 6 ∨ k = 7 ∨ k = 8 ∨ k = 9 ∨ k = 10 ∨ k = 11 by omega) with rfl | rfl | rfl | rfl | rfl | rfl | rfl | rfl | rfl | rfl | rfl | rfl <;> exact ⟨rfl, rfl⟩
  · intro k j hk hj
    rcases (show k = 0 ∨ k = 1 ∨ k = 2 ∨ k = 3 ∨ k = 4 ∨ k = 5 ∨ k = 6 ∨ k = 7 ∨ k = 8 ∨ k = 9 ∨ k = 10 ∨ k = 11 by omega) with rfl | rfl | rfl | rfl | rfl | rfl | rfl | rfl | rfl | rfl | rfl | rfl <;> exact ⟨show bd 0 50 from bd_z (by decide), show bd 0 2000000 from bd_z (by decide)⟩
  · rfl
  · intro k _; rfl
  · intro k hk
    have : (V0 66 0).toInt = 0 := by decide
    omega
  · rfl
  · rfl
  · intro p hp
    rcases (show p = 0 ∨ p = 1 ∨ p = 2 ∨ p = 3 ∨ p = 4 ∨ p = 5 ∨ p = 6 ∨ p = 7 ∨ p = 8 ∨ p = 9 by omega) with rfl | rfl | rfl | rfl | rfl | rfl | rfl | rfl | rfl | rfl <;> rfl
  · intro p q a b c
    have : (V0 66 0).toInt = 0 := by decide
    unfold inP at a b
    omega
  · rfl
  · intro k _; rfl
  · intro k _; rfl
  · intro k _; rfl
  · intro k _ _; rfl
  · intro k _; exact (show bd 0 1000 from bd_z (by decide))
  · intro i hi
    rcases (show i = 0 ∨ i = 1 ∨ i = 2 ∨ i = 3 by omega) with rfl | rfl | rfl | rfl <;> exact ⟨Or.inl ⟨by decide, by decide⟩, rfl, fun j hj => rfl⟩
  · intro j hj
    rcases (show j = 0 ∨ j = 1 ∨ j = 2 ∨ j = 3 ∨ j = 4 ∨ j = 5 ∨ j = 6 by omega) with rfl | rfl | rfl | rfl | rfl | rfl | rfl <;> rfl
  · intro k j hk
    have : (V0 83 5).toInt = 0 := by decide
    omega
  · intro _; rfl
  · intro j hj; rfl
  · decide
  · exact Or.inl (by decide)
  · rfl
  · intro k hk; rfl
  · intro z; exact absurd (by decide) z
