/-- when the setters answer 1 -/
def rF1 (a b c : Int) : Prop := (0 ≤ a ∧ a ≤ 2) ∧ (0 ≤ b ∧ b ≤ 2) ∧ (-100 ≤ c ∧ c ≤ 100)
def rF2 (a b c : Int) : Prop := (0 ≤ a ∧ a ≤ 2) ∧ (0 ≤ b ∧ b ≤ 5) ∧ (-20 ≤ c ∧ c ≤ 20)
def rF15 (a b c d e : Int) : Prop := ((-2000000 ≤ a ∧ a ≤ 2000000) ∧ (-2000000 ≤ b ∧ b ≤ 2000000) ∧ (-2000000 ≤ c ∧ c ≤ 2000000)) ∧ (0 ≤ d ∧ d ≤ 1000) ∧ (0 ≤ e ∧ e ≤ 23)
def rF24 (a b c d : Int) : Prop := (1 ≤ a ∧ a ≤ 8) ∧ (0 ≤ b ∧ b ≤ 100000) ∧ (1 ≤ c ∧ c ≤ 100) ∧ (1 ≤ d ∧ d ≤ 2000000)
theorem rF_eq {r q : Int32} {P : Prop} (h : (r = 1 ∧ P) ∨ (r = -1 ∧ ¬ P)) (h2 : (q = 1 ∧ P) ∨ (q = -1 ∧ ¬ P)) : r = q := by
  rcases h with ⟨a, b⟩ | ⟨a, b⟩ <;> rcases h2 with ⟨c, d⟩ | ⟨c, d⟩
  · rw [a, c]
  · exact absurd b d
  · exact absurd d b
  · rw [a, c]
