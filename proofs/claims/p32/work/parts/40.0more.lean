theorem bI01 (b : Prop) [Decidable b] : bI b = 0 ∨ bI b = 1 := by
  by_cases h : b
  · exact Or.inr (if_pos h)
  · exact Or.inl (if_neg h)
