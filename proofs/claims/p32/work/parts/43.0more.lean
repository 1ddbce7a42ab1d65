theorem FOK.none {f : Nat → Int32} (h : ∀ j, j < 12 → f j = -1) : FOK f := fun j hj => Or.inl (h j hj)
theorem FOK.upd {f : Nat → Int32} {n : Nat} (k : Nat) (h : FOK f) (hn : n < 10) : FOK (upd f k (nI n)) := by
  intro j hj
  by_cases e : j = k
  · rw [e, pk_us]; exact Or.inr ⟨n, hn, rfl⟩
  · rw [pk_un e]; exact h j hj
