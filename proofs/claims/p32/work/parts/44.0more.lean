theorem r10i {i : Nat} (h : i < 10) : (0 : Int32) ≤ nI i ∧ nI i < 10 := ⟨nI_pos' (by omega), nI_lt (b := 10) h (by decide)⟩
theorem r12i {i : Nat} (h : i < 12) : (0 : Int32) ≤ nI i ∧ nI i < 12 := ⟨nI_pos' (by omega), nI_lt (b := 12) h (by decide)⟩
