theorem RS.d14 {q w q1 w1 q2 : Nat → Int32} {a b Cm Wn P0 Ca Wa i Co Wo : Nat} (h : RS q w a b Cm Wn P0 q1 w1 Ca Wa i) (hc : CLS q1 w1 a b Ca Wa q2 Co Wo) (h14 : ∃ j, Wn ≤ j ∧ j < Wa ∧ dK (w1 j) = 14) (ht : Wo = 0 ∨ ¬ (2 ≤ dK (w1 (Wo - 1)) ∧ dK (w1 (Wo - 1)) ≤ 6)) : Wn ≤ Wo - 1 ∧ dK (w1 (Wo - 1)) = 14 := by
  obtain ⟨r1, r2, r3, r4, r5, r6, r7, r8, r9, r10, r11⟩ := h
  obtain ⟨c1, c2, c3, c4, c5, c6, c7, c8⟩ := hc
  obtain ⟨j, j1, j2, j3⟩ := h14
  have hj : j < Wo := Nat.not_le.mp fun e => by have := c2 j e j2; omega
  have htop := ht.resolve_left (by omega)
  exact ⟨by omega, (r3 (Wo - 1) (by omega) (by omega)).2.resolve_left htop⟩
theorem ns93 : ¬ SG5 (93 : Int32) := by decide
