/-- THE LAW as it is kept: each clause's two stretches of codes -/
def LOK (kc : Nat) (qc qf qh qt : Nat → Int32) : Prop := ∀ j, j < kc → ∃ a h t : Nat, qf j = nI a ∧ qh j = nI h ∧ qt j = nI t ∧ a ≤ h ∧ h ≤ t ∧ h < 260 ∧ t ≤ 260 ∧ WFC qc a h ∧ WFC qc h t
def DMK (f : Nat → Int32) : Prop := ∀ j, j < 12 → ∃ n : Nat, n ≤ 10 ∧ f j = nI n
def DOK (f : Nat → Int32) : Prop := ∀ j, j < 120 → ∃ n : Nat, n < 10 ∧ f j = nI n
def FOK (f : Nat → Int32) : Prop := ∀ j, j < 12 → f j = -1 ∨ ∃ n : Nat, n < 10 ∧ f j = nI n
theorem ix10b (a b : Nat) : 10 * nI a + nI b = nI (10 * a + b) := by
  rw [show (10 : Int32) = nI 10 from rfl, pk_mul, nI_add]
