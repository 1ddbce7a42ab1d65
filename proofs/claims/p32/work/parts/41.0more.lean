/-- a stretch of codes that never takes from an empty stack, and whose jumps go ahead: L is a lower bound of the height -/
def STP (q : Nat → Int32) (L : Nat → Nat) (b k : Nat) : Prop :=
  (q k / 1048576 = 0 → L (k + 1) ≤ L k + 1) ∧
  (q k / 1048576 = 1 → (0 ≤ (q k - q k / 1048576 * 1048576).toInt ∧ (q k - q k / 1048576 * 1048576).toInt < 8) ∧ L (k + 1) ≤ L k + 1) ∧
  (q k / 1048576 = 10 → 1 ≤ L k ∧ L (k + 1) ≤ L k) ∧
  (q k / 1048576 = 11 ∨ q k / 1048576 = 12 → 1 ≤ L k ∧ L (k + 1) + 1 ≤ L k ∧ ∃ t : Nat, q k - q k / 1048576 * 1048576 = nI t ∧ k < t ∧ t ≤ b ∧ L t ≤ L k) ∧
  (¬ q k / 1048576 = 0 → ¬ q k / 1048576 = 1 → ¬ q k / 1048576 = 10 → ¬ q k / 1048576 = 11 → ¬ q k / 1048576 = 12 → 2 ≤ L k ∧ L (k + 1) + 1 ≤ L k)
def WFC (q : Nat → Int32) (a b : Nat) : Prop := ∃ L : Nat → Nat, L a = 0 ∧ ∀ k, a ≤ k → k < b → STP q L b k
theorem dv0 {a : Nat} (h : a < 260) : nI a / 260 = 0 := by
  rw [show (260 : Int32) = nI 260 from rfl, pk_div (by omega) (by decide) (by decide), Nat.div_eq_of_lt h]
  rfl
