theorem toN {x : Int32} {n : Nat} (h0 : 0 ≤ x.toInt) (h1 : x.toInt < n) (hn : n < 2147483648) : ∃ j : Nat, j < n ∧ x = nI j := vp_in_of (vinT h0 h1) hn
theorem m10 (a : Nat) : nI a * 10 = nI (10 * a) := by
  rw [show (10 : Int32) = nI 10 from rfl, pk_mul, Nat.mul_comm a 10]
