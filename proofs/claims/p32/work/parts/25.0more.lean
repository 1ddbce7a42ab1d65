theorem geN {x : Int32} {i : Nat} (h : x.toNatClampNeg ≤ i) (hi : i < 2147483648) : x ≤ nI i := by
  rw [Int32.le_iff_toInt_le, nI_toInt hi]
  have e : x.toNatClampNeg = x.toInt.toNat := rfl
  omega
