theorem clT {x : Int32} {i : Nat} (h : ¬ x ≤ nI i) (hi : i < 2147483648) : i + 1 < 2147483648 := by
  have a := mt Int32.le_iff_toInt_le.mpr h
  rw [nI_toInt hi] at a
  have b := Int32.toInt_lt x
  omega
