theorem gtN {x : Int32} {i : Nat} (h : x.toNatClampNeg + 1 ≤ i) (hi : i < 2147483648) : x < nI i := by
  rw [Int32.lt_iff_toInt_lt, nI_toInt hi]
  have e : x.toNatClampNeg = x.toInt.toNat := rfl
  omega
theorem bt1 (a k : Int32) : 0 ≤ (a >>> k &&& 1).toInt ∧ (a >>> k &&& 1).toInt ≤ 1 := by
  obtain ⟨j, hj, e⟩ := pk_andE (a >>> k) (m := 1) 1 (by decide)
  rw [e, nI_toInt (by omega)]
  omega
theorem bts {v w : Int32} {i : Nat} (hv : 0 ≤ v.toInt ∧ v.toInt ≤ i) (hi : i < 1000) (hw : 0 ≤ w.toInt ∧ w.toInt ≤ 1) : 0 ≤ (v + w).toInt ∧ (v + w).toInt ≤ ((i + 1 : Nat) : Int) := by
  rw [Int32.toInt_add, Int.bmod_eq_of_le (by omega) (by omega)]
  omega
