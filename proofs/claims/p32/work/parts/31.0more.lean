theorem in9 {x : Int32} {n : Nat} {K : Int32} (h : 0 ≤ x ∧ x < K) (hK : K.toInt = n) : vp_in x n := by
  have a := Int32.le_iff_toInt_le.mp h.1
  have b := Int32.lt_iff_toInt_lt.mp h.2
  rw [hK] at b
  exact vinT a b
theorem in8 {x : Int32} {n : Nat} {K : Int32} (h : 0 ≤ x ∧ x ≤ K) (hK : K.toInt < n) : vp_in x n := by
  have a := Int32.le_iff_toInt_le.mp h.1
  have b := Int32.le_iff_toInt_le.mp h.2
  exact vinT a (by omega)
theorem n9 {x : Int32} {n : Nat} {K : Int32} (h : 0 ≤ x ∧ x < K) (hK : K.toInt = n) (hn : n < 2147483648) : ∃ j : Nat, j < n ∧ x = nI j := vp_in_of (in9 h hK) hn
