theorem asI (a b : Int32) : a + b - 10 = a + (b - 10) := by
  rw [Int32.sub_eq_add_neg, Int32.sub_eq_add_neg, Int32.add_assoc]
theorem chx {i : Nat} {x r : Int32} (hi : i < 12) (hr : 0 ≤ r.toInt ∧ r.toInt ≤ 10) (h : 0 ≤ x - 10 ∧ x - 10 ≤ r - 1) : vp_in (nI i * 10 + x - 10) 120 := by
  have a := Int32.le_iff_toInt_le.mp h.1
  have b := Int32.le_iff_toInt_le.mp h.2
  have e0 : (0 : Int32).toInt = 0 := by decide
  have e1 : (1 : Int32).toInt = 1 := by decide
  have c := subT (x := r) (y := 1) (by omega) (by omega)
  obtain ⟨j, hj, ej⟩ := toN (x := x - 10) (n := 10) (by omega) (by omega) (by decide)
  rw [asI, ej, m10, nI_add]
  exact vp_in_nI (by omega) (by decide)
theorem ad10 {x : Int32} {K : Int32} {n : Nat} (h : 0 ≤ x - K ∧ x - K < nI n) (hn : n < 1000) (hK : 0 ≤ K.toInt ∧ K.toInt < 1000) : ∃ j : Nat, j < n ∧ x - K = nI j ∧ x.toInt = K.toInt + j := by
  have a := Int32.le_iff_toInt_le.mp h.1
  have b := Int32.lt_iff_toInt_lt.mp h.2
  have e0 : (0 : Int32).toInt = 0 := by decide
  rw [nI_toInt (by omega)] at b
  obtain ⟨j, hj, ej⟩ := toN (x := x - K) (n := n) (by omega) b (by omega)
  refine ⟨j, hj, ej, ?_⟩
  have e1 : x = nI j + K := by rw [← ej, Int32.sub_add_cancel]
  have e2 := nI_toInt (n := j) (by omega)
  rw [e1, Int32.toInt_add, e2]
  rw [Int.bmod_eq_of_le (by omega) (by omega)]
  omega
