theorem chy {i : Nat} {x : Int32} {n : Nat} (hi : i < 12) (hn : n ≤ 10) (h : 10 ≤ x ∧ x ≤ 9 + nI n) : vp_in (10 * nI i + x - 10) 120 := by
  have a := Int32.le_iff_toInt_le.mp h.1
  have b := Int32.le_iff_toInt_le.mp h.2
  have e0 : (10 : Int32).toInt = 10 := by decide
  rw [show (9 : Int32) = nI 9 from rfl, nI_add, nI_toInt (by omega)] at b
  have c := subT (x := x) (y := 10) (by omega) (by omega)
  obtain ⟨j, hj, ej⟩ := toN (x := x - 10) (n := 10) (by omega) (by omega) (by decide)
  rw [asI, ej, ix10b]
  exact vp_in_nI (by omega) (by decide)
