theorem tml (a b : Int) (h : b ≠ 0) : (a.tmod b).natAbs < b.natAbs := by
  rw [Int.natAbs_tmod]
  exact Nat.mod_lt _ (by omega)
theorem remT (x y : Int32) (hy : ¬ y = 0) : (x - x / y * y).toInt = x.toInt.tmod y.toInt := by
  have hy0 : y.toInt ≠ 0 := fun q => hy (Int32.toInt_inj.mp (by rw [q]; decide))
  have h1 := Int32.toInt_lt y
  have h2 := Int32.le_toInt y
  rw [Int32.toInt_sub, Int32.toInt_mul, Int32.toInt_div, Int.sub_bmod_bmod, ← Int.sub_bmod_bmod, Int.bmod_mul_bmod, Int.sub_bmod_bmod]
  have e : x.toInt - x.toInt.tdiv y.toInt * y.toInt = x.toInt.tmod y.toInt := by
    rw [Int.tmod_def, Int.mul_comm]
  rw [e]
  have b1 := tml x.toInt y.toInt hy0
  exact Int.bmod_eq_of_le (by omega) (by omega)
theorem remA {x y : Int32} (hy : ¬ y = 0) : (x - x / y * y).toInt.natAbs < y.toInt.natAbs := by
  have hy0 : y.toInt ≠ 0 := fun q => hy (Int32.toInt_inj.mp (by rw [q]; decide))
  rw [remT x y hy]
  exact tml x.toInt y.toInt hy0
theorem z0 {y : Int32} (h : y.toInt.natAbs ≤ 0) : y = 0 := Int32.toInt_inj.mp (by have e : (0 : Int32).toInt = 0 := (by decide); omega)
