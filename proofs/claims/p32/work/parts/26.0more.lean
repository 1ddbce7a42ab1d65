/-- the byte to be read -/
def sgn (T : Nat) (ed pl fa : Int32) (fb : Nat → Int32) : Int32 := if fa = 0 ∧ 0 ≤ pl ∧ pl < ed ∧ pl < nI T then fb pl.toNatClampNeg else -1
def dgt (v : Int32) : Prop := 48 ≤ v ∧ v ≤ 57
theorem dgtT {v : Int32} (h : 48 ≤ v ∧ v ≤ 57) : 48 ≤ v.toInt ∧ v.toInt ≤ 57 := ⟨Int32.le_iff_toInt_le.mp h.1, Int32.le_iff_toInt_le.mp h.2⟩
theorem num_step {v g : Int32} {k : Nat} (hv : 0 ≤ v.toInt ∧ v.toInt < 10 ^ k) (hk : k ≤ 5) (hg : 48 ≤ g ∧ g ≤ 57) : 0 ≤ (v * 10 + g - 48).toInt ∧ (v * 10 + g - 48).toInt < 10 ^ (k + 1) := by
  obtain ⟨h1, h2⟩ := dgtT hg
  have hp : (10 : Int) ^ k ≤ 100000 := by
    have : k = 0 ∨ k = 1 ∨ k = 2 ∨ k = 3 ∨ k = 4 ∨ k = 5 := by omega
    rcases this with rfl | rfl | rfl | rfl | rfl | rfl <;> decide
  have e10 : (10 : Int32).toInt = 10 := by decide
  have e48 : (48 : Int32).toInt = 48 := by decide
  have m1 : (v * 10).toInt = v.toInt * 10 := by
    rw [Int32.toInt_mul, e10]
    exact Int.bmod_eq_of_le (by omega) (by omega)
  have m2 : (v * 10 + g).toInt = v.toInt * 10 + g.toInt := by
    rw [Int32.toInt_add, m1]
    exact Int.bmod_eq_of_le (by omega) (by omega)
  have m3 := subT (x := v * 10 + g) (y := 48) (by omega) (by omega)
  rw [m3, m2, e48, Int.pow_succ]
  omega
theorem pw5 {v : Int32} {i M : Nat} (hv : 0 ≤ v.toInt ∧ v.toInt < 10 ^ i) (h : i ≤ M) (hM : M ≤ 5) : 0 ≤ v.toInt ∧ v.toInt < 10 ^ M := by
  refine ⟨hv.1, Int.lt_of_lt_of_le hv.2 ?_⟩
  have : (10 : Nat) ^ i ≤ 10 ^ M := Nat.pow_le_pow_right (by decide) h
  exact_mod_cast this
theorem ph {g : Int32} (h : 97 ≤ g ∧ g ≤ 106) : 0 ≤ g - 97 ∧ g - 97 ≤ 9 := by
  have h1 := Int32.le_iff_toInt_le.mp h.1
  have h2 := Int32.le_iff_toInt_le.mp h.2
  have e1 : (97 : Int32).toInt = 97 := by decide
  have e2 : (106 : Int32).toInt = 106 := by decide
  have e3 : (9 : Int32).toInt = 9 := by decide
  have e4 : (0 : Int32).toInt = 0 := by decide
  have m := subT (x := g) (y := 97) (by omega) (by omega)
  rw [Int32.le_iff_toInt_le, Int32.le_iff_toInt_le, m, e1, e3, e4]
  omega
