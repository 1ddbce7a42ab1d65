theorem shr4 (x : Int32) : -134217728 ≤ (x >>> (4 &&& 31)).toInt ∧ (x >>> (4 &&& 31)).toInt ≤ 134217727 := by
  have h := pk_shr x (4 &&& 31) 4 (by decide)
  have h1 := Int32.toInt_lt x
  have h2 := Int32.le_toInt x
  rw [h, Int.shiftRight_eq_div_pow]
  omega
theorem subT {x y : Int32} (h0 : -2147483648 ≤ x.toInt - y.toInt) (h1 : x.toInt - y.toInt ≤ 2147483647) : (x - y).toInt = x.toInt - y.toInt := by
  rw [Int32.toInt_sub]
  exact Int.bmod_eq_of_le (by omega) (by omega)
theorem mxN {x y r : Int32} {i : Nat} (hr : r = if x < y then y else x) (hx : x = nI i) (hi : i < 2147483648) : ∃ j : Nat, i ≤ j ∧ j < 2147483648 ∧ r = nI j ∧ (j = i ∨ (j : Int) = y.toInt) := by
  have e1 := nI_toInt (n := i) hi
  by_cases h : x < y
  · rw [if_pos h] at hr
    have h2 := Int32.lt_iff_toInt_lt.mp h
    rw [hx, e1] at h2
    obtain ⟨j, hj, ej⟩ := nI_of (x := y) (fun q => by have h3 := Int32.lt_iff_toInt_lt.mp q; have e0 : (0 : Int32).toInt = 0 := (by decide); omega)
    have e2 := nI_toInt (n := j) hj
    rw [← ej] at e2
    exact ⟨j, by omega, hj, by rw [hr, ej], Or.inr e2.symm⟩
  · rw [if_neg h] at hr
    exact ⟨i, Nat.le_refl i, hi, by rw [hr, hx], Or.inl rfl⟩
theorem mx0 {x r : Int32} (hr : r = if x < 0 then 0 else x) : ∃ j : Nat, j < 2147483648 ∧ r = nI j := by
  by_cases h : x < 0
  · rw [if_pos h] at hr
    exact ⟨0, by decide, hr⟩
  · rw [if_neg h] at hr
    obtain ⟨j, hj, ej⟩ := nI_of h
    exact ⟨j, hj, by rw [hr, ej]⟩
theorem nzL {t : Nat} (h : ¬ nI t ≤ 0) : ∃ q : Nat, t = q + 1 := by
  cases t with
  | zero => exact absurd (by decide) h
  | succ q => exact ⟨q, rfl⟩
theorem nzS {t : Nat} (h : ¬ nI t = 0) : ∃ q : Nat, t = q + 1 := by
  cases t with
  | zero => exact absurd rfl h
  | succ q => exact ⟨q, rfl⟩
