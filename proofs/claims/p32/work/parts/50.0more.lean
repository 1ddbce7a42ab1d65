theorem ord_s {v : Int32} {i : Nat} (hv : 1 ≤ v.toInt ∧ v.toInt ≤ 1000) (hi : 2 ≤ i) (h5 : i ≤ 5) (hb : v.toInt ≤ 1000) : True := trivial
theorem mulT {x y : Int32} (h0 : -2147483648 ≤ x.toInt * y.toInt) (h1 : x.toInt * y.toInt ≤ 2147483647) : (x * y).toInt = x.toInt * y.toInt := by
  rw [Int32.toInt_mul]
  exact Int.bmod_eq_of_le (by omega) (by omega)
theorem ordN {v : Int32} {i : Nat} (hv : (i = 2 ∧ v.toInt = 1) ∨ (i = 3 ∧ v.toInt = 2) ∨ (i = 4 ∧ v.toInt = 6) ∨ (i = 5 ∧ v.toInt = 24) ∨ (i = 6 ∧ v.toInt = 120)) (h5 : i ≤ 5) : (i + 1 = 2 ∧ (v * nI i).toInt = 1) ∨ (i + 1 = 3 ∧ (v * nI i).toInt = 2) ∨ (i + 1 = 4 ∧ (v * nI i).toInt = 6) ∨ (i + 1 = 5 ∧ (v * nI i).toInt = 24) ∨ (i + 1 = 6 ∧ (v * nI i).toInt = 120) := by
  have e := nI_toInt (n := i) (by omega)
  rcases hv with ⟨rfl, h⟩ | ⟨rfl, h⟩ | ⟨rfl, h⟩ | ⟨rfl, h⟩ | ⟨rfl, h⟩
  · have m := mulT (x := v) (y := nI 2) (by rw [h, e]; decide) (by rw [h, e]; decide)
    rw [h, e] at m; exact Or.inr (Or.inl ⟨rfl, m⟩)
  · have m := mulT (x := v) (y := nI 3) (by rw [h, e]; decide) (by rw [h, e]; decide)
    rw [h, e] at m; exact Or.inr (Or.inr (Or.inl ⟨rfl, m⟩))
  · have m := mulT (x := v) (y := nI 4) (by rw [h, e]; decide) (by rw [h, e]; decide)
    rw [h, e] at m; exact Or.inr (Or.inr (Or.inr (Or.inl ⟨rfl, m⟩)))
  · have m := mulT (x := v) (y := nI 5) (by rw [h, e]; decide) (by rw [h, e]; decide)
    rw [h, e] at m; exact Or.inr (Or.inr (Or.inr (Or.inr ⟨rfl, m⟩)))
  · omega
theorem ordP {v : Int32} {i : Nat} (hv : (i = 2 ∧ v.toInt = 1) ∨ (i = 3 ∧ v.toInt = 2) ∨ (i = 4 ∧ v.toInt = 6) ∨ (i = 5 ∧ v.toInt = 24) ∨ (i = 6 ∧ v.toInt = 120)) : ¬ v = 0 := by
  intro q
  have e : (0 : Int32).toInt = 0 := by decide
  rw [q, e] at hv
  omega
