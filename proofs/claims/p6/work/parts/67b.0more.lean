theorem mnN {x y r : Int32} {a b : Nat} (hr : r = if y < x then y else x) (hx : x = nI a) (hy : y = nI b) (ha : a < 2147483648) (hb : b < 2147483648) : r = nI (min a b) := by
  subst hx hy
  rw [hr]
  by_cases h : b < a
  · rw [if_pos (nI_lt h ha), Nat.min_eq_right (by omega)]
  · rw [if_neg (fun q => h ((nI_ltI hb ha).mp q)), Nat.min_eq_left (by omega)]
theorem mm99 {x y r : Int32} (hy : y = if x < 99 then x else 99) (hr : r = if 0 < y then y else 0) : ∃ u : Nat, u ≤ 99 ∧ r = nI u := by
  have e0 : (0 : Int32).toInt = 0 := by decide
  have e9 : (99 : Int32).toInt = 99 := by decide
  by_cases h : 0 < y
  · rw [if_pos h] at hr
    have h1 := Int32.lt_iff_toInt_lt.mp h
    have h2 : y.toInt ≤ 99 := by
      by_cases q : x < 99
      · rw [if_pos q] at hy
        have q1 := Int32.lt_iff_toInt_lt.mp q
        rw [hy]; omega
      · rw [if_neg q] at hy
        rw [hy]; omega
    obtain ⟨j, hj, e⟩ := toN (x := y) (n := 100) (by omega) (by omega) (by decide)
    exact ⟨j, by omega, hr.trans e⟩
  · rw [if_neg h] at hr
    exact ⟨0, by omega, hr⟩
/-- one is the other and at most D more -/
def MDX (D : Nat) (a b : Int32) : Prop := ∃ d : Nat, d ≤ D ∧ b = a + nI d
theorem MDX.rf (a : Int32) : MDX 0 a a := ⟨0, Nat.le_refl 0, (Int32.add_zero _).symm⟩
theorem MDX.up {D E : Nat} {a b : Int32} (h : MDX D a b) (hE : D ≤ E) : MDX E a b := by
  obtain ⟨d, hd, e⟩ := h
  exact ⟨d, Nat.le_trans hd hE, e⟩
theorem MDX.tr {D E : Nat} {a b c : Int32} (h : MDX D a b) (h1 : MDX E b c) : MDX (D + E) a c := by
  obtain ⟨d, hd, e⟩ := h
  obtain ⟨d1, hd1, e1⟩ := h1
  exact ⟨d + d1, by omega, by rw [e1, e, Int32.add_assoc, nI_add]⟩
theorem MDX.lim {D : Nat} {a b : Int32} (h : MDX D a b) (hD : D ≤ 7056720) : ¬ (2147483647 : Int32) ≤ b - a := by
  obtain ⟨d, hd, e⟩ := h
  rw [e, subA]
  intro q
  have q1 := Int32.le_iff_toInt_le.mp q
  have e1 : (2147483647 : Int32).toInt = 2147483647 := by decide
  rw [nI_toInt (by omega), e1] at q1
  omega
theorem cpyJ {f g : Nat → Int32} {n j : Nat} (h : j < n) : va_cpy f g 0 0 n j = f j := by
  rw [pk_cpy_in (Nat.zero_le j) (by omega), Nat.zero_add, Nat.sub_zero]
/-- THE DAY behind so many DAYS -/
def dayA (d : Nat) (x : Int32) : Nat := if 1 ≤ x ∧ x ≤ 60 then min (d + x.toNatClampNeg) 9999 else d
theorem dayA_y {d n : Nat} {x : Int32} (h : 1 ≤ x ∧ x ≤ 60) (e : x = nI n) (hn : n ≤ 60) : min (d + n) 9999 = dayA d x := by
  unfold dayA
  rw [if_pos h, e, nI_clamp (by omega)]
theorem dayA_n {d : Nat} {x : Int32} (h : ¬ (1 ≤ x ∧ x ≤ 60)) : d = dayA d x := (if_neg h).symm
theorem dayA_le {d : Nat} (x : Int32) (h : d ≤ 9999) : dayA d x ≤ 9999 := by
  unfold dayA
  by_cases q : 1 ≤ x ∧ x ≤ 60
  · rw [if_pos q]; omega
  · rw [if_neg q]; exact h
theorem BD_e {n N : Nat} {f g : Nat → Int32} (h : BD n N f) (e : ∀ j, j < N → g j = f j) : BD n N g := by
  intro j hj
  rw [e j hj]
  exact h j hj
