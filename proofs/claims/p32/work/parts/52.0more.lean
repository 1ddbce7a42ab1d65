theorem nS {a b : Nat} (h : a ≤ b) : nI b - nI a = nI (b - a) := by
  obtain ⟨c, rfl⟩ := Nat.exists_eq_add_of_le' h
  rw [← nI_add, Int32.add_sub_cancel, Nat.add_sub_cancel]
theorem subA (x y : Int32) : x + y - x = y := by rw [Int32.add_comm, Int32.add_sub_cancel]
theorem BD.snoc {n i : Nat} {f : Nat → Int32} {u : Nat} (h : BD n i f) (hu : u ≤ n) : BD n (i + 1) (upd f i (nI u)) := by
  intro j hj
  by_cases e : j = i
  · rw [e, pk_us]; exact ⟨u, hu, rfl⟩
  · rw [pk_un e]; exact h j (by omega)
theorem BD.z (n : Nat) (f : Nat → Int32) : BD n 0 f := fun j hj => absurd hj (Nat.not_lt_zero j)
def MD (D : Nat) (f g : Nat → Int32) : Prop := ∃ d : Nat, d ≤ D ∧ g 12 = f 12 + nI d
theorem MD.rf (f : Nat → Int32) : MD 0 f f := ⟨0, Nat.le_refl 0, (Int32.add_zero _).symm⟩
theorem MD.up {D E : Nat} {f g : Nat → Int32} (h : MD D f g) (hE : D ≤ E) : MD E f g := by
  obtain ⟨d, hd, e⟩ := h
  exact ⟨d, Nat.le_trans hd hE, e⟩
theorem MD.tr {D E : Nat} {f g k : Nat → Int32} (h : MD D f g) (h1 : MD E g k) : MD (D + E) f k := by
  obtain ⟨d, hd, e⟩ := h
  obtain ⟨d1, hd1, e1⟩ := h1
  exact ⟨d + d1, by omega, by rw [e1, e, Int32.add_assoc, nI_add]⟩
theorem MD.out {D : Nat} {f g : Nat → Int32} {k : Nat} {x : Int32} (h : MD D f g) (hk : ¬ k = 12) : MD D f (upd g k x) := by
  obtain ⟨d, hd, e⟩ := h
  exact ⟨d, hd, (pk_un (fun q => hk q.symm)).trans e⟩
theorem MD.more {D : Nat} {f g : Nat → Int32} {x : Int32} {d : Nat} (h : MD 0 f g) (hd : d ≤ D) (hx : x = g 12 + nI d) : MD D f (upd g 12 x) := by
  obtain ⟨d0, hd0, e⟩ := h
  have : d0 = 0 := by omega
  subst this
  exact ⟨d, hd, by rw [pk_us, hx, e, show nI 0 = 0 from rfl, Int32.add_zero]⟩
theorem cl12 : Int32.toNatClampNeg 12 = 12 := by decide
theorem cl13 : Int32.toNatClampNeg 13 = 13 := by decide
theorem cl14 : Int32.toNatClampNeg 14 = 14 := by decide
theorem dd60 {x : Int32} (h : 1 ≤ x ∧ x ≤ 60) : ∃ n : Nat, n ≤ 60 ∧ x = nI n := dcN (k := 60) (by decide) h
