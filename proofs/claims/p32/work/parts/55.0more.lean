def LCK (f : Nat → Int32) : Prop := ∀ j, j < 12 → ∃ n : Nat, n < 12 ∧ f j = nI n
theorem LCK_upd {f : Nat → Int32} {n : Nat} (k : Nat) (h : LCK f) (hn : n < 12) : LCK (upd f k (nI n)) := by
  intro j hj
  by_cases e : j = k
  · rw [e, pk_us]; exact ⟨n, hn, rfl⟩
  · rw [pk_un e]; exact h j hj
theorem DMK_upd {f : Nat → Int32} {n : Nat} (k : Nat) (h : DMK f) (hn : n ≤ 10) : DMK (upd f k (nI n)) := by
  intro j hj
  by_cases e : j = k
  · rw [e, pk_us]; exact ⟨n, hn, rfl⟩
  · rw [pk_un e]; exact h j hj
theorem DOK_upd {f : Nat → Int32} {n : Nat} (k : Nat) (h : DOK f) (hn : n < 10) : DOK (upd f k (nI n)) := by
  intro j hj
  by_cases e : j = k
  · rw [e, pk_us]; exact ⟨n, hn, rfl⟩
  · rw [pk_un e]; exact h j hj
theorem dgN {g : Int32} (h : ¬ bI (48 ≤ g ∧ g ≤ 57) = 0) : ∃ d : Nat, d ≤ 9 ∧ g = nI (48 + d) := by
  obtain ⟨h1, h2⟩ := dgtT (bIt h)
  obtain ⟨j, hj, e⟩ := toN (x := g) (n := 58) (by omega) (by omega) (by decide)
  rw [e, nI_toInt (by omega)] at h1
  exact ⟨j - 48, by omega, by rw [e]; congr 1; omega⟩
theorem nst {g : Int32} (v d : Nat) (h : g = nI (48 + d)) : 10 * nI v + g - 48 = nI (10 * v + d) := by
  rw [h, show (10 : Int32) = nI 10 from rfl, show (48 : Int32) = nI 48 from rfl, pk_mul, nI_add, nS (by omega)]
  congr 1
  omega
theorem bS_0 : ∀ i, bS 0 i = 0
  | 0 => rfl
  | i + 1 => by rw [bS0 (by rw [sz0]; decide)]; exact bS_0 i
