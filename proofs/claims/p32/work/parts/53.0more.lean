/-- whether the digits of a code are all different, as they are read from the right -/
def TKs (m : Nat) : Nat → Nat → Int32 → Bool
  | 0, _, _ => true
  | k + 1, c, z => if z >>> (nI (c % m) &&& 31) &&& 1 = 1 then false else TKs m k (c / m) (z ||| (1 : Int32) <<< (nI (c % m) &&& 31))
theorem TKs1 {m k c : Nat} {z : Int32} (h : z >>> (nI (c % m) &&& 31) &&& 1 = 1) : TKs m (k + 1) c z = false := by
  show (if z >>> (nI (c % m) &&& 31) &&& 1 = 1 then false else _) = false
  rw [if_pos h]
theorem TKs0 {m k c : Nat} {z : Int32} (h : ¬ z >>> (nI (c % m) &&& 31) &&& 1 = 1) : TKs m (k + 1) c z = TKs m k (c / m) (z ||| (1 : Int32) <<< (nI (c % m) &&& 31)) := by
  show (if z >>> (nI (c % m) &&& 31) &&& 1 = 1 then false else _) = _
  rw [if_neg h]
def TOK (m : Nat) (f : Nat → Int32) : Prop := ∀ k, k < m → ∃ d : Nat, d < m ∧ f k = nI d
theorem kvN {x : Int32} {n : Nat} (h : x + 1 = nI (n + 1)) : x = nI n := by
  have h1 : x + 1 - 1 = nI (n + 1) - 1 := congrArg (· - 1) h
  rw [Int32.add_sub_cancel, ← nI_1, Int32.add_sub_cancel] at h1
  exact h1
theorem kvZ {x : Int32} (h : x + 1 = nI 0) : x < 0 := by
  have h1 : x + 1 - 1 = nI 0 - 1 := congrArg (· - 1) h
  rw [Int32.add_sub_cancel] at h1
  rw [h1]; decide
theorem m1p (x : Int32) : x + (-1) + 1 = x := by rw [Int32.add_assoc]; exact Int32.add_zero x
theorem TOKs {m n : Nat} {f : Nat → Int32} {d : Nat} (h : ∀ j, n + 1 ≤ j → j < m → ∃ d : Nat, d < m ∧ f j = nI d) (hd : d < m) : ∀ j, n ≤ j → j < m → ∃ w : Nat, w < m ∧ upd f n (nI d) j = nI w := by
  intro j h1 h2
  by_cases e : j = n
  · exact ⟨d, hd, by rw [e, pk_us]⟩
  · obtain ⟨d', q1, q2⟩ := h j (by omega) h2
    exact ⟨d', q1, (pk_un e).trans q2⟩
theorem bS10 : ∀ N, N < 1024 → bS (nI N) 12 = bS (nI N) 10 := by decide +kernel
theorem bSx {x : Int32} (h : 1 ≤ x ∧ x ≤ 1023) : bS x 12 = bS x 10 := by
  obtain ⟨N, hN, rfl⟩ := dcN (k := 1023) (by decide) h
  exact bS10 N (by omega)
theorem TKx {m : Nat} (h2 : 2 ≤ m) (h4 : m ≤ 4) : ∃ c, c < m ^ m ∧ TKs m m c 0 = true := by
  have : m = 2 ∨ m = 3 ∨ m = 4 := by omega
  rcases this with rfl | rfl | rfl
  · exact ⟨1, by decide, by decide +kernel⟩
  · exact ⟨5, by decide, by decide +kernel⟩
  · exact ⟨27, by decide, by decide +kernel⟩
theorem mm4 {m : Nat} (h4 : m ≤ 4) : m ^ m ≤ 256 := by
  have : m = 0 ∨ m = 1 ∨ m = 2 ∨ m = 3 ∨ m = 4 := by omega
  rcases this with rfl | rfl | rfl | rfl | rfl <;> decide
/-- the best code so far -/
def BST (m i : Nat) (be le : Int32) : Prop := (be = -1 ∧ le = 1000000000 ∧ ∀ j, j < i → TKs m m j 0 = false) ∨ ∃ b : Nat, b < i ∧ be = nI b ∧ TKs m m b 0 = true
theorem BST.z (m : Nat) : BST m 0 (-1) 1000000000 := Or.inl ⟨rfl, rfl, fun j hj => absurd hj (Nat.not_lt_zero j)⟩
theorem BST.no {m i : Nat} {be le : Int32} (h : BST m i be le) (hb : bI (TKs m m i 0 = true) = 0) : BST m (i + 1) be le := by
  rcases h with ⟨h1, h2, h3⟩ | ⟨b, h1, h2, h3⟩
  · refine Or.inl ⟨h1, h2, fun j hj => ?_⟩
    by_cases e : j = i
    · rw [e]; exact Bool.eq_false_iff.mpr (bIf hb)
    · exact h3 j (by omega)
  · exact Or.inr ⟨b, by omega, h2, h3⟩
theorem BST.keep {m i d : Nat} {be le : Int32} (h : BST m i be le) (hd : d ≤ 7056720) (hn : ¬ nI d < le) : BST m (i + 1) be le := by
  rcases h with ⟨h1, h2, h3⟩ | ⟨b, h1, h2, h3⟩
  · refine absurd ?_ hn
    rw [h2]
    exact nI_lt (b := 1000000000) (by omega) (by decide)
  · exact Or.inr ⟨b, by omega, h2, h3⟩
theorem BST.new {m i : Nat} {le : Int32} (hb : ¬ bI (TKs m m i 0 = true) = 0) : BST m (i + 1) (nI i) le := Or.inr ⟨i, by omega, rfl, bIt hb⟩
theorem BST.end {m : Nat} {be le : Int32} (h2 : 2 ≤ m) (h4 : m ≤ 4) (h : BST m (m ^ m) be le) : ∃ b : Nat, b < m ^ m ∧ be = nI b ∧ TKs m m b 0 = true := by
  rcases h with ⟨q1, q2, q3⟩ | h
  · obtain ⟨c, hc, e⟩ := TKx h2 h4
    rw [q3 c hc] at e; cases e
  · exact h
theorem BD_in {n N : Nat} {f : Nat → Int32} {x K : Int32} (k : Nat) (h : BD n N f) (hK : K.toInt = n) (hx : 0 ≤ x ∧ x ≤ K) : BD n N (upd f k x) := by
  obtain ⟨u, hu, rfl⟩ := inN hK hx
  exact BD_upd k h hu
theorem BD_cp {n N M : Nat} {f g : Nat → Int32} (h : BD n N f) (hM : N ≤ M) (e : ∀ j, j < M → g j = f j) : BD n N g := by
  intro j hj
  rw [e j (by omega)]
  exact h j hj
