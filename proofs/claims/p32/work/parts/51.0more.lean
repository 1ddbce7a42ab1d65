/-- how many of the first i bits are set -/
def bS (a : Int32) : Nat → Nat
  | 0 => 0
  | i + 1 => bS a i + (if a >>> (nI i &&& 31) &&& 1 = 1 then 1 else 0)
theorem bS1 {a : Int32} {i : Nat} (h : a >>> (nI i &&& 31) &&& 1 = 1) : bS a (i + 1) = bS a i + 1 := by
  show bS a i + (if a >>> (nI i &&& 31) &&& 1 = 1 then 1 else 0) = bS a i + 1
  rw [if_pos h]
theorem bS0 {a : Int32} {i : Nat} (h : ¬ a >>> (nI i &&& 31) &&& 1 = 1) : bS a (i + 1) = bS a i := by
  show bS a i + (if a >>> (nI i &&& 31) &&& 1 = 1 then 1 else 0) = bS a i
  rw [if_neg h]
  rfl
theorem bS_s (a : Int32) (i : Nat) : bS a i ≤ bS a (i + 1) := Nat.le_add_right _ _
theorem bS_le (a : Int32) {i j : Nat} (h : i ≤ j) : bS a i ≤ bS a j := by
  induction h with
  | refl => exact Nat.le_refl _
  | step _ ih => exact Nat.le_trans ih (bS_s a _)
theorem bS_b (a : Int32) (i : Nat) : bS a i ≤ i := by
  induction i with
  | zero => exact Nat.le_refl 0
  | succ i ih =>
    by_cases h : a >>> (nI i &&& 31) &&& 1 = 1
    · rw [bS1 h]; omega
    · rw [bS0 h]; omega
theorem bS_n (a : Int32) (i : Nat) : nI (bS a i) + (a >>> (nI i &&& 31) &&& 1) = nI (bS a (i + 1)) := by
  obtain ⟨j, hj, e⟩ := pk_andE (a >>> (nI i &&& 31)) (m := 1) 1 (by decide)
  by_cases h : a >>> (nI i &&& 31) &&& 1 = 1
  · rw [bS1 h, h]; exact nI_1 _
  · rw [bS0 h]
    have : j = 0 ∨ j = 1 := by omega
    rcases this with rfl | rfl
    · rw [e]; exact nI_add _ 0
    · exact absurd e h
theorem bS12 {a : Int32} {n : Nat} {N : Int32} (h : ¬ N < nI (bS a 12)) (hN : N.toInt = n) : bS a 12 ≤ n := by
  have h1 := mt Int32.lt_iff_toInt_lt.mpr h
  have h2 := bS_b a 12
  rw [nI_toInt (by omega)] at h1
  omega
theorem p9 {x : Int32} (h : 0 ≤ x ∧ x ≤ 9) : 0 ≤ x ∧ x < 10 := ⟨h.1, by
  have a := Int32.le_iff_toInt_le.mp h.2
  have e1 : (9 : Int32).toInt = 9 := by decide
  have e2 : (10 : Int32).toInt = 10 := by decide
  exact Int32.lt_iff_toInt_lt.mpr (by omega)⟩
theorem bS5 {a : Int32} (h : ¬ 5 < nI (bS a 12)) : (nI (bS a 12)).toInt ≤ 5 := by
  have h1 := mt Int32.lt_iff_toInt_lt.mpr h
  have e1 : (5 : Int32).toInt = 5 := by decide
  omega
/-- each entry is a number of at most n -/
def BD (n N : Nat) (f : Nat → Int32) : Prop := ∀ j, j < N → ∃ u : Nat, u ≤ n ∧ f j = nI u
theorem BD_upd {n N : Nat} {f : Nat → Int32} {u : Nat} (k : Nat) (h : BD n N f) (hu : u ≤ n) : BD n N (upd f k (nI u)) := by
  intro j hj
  by_cases e : j = k
  · rw [e, pk_us]; exact ⟨u, hu, rfl⟩
  · rw [pk_un e]; exact h j hj
theorem BD.out {n N : Nat} {f : Nat → Int32} {x : Int32} {k : Nat} (h : BD n N f) (hk : N ≤ k) : BD n N (upd f k x) := by
  intro j hj
  rw [pk_un (by omega)]
  exact h j hj
/-- who is hired, so far as i people are gone through -/
def HTO (x : Int32) (f : Nat → Int32) (i : Nat) : Prop := (∀ j, j < bS x i → ∃ n : Nat, n < 10 ∧ f j = nI n) ∧ ∀ q, q < i → x >>> (nI q &&& 31) &&& 1 = 1 → ∃ j : Nat, j < bS x i ∧ f j = nI q
theorem HTO.z (x : Int32) (f : Nat → Int32) : HTO x f 0 := ⟨fun j hj => absurd hj (Nat.not_lt_zero j), fun q hq => absurd hq (Nat.not_lt_zero q)⟩
theorem HTO.no {x : Int32} {f : Nat → Int32} {i : Nat} (h : HTO x f i) (hb : bI (x >>> (nI i &&& 31) &&& 1 = 1) = 0) : HTO x f (i + 1) := by
  have h0 := bIf hb
  refine ⟨by rw [bS0 h0]; exact h.1, fun q hq e => ?_⟩
  rw [bS0 h0]
  by_cases hqi : q = i
  · rw [hqi] at e; exact absurd e h0
  · exact h.2 q (by omega) e
theorem HTO.yes {x : Int32} {f : Nat → Int32} {i : Nat} (h : HTO x f i) (hb : ¬ bI (x >>> (nI i &&& 31) &&& 1 = 1) = 0) (hi : i < 10) : HTO x (upd f (bS x i) (nI i)) (i + 1) := by
  have h0 := bIt hb
  refine ⟨fun j hj => ?_, fun q hq e => ?_⟩
  · by_cases e : j = bS x i
    · rw [e, pk_us]; exact ⟨i, hi, rfl⟩
    · rw [pk_un e]; rw [bS1 h0] at hj; exact h.1 j (by omega)
  · rw [bS1 h0]
    by_cases hqi : q = i
    · rw [hqi]; exact ⟨bS x i, by omega, pk_us⟩
    · obtain ⟨j, hj, ej⟩ := h.2 q (by omega) e
      exact ⟨j, by omega, (pk_un (by omega)).trans ej⟩
theorem bSm {x : Int32} {i n : Nat} (hb : ¬ bI (x >>> (nI i &&& 31) &&& 1 = 1) = 0) (hi : i < 12) (h : bS x 12 ≤ n) : bS x i < n := by
  have h1 := bS1 (bIt hb)
  have h2 := bS_le x (i := i + 1) (j := 12) (by omega)
  omega
