theorem toN {x : Int32} {n : Nat} (h0 : 0 ≤ x.toInt) (h1 : x.toInt < n) (hn : n < 2147483648) : ∃ j : Nat, j < n ∧ x = nI j := vp_in_of (vinT h0 h1) hn
/-- how many doers each chore has -/
def RG (f : Nat → Int32) : Prop := ∀ j, j < 12 → 0 ≤ (f j).toInt ∧ (f j).toInt ≤ 10
theorem RG.upd {f : Nat → Int32} {v : Int32} (k : Nat) (h : RG f) (hv : 0 ≤ v.toInt ∧ v.toInt ≤ 10) : RG (upd f k v) := by
  intro j hj
  by_cases e : j = k
  · rw [e, pk_us]; exact hv
  · rw [pk_un e]; exact h j hj
theorem RG.zero {f : Nat → Int32} (h : ∀ j, j < 12 → f j = 0) : RG f := fun j hj => by rw [h j hj]; decide
theorem nI10 {t : Nat} (h : t ≤ 10) : 0 ≤ (nI t).toInt ∧ (nI t).toInt ≤ 10 := by
  rw [nI_toInt (by omega)]
  omega
theorem m10 (a : Nat) : nI a * 10 = nI (10 * a) := by
  rw [show (10 : Int32) = nI 10 from rfl, pk_mul, Nat.mul_comm a 10]
