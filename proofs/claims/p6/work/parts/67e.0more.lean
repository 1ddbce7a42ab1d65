/-- the sign at a place of a text of N bytes -/
def chF (f : Nat → Int32) (N : Nat) : Nat → Int32 := fun p => if p < N then f p else -1
/-- what the reader sees: nothing behind a fault -/
def sQ (f : Nat → Int32) (N : Nat) (fa : Int32) : Nat → Int32 := fun p => if fa = 0 then chF f N p else -1
def flF (fa a b : Int32) : Int32 := if fa = 0 then -1000 * a - b else fa
def phF (g : Int32) : Int32 := if 97 ≤ g ∧ g ≤ 106 then g - 97 else -1
/-- how many digits, at most so many, from a place on; their value -/
def ndg (c : Nat → Int32) : Nat → Nat → Nat
  | 0, _ => 0
  | M + 1, p => if 48 ≤ c p ∧ c p ≤ 57 then ndg c M (p + 1) + 1 else 0
def nvl (c : Nat → Int32) : Nat → Nat → Int32 → Int32
  | 0, _, v => v
  | M + 1, p, v => if 48 ≤ c p ∧ c p ≤ 57 then nvl c M (p + 1) (v * 10 + c p - 48) else v
theorem sQ0 (f : Nat → Int32) (N : Nat) : sQ f N 0 = chF f N := funext fun _ => if_pos rfl
theorem sQn {f : Nat → Int32} {N : Nat} {fa : Int32} (h : ¬ fa = 0) (p : Nat) : sQ f N fa p = -1 := if_neg h
theorem sQz {f : Nat → Int32} {N p : Nat} {fa : Int32} (h : ¬ sQ f N fa p = -1) : fa = 0 ∧ p < N := by
  by_cases q : fa = 0
  · refine ⟨q, ?_⟩
    by_cases hp : p < N
    · exact hp
    · exact absurd (show sQ f N fa p = -1 from (if_pos q).trans (if_neg hp)) h
  · exact absurd (sQn q p) h
theorem chFz {f : Nat → Int32} {N p : Nat} (h : ¬ chF f N p = -1) : p < N := by
  by_cases hp : p < N
  · exact hp
  · exact absurd (show chF f N p = -1 from if_neg hp) h
theorem dgz {v : Int32} (h : 48 ≤ v ∧ v ≤ 57) : ¬ v = -1 := fun q => absurd h.1 (by rw [q]; decide)
theorem sgnP {T N p : Nat} {fa : Int32} {f : Nat → Int32} (hT : T ≤ 260) (hN : N ≤ T) (hp : p ≤ N) : sgn T (nI N) (nI p) fa f = sQ f N fa p := by
  unfold sgn sQ chF
  by_cases q : fa = 0
  · by_cases h : p < N
    · rw [if_pos ⟨q, Int32.not_lt.mp (nI_pos (n := p) (by omega)), nI_lt h (by omega), nI_lt (by omega) (by omega)⟩, if_pos q, if_pos h, nI_clamp (by omega)]
    · rw [if_neg (fun z => h ((nI_ltI (by omega) (by omega)).mp z.2.2.1)), if_pos q, if_neg h]
  · rw [if_neg (fun z => q z.1), if_neg q]
theorem ndg_y {c : Nat → Int32} {M p : Nat} (h : 48 ≤ c p ∧ c p ≤ 57) : ndg c (M + 1) p = ndg c M (p + 1) + 1 := if_pos h
theorem ndg_n {c : Nat → Int32} {M p : Nat} (h : ¬ (48 ≤ c p ∧ c p ≤ 57)) : ndg c (M + 1) p = 0 := if_neg h
theorem nvl_y {c : Nat → Int32} {M p : Nat} {v : Int32} (h : 48 ≤ c p ∧ c p ≤ 57) : nvl c (M + 1) p v = nvl c M (p + 1) (v * 10 + c p - 48) := if_pos h
theorem nvl_n {c : Nat → Int32} {M p : Nat} {v : Int32} (h : ¬ (48 ≤ c p ∧ c p ≤ 57)) : nvl c (M + 1) p v = v := if_neg h
theorem ndg_le (c : Nat → Int32) (M p : Nat) : ndg c M p ≤ M := by
  induction M generalizing p with
  | zero => exact Nat.le_refl 0
  | succ M ih =>
    by_cases h : 48 ≤ c p ∧ c p ≤ 57
    · rw [ndg_y h]; have := ih (p + 1); omega
    · rw [ndg_n h]; omega
theorem ndg_in (f : Nat → Int32) (N M p : Nat) (hp : p ≤ N) : p + ndg (chF f N) M p ≤ N := by
  induction M generalizing p with
  | zero => exact hp
  | succ M ih =>
    by_cases h : 48 ≤ chF f N p ∧ chF f N p ≤ 57
    · rw [ndg_y h]; have := ih (p + 1) (chFz (dgz h)); omega
    · rw [ndg_n h]; exact hp
theorem ndg_0 {c : Nat → Int32} {p : Nat} (h : ∀ q, c q = -1) (M : Nat) : ndg c M p = 0 := by
  cases M with
  | zero => rfl
  | succ M => exact ndg_n (fun q => dgz q (h p))
def nf1 (f : Nat → Int32) (N : Nat) (fa : Int32) (M p : Nat) : Int32 := if ndg (sQ f N fa) M p = 0 then flF fa 1 (nI p) else fa
def nf2 (f : Nat → Int32) (N : Nat) (fa : Int32) (M : Nat) (b : Int32) (p : Nat) : Int32 := if ¬ b = 0 ∧ (48 ≤ sQ f N (nf1 f N fa M p) (p + ndg (sQ f N fa) M p) ∧ sQ f N (nf1 f N fa M p) (p + ndg (sQ f N fa) M p) ≤ 57) then flF (nf1 f N fa M p) b (nI (p + ndg (sQ f N fa) M p)) else nf1 f N fa M p
theorem flF_n {fa a b : Int32} (h : ¬ fa = 0) : flF fa a b = fa := if_neg h
theorem nf1_n {f : Nat → Int32} {N M p : Nat} {fa : Int32} (h : ¬ fa = 0) : nf1 f N fa M p = fa := by
  unfold nf1
  by_cases q : ndg (sQ f N fa) M p = 0
  · rw [if_pos q, flF_n h]
  · rw [if_neg q]
theorem nf2_n {f : Nat → Int32} {N M p : Nat} {fa b : Int32} (h : ¬ fa = 0) : nf2 f N fa M b p = fa := by
  unfold nf2
  rw [nf1_n h]
  by_cases q : ¬ b = 0 ∧ (48 ≤ sQ f N fa (p + ndg (sQ f N fa) M p) ∧ sQ f N fa (p + ndg (sQ f N fa) M p) ≤ 57)
  · rw [if_pos q, flF_n h]
  · rw [if_neg q]
theorem flF_neg {fa a : Int32} {k p : Nat} (ha : a = nI k) (h1 : 1 ≤ k) (h9 : k ≤ 9) (hp : p ≤ 260) (h : fa = 0 ∨ fa < 0) : flF fa a (nI p) < 0 := by
  unfold flF
  by_cases q : fa = 0
  · rw [if_pos q, ha, Int32.lt_iff_toInt_lt]
    have e0 : (0 : Int32).toInt = 0 := by decide
    have e1 : (-1000 : Int32).toInt = -1000 := by decide
    have e2 := nI_toInt (n := k) (by omega)
    have e3 := nI_toInt (n := p) (by omega)
    have m := mulT (x := -1000) (y := nI k) (by rw [e1, e2]; omega) (by rw [e1, e2]; omega)
    have d := subT (x := -1000 * nI k) (y := nI p) (by rw [m, e1, e2, e3]; omega) (by rw [m, e1, e2, e3]; omega)
    rw [d, m, e1, e2, e3, e0]
    omega
  · rw [if_neg q]; exact h.resolve_left q
theorem neg_nz {x : Int32} (h : x < 0) : ¬ x = 0 := fun q => absurd h (by rw [q]; decide)
theorem nI0 {i : Nat} (hi : i < 2147483648) (h : nI i = 0) : i = 0 := by
  have e := nI_toInt (n := i) hi
  rw [h] at e
  have e0 : (0 : Int32).toInt = 0 := by decide
  omega
