def bt (x : Int32) (i : Nat) : Bool := x.toBitVec.getLsbD i
theorem b_ext {x y : Int32} (h : ∀ i, i < 32 → bt x i = bt y i) : x = y := Int32.toBitVec_inj.mp (BitVec.eq_of_getLsbD_eq (fun i hi => h i hi))
theorem b_or (x y : Int32) (i : Nat) : bt (x ||| y) i = (bt x i || bt y i) := by unfold bt; rw [Int32.toBitVec_or, BitVec.getLsbD_or]
theorem b_and (x y : Int32) (i : Nat) : bt (x &&& y) i = (bt x i && bt y i) := by unfold bt; rw [Int32.toBitVec_and, BitVec.getLsbD_and]
theorem b_big {x : Int32} {i : Nat} (h : 32 ≤ i) : bt x i = false := BitVec.getLsbD_of_ge _ _ h
theorem b_0 (i : Nat) : bt 0 i = false := BitVec.getLsbD_zero
theorem s_l : ∀ n, n < 32 → ((nI n &&& 31).toBitVec.smod 32).toNat = n := by decide +kernel
theorem b_shl (n : Nat) (hn : n < 32) (x : Int32) {i : Nat} (hi : i < 32) : bt (x <<< (nI n &&& 31)) i = (decide (n ≤ i) && bt x (i - n)) := by
  unfold bt
  rw [Int32.toBitVec_shiftLeft]
  show (x.toBitVec <<< ((nI n &&& 31).toBitVec.smod 32).toNat).getLsbD i = _
  rw [s_l n hn, BitVec.getLsbD_shiftLeft]
  rcases Nat.lt_or_ge i n with h | h
  · simp [h, Nat.not_le.mpr h]
  · simp [hi, h, Nat.not_lt.mpr h]
theorem b_sshr (n : Nat) (hn : n < 32) (x : Int32) {i : Nat} (hi : i < 32) : bt (x >>> (nI n &&& 31)) i = if n + i < 32 then bt x (n + i) else bt x 31 := by
  unfold bt
  rw [Int32.toBitVec_shiftRight]
  show (x.toBitVec.sshiftRight ((nI n &&& 31).toBitVec.smod 32).toNat).getLsbD i = _
  rw [s_l n hn, BitVec.getLsbD_sshiftRight, BitVec.msb_eq_getLsbD_last]
  simp [hi]
theorem b_1 : ∀ i, i < 32 → bt 1 i = decide (i = 0) := by decide +kernel
theorem btI (z : Int32) {q : Nat} (hq : q < 32) : (z >>> (nI q &&& 31) &&& 1 = 1) ↔ bt z q = true := by
  constructor
  · intro h
    have h1 : bt (z >>> (nI q &&& 31) &&& 1) 0 = bt 1 0 := by rw [h]
    rw [b_and, b_sshr q hq z (by decide), b_1 0 (by decide)] at h1
    simpa [hq] using h1
  · intro h
    apply b_ext
    intro i hi
    rw [b_and, b_1 i hi]
    by_cases e : i = 0
    · subst e
      rw [b_sshr q hq z (by decide)]
      simp [hq, h]
    · simp [e]
theorem btO {z : Int32} {p q : Nat} (hp : p < 32) (hq : q < 32) : bt (z ||| (1 : Int32) <<< (nI p &&& 31)) q = (bt z q || decide (p = q)) := by
  rw [b_or, b_shl p hp 1 hq, b_1 (q - p) (by omega)]
  congr 1
  by_cases e : p = q
  · subst e; simp
  · by_cases h : p ≤ q
    · have : ¬ q - p = 0 := by omega
      simp [e, this]
    · simp [e, h]
theorem bS_or {z : Int32} {p : Nat} (hp : p < 31) (h : ¬ z >>> (nI p &&& 31) &&& 1 = 1) (i : Nat) (hi : i < 32) : bS (z ||| (1 : Int32) <<< (nI p &&& 31)) i = bS z i + (if p < i then 1 else 0) := by
  induction i with
  | zero => rfl
  | succ i ih =>
    have ih := ih (by omega)
    by_cases e : i = p
    · subst e
      have h1 : (z ||| (1 : Int32) <<< (nI i &&& 31)) >>> (nI i &&& 31) &&& 1 = 1 := (btI _ (by omega)).mpr (by rw [btO (by omega) (by omega)]; simp)
      rw [bS1 h1, bS0 h, ih, if_neg (Nat.lt_irrefl i), if_pos (Nat.lt_succ_self i)]
    · have e2 : ¬ p = i := fun q => e q.symm
      have hh : ((z ||| (1 : Int32) <<< (nI p &&& 31)) >>> (nI i &&& 31) &&& 1 = 1) ↔ (z >>> (nI i &&& 31) &&& 1 = 1) := by
        rw [btI _ (by omega), btI _ (by omega), btO (by omega) (by omega)]
        simp [e2]
      have hif : (if p < i + 1 then 1 else 0) = (if p < i then 1 else 0) := by
        by_cases q : p < i
        · rw [if_pos q, if_pos (by omega)]
        · rw [if_neg q, if_neg (by omega)]
      rw [hif]
      by_cases hz : z >>> (nI i &&& 31) &&& 1 = 1
      · rw [bS1 (hh.mpr hz), bS1 hz, ih]; omega
      · rw [bS0 (fun q => hz (hh.mp q)), bS0 hz, ih]
theorem bS_new {z : Int32} {p : Nat} (hp : p < 10) (h : bI (z >>> (nI p &&& 31) &&& 1 = 1) = 0) : bS (z ||| (1 : Int32) <<< (nI p &&& 31)) 10 = bS z 10 + 1 ∧ bS z 10 < 10 := by
  have h1 := bS_or (p := p) (by omega) (bIf h) 10 (by decide)
  rw [if_pos hp] at h1
  have h2 := bS_b (z ||| (1 : Int32) <<< (nI p &&& 31)) 10
  exact ⟨h1, by omega⟩
/-- the byte to be read, or none -/
def hrF (ft : Nat → Int32) (P N : Nat) : Int32 := if P < N then ft P &&& 255 else -1
theorem hrE {ft : Nat → Int32} {P N : Nat} (h : N ≤ P) : hrF ft P N = -1 := if_neg (by omega)
theorem hrL {ft : Nat → Int32} {P N : Nat} (h : ¬ hrF ft P N = -1) : P < N := Nat.not_le.mp fun q => h (hrE q)
theorem hrIn {ft : Nat → Int32} {P N : Nat} {lo hi : Int32} (hlo : ¬ lo ≤ -1) (h : ¬ bI (lo ≤ hrF ft P N ∧ hrF ft P N ≤ hi) = 0) : P < N := Nat.not_le.mp fun q => by
  have h1 := (bIt h).1
  rw [hrE q] at h1
  exact hlo h1
theorem hrNo {ft : Nat → Int32} {P N : Nat} {lo hi : Int32} (hlo : ¬ lo ≤ -1) (h : N ≤ P) : bI (lo ≤ hrF ft P N ∧ hrF ft P N ≤ hi) = 0 := if_neg (fun q => by
  have h1 := q.1
  rw [hrE h] at h1
  exact hlo h1)
theorem abN {g : Int32} (h : ¬ bI (97 ≤ g ∧ g ≤ 106) = 0) : ∃ j : Nat, j < 10 ∧ g - 97 = nI j := by
  obtain ⟨j, hj, e⟩ := inN (k := 9) (by decide) (ph (bIt h))
  exact ⟨j, by omega, e⟩
theorem gvz {g : Int32} {i P N : Nat} (h : g = 0 ∨ (g = 1 ∧ i ≤ P)) (hP : P ≤ N) (hi : i = N + 1) : g = 0 := h.resolve_right (fun q => by omega)
theorem gvs {g : Int32} {i P : Nat} (h : g = 0 ∨ (g = 1 ∧ i ≤ P)) (hg : ¬ g = 0) : i ≤ P := (h.resolve_left hg).2
theorem r01 {r : Int32} (h : r = 0 ∨ r = 1) (h0 : ¬ r = 0) : r = 1 := h.resolve_left h0
