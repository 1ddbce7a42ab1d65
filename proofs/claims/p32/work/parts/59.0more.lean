def bcF1 (a : Int32) : Int32 := a - (((a : Int32).toUInt32 >>> ((1 : Int32).toUInt32 &&& Int32.toUInt32 31)).toInt32 &&& 1431655765)
def bcF2 (a : Int32) : Int32 := (a &&& 858993459) + (((a : Int32).toUInt32 >>> ((2 : Int32).toUInt32 &&& Int32.toUInt32 31)).toInt32 &&& 858993459)
def bcF3 (a : Int32) : Int32 := (a + ((a : Int32).toUInt32 >>> ((4 : Int32).toUInt32 &&& Int32.toUInt32 31)).toInt32) &&& 252645135
def bcF4 (a : Int32) : Int32 := a + ((a : Int32).toUInt32 >>> ((8 : Int32).toUInt32 &&& Int32.toUInt32 31)).toInt32
def bcF5 (a : Int32) : Int32 := a + ((a : Int32).toUInt32 >>> ((16 : Int32).toUInt32 &&& Int32.toUInt32 31)).toInt32
/-- what bitCount answers -/
def bcF (a : Int32) : Int32 := bcF5 (bcF4 (bcF3 (bcF2 (bcF1 a)))) &&& 63
theorem bcT : ∀ k, k < 1024 → bcF (nI k) = nI (bS (nI k) 10) := by decide +kernel
def PEK (x : Int32) : Prop := ∃ q : Nat, q < 1024 ∧ x = nI q
theorem nIbt {n : Nat} (hn : n < 1024) {i : Nat} (hi : 10 ≤ i) : bt (nI n) i = false := by
  show (BitVec.ofNat 32 n).getLsbD i = false
  rw [BitVec.getLsbD_ofNat]
  have : n.testBit i = false := Nat.testBit_lt_two_pow (Nat.lt_of_lt_of_le hn (Nat.pow_le_pow_right (n := 2) (by decide) hi))
  simp [this]
theorem nIlt {x : Int32} (h : ∀ i, 10 ≤ i → i < 32 → bt x i = false) : PEK x := by
  refine ⟨x.toBitVec.toNat, ?_, ?_⟩
  · apply Nat.lt_pow_two_of_testBit (n := 10)
    intro i hi
    by_cases h2 : i < 32
    · exact h i hi h2
    · exact BitVec.getLsbD_of_ge _ _ (by omega)
  · apply Int32.toBitVec_inj.mp
    show x.toBitVec = BitVec.ofNat 32 x.toBitVec.toNat
    simp
theorem b_xm (x : Int32) {i : Nat} (hi : i < 32) : bt (x ^^^ (-1)) i = !(bt x i) := by
  unfold bt
  rw [Int32.toBitVec_xor, BitVec.getLsbD_xor]
  have : (-1 : Int32).toBitVec.getLsbD i = true := (by decide +kernel : ∀ i, i < 32 → (-1 : Int32).toBitVec.getLsbD i = true) i hi
  rw [this]
  simp
theorem subP {x y : Int32} (hy : PEK y) (h : x &&& (y ^^^ (-1)) = 0) : PEK x := by
  obtain ⟨q, hq, rfl⟩ := hy
  apply nIlt
  intro i h10 hi
  have h1 : bt (x &&& (nI q ^^^ (-1))) i = bt 0 i := by rw [h]
  rw [b_and, b_xm _ hi, nIbt hq h10, b_0] at h1
  simpa using h1
theorem PEK_and {x y : Int32} (hx : PEK x) : PEK (x &&& y) := by
  obtain ⟨q, hq, rfl⟩ := hx
  apply nIlt
  intro i h10 hi
  rw [b_and, nIbt hq h10]
  simp
theorem PEK_or {x : Int32} {k : Nat} (hx : PEK x) (hk : k < 10) : PEK (x ||| (1 : Int32) <<< (nI k &&& 31)) := by
  obtain ⟨q, hq, rfl⟩ := hx
  apply nIlt
  intro i h10 hi
  rw [btO (by omega) hi, nIbt hq h10]
  simp
  omega
theorem msk0 : ∀ q, q < 10 → bt ((1 : Int32) <<< (nI q &&& 31) - 1) q = false := by decide +kernel
theorem bS_mono {x y : Int32} {q : Nat} (hq : q < 10) (hx : bt x q = true) (hy : bt y q = false) (hs : ∀ i, i < 32 → bt y i = true → bt x i = true) : bS y 10 < bS x 10 := by
  have le : ∀ i, i ≤ 31 → bS y i ≤ bS x i := by
    intro i
    induction i with
    | zero => intro _; exact Nat.le_refl 0
    | succ i ih =>
      intro h
      have ih := ih (by omega)
      by_cases e : y >>> (nI i &&& 31) &&& 1 = 1
      · have e2 := (btI x (q := i) (by omega)).mpr (hs i (by omega) ((btI y (by omega)).mp e))
        rw [bS1 e, bS1 e2]; omega
      · rw [bS0 e]; have := bS_s x i; omega
  have lt : ∀ d, q + 1 + d ≤ 31 → bS y (q + 1 + d) < bS x (q + 1 + d) := by
    intro d
    induction d with
    | zero =>
      intro _
      have e2 := (btI x (q := q) (by omega)).mpr hx
      have e1 : ¬ y >>> (nI q &&& 31) &&& 1 = 1 := fun e => by rw [(btI y (by omega)).mp e] at hy; cases hy
      show bS y (q + 1) < bS x (q + 1)
      rw [bS1 e2, bS0 e1]
      have := le q (by omega)
      omega
    | succ d ih =>
      intro h
      have ih := ih (by omega)
      show bS y (q + 1 + d + 1) < bS x (q + 1 + d + 1)
      by_cases e : y >>> (nI (q + 1 + d) &&& 31) &&& 1 = 1
      · have e2 := (btI x (q := q + 1 + d) (by omega)).mpr (hs _ (by omega) ((btI y (by omega)).mp e))
        rw [bS1 e, bS1 e2]; omega
      · rw [bS0 e]; have := bS_s x (q + 1 + d); omega
  have h := lt (9 - q) (by omega)
  have e : q + 1 + (9 - q) = 10 := by omega
  rw [e] at h
  exact h
theorem bcP {x : Int32} (h : PEK x) : bcF x = nI (bS x 10) := by
  obtain ⟨q, hq, rfl⟩ := h
  exact bcT q hq
/-- the place of a member in a set -/
theorem plc {x k : Int32} (hx : PEK x) (hk : (0 ≤ k ∧ k < 31) ∧ x >>> (k &&& 31) &&& 1 = 1) : ∃ j : Nat, j < bS x 10 ∧ bcF (x &&& ((1 : Int32) <<< (k &&& 31) - 1)) = nI j := by
  obtain ⟨q, hq, rfl⟩ := n9 (n := 31) hk.1 (by decide) (by decide)
  have hb := (btI x (q := q) (by omega)).mp hk.2
  have hq10 : q < 10 := by
    obtain ⟨n, hn, rfl⟩ := hx
    exact Nat.not_le.mp fun h => by rw [nIbt hn h] at hb; cases hb
  refine ⟨bS (x &&& ((1 : Int32) <<< (nI q &&& 31) - 1)) 10, ?_, bcP (PEK_and hx)⟩
  refine bS_mono hq10 hb ?_ ?_
  · rw [b_and, msk0 q hq10]; simp
  · intro i hi h
    rw [b_and] at h
    simp at h
    exact h.1
theorem or5 {i q : Nat} (hi : i < 32) (hq : q < 5) : ∃ j : Nat, j < 32 ∧ nI i ||| (1 : Int32) <<< (nI q &&& 31) = nI j := by
  have h : ∀ q : Fin 5, (1 : Int32) <<< (nI q.val &&& 31) = nI (2 ^ q.val) := by decide +kernel
  have h2 : ∀ q : Fin 5, 2 ^ q.val < 32 := by decide
  refine ⟨i ||| 2 ^ q, Nat.or_lt_two_pow (n := 5) hi (h2 ⟨q, hq⟩), ?_⟩
  rw [h ⟨q, hq⟩, nIor]
theorem mxne {x r : Int32} (h : r = if x < 1 then 1 else x) : ¬ r = 0 := by
  by_cases q : x < 1
  · rw [h, if_pos q]; decide
  · rw [h, if_neg q]
    intro e
    rw [e] at q
    exact q (by decide)
