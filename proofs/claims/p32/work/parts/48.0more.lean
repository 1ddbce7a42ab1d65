theorem nIor (a b : Nat) : nI a ||| nI b = nI (a ||| b) := by
  apply Int32.toBitVec_inj.mp
  show BitVec.ofNat 32 a ||| BitVec.ofNat 32 b = BitVec.ofNat 32 (a ||| b)
  exact BitVec.ofNat_or.symm
theorem shl10 : ∀ q, q < 10 → ∃ k, k < 1024 ∧ (1 : Int32) <<< (nI q &&& 31) = nI k := by
  intro q hq
  have h : ∀ q : Fin 10, (1 : Int32) <<< (nI q.val &&& 31) = nI (2 ^ q.val) := by decide +kernel
  have h2 : ∀ q : Fin 10, 2 ^ q.val < 1024 := by decide
  exact ⟨_, h2 ⟨q, hq⟩, h ⟨q, hq⟩⟩
theorem or10 {i : Nat} {x : Int32} (hi : i < 1024) (h : 0 ≤ x ∧ x < 10) : vp_in (nI i ||| (1 : Int32) <<< (x &&& 31)) 1024 := by
  obtain ⟨q, hq, rfl⟩ := n9 (n := 10) h (by decide) (by decide)
  obtain ⟨k, hk, e⟩ := shl10 q hq
  rw [e, nIor]
  exact vp_in_nI (Nat.or_lt_two_pow (n := 10) hi hk) (by decide)
theorem sb12 {a b : Int32} (ha : 0 ≤ a.toInt ∧ a.toInt ≤ 12) (hb : 0 ≤ b.toInt ∧ b.toInt ≤ 12) : (a - 1 - b).toInt ≤ 12 := by
  have e1 : (1 : Int32).toInt = 1 := by decide
  have h1 := subT (x := a) (y := 1) (by omega) (by omega)
  have h2 := subT (x := a - 1) (y := b) (by omega) (by omega)
  omega
