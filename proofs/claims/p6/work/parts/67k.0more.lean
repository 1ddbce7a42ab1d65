/-- DOERS as they are given on -/
def DGV (G M a b a2 b2 : Nat → Int32) : Prop := ∀ i, i < 12 → b2 i = (if 0 < M i then M i else b i) ∧ ∀ j, j < 10 → a2 (10 * i + j) = if 0 < M i then G (10 * i + j) else a (10 * i + j)
def DGI (k : Nat) (G M a b a2 b2 : Nat → Int32) : Prop := ∀ i, i < 12 → b2 i = (if 0 < M i ∧ i < k then M i else b i) ∧ ∀ j, j < 10 → a2 (10 * i + j) = if 0 < M i ∧ i < k then G (10 * i + j) else a (10 * i + j)
theorem DGI.z (G M a b : Nat → Int32) : DGI 0 G M a b a b := fun i _ => ⟨(if_neg (fun q => Nat.not_lt_zero i q.2)).symm, fun j _ => (if_neg (fun q => Nat.not_lt_zero i q.2)).symm⟩
theorem DGI.no {k : Nat} {G M a b a2 b2 : Nat → Int32} (h : DGI k G M a b a2 b2) (hk : ¬ 0 < M k) : DGI (k + 1) G M a b a2 b2 := by
  intro i hi
  have e : (0 < M i ∧ i < k + 1) ↔ (0 < M i ∧ i < k) := by
    constructor
    · intro q
      refine ⟨q.1, ?_⟩
      by_cases z : i = k
      · rw [z] at q; exact absurd q.1 hk
      · omega
    · intro q; exact ⟨q.1, by omega⟩
  refine ⟨?_, fun j hj => ?_⟩
  · rw [(h i hi).1]
    by_cases q : 0 < M i ∧ i < k
    · rw [if_pos q, if_pos (e.mpr q)]
    · rw [if_neg q, if_neg (fun z => q (e.mp z))]
  · rw [(h i hi).2 j hj]
    by_cases q : 0 < M i ∧ i < k
    · rw [if_pos q, if_pos (e.mpr q)]
    · rw [if_neg q, if_neg (fun z => q (e.mp z))]
theorem DGI.yes {k : Nat} {G M a b a2 b2 a3 b3 : Nat → Int32} (h : DGI k G M a b a2 b2) (hk : 0 < M k) (ea : a3 = va_cpy G a2 (10 * k) (10 * k) 10) (eb : b3 = upd b2 k (M k)) : DGI (k + 1) G M a b a3 b3 := by
  intro i hi
  by_cases z : i = k
  · subst z
    have q : 0 < M i ∧ i < i + 1 := ⟨hk, Nat.lt_succ_self i⟩
    refine ⟨by rw [eb, pk_us, if_pos q], fun j hj => ?_⟩
    rw [ea, pk_cpy_in (by omega) (by omega), if_pos q]
    congr 1
    omega
  · have e : (0 < M i ∧ i < k + 1) ↔ (0 < M i ∧ i < k) := ⟨fun q => ⟨q.1, by omega⟩, fun q => ⟨q.1, by omega⟩⟩
    refine ⟨?_, fun j hj => ?_⟩
    · rw [eb, pk_un z, (h i hi).1]
      by_cases q : 0 < M i ∧ i < k
      · rw [if_pos q, if_pos (e.mpr q)]
      · rw [if_neg q, if_neg (fun z => q (e.mp z))]
    · have ho : va_cpy G a2 (10 * k) (10 * k) 10 (10 * i + j) = a2 (10 * i + j) := if_neg (by omega)
      rw [ea, ho, (h i hi).2 j hj]
      by_cases q : 0 < M i ∧ i < k
      · rw [if_pos q, if_pos (e.mpr q)]
      · rw [if_neg q, if_neg (fun z => q (e.mp z))]
theorem DGI.all {G M a b a2 b2 : Nat → Int32} (h : DGI 12 G M a b a2 b2) : DGV G M a b a2 b2 := by
  intro i hi
  have e : (0 < M i ∧ i < 12) ↔ 0 < M i := ⟨fun q => q.1, fun q => ⟨q, hi⟩⟩
  refine ⟨?_, fun j hj => ?_⟩
  · rw [(h i hi).1]
    by_cases q : 0 < M i
    · rw [if_pos q, if_pos (e.mpr q)]
    · rw [if_neg q, if_neg (fun z => q (e.mp z))]
  · rw [(h i hi).2 j hj]
    by_cases q : 0 < M i
    · rw [if_pos q, if_pos (e.mpr q)]
    · rw [if_neg q, if_neg (fun z => q (e.mp z))]
