def cpG (ld : Nat → Int32) (k c m : Nat) (y : Nat → Int32) : Nat → Int32 := fun x => if 10 * c ≤ x ∧ x < 10 * c + m then ld (10 * k + (x - 10 * c)) else y x
theorem cpG_in {ld y : Nat → Int32} {k c m x : Nat} (h : 10 * c ≤ x ∧ x < 10 * c + m) : cpG ld k c m y x = ld (10 * k + (x - 10 * c)) := if_pos h
theorem cpG_out {ld y : Nat → Int32} {k c m x : Nat} (h : ¬ (10 * c ≤ x ∧ x < 10 * c + m)) : cpG ld k c m y x = y x := if_neg h
theorem cpG_0 (ld y : Nat → Int32) (k c : Nat) : cpG ld k c 0 y = y := funext fun x => if_neg (by omega)
theorem cpG_s {ld y : Nat → Int32} {k c j : Nat} {x : Int32} (hx : x = ld (10 * k + j)) : upd (cpG ld k c j y) (10 * c + j) x = cpG ld k c (j + 1) y := by
  funext z
  by_cases e : z = 10 * c + j
  · subst e
    rw [pk_us, cpG_in (by omega), Nat.add_sub_cancel_left, hx]
  · rw [pk_un e]
    by_cases h : 10 * c ≤ z ∧ z < 10 * c + j
    · rw [cpG_in h, cpG_in (by omega)]
    · rw [cpG_out h, cpG_out (by omega)]
/-- what so many LINES say -/
def gMf (lc lm : Nat → Int32) : Nat → Nat → Int32
  | 0 => fun _ => 0
  | k + 1 => upd (gMf lc lm k) (lc k).toNatClampNeg (lm k)
def gGf (lc lm ld g0 : Nat → Int32) : Nat → Nat → Int32
  | 0 => g0
  | k + 1 => cpG ld k (lc k).toNatClampNeg (lm k).toNatClampNeg (gGf lc lm ld g0 k)
def DREL (k : Nat) (lc lm ld g0 G M : Nat → Int32) : Prop := M = gMf lc lm k ∧ G = gGf lc lm ld g0 k ∧ ∀ j, j < k → (∃ v : Nat, v < 12 ∧ lc j = nI v) ∧ ∃ m : Nat, 1 ≤ m ∧ m ≤ 10 ∧ lm j = nI m
theorem gMf_e {lc lm lc2 lm2 : Nat → Int32} {k : Nat} (h1 : ∀ j, j < k → lc2 j = lc j) (h2 : ∀ j, j < k → lm2 j = lm j) : gMf lc2 lm2 k = gMf lc lm k := by
  induction k with
  | zero => rfl
  | succ k ih =>
    show upd (gMf lc2 lm2 k) (lc2 k).toNatClampNeg (lm2 k) = upd (gMf lc lm k) (lc k).toNatClampNeg (lm k)
    rw [ih (fun j hj => h1 j (by omega)) (fun j hj => h2 j (by omega)), h1 k (by omega), h2 k (by omega)]
theorem gGf_e {lc lm ld g0 lc2 lm2 ld2 : Nat → Int32} {k : Nat} (h1 : ∀ j, j < k → lc2 j = lc j) (h2 : ∀ j, j < k → lm2 j = lm j) (h3 : ∀ j, j < 10 * k → ld2 j = ld j) (hm : ∀ j, j < k → ∃ m : Nat, 1 ≤ m ∧ m ≤ 10 ∧ lm j = nI m) : gGf lc2 lm2 ld2 g0 k = gGf lc lm ld g0 k := by
  induction k with
  | zero => rfl
  | succ k ih =>
    show cpG ld2 k (lc2 k).toNatClampNeg (lm2 k).toNatClampNeg (gGf lc2 lm2 ld2 g0 k) = cpG ld k (lc k).toNatClampNeg (lm k).toNatClampNeg (gGf lc lm ld g0 k)
    rw [ih (fun j hj => h1 j (by omega)) (fun j hj => h2 j (by omega)) (fun j hj => h3 j (by omega)) (fun j hj => hm j (by omega)), h1 k (by omega), h2 k (by omega)]
    obtain ⟨m, _, hm10, em⟩ := hm k (by omega)
    rw [em, nI_clamp (by omega)]
    funext x
    by_cases h : 10 * (lc k).toNatClampNeg ≤ x ∧ x < 10 * (lc k).toNatClampNeg + m
    · rw [cpG_in h, cpG_in h, h3 _ (by omega)]
    · rw [cpG_out h, cpG_out h]
theorem DREL.z (lc lm ld g0 : Nat → Int32) : DREL 0 lc lm ld g0 g0 (fun _ => 0) := ⟨rfl, rfl, fun j hj => absurd hj (Nat.not_lt_zero j)⟩
theorem DREL.add {k v m q : Nat} {c lc lm ld g0 G M lc2 lm2 ld2 : Nat → Int32} (h : DREL k lc lm ld g0 G M) (hv : v < 12) (hm1 : 1 ≤ m) (hm : m ≤ 10) (e1 : lc2 = upd lc k (nI v)) (e2 : lm2 = upd lm k (nI m)) (e3 : ld2 = rowG c q (10 * k) m ld) : DREL (k + 1) lc2 lm2 ld2 g0 (rowG c q (10 * v) m G) (upd M v (nI m)) := by
  obtain ⟨a1, a2, a3⟩ := h
  have b1 : ∀ j, j < k → lc2 j = lc j := fun j hj => by rw [e1, pk_un (by omega)]
  have b2 : ∀ j, j < k → lm2 j = lm j := fun j hj => by rw [e2, pk_un (by omega)]
  have b3 : ∀ j, j < 10 * k → ld2 j = ld j := fun j hj => by rw [e3, rowG_out (by omega)]
  have c1 : lc2 k = nI v := by rw [e1, pk_us]
  have c2 : lm2 k = nI m := by rw [e2, pk_us]
  refine ⟨?_, ?_, fun j hj => ?_⟩
  · show _ = upd (gMf lc2 lm2 k) (lc2 k).toNatClampNeg (lm2 k)
    rw [gMf_e b1 b2, c1, c2, nI_clamp (by omega), a1]
  · show _ = cpG ld2 k (lc2 k).toNatClampNeg (lm2 k).toNatClampNeg (gGf lc2 lm2 ld2 g0 k)
    rw [gGf_e b1 b2 b3 (fun j hj => (a3 j hj).2), c1, c2, nI_clamp (by omega), nI_clamp (by omega), a2]
    funext x
    by_cases z : 10 * v ≤ x ∧ x < 10 * v + m
    · rw [rowG_in z, cpG_in z, e3, rowG_in (by omega), Nat.add_sub_cancel_left]
    · rw [rowG_out z, cpG_out z]
  · by_cases z : j = k
    · subst z; exact ⟨⟨v, hv, c1⟩, ⟨m, hm1, hm, c2⟩⟩
    · rw [b1 j (by omega), b2 j (by omega)]; exact a3 j (by omega)
def DGM (G M a b a2 b2 : Nat → Int32) : Prop := ∀ i, i < 12 → b2 i = (if 0 < M i then M i else b i) ∧ ∀ j, j < 10 → (0 < M i → nI j < M i → a2 (10 * i + j) = G (10 * i + j)) ∧ (¬ 0 < M i → a2 (10 * i + j) = a (10 * i + j))
theorem DGM.z (G a b : Nat → Int32) : DGM G (fun _ => 0) a b a b := fun i _ => ⟨(if_neg (show ¬ (0 : Int32) < 0 by decide)).symm, fun j _ => ⟨fun q => absurd q (show ¬ (0 : Int32) < 0 by decide), fun _ => rfl⟩⟩
theorem DGM.add {k v m : Nat} {ld G M a b a2 b2 a3 b3 : Nat → Int32} (h : DGM G M a b a2 b2) (hv : v < 12) (hm1 : 1 ≤ m) (hm : m ≤ 10) (ea : a3 = cpG ld k v m a2) (eb : b3 = upd b2 v (nI m)) : DGM (cpG ld k v m G) (upd M v (nI m)) a b a3 b3 := by
  intro i hi
  by_cases z : i = v
  · subst z
    have hp : (0 : Int32) < nI m := nI_lt (a := 0) hm1 (by omega)
    rw [pk_us, eb, pk_us, if_pos hp]
    refine ⟨rfl, fun j hj => ⟨fun _ q => ?_, fun q => absurd hp q⟩⟩
    have hjm : j < m := (nI_ltI (by omega) (by omega)).mp q
    rw [ea, cpG_in (by omega), cpG_in (by omega)]
  · rw [pk_un z, eb, pk_un z]
    refine ⟨(h i hi).1, fun j hj => ?_⟩
    rw [ea, cpG_out (by omega), cpG_out (by omega)]
    exact (h i hi).2 j hj
theorem drStepM {c : Nat → Int32} {N n p k q : Nat} {G M G2 M2 : Nat → Int32} {X : Int32 ⊕ (Nat × (Nat → Int32) × (Nat → Int32))} (hp : p < N) (hX : X = drEnd c N (n + 1) p k G M) (hc : c p = 59) (b2 : drLine c (p + 1) k G M = .inr (q, G2, M2)) : X = drEnd c N n q (k + 1) G2 M2 := by
  rw [hX, drEnd_c hp hc]
  exact drGo_s b2
theorem drStepF {c : Nat → Int32} {N n p k : Nat} {G M : Nat → Int32} {f : Int32} {X : Int32 ⊕ (Nat × (Nat → Int32) × (Nat → Int32))} (hp : p < N) (hX : X = drEnd c N (n + 1) p k G M) (hc : c p = 59) (b2 : drLine c (p + 1) k G M = .inl f) : X = .inl f := by
  rw [hX, drEnd_c hp hc]
  exact drGo_f b2
theorem drStepX {c : Nat → Int32} {N n p k : Nat} {G M : Nat → Int32} {X : Int32 ⊕ (Nat × (Nat → Int32) × (Nat → Int32))} (hp : p < N) (hX : X = drEnd c N (n + 1) p k G M) (hc : ¬ c p = 59) : X = .inl (-1000 * 1 - nI p) := by
  rw [hX]
  exact drEnd_x hp hc
