def LSQ (n M : Nat) (q sf sh st : Nat → Int32) : Prop := ∀ j, j < n → ∃ a h t : Nat, sf j = nI a ∧ sh j = nI h ∧ st j = nI t ∧ a ≤ h ∧ h ≤ t ∧ t ≤ M ∧ WFC q a h ∧ WFC q h t
theorem LSQ.z (M : Nat) (q sf sh st : Nat → Int32) : LSQ 0 M q sf sh st := fun j hj => absurd hj (Nat.not_lt_zero j)
theorem LSQ.snoc {n M C1 C2 : Nat} {q q2 sf sh st f2 f3 f4 : Nat → Int32} (h : LSQ n M q sf sh st) (hag : AG q q2 M) (h1 : M ≤ C1) (h2 : C1 ≤ C2) (w1 : WFC q2 M C1) (w2 : WFC q2 C1 C2) (e2 : f2 = upd sf n (nI M)) (e3 : f3 = upd sh n (nI C1)) (e4 : f4 = upd st n (nI C2)) : LSQ (n + 1) C2 q2 f2 f3 f4 := by
  intro j hj
  rw [e2, e3, e4]
  by_cases e : j = n
  · rw [e, pk_us, pk_us, pk_us]
    exact ⟨M, C1, C2, rfl, rfl, rfl, h1, h2, Nat.le_refl _, w1, w2⟩
  · rw [pk_un e, pk_un e, pk_un e]
    obtain ⟨a, b, t, a1, a2, a3, a4, a5, a6, a7, a8⟩ := h j (by omega)
    exact ⟨a, b, t, a1, a2, a3, a4, a5, by omega, WFC_ag a7 hag (by omega), WFC_ag a8 hag (by omega)⟩
theorem LOK_of {n M : Nat} {q sf sh st qc qf qh qt : Nat → Int32} (h : LSQ n M q sf sh st) (hM : M ≤ 240) (g1 : AG q qc M) (g2 : AG sf qf n) (g3 : AG sh qh n) (g4 : AG st qt n) : LOK n qc qf qh qt := by
  intro j hj
  obtain ⟨a, b, t, a1, a2, a3, a4, a5, a6, a7, a8⟩ := h j hj
  exact ⟨a, b, t, (g2 j hj).trans a1, (g3 j hj).trans a2, (g4 j hj).trans a3, a4, a5, by omega, by omega, WFC_ag a7 g1 (by omega), WFC_ag a8 g1 (by omega)⟩
theorem AG.sn {q q1 : Nat → Int32} {i : Nat} {x : Int32} (h : AG q q1 i) (hx : x = q i) : AG q (upd q1 i x) (i + 1) := by
  intro k hk
  by_cases e : k = i
  · rw [e, pk_us, hx]
  · rw [pk_un e]; exact h k (by omega)
