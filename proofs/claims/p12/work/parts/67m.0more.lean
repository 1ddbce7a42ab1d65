/-- DOERS as both keep them -/
def DRK (a b a2 b2 : Nat → Int32) : Prop := ∀ i, i < 12 → b i = b2 i ∧ ∀ j, j < 10 → nI j < b2 i → a (10 * i + j) = a2 (10 * i + j)
theorem nIinj {N M T : Nat} {x : Int32} (hT : T ≤ 260) (e1 : x = nI N) (hN : N ≤ T) (e2 : x = nI M) (hM : M ≤ T) : M = N := by
  have z1 := nI_toInt (n := N) (by omega)
  have z2 := nI_toInt (n := M) (by omega)
  rw [← e1, e2, z2] at z1
  omega
theorem DRK.ans {C : Prop} {T : Nat} {x1 rx rm : Int32} {fb ft G a b a2 b2 c d c2 d2 : Nat → Int32} (htr : TR T fb ft) (hT : T ≤ 260) (a1 : C → ∃ N : Nat, x1 = nI N ∧ N ≤ T ∧ ((drTot (chF fb N) N G = .inl rx ∧ a2 = a ∧ b2 = b) ∨ ∃ (k : Nat) (G2 M : Nat → Int32), drTot (chF fb N) N G = .inr (k, G2, M) ∧ rx = nI k ∧ DGV G2 M a b a2 b2)) (a3 : ¬ C → rx = -1) (b1 : C → ∃ N : Nat, x1 = nI N ∧ N ≤ T ∧ ((drTot (hcF ft N) N G = .inl rm ∧ d2 = d ∧ c2 = c) ∨ ∃ (k : Nat) (G2 M : Nat → Int32), drTot (hcF ft N) N G = .inr (k, G2, M) ∧ rm = nI k ∧ DGM G2 M c d c2 d2)) (b3 : ¬ C → rm = -1) : rx = rm := by
  by_cases q : C
  · obtain ⟨N, e1, hN, hx⟩ := a1 q
    obtain ⟨M, e2, hM, hm⟩ := b1 q
    have e := nIinj hT e1 hN e2 hM
    subst e
    rw [hc_ch htr hN] at hm
    rcases hx with ⟨t, _, _⟩ | ⟨k, G2, M2, t, u, _⟩
    · rcases hm with ⟨w, _, _⟩ | ⟨k3, G3, M3, w, _, _⟩
      · rw [t] at w; cases w; rfl
      · rw [t] at w; cases w
    · rcases hm with ⟨w, _, _⟩ | ⟨k3, G3, M3, w, y, _⟩
      · rw [t] at w; cases w
      · rw [t] at w; cases w; rw [u, y]
  · rw [a3 q, b3 q]
theorem DRK.doers {C : Prop} {T : Nat} {x1 rx rm : Int32} {fb ft G a b a2 b2 c d c2 d2 : Nat → Int32} (h : DRK a b c d) (htr : TR T fb ft) (hT : T ≤ 260) (a1 : C → ∃ N : Nat, x1 = nI N ∧ N ≤ T ∧ ((drTot (chF fb N) N G = .inl rx ∧ a2 = a ∧ b2 = b) ∨ ∃ (k : Nat) (G2 M : Nat → Int32), drTot (chF fb N) N G = .inr (k, G2, M) ∧ rx = nI k ∧ DGV G2 M a b a2 b2)) (a3 : ¬ C → a2 = a ∧ b2 = b) (b1 : C → ∃ N : Nat, x1 = nI N ∧ N ≤ T ∧ ((drTot (hcF ft N) N G = .inl rm ∧ d2 = d ∧ c2 = c) ∨ ∃ (k : Nat) (G2 M : Nat → Int32), drTot (hcF ft N) N G = .inr (k, G2, M) ∧ rm = nI k ∧ DGM G2 M c d c2 d2)) (b3 : ¬ C → d2 = d ∧ c2 = c) : DRK a2 b2 c2 d2 := by
  by_cases q : C
  · obtain ⟨N, e1, hN, hx⟩ := a1 q
    obtain ⟨M, e2, hM, hm⟩ := b1 q
    have e := nIinj hT e1 hN e2 hM
    subst e
    rw [hc_ch htr hN] at hm
    rcases hx with ⟨t, u1, u2⟩ | ⟨k, G2, M2, t, _, u⟩
    · rcases hm with ⟨_, v1, v2⟩ | ⟨k3, G3, M3, w, _, _⟩
      · rw [u1, u2, v1, v2]; exact h
      · rw [t] at w; cases w
    · rcases hm with ⟨w, _, _⟩ | ⟨k3, G3, M3, w, _, y⟩
      · rw [t] at w; cases w
      · rw [t] at w
        cases w
        intro i hi
        have hu := u i hi
        have hy := y i hi
        rw [hu.1, hy.1]
        by_cases z : 0 < M2 i
        · rw [if_pos z, if_pos z]
          refine ⟨rfl, fun j hj hl => ?_⟩
          rw [hu.2 j hj, if_pos z, (hy.2 j hj).1 z hl]
        · rw [if_neg z, if_neg z]
          refine ⟨(h i hi).1, fun j hj hl => ?_⟩
          rw [hu.2 j hj, if_neg z, (hy.2 j hj).2 z]
          exact (h i hi).2 j hj hl
  · rw [(a3 q).1, (a3 q).2, (b3 q).1, (b3 q).2]; exact h
theorem DRK.z : DRK (fun _ => 0) (fun _ => 0) (fun _ => 0) (fun _ => 0) := fun _ _ => ⟨rfl, fun _ _ _ => rfl⟩
