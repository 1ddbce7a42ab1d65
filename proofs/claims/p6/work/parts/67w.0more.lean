theorem kp0_3 (x : Int32) : kp0 x = 3 ↔ x = 107 := by
  constructor
  · intro h
    unfold kp0 at h
    by_cases a : (109 : Int32) = x
    · rw [if_pos a] at h; exact absurd h (by decide)
    · rw [if_neg a] at h
      by_cases b : (110 : Int32) = x
      · rw [if_pos b] at h; exact absurd h (by decide)
      · rw [if_neg b] at h
        by_cases d : (99 : Int32) = x
        · rw [if_pos d] at h; exact absurd h (by decide)
        · rw [if_neg d] at h
          by_cases e : (107 : Int32) = x
          · exact e.symm
          · rw [if_neg e] at h; exact absurd h (by decide)
  · intro h
    rw [h]
    decide
theorem lwStepM {c : Nat → Int32} {N n p k q : Nat} {X : Int32 ⊕ Nat} (hp : p < N) (hX : X = lwEnd c N (n + 1) p k) (hc : c p = 59) (b2 : clF c N (p + 1) k = .inr q) : X = lwEnd c N n q (k + 1) := by
  rw [hX, lwEnd_c hp hc]
  exact lwGo_s b2
theorem lwStepF {c : Nat → Int32} {N n p k : Nat} {f : Int32} {X : Int32 ⊕ Nat} (hp : p < N) (hX : X = lwEnd c N (n + 1) p k) (hc : c p = 59) (b2 : clF c N (p + 1) k = .inl f) : X = .inl f := by
  rw [hX, lwEnd_c hp hc]
  exact lwGo_f b2
theorem lwStepX {c : Nat → Int32} {N n p k : Nat} {X : Int32 ⊕ Nat} (hp : p < N) (hX : X = lwEnd c N (n + 1) p k) (hc : ¬ c p = 59) : X = .inl (-1000 * 1 - nI p) := by
  rw [hX]
  exact lwEnd_x hp hc
theorem lwAns {C : Prop} {T : Nat} {x1 rx rm : Int32} {fb ft : Nat → Int32} (htr : TR T fb ft) (hT : T ≤ 260) (a1 : C → ∃ N : Nat, x1 = nI N ∧ N ≤ T ∧ (lwTot (chF fb N) N = .inl rx ∨ ∃ k : Nat, lwTot (chF fb N) N = .inr k ∧ rx = nI k)) (a3 : ¬ C → rx = -1) (b1 : C → ∃ N : Nat, x1 = nI N ∧ N ≤ T ∧ (lwTot (hcF ft N) N = .inl rm ∨ ∃ k : Nat, lwTot (hcF ft N) N = .inr k ∧ rm = nI k)) (b3 : ¬ C → rm = -1) : rx = rm := by
  by_cases q : C
  · obtain ⟨N, e1, hN, hx⟩ := a1 q
    obtain ⟨M, e2, hM, hm⟩ := b1 q
    have e : M = N := by
      have z1 := nI_toInt (n := N) (by omega)
      have z2 := nI_toInt (n := M) (by omega)
      rw [← e1, e2, z2] at z1
      omega
    subst e
    rw [hc_ch htr hN] at hm
    rcases hx with t | ⟨k, t, u⟩
    · rcases hm with w | ⟨k3, w, _⟩
      · rw [t] at w; cases w; rfl
      · rw [t] at w; cases w
    · rcases hm with w | ⟨k3, w, y⟩
      · rw [t] at w; cases w
      · rw [t] at w; cases w; rw [u, y]
  · rw [a3 q, b3 q]
