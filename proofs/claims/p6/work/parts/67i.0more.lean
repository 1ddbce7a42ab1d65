theorem LVK.cp {F L a b F2 L2 a2 b2 : Nat → Int32} (h : LVK F L a b) (ea : ∀ j, j < 10 → a2 j = a j) (eb : ∀ j, j < 10 → b2 j = b j) (eF : ∀ j, j < 10 → F2 j = F j) (eL : ∀ j, j < 10 → L2 j = L j) : LVK F2 L2 a2 b2 := by
  intro j hj
  rw [ea j hj, eb j hj, eF j hj, eL j hj]
  exact h j hj
theorem LVK.home {F L a b : Nat → Int32} (h1 : ∀ j, j < 10 → a j = -2 ∧ b j = -2) (h2 : ∀ j, j < 10 → F j = -2) : LVK F L a b := by
  intro j hj
  rw [(h1 j hj).1, (h1 j hj).2, h2 j hj, if_pos rfl]
  exact ⟨rfl, rfl⟩
theorem LVK.leaves {C : Prop} {T : Nat} {x1 : Int32} {fb ft gl ff fg f2 g2 fl flt lfo lto : Nat → Int32} (h : LVK fl flt ff fg) (htr : TR T fb ft) (hT : T ≤ 260) (a1 : C → ∃ N : Nat, x1 = nI N ∧ N ≤ T ∧ ((lvTot (chF fb N) N gl = none ∧ f2 = ff ∧ g2 = fg) ∨ ∃ F L : Nat → Int32, lvTot (chF fb N) N gl = some (F, L) ∧ LVK F L f2 g2)) (a2 : ¬ C → f2 = ff ∧ g2 = fg) (b1 : C → ∃ N : Nat, x1 = nI N ∧ N ≤ T ∧ ((lvTot (hcF ft N) N gl = none ∧ lfo = fl ∧ lto = flt) ∨ ∃ F L : Nat → Int32, lvTot (hcF ft N) N gl = some (F, L) ∧ ∀ j, j < 10 → lfo j = F j ∧ lto j = L j)) (b2 : ¬ C → lfo = fl ∧ lto = flt) : LVK lfo lto f2 g2 := by
  by_cases q : C
  · obtain ⟨N, e1, hN, hx⟩ := a1 q
    obtain ⟨M, e2, hM, hm⟩ := b1 q
    have e : M = N := by
      have z1 := nI_toInt (n := N) (by omega)
      have z2 := nI_toInt (n := M) (by omega)
      rw [← e1, e2, z2] at z1
      omega
    subst e
    rw [hc_ch htr hN] at hm
    rcases hx with ⟨t, u, v⟩ | ⟨F, L, t, u⟩
    · rcases hm with ⟨_, y, z⟩ | ⟨F2, L2, w, _⟩
      · rw [u, v, y, z]; exact h
      · rw [t] at w; cases w
    · rcases hm with ⟨w, _, _⟩ | ⟨F2, L2, w, y⟩
      · rw [t] at w; cases w
      · rw [t] at w
        cases w
        exact u.cp (fun _ _ => rfl) (fun _ _ => rfl) (fun j hj => (y j hj).1) (fun j hj => (y j hj).2)
  · rw [(a2 q).1, (a2 q).2, (b2 q).1, (b2 q).2]; exact h
