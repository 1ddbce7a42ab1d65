def sumR (c : Nat → Int32) (N p : Nat) : Int32 ⊕ Nat := if kp0 (c p) = 3 then .inr (p + 1) else facS c N 6 0 (p + 1)
def clF (c : Nat → Int32) (N p k : Nat) : Int32 ⊕ Nat := if kp0 (c p) = -1 then .inl (-1000 * 1 - nI p) else if k = 16 then .inl (-1000 * 4 - nI p) else match sumR c N p with
  | .inl f => .inl f
  | .inr q => if c q = 40 then pcS c N 5 0 [] (q + 1) else .inl (-1000 * 1 - nI q)
theorem clF_1 {c : Nat → Int32} {N p k : Nat} (h : kp0 (c p) = -1) : clF c N p k = .inl (-1000 * 1 - nI p) := if_pos h
theorem clF_4 {c : Nat → Int32} {N p k : Nat} (h : ¬ kp0 (c p) = -1) (hk : k = 16) : clF c N p k = .inl (-1000 * 4 - nI p) := (if_neg h).trans (if_pos hk)
theorem clF_f {c : Nat → Int32} {N p k : Nat} {f : Int32} (h : ¬ kp0 (c p) = -1) (hk : ¬ k = 16) (e : sumR c N p = .inl f) : clF c N p k = .inl f := by
  refine (if_neg h).trans ((if_neg hk).trans ?_)
  rw [e]
theorem clF_r {c : Nat → Int32} {N p k q : Nat} (h : ¬ kp0 (c p) = -1) (hk : ¬ k = 16) (e : sumR c N p = .inr q) : clF c N p k = if c q = 40 then pcS c N 5 0 [] (q + 1) else .inl (-1000 * 1 - nI q) := by
  refine (if_neg h).trans ((if_neg hk).trans ?_)
  rw [e]
def lwGo (c : Nat → Int32) (N : Nat) : Nat → Nat → Nat → Int32 ⊕ Nat
  | 0, _, _ => .inl 0
  | n + 1, p, k => match clF c N p k with
    | .inl f => .inl f
    | .inr q => if q < N then (if c q = 59 then lwGo c N n (q + 1) (k + 1) else .inl (-1000 * 1 - nI q)) else .inr (k + 1)
def lwEnd (c : Nat → Int32) (N n q k : Nat) : Int32 ⊕ Nat := if q < N then (if c q = 59 then lwGo c N n (q + 1) k else .inl (-1000 * 1 - nI q)) else .inr k
def lwTot (c : Nat → Int32) (N : Nat) : Int32 ⊕ Nat := lwGo c N (N + 2) 0 0
theorem lwGo_s {c : Nat → Int32} {N n p k q : Nat} (h : clF c N p k = .inr q) : lwGo c N (n + 1) p k = lwEnd c N n q (k + 1) := by
  show (match clF c N p k with | .inl f => (Sum.inl f : Int32 ⊕ Nat) | .inr q => if q < N then (if c q = 59 then lwGo c N n (q + 1) (k + 1) else .inl (-1000 * 1 - nI q)) else .inr (k + 1)) = _
  rw [h]
  rfl
theorem lwGo_f {c : Nat → Int32} {N n p k : Nat} {f : Int32} (h : clF c N p k = .inl f) : lwGo c N (n + 1) p k = .inl f := by
  show (match clF c N p k with | .inl f => (Sum.inl f : Int32 ⊕ Nat) | .inr q => if q < N then (if c q = 59 then lwGo c N n (q + 1) (k + 1) else .inl (-1000 * 1 - nI q)) else .inr (k + 1)) = _
  rw [h]
theorem lwEnd_c {c : Nat → Int32} {N n q k : Nat} (h : q < N) (h1 : c q = 59) : lwEnd c N n q k = lwGo c N n (q + 1) k := by
  unfold lwEnd
  rw [if_pos h, if_pos h1]
theorem lwEnd_x {c : Nat → Int32} {N n q k : Nat} (h : q < N) (h1 : ¬ c q = 59) : lwEnd c N n q k = .inl (-1000 * 1 - nI q) := by
  unfold lwEnd
  rw [if_pos h, if_neg h1]
theorem lwEnd_e {c : Nat → Int32} {N n q k : Nat} (h : ¬ q < N) : lwEnd c N n q k = .inr k := if_neg h
/-- a CLAUSE as the class reads it -/
theorem clQ {f : Nat → Int32} {N p k q1 q2 q3 q4 : Nat} {f1 f2 f3 f4 : Int32} (hN : N ≤ 260) (h0 : ¬ kp0 (chF f N p) = -1) (hk : ¬ k = 16) (s0 : f1 = 0 ∨ f1 < 0) (s1 : f1 = 0 → sumR (chF f N) N p = .inr q1) (s2 : ¬ f1 = 0 → sumR (chF f N) N p = .inl f1) (hq1 : q1 ≤ N) (a1 : sQ f N f1 q1 = 40 → q2 = q1 + 1 ∧ f2 = f1) (a2 : ¬ sQ f N f1 q1 = 40 → q2 = q1 ∧ f2 = flF f1 1 (nI q1)) (hs : PTQ f N 5 q2 q3 f2 f3) (hg : f3 = 0 → ¬ JN2 (chF f N q3)) (b1 : sQ f N f3 q3 = 41 → q4 = q3 + 1 ∧ f4 = f3) (b2 : ¬ sQ f N f3 q3 = 41 → q4 = q3 ∧ f4 = flF f3 1 (nI q3)) : (f4 = 0 ∨ f4 < 0) ∧ (f4 = 0 → clF (chF f N) N p k = .inr q4) ∧ (¬ f4 = 0 → clF (chF f N) N p k = .inl f4) := by
  obtain ⟨c1, c2, c3, c4, c5⟩ := hs
  have k4 : ∀ x : Int32, x < 0 → f3 = x → f4 = x := by
    intro x hx e
    rcases Classical.em (sQ f N f3 q3 = 41) with w | w
    · rw [(b1 w).2, e]
    · rw [(b2 w).2, e]; exact flF_n (neg_nz hx)
  have done : ∀ x : Int32, x < 0 → f4 = x → clF (chF f N) N p k = .inl x → (f4 = 0 ∨ f4 < 0) ∧ (f4 = 0 → clF (chF f N) N p k = .inr q4) ∧ (¬ f4 = 0 → clF (chF f N) N p k = .inl f4) := by
    intro x hx e h
    rw [e]
    exact ⟨Or.inr hx, fun z => absurd z (neg_nz hx), fun _ => h⟩
  rcases s0 with z | z
  · subst z
    rw [sQ0] at a1 a2
    have e0 := clF_r h0 hk (s1 rfl)
    by_cases d : chF f N q1 = 40
    · obtain ⟨e1, e2⟩ := a1 d
      subst e1 e2
      rw [if_pos d] at e0
      rcases c1 with y | y
      · subst y
        rw [sQ0] at b1 b2
        have e3 := ((c5 rfl).1 rfl).2 []
        by_cases t : chF f N q3 = 41
        · obtain ⟨e4, e5⟩ := b1 t
          subst e4 e5
          refine ⟨Or.inl rfl, fun _ => ?_, fun w => absurd rfl w⟩
          rw [e0, e3, aftS_e c4 t]
        · obtain ⟨e4, e5⟩ := b2 t
          have hn : flF 0 1 (nI q3) < 0 := flF_neg (k := 1) rfl (by decide) (by decide) (by omega) (Or.inl rfl)
          refine done _ hn e5 ?_
          rw [e0, e3, aftS_x c4 t (hg rfl), flF_0]
      · refine done _ y (k4 _ y rfl) ?_
        rw [e0]
        exact (c5 rfl).2 (neg_nz y) []
    · obtain ⟨e1, e2⟩ := a2 d
      rw [if_neg d] at e0
      have hn : flF 0 1 (nI q1) < 0 := flF_neg (k := 1) rfl (by decide) (by decide) (by omega) (Or.inl rfl)
      refine done _ hn (k4 _ hn ?_) ?_
      · rw [← e2]; exact c2 (by rw [e2]; exact neg_nz hn)
      · rw [e0, flF_0]
  · have e2 : f2 = f1 := by
      rcases Classical.em (sQ f N f1 q1 = 40) with w | w
      · exact (a1 w).2
      · rw [(a2 w).2]; exact flF_n (neg_nz z)
    refine done _ z (k4 _ z ?_) (clF_f h0 hk (s2 (neg_nz z)))
    rw [← e2]
    exact c2 (by rw [e2]; exact neg_nz z)
theorem lwStep {f : Nat → Int32} {N n p pb k q : Nat} {fa fb fc : Int32} {X : Int32 ⊕ Nat} (h0 : fa = 0) (hp : p < N) (hX : X = lwEnd (chF f N) N (n + 1 + 1) p k) (a1 : sQ f N fa p = 59 → pb = p + 1 ∧ fb = fa) (a2 : ¬ sQ f N fa p = 59 → pb = p ∧ fb = flF fa 1 (nI p)) (hN : N ≤ 260) (b1 : ¬ fb = 0 → fc = fb) (b2 : fb = 0 → (fc = 0 → clF (chF f N) N pb k = .inr q) ∧ (¬ fc = 0 → clF (chF f N) N pb k = .inl fc)) : (fc = 0 → X = lwEnd (chF f N) N (n + 1) q (k + 1)) ∧ (¬ fc = 0 → X = .inl fc) := by
  subst h0
  rw [sQ0] at a1 a2
  by_cases c : chF f N p = 59
  · obtain ⟨e1, e2⟩ := a1 c
    subst e1 e2
    rw [hX, lwEnd_c hp c]
    exact ⟨fun z => lwGo_s ((b2 rfl).1 z), fun z => lwGo_f ((b2 rfl).2 z)⟩
  · have hn : fb < 0 := by rw [(a2 c).2]; exact flF_neg (k := 1) rfl (by decide) (by decide) (by omega) (Or.inl rfl)
    have e := b1 (neg_nz hn)
    refine ⟨fun z => absurd (e.symm.trans z) (neg_nz hn), fun _ => ?_⟩
    rw [hX, lwEnd_x hp c, e, (a2 c).2, flF_0]
theorem lwTot_1 {f : Nat → Int32} {N q : Nat} {fo : Int32} (b2 : (fo = 0 → clF (chF f N) N 0 0 = .inr q) ∧ (¬ fo = 0 → clF (chF f N) N 0 0 = .inl fo)) : (fo = 0 → lwTot (chF f N) N = lwEnd (chF f N) N (N + 1) q 1) ∧ (¬ fo = 0 → lwTot (chF f N) N = .inl fo) := ⟨fun z => lwGo_s (b2.1 z), fun z => lwGo_f (b2.2 z)⟩
