def PCQ (f : Nat → Int32) (N k p q : Nat) (fa fo : Int32) : Prop := (fo = 0 ∨ fo < 0) ∧ (¬ fa = 0 → fo = fa) ∧ p ≤ q ∧ q ≤ N ∧ (fa = 0 → (fo = 0 → p < q ∧ ∀ m S, pcS (chF f N) N k m S p = aftS (chF f N) N (k + m) S q) ∧ (¬ fo = 0 → ∀ m S, pcS (chF f N) N k m S p = .inl fo))
def PTQ (f : Nat → Int32) (N k p q : Nat) (fa fo : Int32) : Prop := (fo = 0 ∨ fo < 0) ∧ (¬ fa = 0 → fo = fa) ∧ p ≤ q ∧ q ≤ N ∧ (fa = 0 → (fo = 0 → p < q ∧ ∀ S, pcS (chF f N) N k 0 S p = aftS (chF f N) N k S q) ∧ (¬ fo = 0 → ∀ S, pcS (chF f N) N k 0 S p = .inl fo))
theorem PCQ.pt {f : Nat → Int32} {N k p q : Nat} {fa fo : Int32} (h : PCQ f N k p q fa fo) : PTQ f N k p q fa fo := ⟨h.1, h.2.1, h.2.2.1, h.2.2.2.1, fun z => ⟨fun w => ⟨((h.2.2.2.2 z).1 w).1, fun S => ((h.2.2.2.2 z).1 w).2 0 S⟩, fun w S => (h.2.2.2.2 z).2 w 0 S⟩⟩
theorem PTQ.more {f : Nat → Int32} {N k p pa q : Nat} {fa fo : Int32} (h : PTQ f N k p pa fa 0) (hs : JN2 (chF f N pa)) (h2 : PTQ f N k (pa + 1) q 0 fo) : PTQ f N k p q fa fo := by
  obtain ⟨_, a2, a3, a4, a5⟩ := h
  obtain ⟨b1, _, b3, b4, b5⟩ := h2
  refine ⟨b1, fun z => absurd (a2 z).symm z, by omega, b4, fun z => ⟨fun w => ⟨by omega, fun S => ?_⟩, fun w S => ?_⟩⟩
  · rw [((a5 z).1 rfl).2 S, aftS_j (chOut f N) hs]; exact ((b5 rfl).1 w).2 S
  · rw [((a5 z).1 rfl).2 S, aftS_j (chOut f N) hs]; exact (b5 rfl).2 w S
theorem PCQ.five {f : Nat → Int32} {N p : Nat} {fo : Int32} (hN : N ≤ 260) (hp : p < N) (h : OP2 (chF f N p)) (e : fo = flF 0 5 (nI p)) : PCQ f N 0 p p 0 fo := by
  have hn : fo < 0 := by rw [e]; exact flF_neg (k := 5) rfl (by decide) (by decide) (by omega) (Or.inl rfl)
  exact ⟨Or.inr hn, fun w => absurd rfl w, Nat.le_refl _, by omega, fun _ => ⟨fun w => absurd w (neg_nz hn), fun _ m S => by rw [pcS_5 h, e, flF_0]⟩⟩
theorem PCQ.no {f : Nat → Int32} {N k p q : Nat} {fo : Int32} (h : chF f N p = 33) (hs : PCQ f N k (p + 1) q 0 fo) : PCQ f N (k + 1) p q 0 fo := by
  obtain ⟨b1, _, b3, b4, b5⟩ := hs
  refine ⟨b1, fun w => absurd rfl w, by omega, b4, fun _ => ⟨fun w => ⟨by omega, fun m S => ?_⟩, fun w m S => ?_⟩⟩
  · rw [pcS_n h, ((b5 rfl).1 w).2, show k + (m + 1) = k + 1 + m by omega]
  · rw [pcS_n h]; exact (b5 rfl).2 w _ _
theorem PCQ.par {f : Nat → Int32} {N k p q q2 : Nat} {f1 fo : Int32} (hN : N ≤ 260) (h : chF f N p = 40) (hs : PTQ f N k (p + 1) q 0 f1) (hg : f1 = 0 → ¬ JN2 (chF f N q)) (a1 : sQ f N f1 q = 41 → q2 = q + 1 ∧ fo = f1) (a2 : ¬ sQ f N f1 q = 41 → q2 = q ∧ fo = flF f1 1 (nI q)) (hq2 : q2 ≤ N) : PCQ f N (k + 1) p q2 0 fo := by
  obtain ⟨b1, _, b3, b4, b5⟩ := hs
  by_cases z : f1 = 0
  · subst z
    rw [sQ0] at a1 a2
    have hb := ((b5 rfl).1 rfl).2
    by_cases d : chF f N q = 41
    · obtain ⟨e1, e2⟩ := a1 d
      subst e1 e2
      exact ⟨Or.inl rfl, fun w => absurd rfl w, by omega, hq2, fun _ => ⟨fun _ => ⟨by omega, fun m S => by rw [pcS_o h, hb, aftS_p (chOut f N) d]⟩, fun w => absurd rfl w⟩⟩
    · obtain ⟨e1, e2⟩ := a2 d
      subst e1
      have hn : fo < 0 := by rw [e2]; exact flF_neg (k := 1) rfl (by decide) (by decide) (by omega) (Or.inl rfl)
      exact ⟨Or.inr hn, fun w => absurd rfl w, by omega, hq2, fun _ => ⟨fun w => absurd w (neg_nz hn), fun _ m S => by rw [pcS_o h, hb, aftS_x b4 d (hg rfl), e2, flF_0]⟩⟩
  · have e : fo = f1 := by
      rcases Classical.em (sQ f N f1 q = 41) with w | w
      · exact (a1 w).2
      · rw [(a2 w).2]; exact flF_n z
    have hpq : p ≤ q2 := by
      rcases Classical.em (sQ f N f1 q = 41) with w | w
      · have := (a1 w).1; omega
      · have := (a2 w).1; omega
    rw [e]
    exact ⟨b1, fun w => absurd rfl w, hpq, hq2, fun _ => ⟨fun w => absurd w z, fun w m S => by rw [pcS_o h]; exact (b5 rfl).2 w _⟩⟩
theorem PCQ.cmp {f : Nat → Int32} {N k p q q2 q3 : Nat} {fa f1 f2 fo : Int32} (hN : N ≤ 260) (h33 : ¬ sQ f N fa p = 33) (h40 : ¬ sQ f N fa p = 40) (hs : FCQ f N k p q fa f1) (hg : f1 = 0 → ¬ SG5 (chF f N q)) (a1 : CM3 (sQ f N f1 q) → q2 = q + 1 ∧ f2 = f1) (a2 : ¬ CM3 (sQ f N f1 q) → q2 = q ∧ f2 = flF f1 1 (nI q)) (hs2 : FCQ f N k q2 q3 f2 fo) (hg2 : fo = 0 → ¬ SG5 (chF f N q3)) : PCQ f N k p q3 fa fo := by
  obtain ⟨b1, b2, b3, b4, b5⟩ := hs
  obtain ⟨c1, c2, c3, c4, c5⟩ := hs2
  have hq2 : q ≤ q2 := by
    rcases Classical.em (CM3 (sQ f N f1 q)) with w | w
    · have := (a1 w).1; omega
    · have := (a2 w).1; omega
  have keep : ¬ f1 = 0 → fo = f1 := by
    intro z
    have e : f2 = f1 := by
      rcases Classical.em (CM3 (sQ f N f1 q)) with w | w
      · exact (a1 w).2
      · rw [(a2 w).2]; exact flF_n z
    rw [e] at c2
    exact c2 z
  refine ⟨c1, fun z => ?_, by omega, c4, fun z => ?_⟩
  · have e := b2 z
    rw [← e]
    exact keep (by rw [e]; exact z)
  · subst z
    rw [sQ0] at h33 h40
    have ho : ¬ OP2 (chF f N p) := fun w => w.elim h33 h40
    by_cases y : f1 = 0
    · subst y
      rw [sQ0] at a1 a2
      have e1 : facS (chF f N) N k 0 p = .inr q := by rw [((b5 rfl).1 rfl).2 0, sumE_0 b4 (hg rfl)]
      by_cases d : CM3 (chF f N q)
      · obtain ⟨e2, e3⟩ := a1 d
        subst e2 e3
        refine ⟨fun w => ⟨by omega, fun m S => ?_⟩, fun w m S => ?_⟩
        · exact pcS_cr ho (by rw [cmpF_r e1 d, ((c5 rfl).1 w).2 0, sumE_0 c4 (hg2 w)])
        · exact pcS_cf ho (by rw [cmpF_r e1 d]; exact (c5 rfl).2 w 0)
      · obtain ⟨e2, e3⟩ := a2 d
        have hn : f2 < 0 := by rw [e3]; exact flF_neg (k := 1) rfl (by decide) (by decide) (by omega) (Or.inl rfl)
        have e4 := c2 (neg_nz hn)
        refine ⟨fun w => absurd (e4.symm.trans w) (neg_nz hn), fun w m S => pcS_cf ho ?_⟩
        rw [cmpF_x e1 d, e4, e3, flF_0]
    · have e4 := keep y
      refine ⟨fun w => absurd (e4.symm.trans w) y, fun w m S => pcS_cf ho ?_⟩
      rw [e4]
      exact cmpF_i ((b5 rfl).2 y 0)
theorem sQj {f : Nat → Int32} {N p : Nat} {fa v : Int32} (hv : ¬ v = -1) (h : sQ f N fa p = v) : fa = 0 ∧ p < N ∧ chF f N p = v := by
  obtain ⟨h0, hp⟩ := sQz (fun z => hv (h.symm.trans z))
  subst h0
  rw [sQ0] at h
  exact ⟨rfl, hp, h⟩
