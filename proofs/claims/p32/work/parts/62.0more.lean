def JMP (q w : Nat → Int32) (a m n : Nat) : Prop := ∀ k, a ≤ k → k < m → (dK (q k) = 11 ∨ dK (q k) = 12) → (k < dV (q k) ∧ dV (q k) ≤ m ∧ hg q a (dV (q k)) ≤ 1) ∨ ∃ i, i < n ∧ (dK (w i) = 11 ∨ dK (w i) = 12) ∧ dV (w i) = k
def JW (q w : Nat → Int32) (a m n : Nat) : Prop := ∀ i, i < n → (dK (w i) = 11 ∨ dK (w i) = 12) → a ≤ dV (w i) ∧ dV (w i) < m ∧ (dK (q (dV (w i))) = 11 ∨ dK (q (dV (w i))) = 12)
theorem hg_ag {q q' : Nat → Int32} {a k n : Nat} (h : AG q q' n) (hk : k ≤ n) : hg q' a k = hg q a k := hg_congr (fun j _ hj => by rw [h j (by omega)])
theorem JMP.ext {q q' w w' : Nat → Int32} {a Cm Co Wn : Nat} (h : JMP q w a Cm Wn) (ha : AG q q' Cm) (hc : Cm ≤ Co) (hn : NJ q' Cm Co) (hw : AG w w' Wn) : JMP q' w' a Co Wn := by
  intro k h1 h2 h3
  by_cases e : k < Cm
  · rw [ha k e] at h3 ⊢
    rcases h k h1 e h3 with ⟨a1, a2, a3⟩ | ⟨i, i1, i2, i3⟩
    · exact Or.inl ⟨a1, by omega, by rw [hg_ag ha a2]; exact a3⟩
    · exact Or.inr ⟨i, i1, by rw [hw i i1]; exact i2, by rw [hw i i1]; exact i3⟩
  · have h4 := hn k (by omega) h2
    exact absurd h3 (by omega)
theorem JW.ext {q q' w w' : Nat → Int32} {a Cm Co Wn : Nat} (h : JW q w a Cm Wn) (ha : AG q q' Cm) (hc : Cm ≤ Co) (hw : AG w w' Wn) : JW q' w' a Co Wn := by
  intro i hi h3
  rw [hw i hi] at h3 ⊢
  obtain ⟨a1, a2, a3⟩ := h i hi h3
  exact ⟨a1, by omega, by rw [ha _ a2]; exact a3⟩
theorem WK.ag {w w' : Nat → Int32} {n : Nat} (h : WK w n) (hw : AG w w' n) : WK w' n := fun i hi => by rw [hw i hi]; exact h i hi
/-- how a condition stands: h is the height at its end -/
def CI (q w : Nat → Int32) (a Cm Wn P h : Nat) : Prop := a ≤ Cm ∧ SG q a Cm ∧ hg q a Cm = h ∧ JMP q w a Cm Wn ∧ JW q w a Cm Wn ∧ WK w Wn ∧ Cm + pn w Wn ≤ P ∧ Wn ≤ P
theorem CI.start {q w : Nat → Int32} {Cm P : Nat} (h : Cm ≤ P) : CI q w Cm Cm 0 P 0 :=
  ⟨Nat.le_refl _, SG.z q Cm, hg_0 q Cm, fun k h1 h2 => absurd h1 (by omega), fun i hi => absurd hi (Nat.not_lt_zero i), fun i hi => absurd hi (Nat.not_lt_zero i), h, Nat.zero_le _⟩
theorem CI.le {q w : Nat → Int32} {a Cm Wn P P' h : Nat} (hc : CI q w a Cm Wn P h) (hp : P ≤ P') : CI q w a Cm Wn P' h := by
  obtain ⟨c1, c2, c3, c4, c5, c6, c7, c8⟩ := hc
  exact ⟨c1, c2, c3, c4, c5, c6, by omega, by omega⟩
theorem CI.sum {q w q' w' : Nat → Int32} {a b Cm Wn P Co Po : Nat} (h : CI q w a Cm Wn P b) (hs : SUMP q w a b Cm Wn P q' w' Co Po) : CI q' w' a Co Wn Po (b + 1) := by
  obtain ⟨c1, c2, c3, c4, c5, c6, c7, c8⟩ := h
  obtain ⟨s1, s2, s3, s4, s5, s6, s7, s8⟩ := hs
  exact ⟨by omega, s4, s5, c4.ext s3 s2 s6 s1, c5.ext s3 s2 s1, c6.ag s1, by omega, by omega⟩
theorem CI.cmp {q w : Nat → Int32} {a Cm Wn P o : Nat} {x : Int32} (h : CI q w a Cm Wn P 2) (h7 : 7 ≤ o) (h9 : o ≤ 9) (hb : Cm + 1 + pn w Wn ≤ P) (hx : x = nI (1048576 * o + 0)) : CI (upd q Cm x) w a (Cm + 1) Wn P 1 := by
  have hk : dK x = o := by rw [hx]; exact dK_of (by omega) (by decide)
  obtain ⟨c1, c2, c3, c4, c5, c6, c7, c8⟩ := h
  have hag : AG q (upd q Cm x) Cm := (AG.rf q Cm).up (Nat.le_refl _)
  exact ⟨by omega, SG.note c2 (by rw [hx]; exact GX.mk (by omega) (by decide)) (by omega) (by omega) (by omega) (fun _ _ _ _ => by omega), by rw [hg_dn c1 (by omega) (by omega), c3], c4.ext hag (by omega) ((NJ.z q Cm).note (by omega)) (AG.rf w Wn), c5.ext hag (by omega) (AG.rf w Wn), c6, hb, c8⟩
theorem CI.compared {q w q1 w1 q2 w2 : Nat → Int32} {a Cm Wn P C1 P1 C2 P2 o : Nat} {x : Int32} (h : CI q w a Cm Wn P 0) (s1 : SUMP q w a 0 Cm Wn P q1 w1 C1 P1) (s2 : SUMP q1 w1 a 1 C1 Wn (P1 + 1) q2 w2 C2 P2) (h7 : 7 ≤ o) (h9 : o ≤ 9) (hx : x = nI (1048576 * o + 0)) : CI (upd q2 C2 x) w2 a (C2 + 1) Wn P2 1 := by
  have h1 := h.sum s1
  have h2 := (h1.le (Nat.le_succ P1)).sum s2
  have b1 := h1.2.2.2.2.2.2.1
  have b2 := s2.2.2.2.2.2.2.2
  exact h2.cmp h7 h9 (by omega) hx
theorem CI.ends {q w : Nat → Int32} {a Cm n P : Nat} {x : Int32} (h : CI q w a Cm (n + 1) P 1) (ht : dK (w n) = 10) (hx : x = nI (1048576 * 10 + 0)) : CI (upd q Cm x) w a (Cm + 1) n P 1 := by
  have hk : dK x = 10 := by rw [hx]; exact dK_of (by omega) (by decide)
  obtain ⟨c1, c2, c3, c4, c5, c6, c7, c8⟩ := h
  have hag : AG q (upd q Cm x) Cm := (AG.rf q Cm).up (Nat.le_refl _)
  have hp := pn_y (w := w) (n := n) (by omega)
  have c4' : JMP q w a Cm n := by
    intro k h1 h2 h3
    rcases c4 k h1 h2 h3 with h4 | ⟨i, i1, i2, i3⟩
    · exact Or.inl h4
    · refine Or.inr ⟨i, Nat.lt_of_le_of_ne (by omega) (fun e => ?_), i2, i3⟩
      rw [e] at i2; omega
  exact ⟨by omega, SG.note c2 (by rw [hx]; exact GX.mk (by omega) (by decide)) (by omega) (fun _ => by omega) (by omega) (fun _ h10 _ _ => absurd hk h10), by rw [hg_not c1 hk, c3], c4'.ext hag (by omega) ((NJ.z q Cm).note (by omega)) (AG.rf w n), JW.ext (fun i hi => c5 i (by omega)) hag (by omega) (AG.rf w n), fun i hi => c6 i (by omega), by omega, by omega⟩
theorem CI.land {q w : Nat → Int32} {a Cm n P : Nat} {x : Int32} (h : CI q w a Cm (n + 1) P 1) (hP : P ≤ 240) (ht : dK (w n) = 11 ∨ dK (w n) = 12) (hx : x = nI (1048576 * dK (q (dV (w n))) + Cm)) : CI (upd q (dV (w n)) x) w a Cm n P 1 := by
  obtain ⟨c1, c2, c3, c4, c5, c6, c7, c8⟩ := h
  obtain ⟨j1, j2, j3⟩ := c5 n (by omega) ht
  have hk : dK x = dK (q (dV (w n))) := by rw [hx]; exact dK_of (by omega) (by omega)
  have hv : dV x = Cm := by rw [hx]; exact dV_of (by omega) (by omega)
  have hkk : ∀ j, dK (upd q (dV (w n)) x j) = dK (q j) := by
    intro j
    by_cases e : j = dV (w n)
    · rw [e, pk_us, hk]
    · rw [pk_un e]
  have hh : ∀ j, hg (upd q (dV (w n)) x) a j = hg q a j := fun j => hg_congr (fun i _ _ => hkk i)
  have hp := pn_j (w := w) (n := n) ht
  refine ⟨c1, ?_, by rw [hh, c3], ?_, ?_, fun i hi => c6 i (by omega), by omega, by omega⟩
  · intro k h1 h2
    have h3 := c2 k h1 h2
    unfold CC at h3 ⊢
    rw [hkk, hh]
    by_cases e : k = dV (w n)
    · rw [e, pk_us]
      rw [e] at h3
      exact ⟨by rw [hx]; exact GX.mk (by omega) (by omega), fun q => by omega, h3.2.2.1, h3.2.2.2.1, h3.2.2.2.2⟩
    · rw [pk_un e]; exact h3
  · intro k h1 h2 h3
    rw [hkk] at h3
    rw [hh]
    by_cases e : k = dV (w n)
    · rw [e, pk_us, hv]
      exact Or.inl ⟨j2, Nat.le_refl _, by omega⟩
    · rw [pk_un e]
      rcases c4 k h1 h2 h3 with h4 | ⟨i, i1, i2, i3⟩
      · exact Or.inl h4
      · refine Or.inr ⟨i, Nat.lt_of_le_of_ne (by omega) (fun e2 => ?_), i2, i3⟩
        rw [e2] at i3
        exact e i3.symm
  · intro i hi h3
    rw [hkk]
    exact c5 i (by omega) h3
theorem CI.jump {q w : Nat → Int32} {a Cm Wn P o : Nat} {x y : Int32} (h : CI q w a Cm Wn P 1) (hP : P ≤ 240) (ho : o = 11 ∨ o = 12) (hx : x = nI (1048576 * o + 0)) (hy : y = nI (1048576 * o + Cm)) : CI (upd q Cm x) (upd w Wn y) a (Cm + 1) (Wn + 1) (P + 1) 0 := by
  obtain ⟨c1, c2, c3, c4, c5, c6, c7, c8⟩ := h
  have hk : dK x = o := by rw [hx]; exact dK_of (by omega) (by decide)
  have hky : dK y = o := by rw [hy]; exact dK_of (by omega) (by omega)
  have hvy : dV y = Cm := by rw [hy]; exact dV_of (by omega) (by omega)
  have hag : AG q (upd q Cm x) Cm := (AG.rf q Cm).up (Nat.le_refl _)
  have haw : AG w (upd w Wn y) Wn := (AG.rf w Wn).up (Nat.le_refl _)
  refine ⟨by omega, SG.note c2 (by rw [hx]; exact GX.mk (by omega) (by decide)) (by omega) (by omega) (fun _ => c3) (fun _ _ h11 h12 => by omega), by rw [hg_dn c1 (by omega) (by omega), c3], ?_, ?_, ?_, ?_, by omega⟩
  · intro k h1 h2 h3
    by_cases e : k = Cm
    · exact Or.inr ⟨Wn, by omega, by rw [pk_us, hky]; exact ho, by rw [pk_us, hvy, e]⟩
    · have e1 : k < Cm := by omega
      rw [hag k e1] at h3 ⊢
      rcases c4 k h1 e1 h3 with ⟨a1, a2, a3⟩ | ⟨i, i1, i2, i3⟩
      · exact Or.inl ⟨a1, by omega, by rw [hg_ag hag a2]; exact a3⟩
      · exact Or.inr ⟨i, by omega, by rw [haw i i1]; exact i2, by rw [haw i i1]; exact i3⟩
  · intro i hi h3
    by_cases e : i = Wn
    · rw [e, pk_us, hvy, pk_us, hk]
      exact ⟨c1, by omega, ho⟩
    · have e1 : i < Wn := by omega
      rw [haw i e1] at h3 ⊢
      obtain ⟨a1, a2, a3⟩ := c5 i e1 h3
      exact ⟨a1, by omega, by rw [hag _ a2]; exact a3⟩
  · intro i hi
    by_cases e : i = Wn
    · rw [e, pk_us, hky]; exact ⟨by rw [hy]; exact GX.mk (by omega) (by omega), by omega⟩
    · rw [pk_un e]; exact c6 i (by omega)
  · rw [pn_j (by rw [pk_us, hky]; exact ho), pn_ag Wn haw]; omega
theorem CI.opn {q w : Nat → Int32} {a Cm Wn P o h : Nat} {y : Int32} (hc : CI q w a Cm Wn P h) (ho : o = 10 ∨ o = 13) (hy : y = nI (1048576 * o + 0)) : CI q (upd w Wn y) a Cm (Wn + 1) (P + 1) h := by
  obtain ⟨c1, c2, c3, c4, c5, c6, c7, c8⟩ := hc
  have hky : dK y = o := by rw [hy]; exact dK_of (by omega) (by decide)
  have haw : AG w (upd w Wn y) Wn := (AG.rf w Wn).up (Nat.le_refl _)
  refine ⟨c1, c2, c3, ?_, ?_, ?_, ?_, by omega⟩
  · intro k h1 h2 h3
    rcases c4 k h1 h2 h3 with h4 | ⟨i, i1, i2, i3⟩
    · exact Or.inl h4
    · exact Or.inr ⟨i, by omega, by rw [haw i i1]; exact i2, by rw [haw i i1]; exact i3⟩
  · intro i hi h3
    by_cases e : i = Wn
    · rw [e, pk_us, hky] at h3; omega
    · have e1 : i < Wn := by omega
      rw [haw i e1] at h3 ⊢
      exact c5 i e1 h3
  · intro i hi
    by_cases e : i = Wn
    · rw [e, pk_us, hky]; exact ⟨by rw [hy]; exact GX.mk (by omega) (by decide), by omega⟩
    · rw [pk_un e]; exact c6 i (by omega)
  · rw [pn_y (by rw [pk_us, hky]; omega), pn_ag Wn haw]; omega
theorem CI.pop {q w : Nat → Int32} {a Cm Wo P : Nat} (h : CI q w a Cm Wo P 1) (h1 : 1 ≤ Wo) (ht : Wo = 0 ∨ ¬ (dK (w (Wo - 1)) = 11 ∨ dK (w (Wo - 1)) = 12)) : CI q w a Cm (Wo - 1) P 1 := by
  obtain ⟨n, rfl⟩ : ∃ n, Wo = n + 1 := ⟨Wo - 1, by omega⟩
  have ht := ht.resolve_left (by omega)
  have e : n + 1 - 1 = n := by omega
  rw [e] at ht ⊢
  obtain ⟨c1, c2, c3, c4, c5, c6, c7, c8⟩ := h
  have hp := pn_y (w := w) (n := n) ht
  refine ⟨c1, c2, c3, ?_, fun i hi => c5 i (by omega), fun i hi => c6 i (by omega), by omega, by omega⟩
  intro k h1 h2 h3
  rcases c4 k h1 h2 h3 with h4 | ⟨i, i1, i2, i3⟩
  · exact Or.inl h4
  · refine Or.inr ⟨i, Nat.lt_of_le_of_ne (by omega) (fun e => ?_), i2, i3⟩
    rw [e] at i2; exact ht i2
theorem nIk {d o : Nat} (hd : d ≤ 14) (ho : o ≤ 14) : nI d = nI o ↔ d = o := nI_eq (by omega) (by omega)
theorem WFC_of {q : Nat → Int32} {a m : Nat} (hs : SG q a m) (hj : ∀ k, a ≤ k → k < m → (dK (q k) = 11 ∨ dK (q k) = 12) → k < dV (q k) ∧ dV (q k) ≤ m ∧ hg q a (dV (q k)) ≤ 1) : WFC q a m := by
  refine ⟨hg q a, hg_0 q a, fun k h1 h2 => ?_⟩
  obtain ⟨g1, g2, g3, g4, g5⟩ := hs k h1 h2
  have hd := g1.le
  have e := g1.div
  have er := g1.rem
  have hs' := hg_s (q := q) h1
  have i0 := nIk hd (o := 0) (by decide)
  have i1 := nIk hd (o := 1) (by decide)
  have i10 := nIk hd (o := 10) (by decide)
  have i11 := nIk hd (o := 11) (by decide)
  have i12 := nIk hd (o := 12) (by decide)
  unfold STP
  rw [er, e]
  refine ⟨?_, ?_, ?_, ?_, ?_⟩
  · intro h
    have h := i0.mp h
    rw [hs', if_pos (by omega)]
    exact Nat.le_refl _
  · intro h
    have h := i1.mp h
    have h8 := g2 h
    refine ⟨?_, ?_⟩
    · rw [nI_toInt (by omega)]; omega
    · rw [hs', if_pos (by omega)]; exact Nat.le_refl _
  · intro h
    have h := i10.mp h
    exact ⟨g3 h, by rw [hs', if_neg (by omega), if_pos h]; exact Nat.le_refl _⟩
  · intro h
    have h : dK (q k) = 11 ∨ dK (q k) = 12 := h.elim (fun z => Or.inl (i11.mp z)) (fun z => Or.inr (i12.mp z))
    have h4 := g4 h
    obtain ⟨k1, k2, k3⟩ := hj k h1 h2 h
    refine ⟨by omega, ?_, dV (q k), rfl, k1, k2, by omega⟩
    rw [hs', if_neg (by omega), if_neg (by omega)]
    omega
  · intro h0 h1' h10 h11 h12
    have n0 : ¬ dK (q k) = 0 := fun z => h0 (i0.mpr z)
    have n1 : ¬ dK (q k) = 1 := fun z => h1' (i1.mpr z)
    have n10 : ¬ dK (q k) = 10 := fun z => h10 (i10.mpr z)
    have h2' := g5 (by omega) n10 (fun z => h11 (i11.mpr z)) (fun z => h12 (i12.mpr z))
    refine ⟨h2', ?_⟩
    rw [hs', if_neg (by omega), if_neg n10]
    omega
theorem CI.fin {q w : Nat → Int32} {a Cm P h : Nat} (hc : CI q w a Cm 0 P h) : WFC q a Cm := by
  obtain ⟨c1, c2, c3, c4, c5, c6, c7, c8⟩ := hc
  refine WFC_of c2 (fun k h1 h2 h3 => ?_)
  rcases c4 k h1 h2 h3 with h4 | ⟨i, i1, _⟩
  · exact h4
  · exact absurd i1 (Nat.not_lt_zero i)
theorem WFC_nj {q : Nat → Int32} {a m : Nat} (hs : SG q a m) (hn : NJ q a m) : WFC q a m := WFC_of hs (fun k h1 h2 h3 => absurd h3 (by have := hn k h1 h2; omega))
theorem WFC_ag {q q' : Nat → Int32} {a m n : Nat} (h : WFC q a m) (ha : AG q q' n) (hm : m ≤ n) : WFC q' a m := by
  obtain ⟨L, h0, hL⟩ := h
  refine ⟨L, h0, fun k h1 h2 => ?_⟩
  have h3 := hL k h1 h2
  unfold STP at h3 ⊢
  rw [ha k (by omega)]
  exact h3
