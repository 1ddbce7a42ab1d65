def WK (w : Nat → Int32) (n : Nat) : Prop := ∀ i, i < n → GX (w i) ∧ 10 ≤ dK (w i)
theorem WK.wg {w : Nat → Int32} {n : Nat} (h : WK w n) : WG w n := fun i hi => (h i hi).1
theorem unit0 (o : Nat) : (1048576 : Int32) * nI o = nI (1048576 * o + 0) := by
  rw [show (1048576 : Int32) = nI 1048576 from rfl, pk_mul, Nat.add_zero]
def RS (q w : Nat → Int32) (a b Cm Wn P0 : Nat) (q' w' : Nat → Int32) (Ca Wa i : Nat) : Prop :=
  Wn ≤ Wa ∧ AG w w' Wn ∧ (∀ j, Wn ≤ j → j < Wa → GX (w' j) ∧ ((2 ≤ dK (w' j) ∧ dK (w' j) ≤ 6) ∨ dK (w' j) = 14)) ∧ Cm ≤ Ca ∧ AG q q' Cm ∧ SG q' a Ca ∧ hg q' a Ca = b + 1 + bn w' Wa ∧ NJ q' Cm Ca ∧ P0 < i ∧ Ca + pn w' Wa + P0 ≤ Cm + pn w Wn + i ∧ Wa ≤ i
theorem RS.first {q w q' w' : Nat → Int32} {a b Cm Wn P0 Wo Po : Nat} (h : FAC q w a Cm Wn P0 q' w' Wo Po) (hb : hg q a Cm = b) (hw : WK w Wn) : RS q w a b Cm Wn P0 q' w' (Cm + 1) Wo Po := by
  obtain ⟨f1, f2, f3, f4, f5, f6, f7, f8, f9, f10⟩ := h
  obtain ⟨d, rfl⟩ : ∃ d, Wo = Wn + d := ⟨Wo - Wn, by omega⟩
  have hp := pn_14 (w := w') (n := Wn) d (fun i h1 h2 => (f3 i h1 h2).2)
  have h0 : bn w' Wn = 0 := by rw [bn_ag Wn f2]; exact bn_0 Wn (fun i hi => (hw i hi).2)
  exact ⟨f1, f2, fun j h1 h2 => ⟨(f3 j h1 h2).1, Or.inr (f3 j h1 h2).2⟩, by omega, f4, f5, by rw [f6, hb, hp.1, h0], f7, f8, f9, f10⟩
theorem RS.wg {q w q' w' : Nat → Int32} {a b Cm Wn P0 Ca Wa i : Nat} (h : RS q w a b Cm Wn P0 q' w' Ca Wa i) (hw : WK w Wn) : WG w' Wa := by
  intro j hj
  by_cases e : j < Wn
  · rw [h.2.1 j e]; exact (hw j e).1
  · exact (h.2.2.1 j (by omega) hj).1
theorem RS.low {q w q1 w1 q2 : Nat → Int32} {a b Cm Wn P0 Ca Wa i Co Wo : Nat} (h : RS q w a b Cm Wn P0 q1 w1 Ca Wa i) (hw : WK w Wn) (hc : CLS q1 w1 a b Ca Wa q2 Co Wo) : Wn ≤ Wo := by
  refine Nat.not_lt.mp fun e => ?_
  have h1 := hc.2.1 Wo (Nat.le_refl _) (by have := h.1; omega)
  rw [h.2.1 Wo e] at h1
  have h2 := (hw Wo e).2
  omega
theorem RS.fpre {q w q1 w1 q2 f : Nat → Int32} {a b Cm Wn P0 Ca Wa i Co Wo o : Nat} (h : RS q w a b Cm Wn P0 q1 w1 Ca Wa i) (hw : WK w Wn) (hc : CLS q1 w1 a b Ca Wa q2 Co Wo) (ha : a ≤ Cm) (hB : Cm + pn w Wn ≤ P0) (h2 : 2 ≤ o) (h6 : o ≤ 6) (hf : f = upd w1 Wo (nI (1048576 * o + 0))) : WG f (Wo + 1) ∧ a ≤ Co ∧ SG q2 a Co ∧ Co + pn f (Wo + 1) ≤ i + 1 ∧ Wo + 1 ≤ i + 1 := by
  have hg := h.wg hw
  have hk : dK (nI (1048576 * o + 0)) = o := dK_of (by omega) (by decide)
  obtain ⟨r1, r2, r3, r4, r5, r6, r7, r8, r9, r10, r11⟩ := h
  obtain ⟨c1, c2, c3, c4, c5, c6, c7, c8⟩ := hc
  refine ⟨?_, by omega, c5, ?_, by omega⟩
  · intro j hj
    rw [hf]
    by_cases e : j = Wo
    · rw [e, pk_us]; exact GX.mk (by omega) (by decide)
    · rw [pk_un e]; exact hg j (by omega)
  · rw [hf, pn_y (by rw [pk_us, hk]; omega), pn_ag (w := w1) Wo ((AG.rf w1 Wo).up (Nat.le_refl Wo))]; omega
theorem RS.op {q w q1 w1 q2 f q3 w3 : Nat → Int32} {a b Cm Wn P0 Ca Wa i Co Wo o W3 P3 : Nat} (h : RS q w a b Cm Wn P0 q1 w1 Ca Wa i) (hw : WK w Wn) (hc : CLS q1 w1 a b Ca Wa q2 Co Wo) (h2 : 2 ≤ o) (h6 : o ≤ 6) (hf : f = upd w1 Wo (nI (1048576 * o + 0))) (hfa : FAC q2 f a Co (Wo + 1) (i + 1) q3 w3 W3 P3) : RS q w a b Cm Wn P0 q3 w3 (Co + 1) W3 P3 := by
  have hlow := h.low hw hc
  have hk : dK (nI (1048576 * o + 0)) = o := dK_of (by omega) (by decide)
  obtain ⟨r1, r2, r3, r4, r5, r6, r7, r8, r9, r10, r11⟩ := h
  obtain ⟨c1, c2, c3, c4, c5, c6, c7, c8⟩ := hc
  obtain ⟨f1, f2, f3, f4, f5, f6, f7, f8, f9, f10⟩ := hfa
  obtain ⟨d, rfl⟩ : ∃ d, W3 = Wo + 1 + d := ⟨W3 - (Wo + 1), by omega⟩
  have hp := pn_14 (w := w3) (n := Wo + 1) d (fun i h1 h2 => (f3 i h1 h2).2)
  have e1 : AG w1 f Wo := by rw [hf]; exact (AG.rf w1 Wo).up (Nat.le_refl Wo)
  have eo : w3 Wo = nI (1048576 * o + 0) := by rw [f2 Wo (by omega), hf, pk_us]
  have hbf : bn w3 (Wo + 1) = bn w1 Wo + 1 := by
    rw [bn_y (by rw [eo, hk]; omega), bn_ag (w := w1) Wo (AG.tr e1 f2 (by omega))]
  refine ⟨by omega, AG.tr (AG.tr r2 e1 hlow) f2 (by omega), ?_, by omega, AG.tr (AG.tr r5 c4 r4) f4 (by omega), f5, ?_, NJ.tr (NJ.tr r8 c7 c4) f7 f4, by omega, ?_, f10⟩
  · intro j h3 h4
    by_cases e : j < Wo
    · rw [f2 j (by omega), e1 j e]; exact r3 j h3 (by omega)
    · by_cases e2 : j = Wo
      · rw [e2, eo]; exact ⟨GX.mk (by omega) (by decide), Or.inl (by rw [hk]; exact ⟨h2, h6⟩)⟩
      · exact ⟨(f3 j (by omega) h4).1, Or.inr (f3 j (by omega) h4).2⟩
  · rw [f6, c6, hp.1, hbf]; omega
  · have hpf : pn f (Wo + 1) = pn w1 Wo + 1 := by rw [hf, pn_y (by rw [pk_us, hk]; omega), pn_ag (w := w1) Wo ((AG.rf w1 Wo).up (Nat.le_refl Wo))]
    omega
theorem RS.close {q w q1 w1 q2 : Nat → Int32} {a b Cm Wn P0 Ca Wa i Co Wo : Nat} (h : RS q w a b Cm Wn P0 q1 w1 Ca Wa i) (hc : CLS q1 w1 a b Ca Wa q2 Co Wo) (h14 : ∃ j, Wn ≤ j ∧ j < Wa ∧ dK (w1 j) = 14) (ht : Wo = 0 ∨ ¬ (2 ≤ dK (w1 (Wo - 1)) ∧ dK (w1 (Wo - 1)) ≤ 6)) : 1 ≤ Wo ∧ RS q w a b Cm Wn P0 q2 w1 Co (Wo - 1) (i + 1) := by
  obtain ⟨r1, r2, r3, r4, r5, r6, r7, r8, r9, r10, r11⟩ := h
  obtain ⟨c1, c2, c3, c4, c5, c6, c7, c8⟩ := hc
  obtain ⟨j, j1, j2, j3⟩ := h14
  have hj : j < Wo := Nat.not_le.mp fun e => by have := c2 j e j2; omega
  obtain ⟨n, rfl⟩ : ∃ n, Wo = n + 1 := ⟨Wo - 1, by omega⟩
  have htop := ht.resolve_left (by omega)
  have e : n + 1 - 1 = n := by omega
  rw [e] at htop ⊢
  have h14 := (r3 n (by omega) (by omega)).2.resolve_left htop
  have hb := bn_n (w := w1) (n := n) htop
  have hp := pn_y (w := w1) (n := n) (by omega)
  exact ⟨by omega, by omega, r2, fun k h1 h2 => r3 k h1 (by omega), by omega, AG.tr r5 c4 r4, c5, by rw [c6, hb], NJ.tr r8 c7 c4, by omega, by omega, by omega⟩
def SUMP (q w : Nat → Int32) (a b Cm Wn P0 : Nat) (q' w' : Nat → Int32) (Co Po : Nat) : Prop :=
  AG w w' Wn ∧ Cm ≤ Co ∧ AG q q' Cm ∧ SG q' a Co ∧ hg q' a Co = b + 1 ∧ NJ q' Cm Co ∧ P0 < Po ∧ Co + pn w' Wn + P0 ≤ Cm + pn w Wn + Po
theorem RS.fin {q w q1 w1 q2 : Nat → Int32} {a b Cm Wn P0 Ca Wa i Co Wo : Nat} (h : RS q w a b Cm Wn P0 q1 w1 Ca Wa i) (hw : WK w Wn) (hc : CLS q1 w1 a b Ca Wa q2 Co Wo) (hno : ∀ j, Wn ≤ j → j < Wa → ¬ dK (w1 j) = 14) (ht : Wo = 0 ∨ ¬ (2 ≤ dK (w1 (Wo - 1)) ∧ dK (w1 (Wo - 1)) ≤ 6)) : Wo = Wn ∧ SUMP q w a b Cm Wn P0 q2 w1 Co i := by
  have hlow := h.low hw hc
  obtain ⟨r1, r2, r3, r4, r5, r6, r7, r8, r9, r10, r11⟩ := h
  obtain ⟨c1, c2, c3, c4, c5, c6, c7, c8⟩ := hc
  have he : Wo = Wn := by
    refine Nat.le_antisymm (Nat.not_lt.mp fun e => ?_) hlow
    have h1 := (r3 (Wo - 1) (by omega) (by omega)).2
    have h2 := ht.resolve_left (by omega)
    exact hno (Wo - 1) (by omega) (by omega) (h1.resolve_left h2)
  subst he
  have h0 : bn w1 Wo = 0 := by rw [bn_ag Wo r2]; exact bn_0 Wo (fun i hi => (hw i hi).2)
  exact ⟨rfl, r2, by omega, AG.tr r5 c4 r4, c5, by rw [c6, h0], NJ.tr r8 c7 c4, r9, by omega⟩
