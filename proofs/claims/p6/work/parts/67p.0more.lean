/-- bytes -/
def BR (N : Nat) (f : Nat → Int32) : Prop := ∀ j, j < N → ∃ n : Nat, n < 256 ∧ f j = nI n
theorem TR.br {T N : Nat} {f g : Nat → Int32} (h : TR T f g) (hN : N ≤ T) : BR N f := by
  intro j hj
  obtain ⟨n, hn, e⟩ := pk_andE (g j) (m := 255) 8 (by decide)
  exact ⟨n, by omega, (h j (by omega)).trans e⟩
theorem kpT0 : ∀ n, n < 256 → iI (0 ≤ ((nI n).toUInt32 % 65536).toInt32 ∧ ((nI n).toUInt32 % 65536).toInt32 ≤ 255) (kp0 (((nI n).toUInt32 % 65536).toInt32.toInt8.toInt32)) (-1) = kp0 (nI n) := by decide +kernel
theorem kpT1 : ∀ n, n < 256 → iI (0 ≤ ((nI n).toUInt32 % 65536).toInt32 ∧ ((nI n).toUInt32 % 65536).toInt32 ≤ 255) (kp1 (((nI n).toUInt32 % 65536).toInt32.toInt8.toInt32)) (-1) = kp1 (nI n) := by decide +kernel
theorem sQb {f : Nat → Int32} {N p : Nat} {fa : Int32} (hb : BR N f) : sQ f N fa p = -1 ∨ ∃ n : Nat, n < 256 ∧ sQ f N fa p = nI n := by
  by_cases h : sQ f N fa p = -1
  · exact Or.inl h
  · obtain ⟨h1, h2⟩ := sQz h
    obtain ⟨n, hn, e⟩ := hb p h2
    refine Or.inr ⟨n, hn, ?_⟩
    have e2 : sQ f N fa p = f p := (if_pos h1).trans (if_pos h2)
    rw [e2, e]
theorem kp0_m : kp0 (-1) = -1 := by decide
theorem kp_neg {f : Nat → Int32} {N p : Nat} {fa x : Int32} (hb : BR N f) (hx : x = sQ f N fa p) (h : x < 0) : x = -1 := by
  rcases sQb (fa := fa) (p := p) hb with e | ⟨n, hn, e⟩
  · rw [hx, e]
  · rw [hx, e] at h; exact absurd h (nI_pos (by omega))
theorem kp_pos {f : Nat → Int32} {N p : Nat} {fa x : Int32} (hb : BR N f) (hx : x = sQ f N fa p) (h : ¬ x < 0) : ∃ n : Nat, n < 256 ∧ x = nI n := by
  rcases sQb (fa := fa) (p := p) hb with e | ⟨n, hn, e⟩
  · rw [hx, e] at h; exact absurd (by decide) h
  · exact ⟨n, hn, hx.trans e⟩
theorem kp1_sg (x : Int32) : kp1 x = -1 ∨ 0 ≤ kp1 x := by
  unfold kp1
  repeat' split
  all_goals first | exact Or.inr (by decide) | exact Or.inl rfl
theorem kp0_sg (x : Int32) : kp0 x = -1 ∨ 0 ≤ kp0 x := by
  unfold kp0
  repeat' split
  all_goals first | exact Or.inr (by decide) | exact Or.inl rfl
theorem kp1_lt {x : Int32} (h : kp1 x < 0) : kp1 x = -1 := (kp1_sg x).resolve_right (fun q => absurd h (Int32.not_lt.mpr q))
theorem kp0_lt {x : Int32} (h : kp0 x < 0) : kp0 x = -1 := (kp0_sg x).resolve_right (fun q => absurd h (Int32.not_lt.mpr q))
theorem kp1_91 {x : Int32} (h : ¬ kp1 x = -1) : ¬ x = 91 := fun q => h (by rw [q]; decide)
/-- a TERM's beginning, as the class reads it -/
def FCQ (f : Nat → Int32) (N k p q : Nat) (fa fo : Int32) : Prop := (fo = 0 ∨ fo < 0) ∧ (¬ fa = 0 → fo = fa) ∧ p ≤ q ∧ q ≤ N ∧ (fa = 0 → (fo = 0 → p < q ∧ ∀ nb, facS (chF f N) N k nb p = sumE (chF f N) N k nb q) ∧ (¬ fo = 0 → ∀ nb, facS (chF f N) N k nb p = .inl fo))
theorem FCQ.more {f : Nat → Int32} {N k p pa q : Nat} {fa fo : Int32} (h : FCQ f N k p pa fa 0) (hs : SG5 (chF f N pa)) (h2 : FCQ f N k (pa + 1) q 0 fo) : FCQ f N k p q fa fo := by
  obtain ⟨_, a2, a3, a4, a5⟩ := h
  obtain ⟨b1, _, b3, b4, b5⟩ := h2
  refine ⟨b1, fun z => absurd (a2 z).symm z, by omega, b4, fun z => ⟨fun w => ⟨by omega, fun nb => ?_⟩, fun w nb => ?_⟩⟩
  · rw [((a5 z).1 rfl).2 nb, sumE_s (chOut f N) hs]; exact ((b5 rfl).1 w).2 nb
  · rw [((a5 z).1 rfl).2 nb, sumE_s (chOut f N) hs]; exact (b5 rfl).2 w nb
theorem FCQ.letter {f : Nat → Int32} {N k p : Nat} {fa : Int32} (h : ¬ kp1 (sQ f N fa p) = -1) : fa = 0 ∧ p < N ∧ FCQ f N k p (p + 1) fa fa := by
  obtain ⟨h0, hp⟩ := sQz (fun z => h (by rw [z]; exact kp1_m))
  subst h0
  rw [sQ0] at h
  refine ⟨rfl, hp, Or.inl rfl, fun z => absurd rfl z, by omega, by omega, fun _ => ⟨fun _ => ⟨by omega, fun nb => facS_l (kp1_91 h) (if_pos h)⟩, fun z => absurd rfl z⟩⟩
theorem nf2_a {f : Nat → Int32} {N M p : Nat} {b : Int32} (y : ndg (chF f N) M p = 0) (hp : p ≤ 260) : nf2 f N 0 M b p = flF 0 1 (nI p) := by
  have hn : flF 0 1 (nI p) < 0 := flF_neg (k := 1) rfl (by decide) (by decide) hp (Or.inl rfl)
  have e : nf1 f N 0 M p = flF 0 1 (nI p) := by
    unfold nf1
    rw [sQ0, if_pos y]
  unfold nf2
  rw [e, sQ0]
  exact if_neg (fun w => absurd w.2.1 (by rw [sQn (neg_nz hn)]; decide))
theorem nf2_b {f : Nat → Int32} {N M p : Nat} {b : Int32} (y : ¬ ndg (chF f N) M p = 0) (d : 48 ≤ chF f N (p + ndg (chF f N) M p) ∧ chF f N (p + ndg (chF f N) M p) ≤ 57) (hb : ¬ b = 0) : nf2 f N 0 M b p = flF 0 b (nI (p + ndg (chF f N) M p)) := by
  have e : nf1 f N 0 M p = 0 := by
    unfold nf1
    rw [sQ0, if_neg y]
  unfold nf2
  rw [e, sQ0]
  exact if_pos ⟨hb, d⟩
theorem nf2_c {f : Nat → Int32} {N M p : Nat} {b : Int32} (y : ¬ ndg (chF f N) M p = 0) (d : ¬ (48 ≤ chF f N (p + ndg (chF f N) M p) ∧ chF f N (p + ndg (chF f N) M p) ≤ 57)) : nf2 f N 0 M b p = 0 := by
  have e : nf1 f N 0 M p = 0 := by
    unfold nf1
    rw [sQ0, if_neg y]
  unfold nf2
  rw [e, sQ0]
  exact if_neg (fun w => d w.2)
theorem FCQ.num {f : Nat → Int32} {N k p : Nat} {fa : Int32} (hN : N ≤ 260) (hp : p ≤ N) (hf : fa = 0 ∨ fa < 0) (h : kp1 (sQ f N fa p) = -1) (h1 : ¬ sQ f N fa p = 91) (hq : p + ndg (sQ f N fa) 5 p ≤ N) : FCQ f N k p (p + ndg (sQ f N fa) 5 p) fa (nf2 f N fa 5 2 p) := by
  by_cases z : fa = 0
  · subst z
    rw [sQ0] at h h1 hq ⊢
    have key : (nf2 f N 0 5 2 p = 0 ∧ ¬ ndg (chF f N) 5 p = 0 ∧ leafF (chF f N) p = .inr (p + ndg (chF f N) 5 p)) ∨ (nf2 f N 0 5 2 p < 0 ∧ leafF (chF f N) p = .inl (nf2 f N 0 5 2 p)) := by
      by_cases y : ndg (chF f N) 5 p = 0
      · rw [nf2_a y (by omega)]
        refine Or.inr ⟨flF_neg (k := 1) rfl (by decide) (by decide) (by omega) (Or.inl rfl), ?_⟩
        unfold leafF
        rw [if_neg (fun w => w h), if_pos y, flF_0]
      · by_cases d : 48 ≤ chF f N (p + ndg (chF f N) 5 p) ∧ chF f N (p + ndg (chF f N) 5 p) ≤ 57
        · rw [nf2_b y d (by decide)]
          refine Or.inr ⟨flF_neg (k := 2) rfl (by decide) (by decide) (by omega) (Or.inl rfl), ?_⟩
          unfold leafF
          rw [if_neg (fun w => w h), if_neg y, if_pos d, flF_0]
        · rw [nf2_c y d]
          refine Or.inl ⟨rfl, y, ?_⟩
          unfold leafF
          rw [if_neg (fun w => w h), if_neg y, if_neg d]
    rcases key with ⟨a, b, e⟩ | ⟨a, e⟩
    · refine ⟨Or.inl a, fun w => absurd rfl w, by omega, hq, fun _ => ⟨fun _ => ⟨by omega, fun nb => facS_l h1 e⟩, fun w => absurd a w⟩⟩
    · refine ⟨Or.inr a, fun w => absurd rfl w, by omega, hq, fun _ => ⟨fun w => absurd w (neg_nz a), fun _ nb => facS_f h1 e⟩⟩
  · rw [nf2_n z]
    exact ⟨hf, fun _ => rfl, by omega, hq, fun w => absurd w z⟩
theorem FCQ.five {f : Nat → Int32} {N p : Nat} {fo : Int32} (hN : N ≤ 260) (hp : p < N) (h : chF f N p = 91) (e : fo = flF 0 5 (nI p)) : FCQ f N 0 p p 0 fo := by
  have hn : fo < 0 := by rw [e]; exact flF_neg (k := 5) rfl (by decide) (by decide) (by omega) (Or.inl rfl)
  exact ⟨Or.inr hn, fun w => absurd rfl w, Nat.le_refl _, by omega, fun _ => ⟨fun w => absurd w (neg_nz hn), fun _ nb => by rw [facS_5 h, e, flF_0]⟩⟩
theorem FCQ.brk {f : Nat → Int32} {N k p q q2 : Nat} {f1 fo : Int32} (hN : N ≤ 260) (h : chF f N p = 91) (hs : FCQ f N k (p + 1) q 0 f1) (hg : f1 = 0 → ¬ SG5 (chF f N q)) (a1 : sQ f N f1 q = 93 → q2 = q + 1 ∧ fo = f1) (a2 : ¬ sQ f N f1 q = 93 → q2 = q ∧ fo = flF f1 1 (nI q)) (hq2 : q2 ≤ N) : FCQ f N (k + 1) p q2 0 fo := by
  obtain ⟨b1, _, b3, b4, b5⟩ := hs
  by_cases z : f1 = 0
  · subst z
    rw [sQ0] at a1 a2
    have hb := ((b5 rfl).1 rfl).2
    by_cases d : chF f N q = 93
    · obtain ⟨e1, e2⟩ := a1 d
      subst e1 e2
      exact ⟨Or.inl rfl, fun w => absurd rfl w, by omega, hq2, fun _ => ⟨fun _ => ⟨by omega, fun nb => by rw [facS_b h, hb, sumE_c (chOut f N) (hg rfl) d]⟩, fun w => absurd rfl w⟩⟩
    · obtain ⟨e1, e2⟩ := a2 d
      subst e1
      have hn : fo < 0 := by rw [e2]; exact flF_neg (k := 1) rfl (by decide) (by decide) (by omega) (Or.inl rfl)
      exact ⟨Or.inr hn, fun w => absurd rfl w, by omega, hq2, fun _ => ⟨fun w => absurd w (neg_nz hn), fun _ nb => by rw [facS_b h, hb, sumE_x b4 (hg rfl) d, e2, flF_0]⟩⟩
  · have e : fo = f1 := by
      rcases Classical.em (sQ f N f1 q = 93) with w | w
      · exact (a1 w).2
      · rw [(a2 w).2]; exact flF_n z
    have hpq : p ≤ q2 := by
      rcases Classical.em (sQ f N f1 q = 93) with w | w
      · have := (a1 w).1; omega
      · have := (a2 w).1; omega
    rw [e]
    exact ⟨b1, fun w => absurd rfl w, hpq, hq2, fun _ => ⟨fun w => absurd w z, fun w nb => by rw [facS_b h]; exact (b5 rfl).2 w _⟩⟩
theorem sgM {v : Int32} (h : MU3 v) : SG5 v := Or.inr h
theorem sgA {v : Int32} (h : AD2 v) : SG5 v := Or.inl h
theorem sQs {f : Nat → Int32} {N p : Nat} {fa : Int32} (h : SG5 (sQ f N fa p)) : fa = 0 ∧ p < N ∧ SG5 (chF f N p) := by
  obtain ⟨h0, hp⟩ := sQz (sg_n h)
  subst h0
  rw [sQ0] at h
  exact ⟨rfl, hp, h⟩
