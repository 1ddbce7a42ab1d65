/-- one LINE of LEAVES: where it ends, who leaves when -/
def lvOne (c : Nat → Int32) (p k : Nat) (F L : Nat → Int32) : Option (Nat × (Nat → Int32) × (Nat → Int32)) :=
  if (97 ≤ c p ∧ c p ≤ 106) ∧ k < 10 ∧ F (c p - 97).toNatClampNeg = -2 ∧ 0 < ndg c 3 (p + 1) ∧ c (p + 1 + ndg c 3 (p + 1)) = 45 ∧ 0 < ndg c 3 (p + 1 + ndg c 3 (p + 1) + 1) ∧ ¬ nvl c 3 (p + 1 + ndg c 3 (p + 1) + 1) 0 < nvl c 3 (p + 1) 0 then
    some (p + 1 + ndg c 3 (p + 1) + 1 + ndg c 3 (p + 1 + ndg c 3 (p + 1) + 1), upd F (c p - 97).toNatClampNeg (nvl c 3 (p + 1) 0), upd L (c p - 97).toNatClampNeg (nvl c 3 (p + 1 + ndg c 3 (p + 1) + 1) 0))
  else none
def lvGo (c : Nat → Int32) (N : Nat) : Nat → Nat → Nat → (Nat → Int32) → (Nat → Int32) → Option ((Nat → Int32) × (Nat → Int32))
  | 0, _, _, _, _ => none
  | n + 1, p, k, F, L => match lvOne c p k F L with
    | none => none
    | some r => if r.1 < N then (if c r.1 = 44 then lvGo c N n (r.1 + 1) (k + 1) r.2.1 r.2.2 else none) else some r.2
/-- behind a LINE -/
def lvEnd (c : Nat → Int32) (N n q k : Nat) (F L : Nat → Int32) : Option ((Nat → Int32) × (Nat → Int32)) := if q < N then (if c q = 44 then lvGo c N n (q + 1) k F L else none) else some (F, L)
def lvTot (c : Nat → Int32) (N : Nat) (gl : Nat → Int32) : Option ((Nat → Int32) × (Nat → Int32)) := lvGo c N (N + 2) 0 0 (fun _ => -2) gl
theorem lvGo_s {c : Nat → Int32} {N n p k : Nat} {F L : Nat → Int32} {q : Nat} {F2 L2 : Nat → Int32} (h : lvOne c p k F L = some (q, F2, L2)) : lvGo c N (n + 1) p k F L = lvEnd c N n q (k + 1) F2 L2 := by
  show (match lvOne c p k F L with | none => none | some r => if r.1 < N then (if c r.1 = 44 then lvGo c N n (r.1 + 1) (k + 1) r.2.1 r.2.2 else none) else some r.2) = _
  rw [h]
  rfl
theorem lvGo_n {c : Nat → Int32} {N n p k : Nat} {F L : Nat → Int32} (h : lvOne c p k F L = none) : lvGo c N n p k F L = none := by
  cases n with
  | zero => rfl
  | succ n =>
    show (match lvOne c p k F L with | none => none | some r => if r.1 < N then (if c r.1 = 44 then lvGo c N n (r.1 + 1) (k + 1) r.2.1 r.2.2 else none) else some r.2) = _
    rw [h]
theorem lvEnd_c {c : Nat → Int32} {N n q k : Nat} {F L : Nat → Int32} (h : q < N) (h1 : c q = 44) : lvEnd c N n q k F L = lvGo c N n (q + 1) k F L := by
  unfold lvEnd
  rw [if_pos h, if_pos h1]
theorem lvEnd_x {c : Nat → Int32} {N n q k : Nat} {F L : Nat → Int32} (h : q < N) (h1 : ¬ c q = 44) : lvEnd c N n q k F L = none := by
  unfold lvEnd
  rw [if_pos h, if_neg h1]
theorem lvEnd_e {c : Nat → Int32} {N n q k : Nat} {F L : Nat → Int32} (h : ¬ q < N) : lvEnd c N n q k F L = some (F, L) := if_neg h
/-- of a LINE that the class refuses, and of all with it, nothing comes -/
def NOL (f : Nat → Int32) (N p k : Nat) (F L : Nat → Int32) : Prop := ∀ n, lvGo (chF f N) N n p k F L = none
theorem NOL.one {f : Nat → Int32} {N p k : Nat} {F L : Nat → Int32} (h : lvOne (chF f N) p k F L = none) : NOL f N p k F L := fun _ => lvGo_n h
theorem NOL.dig {f : Nat → Int32} {N p k q : Nat} {F L F2 L2 : Nat → Int32} (h : lvOne (chF f N) p k F L = some (q, F2, L2)) (hd : 48 ≤ chF f N q ∧ chF f N q ≤ 57) : NOL f N p k F L := by
  intro n
  cases n with
  | zero => rfl
  | succ n =>
    rw [lvGo_s h]
    exact lvEnd_x (chFz (dgz hd)) (fun z => absurd hd.1 (by rw [z]; decide))
/-- what the class has read so far -/
def LREL (sn : Int32) (F L a b : Nat → Int32) : Prop := ∀ j, j < 10 → ((sn >>> (nI j &&& 31) &&& 1 = 1) ↔ ¬ F j = -2) ∧ (¬ F j = -2 → a j = F j ∧ b j = L j)
theorem nvl_pos {c : Nat → Int32} {M p : Nat} {v : Int32} {k : Nat} (hk : k + M ≤ 5) (hv : 0 ≤ v.toInt ∧ v.toInt < 10 ^ k) : 0 ≤ (nvl c M p v).toInt := by
  induction M generalizing p v k with
  | zero => exact hv.1
  | succ M ih =>
    by_cases h : 48 ≤ c p ∧ c p ≤ 57
    · rw [nvl_y h]
      exact ih (k := k + 1) (by omega) (num_step hv (by omega) h)
    · rw [nvl_n h]; exact hv.1
theorem nvl3 (c : Nat → Int32) (p : Nat) : ¬ nvl c 3 p 0 = -2 := by
  have h := nvl_pos (c := c) (M := 3) (p := p) (v := 0) (k := 0) (by decide) (by decide)
  intro q
  rw [q] at h
  exact absurd h (by decide)
theorem LREL.add {sn : Int32} {F L a b : Nat → Int32} {k : Nat} {x y : Int32} (h : LREL sn F L a b) (hk : k < 10) (hx : ¬ x = -2) : LREL (sn ||| (1 : Int32) <<< (nI k &&& 31)) (upd F k x) (upd L k y) (upd a k x) (upd b k y) := by
  intro j hj
  have hb : ((sn ||| (1 : Int32) <<< (nI k &&& 31)) >>> (nI j &&& 31) &&& 1 = 1) ↔ ((sn >>> (nI j &&& 31) &&& 1 = 1) ∨ k = j) := by
    rw [btI _ (by omega), btI _ (by omega), btO (by omega) (by omega)]
    simp
  rw [hb]
  by_cases e : j = k
  · subst e
    rw [pk_us, pk_us, pk_us, pk_us]
    exact ⟨⟨fun _ => hx, fun _ => Or.inr rfl⟩, fun _ => ⟨rfl, rfl⟩⟩
  · rw [pk_un e, pk_un e, pk_un e, pk_un e]
    refine ⟨⟨fun q => (h j hj).1.mp (q.resolve_right (fun z => e z.symm)), fun q => Or.inl ((h j hj).1.mpr q)⟩, (h j hj).2⟩
theorem LREL.z (L a b : Nat → Int32) : LREL 0 (fun _ => -2) L a b := fun j _ => ⟨⟨fun q => absurd q (sh0 _), fun q => absurd rfl q⟩, fun q => absurd rfl q⟩
/-- the DAYS of a LEAVE, as the class reads them -/
theorem lvDays {f : Nat → Int32} {N p p1 p2 p3 : Nat} {f1 f2 f3 f4 r1 r2 : Int32} (hN : N ≤ 260) (hp : p ≤ N) (a1 : p1 = p + ndg (sQ f N 0) 3 p) (a2 : r1 = nvl (sQ f N 0) 3 p 0) (a3 : f1 = nf2 f N 0 3 1 p) (b1 : sQ f N f1 p1 = 45 → p2 = p1 + 1 ∧ f2 = f1) (b2 : ¬ sQ f N f1 p1 = 45 → p2 = p1 ∧ f2 = flF f1 1 (nI p1)) (hp1 : p1 ≤ N) (hp2 : p2 ≤ N) (c1 : p3 = p2 + ndg (sQ f N f2) 3 p2) (c2 : r2 = nvl (sQ f N f2) 3 p2 0) (c3 : f3 = nf2 f N f2 3 1 p2) (hp3 : p3 ≤ N) (d1 : ¬ r2 < r1 → f4 = f3) (d2 : r2 < r1 → f4 = flF f3 7 (nI p2)) :
    (f4 = 0 ∨ f4 < 0) ∧ (f4 = 0 → (0 < ndg (chF f N) 3 p ∧ chF f N (p + ndg (chF f N) 3 p) = 45 ∧ 0 < ndg (chF f N) 3 (p + ndg (chF f N) 3 p + 1) ∧ ¬ nvl (chF f N) 3 (p + ndg (chF f N) 3 p + 1) 0 < nvl (chF f N) 3 p 0) ∧ p3 = p + ndg (chF f N) 3 p + 1 + ndg (chF f N) 3 (p + ndg (chF f N) 3 p + 1) ∧ r1 = nvl (chF f N) 3 p 0 ∧ r2 = nvl (chF f N) 3 (p + ndg (chF f N) 3 p + 1) 0) ∧
    (¬ f4 = 0 → ¬ (0 < ndg (chF f N) 3 p ∧ chF f N (p + ndg (chF f N) 3 p) = 45 ∧ 0 < ndg (chF f N) 3 (p + ndg (chF f N) 3 p + 1) ∧ ¬ nvl (chF f N) 3 (p + ndg (chF f N) 3 p + 1) 0 < nvl (chF f N) 3 p 0) ∨ (48 ≤ chF f N (p + ndg (chF f N) 3 p + 1 + ndg (chF f N) 3 (p + ndg (chF f N) 3 p + 1)) ∧ chF f N (p + ndg (chF f N) 3 p + 1 + ndg (chF f N) 3 (p + ndg (chF f N) 3 p + 1)) ≤ 57)) := by
  rw [sQ0] at a1 a2
  -- a number: what the fault behind it is
  have num : ∀ q : Nat, q ≤ N → (nf2 f N 0 3 1 q = 0 ∧ 0 < ndg (chF f N) 3 q ∧ ¬ (48 ≤ chF f N (q + ndg (chF f N) 3 q) ∧ chF f N (q + ndg (chF f N) 3 q) ≤ 57)) ∨ (nf2 f N 0 3 1 q < 0 ∧ (ndg (chF f N) 3 q = 0 ∨ (48 ≤ chF f N (q + ndg (chF f N) 3 q) ∧ chF f N (q + ndg (chF f N) 3 q) ≤ 57))) := by
    intro q hq
    unfold nf2 nf1
    rw [sQ0]
    by_cases z : ndg (chF f N) 3 q = 0
    · have hn : flF 0 1 (nI q) < 0 := flF_neg (k := 1) rfl (by decide) (by decide) (by omega) (Or.inl rfl)
      rw [if_pos z, if_neg (fun w => absurd w.2.1 (by rw [sQn (neg_nz hn)]; decide))]
      exact Or.inr ⟨hn, Or.inl z⟩
    · rw [if_neg z, sQ0]
      by_cases w : 48 ≤ chF f N (q + ndg (chF f N) 3 q) ∧ chF f N (q + ndg (chF f N) 3 q) ≤ 57
      · rw [if_pos ⟨by decide, w⟩]
        exact Or.inr ⟨flF_neg (k := 1) rfl (by decide) (by decide) (by have := ndg_in f N 3 q hq; omega) (Or.inl rfl), Or.inr w⟩
      · rw [if_neg (fun v => w v.2)]
        exact Or.inl ⟨rfl, by omega, w⟩
  have keep : ∀ x : Int32, x < 0 → f2 = x → f4 = x := by
    intro x hx e
    have e3 : f3 = x := by rw [c3, e]; exact nf2_n (neg_nz hx)
    by_cases q : r2 < r1
    · rw [d2 q, e3]; exact flF_n (neg_nz hx)
    · rw [d1 q, e3]
  rcases num p hp with ⟨h1, h2, h3⟩ | ⟨h1, h2⟩
  · rw [← a3] at h1
    rw [h1, sQ0, a1] at b1 b2
    by_cases m : chF f N (p + ndg (chF f N) 3 p) = 45
    · obtain ⟨e2, e3⟩ := b1 m
      rw [e3, sQ0, e2] at c1 c2
      rw [e3, e2] at c3
      rcases num (p + ndg (chF f N) 3 p + 1) (by omega) with ⟨g1, g2, g3⟩ | ⟨g1, g2⟩
      · by_cases q : r2 < r1
        · have e4 := d2 q
          have hn : f4 < 0 := by rw [e4]; exact flF_neg (k := 7) rfl (by decide) (by decide) (by omega) (Or.inl (c3.trans g1))
          refine ⟨Or.inr hn, fun z => absurd z (neg_nz hn), fun _ => Or.inl (fun w => w.2.2.2 (by rw [← a2, ← c2]; exact q))⟩
        · have e4 : f4 = 0 := (d1 q).trans (c3.trans g1)
          refine ⟨Or.inl e4, fun _ => ⟨⟨h2, m, g2, by rw [← a2, ← c2]; exact q⟩, c1, a2, c2⟩, fun z => absurd e4 z⟩
      · have hn : f4 < 0 := by
          by_cases q : r2 < r1
          · rw [d2 q, c3, flF_n (neg_nz g1)]; exact g1
          · rw [d1 q, c3]; exact g1
        refine ⟨Or.inr hn, fun z => absurd z (neg_nz hn), fun _ => ?_⟩
        rcases g2 with g | g
        · exact Or.inl (fun w => by omega)
        · exact Or.inr g
    · obtain ⟨e2, e3⟩ := b2 m
      have hn : flF 0 1 (nI (p + ndg (chF f N) 3 p)) < 0 := flF_neg (k := 1) rfl (by decide) (by decide) (by omega) (Or.inl rfl)
      have e4 := keep _ hn e3
      exact ⟨Or.inr (by rw [e4]; exact hn), fun z => absurd (e4.symm.trans z) (neg_nz hn), fun _ => Or.inl (fun w => m w.2.1)⟩
  · rw [← a3] at h1
    have e3 : f2 = f1 := by
      rcases Classical.em (sQ f N f1 p1 = 45) with m | m
      · exact (b1 m).2
      · rw [(b2 m).2]; exact flF_n (neg_nz h1)
    have e4 := keep _ h1 e3
    refine ⟨Or.inr (by rw [e4]; exact h1), fun z => absurd (e4.symm.trans z) (neg_nz h1), fun _ => Or.inl (fun w => ?_)⟩
    rcases h2 with g | g
    · omega
    · exact absurd g.2 (by rw [w.2.1]; exact fun z => absurd g.1 (by rw [w.2.1]; decide))
theorem phN {g : Int32} (h : ¬ phF g = -1) : ∃ j : Nat, j < 10 ∧ phF g = nI j ∧ (97 ≤ g ∧ g ≤ 106) ∧ g - 97 = nI j := by
  unfold phF at h ⊢
  by_cases q : 97 ≤ g ∧ g ≤ 106
  · rw [if_pos q] at h ⊢
    obtain ⟨j, hj, e⟩ := inN (k := 9) (by decide) (ph q)
    exact ⟨j, by omega, e, q, e⟩
  · rw [if_neg q] at h; exact absurd rfl h
theorem phZ {g : Int32} (h : phF g = -1) : ¬ (97 ≤ g ∧ g ≤ 106) := by
  intro q
  unfold phF at h
  rw [if_pos q] at h
  have := (ph q).1
  rw [h] at this
  exact absurd this (by decide)
theorem phM : phF (-1) = -1 := by decide
theorem bfr {k : Int32} {j : Nat} (hk : k = nI j) (hj : j < 31) : (0 ≤ k ∧ k < 31) := by
  subst hk
  exact ⟨Int32.not_lt.mp (nI_pos (n := j) (by omega)), nI_lt hj (by decide)⟩
theorem lvOne_y {c : Nat → Int32} {p k j : Nat} {F L : Nat → Int32} (h1 : 97 ≤ c p ∧ c p ≤ 106) (hj : c p - 97 = nI j) (hj9 : j < 10) (hk : k < 10) (hF : F j = -2) (hd : 0 < ndg c 3 (p + 1) ∧ c (p + 1 + ndg c 3 (p + 1)) = 45 ∧ 0 < ndg c 3 (p + 1 + ndg c 3 (p + 1) + 1) ∧ ¬ nvl c 3 (p + 1 + ndg c 3 (p + 1) + 1) 0 < nvl c 3 (p + 1) 0) : lvOne c p k F L = some (p + 1 + ndg c 3 (p + 1) + 1 + ndg c 3 (p + 1 + ndg c 3 (p + 1) + 1), upd F j (nvl c 3 (p + 1) 0), upd L j (nvl c 3 (p + 1 + ndg c 3 (p + 1) + 1) 0)) := by
  unfold lvOne
  rw [hj, nI_clamp (by omega), if_pos ⟨h1, hk, hF, hd⟩]
theorem lvOne_n {c : Nat → Int32} {p k j : Nat} {F L : Nat → Int32} (hj : c p - 97 = nI j) (hj9 : j < 10) (h : ¬ k < 10 ∨ ¬ F j = -2 ∨ ¬ (0 < ndg c 3 (p + 1) ∧ c (p + 1 + ndg c 3 (p + 1)) = 45 ∧ 0 < ndg c 3 (p + 1 + ndg c 3 (p + 1) + 1) ∧ ¬ nvl c 3 (p + 1 + ndg c 3 (p + 1) + 1) 0 < nvl c 3 (p + 1) 0)) : lvOne c p k F L = none := by
  unfold lvOne
  rw [hj, nI_clamp (by omega)]
  exact if_neg (fun q => h.elim (fun z => z q.2.1) (fun z => z.elim (fun w => w q.2.2.1) (fun w => w q.2.2.2)))
theorem lvOne_0 {c : Nat → Int32} {p k : Nat} {F L : Nat → Int32} (h : ¬ (97 ≤ c p ∧ c p ≤ 106)) : lvOne c p k F L = none := if_neg (fun q => h q.1)
theorem lvLine_no {f : Nat → Int32} {N p k j : Nat} {F L : Nat → Int32} (h1 : 97 ≤ chF f N p ∧ chF f N p ≤ 106) (hj : chF f N p - 97 = nI j) (hj9 : j < 10) (hk : k < 10) (hF : F j = -2) (h : ¬ (0 < ndg (chF f N) 3 (p + 1) ∧ chF f N (p + 1 + ndg (chF f N) 3 (p + 1)) = 45 ∧ 0 < ndg (chF f N) 3 (p + 1 + ndg (chF f N) 3 (p + 1) + 1) ∧ ¬ nvl (chF f N) 3 (p + 1 + ndg (chF f N) 3 (p + 1) + 1) 0 < nvl (chF f N) 3 (p + 1) 0) ∨ (48 ≤ chF f N (p + 1 + ndg (chF f N) 3 (p + 1) + 1 + ndg (chF f N) 3 (p + 1 + ndg (chF f N) 3 (p + 1) + 1)) ∧ chF f N (p + 1 + ndg (chF f N) 3 (p + 1) + 1 + ndg (chF f N) 3 (p + 1 + ndg (chF f N) 3 (p + 1) + 1)) ≤ 57)) : NOL f N p k F L := by
  by_cases q : 0 < ndg (chF f N) 3 (p + 1) ∧ chF f N (p + 1 + ndg (chF f N) 3 (p + 1)) = 45 ∧ 0 < ndg (chF f N) 3 (p + 1 + ndg (chF f N) 3 (p + 1) + 1) ∧ ¬ nvl (chF f N) 3 (p + 1 + ndg (chF f N) 3 (p + 1) + 1) 0 < nvl (chF f N) 3 (p + 1) 0
  · exact NOL.dig (lvOne_y h1 hj hj9 hk hF q) (h.resolve_left (fun z => z q))
  · exact NOL.one (lvOne_n hj hj9 (Or.inr (Or.inr q)))
theorem lvStep {f : Nat → Int32} {N n p pb k q : Nat} {fa fb fc : Int32} {F L F2 L2 : Nat → Int32} {X : Option ((Nat → Int32) × (Nat → Int32))} (h0 : fa = 0) (hp : p < N) (hX : X = lvEnd (chF f N) N (n + 1 + 1) p k F L) (a1 : sQ f N fa p = 44 → pb = p + 1 ∧ fb = fa) (a2 : ¬ sQ f N fa p = 44 → pb = p ∧ fb = flF fa 1 (nI p)) (hN : N ≤ 260) (b1 : ¬ fb = 0 → fc = fb) (b2 : fb = 0 → fc = 0 → lvOne (chF f N) pb k F L = some (q, F2, L2)) (b3 : fb = 0 → ¬ fc = 0 → NOL f N pb k F L) : (fc = 0 → X = lvEnd (chF f N) N (n + 1) q (k + 1) F2 L2) ∧ (¬ fc = 0 → X = none) := by
  subst h0
  rw [sQ0] at a1 a2
  by_cases c : chF f N p = 44
  · obtain ⟨e1, e2⟩ := a1 c
    subst e1 e2
    rw [hX, lvEnd_c hp c]
    exact ⟨fun z => lvGo_s (b2 rfl z), fun z => b3 rfl z _⟩
  · have hn : ¬ fb = 0 := by rw [(a2 c).2]; exact neg_nz (flF_neg (k := 1) rfl (by decide) (by decide) (by omega) (Or.inl rfl))
    refine ⟨fun z => absurd ((b1 hn).symm.trans z) hn, fun _ => ?_⟩
    rw [hX]
    exact lvEnd_x hp c
theorem sQ97 {f : Nat → Int32} {N p : Nat} {fa : Int32} (h : 97 ≤ sQ f N fa p ∧ sQ f N fa p ≤ 106) : fa = 0 ∧ p < N := sQz (fun q => absurd h.1 (by rw [q]; decide))
theorem fexp {fa fb : Int32} {p : Nat} {A : Prop} [Decidable A] (h : fa = 0 ∨ fa < 0) (hp : p ≤ 260) (a1 : A → fb = fa) (a2 : ¬ A → fb = flF fa 1 (nI p)) : fb = 0 ∨ fb < 0 := by
  by_cases q : A
  · rw [a1 q]; exact h
  · rw [a2 q]; exact Or.inr (flF_neg (k := 1) rfl (by decide) (by decide) hp h)
theorem nIe {a k : Nat} {x : Int32} (ha : a < 2147483648) (hk : x = nI k) (h : nI a = x) (hk2 : k < 2147483648 := by omega) : a = k := by
  have e1 := nI_toInt ha
  have e2 := nI_toInt hk2
  rw [h, hk, e2] at e1
  omega
theorem lvTot_1 {f : Nat → Int32} {N q : Nat} {gl F L : Nat → Int32} {fo : Int32} (b2 : fo = 0 → lvOne (chF f N) 0 0 (fun _ => -2) gl = some (q, F, L)) (b3 : ¬ fo = 0 → NOL f N 0 0 (fun _ => -2) gl) : (fo = 0 → lvTot (chF f N) N gl = lvEnd (chF f N) N (N + 1) q 1 F L) ∧ (¬ fo = 0 → lvTot (chF f N) N gl = none) := ⟨fun z => lvGo_s (b2 z), fun z => b3 z _⟩
