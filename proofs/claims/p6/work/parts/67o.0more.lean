abbrev MU3 (v : Int32) : Prop := v = 42 ∨ v = 47 ∨ v = 37
abbrev AD2 (v : Int32) : Prop := v = 43 ∨ v = 45
abbrev SG5 (v : Int32) : Prop := (v = 43 ∨ v = 45) ∨ (v = 42 ∨ v = 47 ∨ v = 37)
abbrev CM3 (v : Int32) : Prop := v = 60 ∨ v = 62 ∨ v = 61
abbrev JN2 (v : Int32) : Prop := v = 38 ∨ v = 124
abbrev OP2 (v : Int32) : Prop := v = 33 ∨ v = 40
def OUT (c : Nat → Int32) (N : Nat) : Prop := ∀ q, N ≤ q → c q = -1
theorem OUT.lt {c : Nat → Int32} {N p : Nat} (h : OUT c N) (hp : ¬ c p = -1) : p < N := Nat.not_le.mp fun q => hp (h p q)
theorem chOut (f : Nat → Int32) (N : Nat) : OUT (chF f N) N := fun q hq => if_neg (by omega)
theorem hcOut (f : Nat → Int32) (N : Nat) : OUT (hcF f N) N := fun q hq => hrE hq
theorem sg_n {v : Int32} (h : SG5 v) : ¬ v = -1 := by
  rcases h with (rfl | rfl) | (rfl | rfl | rfl) <;> decide
theorem jn_n {v : Int32} (h : JN2 v) : ¬ v = -1 := by
  rcases h with rfl | rfl <;> decide
theorem op_n {v : Int32} (h : OP2 v) : ¬ v = -1 := by
  rcases h with rfl | rfl <;> decide
theorem cm_n {v : Int32} (h : CM3 v) : ¬ v = -1 := by
  rcases h with rfl | rfl | rfl <;> decide
/-- a letter or a number -/
def leafF (c : Nat → Int32) (p : Nat) : Int32 ⊕ Nat := if ¬ kp1 (c p) = -1 then .inr (p + 1) else if ndg c 5 p = 0 then .inl (-1000 * 1 - nI p) else if 48 ≤ c (p + ndg c 5 p) ∧ c (p + ndg c 5 p) ≤ 57 then .inl (-1000 * 2 - nI (p + ndg c 5 p)) else .inr (p + ndg c 5 p)
theorem kp1_m : kp1 (-1) = -1 := by decide
theorem ndg_N {c : Nat → Int32} {N : Nat} (hc : OUT c N) : ∀ M p, ¬ ndg c M p = 0 → p + ndg c M p ≤ N
  | 0, _, h => absurd rfl h
  | M + 1, p, h => by
    by_cases d : 48 ≤ c p ∧ c p ≤ 57
    · have hp := hc.lt (dgz d)
      rw [ndg_y d]
      by_cases z : ndg c M (p + 1) = 0
      · rw [z]; omega
      · have := ndg_N hc M (p + 1) z; omega
    · exact absurd (ndg_n d) h
theorem leafF_lt {c : Nat → Int32} {N p q : Nat} (hc : OUT c N) (h : leafF c p = .inr q) : p < q ∧ q ≤ N := by
  unfold leafF at h
  by_cases a : ¬ kp1 (c p) = -1
  · rw [if_pos a] at h
    cases h
    have := hc.lt (fun z => a (by rw [z]; exact kp1_m))
    omega
  · rw [if_neg a] at h
    by_cases b : ndg c 5 p = 0
    · rw [if_pos b] at h; cases h
    · rw [if_neg b] at h
      by_cases d : 48 ≤ c (p + ndg c 5 p) ∧ c (p + ndg c 5 p) ≤ 57
      · rw [if_pos d] at h; cases h
      · rw [if_neg d] at h
        cases h
        have := ndg_N hc 5 p b
        omega
/-- what may be opened ahead of it: k more, nb are open -/
def FA (c : Nat → Int32) : Nat → Nat → Nat → Int32 ⊕ (Nat × Nat × Nat)
  | 0, p, nb => if c p = 91 then .inl (-1000 * 5 - nI p) else match leafF c p with
    | .inl f => .inl f
    | .inr q => .inr (0, nb, q)
  | k + 1, p, nb => if c p = 91 then FA c k (p + 1) (nb + 1) else match leafF c p with
    | .inl f => .inl f
    | .inr q => .inr (k + 1, nb, q)
theorem FA_b {c : Nat → Int32} {k p nb : Nat} (h : c p = 91) : FA c (k + 1) p nb = FA c k (p + 1) (nb + 1) := if_pos h
theorem FA_5 {c : Nat → Int32} {p nb : Nat} (h : c p = 91) : FA c 0 p nb = .inl (-1000 * 5 - nI p) := if_pos h
theorem FA_l {c : Nat → Int32} {k p nb q : Nat} (h : ¬ c p = 91) (hl : leafF c p = .inr q) : FA c k p nb = .inr (k, nb, q) := by
  cases k with
  | zero => refine (if_neg h).trans ?_; rw [hl]
  | succ k => refine (if_neg h).trans ?_; rw [hl]
theorem FA_f {c : Nat → Int32} {k p nb : Nat} {f : Int32} (h : ¬ c p = 91) (hl : leafF c p = .inl f) : FA c k p nb = .inl f := by
  cases k with
  | zero => refine (if_neg h).trans ?_; rw [hl]
  | succ k => refine (if_neg h).trans ?_; rw [hl]
theorem FA_lt {c : Nat → Int32} {N : Nat} (hc : OUT c N) : ∀ (k p nb : Nat) (r : Nat × Nat × Nat), FA c k p nb = .inr r → p < r.2.2 ∧ r.2.2 ≤ N := by
  intro k
  induction k with
  | zero =>
    intro p nb r h
    by_cases a : c p = 91
    · rw [FA_5 a] at h; cases h
    · cases e : leafF c p with
      | inl f => rw [FA_f a e] at h; cases h
      | inr q => rw [FA_l a e] at h; cases h; exact leafF_lt hc e
  | succ k ih =>
    intro p nb r h
    by_cases a : c p = 91
    · rw [FA_b a] at h; have := ih _ _ _ h; omega
    · cases e : leafF c p with
      | inl f => rw [FA_f a e] at h; cases h
      | inr q => rw [FA_l a e] at h; cases h; exact leafF_lt hc e
/-- behind a letter or a number -/
def SE (c : Nat → Int32) : Nat → Nat → Nat → Nat → Int32 ⊕ Nat
  | 0, _, _, _ => .inl 0
  | n + 1, k, nb, p => if SG5 (c p) then (match FA c k (p + 1) nb with
    | .inl f => .inl f
    | .inr r => SE c n r.1 r.2.1 r.2.2) else if nb = 0 then .inr p else if c p = 93 then SE c n (k + 1) (nb - 1) (p + 1) else .inl (-1000 * 1 - nI p)
theorem SE_i {c : Nat → Int32} {n k nb p : Nat} {f : Int32} (h : SG5 (c p)) (e : FA c k (p + 1) nb = .inl f) : SE c (n + 1) k nb p = .inl f := by
  refine (if_pos h).trans ?_
  rw [e]
theorem SE_r {c : Nat → Int32} {n k nb p : Nat} {r : Nat × Nat × Nat} (h : SG5 (c p)) (e : FA c k (p + 1) nb = .inr r) : SE c (n + 1) k nb p = SE c n r.1 r.2.1 r.2.2 := by
  refine (if_pos h).trans ?_
  rw [e]
theorem SE_0 {c : Nat → Int32} {n k p : Nat} (h : ¬ SG5 (c p)) : SE c (n + 1) k 0 p = .inr p := (if_neg h).trans (if_pos rfl)
theorem SE_c {c : Nat → Int32} {n k nb p : Nat} (h : ¬ SG5 (c p)) (h1 : c p = 93) : SE c (n + 1) k (nb + 1) p = SE c n (k + 1) nb (p + 1) := (if_neg h).trans ((if_neg (Nat.succ_ne_zero nb)).trans (if_pos h1))
theorem SE_x {c : Nat → Int32} {n k nb p : Nat} (h : ¬ SG5 (c p)) (h1 : ¬ c p = 93) : SE c (n + 1) k (nb + 1) p = .inl (-1000 * 1 - nI p) := (if_neg h).trans ((if_neg (Nat.succ_ne_zero nb)).trans (if_neg h1))
theorem SE_m {c : Nat → Int32} {N : Nat} (hc : OUT c N) : ∀ n m k nb p : Nat, p ≤ N → N < n + p → N < m + p → SE c n k nb p = SE c m k nb p := by
  intro n
  induction n with
  | zero => intro m k nb p h1 h2; omega
  | succ n ih =>
    intro m k nb p h1 h2 h3
    obtain ⟨m, rfl⟩ : ∃ z, m = z + 1 := ⟨m - 1, by omega⟩
    by_cases s : SG5 (c p)
    · cases e : FA c k (p + 1) nb with
      | inl f => rw [SE_i s e, SE_i s e]
      | inr r =>
        have hl := FA_lt hc _ _ _ _ e
        rw [SE_r s e, SE_r s e]
        exact ih _ _ _ _ hl.2 (by omega) (by omega)
    · cases nb with
      | zero => rw [SE_0 s, SE_0 s]
      | succ nb =>
        by_cases d : c p = 93
        · have hp := hc.lt (p := p) (by rw [d]; decide)
          rw [SE_c s d, SE_c s d]
          exact ih _ _ _ _ (by omega) (by omega) (by omega)
        · rw [SE_x s d, SE_x s d]
def sumE (c : Nat → Int32) (N k nb p : Nat) : Int32 ⊕ Nat := SE c (N + 1 - p) k nb p
def facS (c : Nat → Int32) (N k nb p : Nat) : Int32 ⊕ Nat := match FA c k p nb with
  | .inl f => .inl f
  | .inr r => sumE c N r.1 r.2.1 r.2.2
theorem facS_i {c : Nat → Int32} {N k nb p : Nat} {f : Int32} (e : FA c k p nb = .inl f) : facS c N k nb p = .inl f := by
  unfold facS
  rw [e]
theorem facS_r {c : Nat → Int32} {N k nb p : Nat} {r : Nat × Nat × Nat} (e : FA c k p nb = .inr r) : facS c N k nb p = sumE c N r.1 r.2.1 r.2.2 := by
  unfold facS
  rw [e]
theorem facS_b {c : Nat → Int32} {N k nb p : Nat} (h : c p = 91) : facS c N (k + 1) nb p = facS c N k (nb + 1) (p + 1) := by
  unfold facS
  rw [FA_b h]
theorem facS_5 {c : Nat → Int32} {N nb p : Nat} (h : c p = 91) : facS c N 0 nb p = .inl (-1000 * 5 - nI p) := facS_i (FA_5 h)
theorem facS_l {c : Nat → Int32} {N k nb p q : Nat} (h : ¬ c p = 91) (hl : leafF c p = .inr q) : facS c N k nb p = sumE c N k nb q := facS_r (FA_l h hl)
theorem facS_f {c : Nat → Int32} {N k nb p : Nat} {f : Int32} (h : ¬ c p = 91) (hl : leafF c p = .inl f) : facS c N k nb p = .inl f := facS_i (FA_f h hl)
theorem sumE_s {c : Nat → Int32} {N k nb p : Nat} (hc : OUT c N) (h : SG5 (c p)) : sumE c N k nb p = facS c N k nb (p + 1) := by
  have hp := hc.lt (sg_n h)
  unfold sumE
  rw [show N + 1 - p = (N - p) + 1 by omega]
  cases e : FA c k (p + 1) nb with
  | inl f => rw [SE_i h e, facS_i e]
  | inr r =>
    have hl := FA_lt hc _ _ _ _ e
    rw [SE_r h e, facS_r e]
    exact SE_m hc _ _ _ _ _ hl.2 (by omega) (by omega)
theorem sumE_0 {c : Nat → Int32} {N k p : Nat} (hp : p ≤ N) (h : ¬ SG5 (c p)) : sumE c N k 0 p = .inr p := by
  unfold sumE
  rw [show N + 1 - p = (N - p) + 1 by omega]
  exact SE_0 h
theorem sumE_c {c : Nat → Int32} {N k nb p : Nat} (hc : OUT c N) (h : ¬ SG5 (c p)) (h1 : c p = 93) : sumE c N k (nb + 1) p = sumE c N (k + 1) nb (p + 1) := by
  have hp := hc.lt (p := p) (by rw [h1]; decide)
  unfold sumE
  rw [show N + 1 - p = (N - p) + 1 by omega, SE_c h h1, show N + 1 - (p + 1) = N - p by omega]
theorem sumE_x {c : Nat → Int32} {N k nb p : Nat} (hp : p ≤ N) (h : ¬ SG5 (c p)) (h1 : ¬ c p = 93) : sumE c N k (nb + 1) p = .inl (-1000 * 1 - nI p) := by
  unfold sumE
  rw [show N + 1 - p = (N - p) + 1 by omega]
  exact SE_x h h1
/-- two sums and a sign between them -/
def cmpF (c : Nat → Int32) (N k p : Nat) : Int32 ⊕ Nat := match facS c N k 0 p with
  | .inl f => .inl f
  | .inr q => if CM3 (c q) then facS c N k 0 (q + 1) else .inl (-1000 * 1 - nI q)
theorem cmpF_i {c : Nat → Int32} {N k p : Nat} {f : Int32} (e : facS c N k 0 p = .inl f) : cmpF c N k p = .inl f := by
  unfold cmpF
  rw [e]
theorem cmpF_x {c : Nat → Int32} {N k p q : Nat} (e : facS c N k 0 p = .inr q) (h : ¬ CM3 (c q)) : cmpF c N k p = .inl (-1000 * 1 - nI q) := by
  unfold cmpF
  rw [e]
  exact if_neg h
theorem cmpF_r {c : Nat → Int32} {N k p q : Nat} (e : facS c N k 0 p = .inr q) (h : CM3 (c q)) : cmpF c N k p = facS c N k 0 (q + 1) := by
  unfold cmpF
  rw [e]
  exact if_pos h
theorem SE_lt {c : Nat → Int32} {N : Nat} (hc : OUT c N) : ∀ n k nb p q : Nat, p ≤ N → SE c n k nb p = .inr q → p ≤ q ∧ q ≤ N := by
  intro n
  induction n with
  | zero => intro k nb p q _ h; cases h
  | succ n ih =>
    intro k nb p q hp h
    by_cases s : SG5 (c p)
    · cases e : FA c k (p + 1) nb with
      | inl f => rw [SE_i s e] at h; cases h
      | inr r =>
        have hl := FA_lt hc _ _ _ _ e
        rw [SE_r s e] at h
        have := ih _ _ _ _ hl.2 h
        omega
    · cases nb with
      | zero => rw [SE_0 s] at h; cases h; omega
      | succ nb =>
        by_cases d : c p = 93
        · have hp := hc.lt (p := p) (by rw [d]; decide)
          rw [SE_c s d] at h
          have := ih _ _ _ _ (by omega) h
          omega
        · rw [SE_x s d] at h; cases h
theorem facS_lt {c : Nat → Int32} {N k nb p q : Nat} (hc : OUT c N) (h : facS c N k nb p = .inr q) : p < q ∧ q ≤ N := by
  cases e : FA c k p nb with
  | inl f => rw [facS_i e] at h; cases h
  | inr r =>
    have hl := FA_lt hc _ _ _ _ e
    rw [facS_r e] at h
    have := SE_lt hc _ _ _ _ _ hl.2 h
    omega
theorem cmpF_lt {c : Nat → Int32} {N k p q : Nat} (hc : OUT c N) (h : cmpF c N k p = .inr q) : p < q ∧ q ≤ N := by
  cases e : facS c N k 0 p with
  | inl f => rw [cmpF_i e] at h; cases h
  | inr r =>
    have h1 := facS_lt hc e
    by_cases d : CM3 (c r)
    · rw [cmpF_r e d] at h; have := facS_lt hc h; omega
    · rw [cmpF_x e d] at h; cases h
/-- what may be opened ahead of a PIECE: m of ! at this level, those of the levels below in S -/
def OPZ (c : Nat → Int32) : Nat → Nat → List Nat → Nat → Int32 ⊕ (Nat × Nat × List Nat × Nat)
  | 0, m, S, p => if OP2 (c p) then .inl (-1000 * 5 - nI p) else .inr (0, m, S, p)
  | k + 1, m, S, p => if c p = 33 then OPZ c k (m + 1) S (p + 1) else if c p = 40 then OPZ c k 0 (m :: S) (p + 1) else .inr (k + 1, m, S, p)
theorem OPZ_5 {c : Nat → Int32} {m p : Nat} {S : List Nat} (h : OP2 (c p)) : OPZ c 0 m S p = .inl (-1000 * 5 - nI p) := if_pos h
theorem OPZ_n {c : Nat → Int32} {k m p : Nat} {S : List Nat} (h : c p = 33) : OPZ c (k + 1) m S p = OPZ c k (m + 1) S (p + 1) := if_pos h
theorem OPZ_o {c : Nat → Int32} {k m p : Nat} {S : List Nat} (h : c p = 40) : OPZ c (k + 1) m S p = OPZ c k 0 (m :: S) (p + 1) := (if_neg (by rw [h]; decide)).trans (if_pos h)
theorem OPZ_c {c : Nat → Int32} {k m p : Nat} {S : List Nat} (h : ¬ OP2 (c p)) : OPZ c k m S p = .inr (k, m, S, p) := by
  cases k with
  | zero => exact if_neg h
  | succ k => exact (if_neg (fun z => h (Or.inl z))).trans (if_neg (fun z => h (Or.inr z)))
theorem OPZ_le {c : Nat → Int32} : ∀ (k m : Nat) (S : List Nat) (p : Nat) (r : Nat × Nat × List Nat × Nat), OPZ c k m S p = .inr r → p ≤ r.2.2.2 := by
  intro k
  induction k with
  | zero =>
    intro m S p r h
    by_cases a : OP2 (c p)
    · rw [OPZ_5 a] at h; cases h
    · rw [OPZ_c a] at h; cases h; exact Nat.le_refl _
  | succ k ih =>
    intro m S p r h
    by_cases a : c p = 33
    · rw [OPZ_n a] at h; have := ih _ _ _ _ h; omega
    · by_cases b : c p = 40
      · rw [OPZ_o b] at h; have := ih _ _ _ _ h; omega
      · rw [OPZ_c (fun z => z.elim a b)] at h; cases h; exact Nat.le_refl _
/-- behind a PIECE -/
def SA (c : Nat → Int32) (N : Nat) : Nat → Nat → List Nat → Nat → Int32 ⊕ Nat
  | 0, _, _, _ => .inl 0
  | n + 1, k, S, p => if c p = 41 then (match S with
    | [] => .inr (p + 1)
    | m :: S2 => SA c N n (k + 1 + m) S2 (p + 1)) else if JN2 (c p) then (match OPZ c k 0 S (p + 1) with
    | .inl f => .inl f
    | .inr r => match cmpF c N r.1 r.2.2.2 with
      | .inl f => .inl f
      | .inr q => SA c N n (r.1 + r.2.1) r.2.2.1 q) else .inl (-1000 * 1 - nI p)
theorem SA_e {c : Nat → Int32} {N n k p : Nat} (h : c p = 41) : SA c N (n + 1) k [] p = .inr (p + 1) := if_pos h
theorem SA_p {c : Nat → Int32} {N n k m p : Nat} {S : List Nat} (h : c p = 41) : SA c N (n + 1) k (m :: S) p = SA c N n (k + 1 + m) S (p + 1) := if_pos h
theorem SA_x {c : Nat → Int32} {N n k p : Nat} {S : List Nat} (h : ¬ c p = 41) (h1 : ¬ JN2 (c p)) : SA c N (n + 1) k S p = .inl (-1000 * 1 - nI p) := (if_neg h).trans (if_neg h1)
theorem jn_41 {v : Int32} (h : JN2 v) : ¬ v = 41 := by
  rcases h with rfl | rfl <;> decide
theorem SA_i {c : Nat → Int32} {N n k p : Nat} {S : List Nat} {f : Int32} (h : JN2 (c p)) (e : OPZ c k 0 S (p + 1) = .inl f) : SA c N (n + 1) k S p = .inl f := by
  refine (if_neg (jn_41 h)).trans ((if_pos h).trans ?_)
  rw [e]
theorem SA_j {c : Nat → Int32} {N n k p : Nat} {S : List Nat} {f : Int32} {r : Nat × Nat × List Nat × Nat} (h : JN2 (c p)) (e : OPZ c k 0 S (p + 1) = .inr r) (e2 : cmpF c N r.1 r.2.2.2 = .inl f) : SA c N (n + 1) k S p = .inl f := by
  refine (if_neg (jn_41 h)).trans ((if_pos h).trans ?_)
  rw [e]
  show (match cmpF c N r.1 r.2.2.2 with | .inl f => (Sum.inl f : Int32 ⊕ Nat) | .inr q => SA c N n (r.1 + r.2.1) r.2.2.1 q) = _
  rw [e2]
theorem SA_r {c : Nat → Int32} {N n k p q : Nat} {S : List Nat} {r : Nat × Nat × List Nat × Nat} (h : JN2 (c p)) (e : OPZ c k 0 S (p + 1) = .inr r) (e2 : cmpF c N r.1 r.2.2.2 = .inr q) : SA c N (n + 1) k S p = SA c N n (r.1 + r.2.1) r.2.2.1 q := by
  refine (if_neg (jn_41 h)).trans ((if_pos h).trans ?_)
  rw [e]
  show (match cmpF c N r.1 r.2.2.2 with | .inl f => (Sum.inl f : Int32 ⊕ Nat) | .inr q => SA c N n (r.1 + r.2.1) r.2.2.1 q) = _
  rw [e2]
theorem SA_m {c : Nat → Int32} {N : Nat} (hc : OUT c N) : ∀ (n m k : Nat) (S : List Nat) (p : Nat), p ≤ N → N < n + p → N < m + p → SA c N n k S p = SA c N m k S p := by
  intro n
  induction n with
  | zero => intro m k S p h1 h2; omega
  | succ n ih =>
    intro m k S p h1 h2 h3
    obtain ⟨m, rfl⟩ : ∃ z, m = z + 1 := ⟨m - 1, by omega⟩
    by_cases d : c p = 41
    · have hp := hc.lt (p := p) (by rw [d]; decide)
      cases S with
      | nil => rw [SA_e d, SA_e d]
      | cons t S => rw [SA_p d, SA_p d]; exact ih _ _ _ _ (by omega) (by omega) (by omega)
    · by_cases j : JN2 (c p)
      · cases e : OPZ c k 0 S (p + 1) with
        | inl f => rw [SA_i j e, SA_i j e]
        | inr r =>
          have hl := OPZ_le _ _ _ _ _ e
          cases e2 : cmpF c N r.1 r.2.2.2 with
          | inl f => rw [SA_j j e e2, SA_j j e e2]
          | inr q =>
            have h4 := cmpF_lt hc e2
            rw [SA_r j e e2, SA_r j e e2]
            exact ih _ _ _ _ h4.2 (by omega) (by omega)
      · rw [SA_x d j, SA_x d j]
def aftS (c : Nat → Int32) (N k : Nat) (S : List Nat) (p : Nat) : Int32 ⊕ Nat := SA c N (N + 1 - p) k S p
def pcS (c : Nat → Int32) (N k m : Nat) (S : List Nat) (p : Nat) : Int32 ⊕ Nat := match OPZ c k m S p with
  | .inl f => .inl f
  | .inr r => match cmpF c N r.1 r.2.2.2 with
    | .inl f => .inl f
    | .inr q => aftS c N (r.1 + r.2.1) r.2.2.1 q
theorem pcS_i {c : Nat → Int32} {N k m p : Nat} {S : List Nat} {f : Int32} (e : OPZ c k m S p = .inl f) : pcS c N k m S p = .inl f := by
  unfold pcS
  rw [e]
theorem pcS_j {c : Nat → Int32} {N k m p : Nat} {S : List Nat} {f : Int32} {r : Nat × Nat × List Nat × Nat} (e : OPZ c k m S p = .inr r) (e2 : cmpF c N r.1 r.2.2.2 = .inl f) : pcS c N k m S p = .inl f := by
  unfold pcS
  rw [e]
  show (match cmpF c N r.1 r.2.2.2 with | .inl f => (Sum.inl f : Int32 ⊕ Nat) | .inr q => aftS c N (r.1 + r.2.1) r.2.2.1 q) = _
  rw [e2]
theorem pcS_r {c : Nat → Int32} {N k m p q : Nat} {S : List Nat} {r : Nat × Nat × List Nat × Nat} (e : OPZ c k m S p = .inr r) (e2 : cmpF c N r.1 r.2.2.2 = .inr q) : pcS c N k m S p = aftS c N (r.1 + r.2.1) r.2.2.1 q := by
  unfold pcS
  rw [e]
  show (match cmpF c N r.1 r.2.2.2 with | .inl f => (Sum.inl f : Int32 ⊕ Nat) | .inr q => aftS c N (r.1 + r.2.1) r.2.2.1 q) = _
  rw [e2]
theorem pcS_n {c : Nat → Int32} {N k m p : Nat} {S : List Nat} (h : c p = 33) : pcS c N (k + 1) m S p = pcS c N k (m + 1) S (p + 1) := by
  unfold pcS
  rw [OPZ_n h]
theorem pcS_o {c : Nat → Int32} {N k m p : Nat} {S : List Nat} (h : c p = 40) : pcS c N (k + 1) m S p = pcS c N k 0 (m :: S) (p + 1) := by
  unfold pcS
  rw [OPZ_o h]
theorem pcS_5 {c : Nat → Int32} {N m p : Nat} {S : List Nat} (h : OP2 (c p)) : pcS c N 0 m S p = .inl (-1000 * 5 - nI p) := pcS_i (OPZ_5 h)
theorem pcS_cf {c : Nat → Int32} {N k m p : Nat} {S : List Nat} {f : Int32} (h : ¬ OP2 (c p)) (e : cmpF c N k p = .inl f) : pcS c N k m S p = .inl f := pcS_j (OPZ_c h) e
theorem pcS_cr {c : Nat → Int32} {N k m p q : Nat} {S : List Nat} (h : ¬ OP2 (c p)) (e : cmpF c N k p = .inr q) : pcS c N k m S p = aftS c N (k + m) S q := pcS_r (OPZ_c h) e
theorem aftS_e {c : Nat → Int32} {N k p : Nat} (hp : p ≤ N) (h : c p = 41) : aftS c N k [] p = .inr (p + 1) := by
  unfold aftS
  rw [show N + 1 - p = (N - p) + 1 by omega]
  exact SA_e h
theorem aftS_p {c : Nat → Int32} {N k m p : Nat} {S : List Nat} (hc : OUT c N) (h : c p = 41) : aftS c N k (m :: S) p = aftS c N (k + 1 + m) S (p + 1) := by
  have hp := hc.lt (p := p) (by rw [h]; decide)
  unfold aftS
  rw [show N + 1 - p = (N - p) + 1 by omega, SA_p h, show N + 1 - (p + 1) = N - p by omega]
theorem aftS_x {c : Nat → Int32} {N k p : Nat} {S : List Nat} (hp : p ≤ N) (h : ¬ c p = 41) (h1 : ¬ JN2 (c p)) : aftS c N k S p = .inl (-1000 * 1 - nI p) := by
  unfold aftS
  rw [show N + 1 - p = (N - p) + 1 by omega]
  exact SA_x h h1
theorem aftS_j {c : Nat → Int32} {N k p : Nat} {S : List Nat} (hc : OUT c N) (h : JN2 (c p)) : aftS c N k S p = pcS c N k 0 S (p + 1) := by
  have hp := hc.lt (jn_n h)
  unfold aftS
  rw [show N + 1 - p = (N - p) + 1 by omega]
  cases e : OPZ c k 0 S (p + 1) with
  | inl f => rw [SA_i h e, pcS_i e]
  | inr r =>
    have hl := OPZ_le _ _ _ _ _ e
    cases e2 : cmpF c N r.1 r.2.2.2 with
    | inl f => rw [SA_j h e e2, pcS_j e e2]
    | inr q =>
      have h4 := cmpF_lt hc e2
      rw [SA_r h e e2, pcS_r e e2]
      exact SA_m hc _ _ _ _ _ h4.2 (by omega) (by omega)
