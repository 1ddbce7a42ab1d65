def q14 (w : Nat → Int32) : Nat → Nat
  | 0 => 0
  | n + 1 => q14 w n + (if dK (w n) = 14 then 1 else 0)
theorem q14_y {w : Nat → Int32} {n : Nat} (h : dK (w n) = 14) : q14 w (n + 1) = q14 w n + 1 := by
  show q14 w n + (if dK (w n) = 14 then 1 else 0) = _
  rw [if_pos h]
theorem q14_n {w : Nat → Int32} {n : Nat} (h : ¬ dK (w n) = 14) : q14 w (n + 1) = q14 w n := by
  show q14 w n + (if dK (w n) = 14 then 1 else 0) = _
  rw [if_neg h]
  rfl
theorem q14_ag {w w' : Nat → Int32} : ∀ n, AG w w' n → q14 w' n = q14 w n := by
  intro n
  induction n with
  | zero => intro _; rfl
  | succ n ih =>
    intro h
    show q14 w' n + (if dK (w' n) = 14 then 1 else 0) = q14 w n + (if dK (w n) = 14 then 1 else 0)
    rw [ih (h.le (by omega)), h n (by omega)]
theorem q14_all {w : Nat → Int32} {n : Nat} : ∀ d, (∀ i, n ≤ i → i < n + d → dK (w i) = 14) → q14 w (n + d) = q14 w n + d := by
  intro d
  induction d with
  | zero => intro _; rfl
  | succ d ih =>
    intro h
    have h2 := ih (fun i hi hj => h i hi (by omega))
    show q14 w (n + d + 1) = _
    rw [q14_y (h (n + d) (by omega) (by omega)), h2]
    omega
theorem q14_non {w : Nat → Int32} {n : Nat} : ∀ d, (∀ i, n ≤ i → i < n + d → ¬ dK (w i) = 14) → q14 w (n + d) = q14 w n := by
  intro d
  induction d with
  | zero => intro _; rfl
  | succ d ih =>
    intro h
    have h2 := ih (fun i hi hj => h i hi (by omega))
    show q14 w (n + d + 1) = _
    rw [q14_n (h (n + d) (by omega) (by omega)), h2]
theorem q14_le (w : Nat → Int32) {n m : Nat} (h : n ≤ m) : q14 w n ≤ q14 w m := by
  induction h with
  | refl => exact Nat.le_refl _
  | step _ ih => exact Nat.le_trans ih (Nat.le_add_right _ _)
theorem q14_ex {w : Nat → Int32} {n m : Nat} (h : ∃ i, n ≤ i ∧ i < m ∧ dK (w i) = 14) : q14 w n < q14 w m := by
  obtain ⟨i, h1, h2, h3⟩ := h
  have a := q14_le w h1
  have b := q14_y h3
  have c := q14_le w (show i + 1 ≤ m by omega)
  omega
theorem q14_no {w : Nat → Int32} {n m : Nat} (hm : n ≤ m) (h : ∀ i, n ≤ i → i < m → ¬ dK (w i) = 14) : q14 w m = q14 w n := by
  obtain ⟨d, rfl⟩ : ∃ d, m = n + d := ⟨m - n, by omega⟩
  exact q14_non d h
theorem CLS.q14 {q w q' : Nat → Int32} {a b Cm Wn Co Wo : Nat} (h : CLS q w a b Cm Wn q' Co Wo) : q14 w Wn = q14 w Wo := q14_no h.1 (fun i h1 h2 => by have := h.2.1 i h1 h2; omega)
theorem FAC.q14 {q w q' w' : Nat → Int32} {a Cm Wn P0 Wo Po : Nat} (h : FAC q w a Cm Wn P0 q' w' Wo Po) : q14 w' Wo = q14 w Wn + (Wo - Wn) := by
  obtain ⟨f1, f2, f3, _⟩ := h
  obtain ⟨d, rfl⟩ : ∃ d, Wo = Wn + d := ⟨Wo - Wn, by omega⟩
  rw [q14_all d (fun i h1 h2 => (f3 i h1 h2).2), q14_ag Wn f2]
  omega
/-- how a sum stands: nb of [ are open in it -/
def RSQ (c : Nat → Int32) (N on P0 Wn : Nat) (wa : Nat → Int32) (Wa oa nb i : Nat) : Prop := facS c N (6 - on) 0 P0 = sumE c N (6 - oa) nb i ∧ oa = on + nb ∧ oa ≤ 6 ∧ q14 wa Wa = q14 wa Wn + nb
theorem RSQ.first {c : Nat → Int32} {N on P0 Wn Wo oo Po : Nat} {q w q' w' : Nat → Int32} {a Cm : Nat} (hf : FAC q w a Cm Wn P0 q' w' Wo Po) (h : FA c (6 - on) P0 0 = .inr (6 - oo, 0 + (Wo - Wn), Po)) (ho : oo = on + (Wo - Wn)) (h6 : oo ≤ 6) : RSQ c N on P0 Wn w' Wo oo (Wo - Wn) Po := by
  refine ⟨?_, ho, h6, ?_⟩
  · rw [facS_r h]
    show sumE c N (6 - oo) (0 + (Wo - Wn)) Po = _
    rw [Nat.zero_add]
  · rw [hf.q14, q14_ag Wn hf.2.1]
theorem RSQ.op {c : Nat → Int32} {N on P0 Wn Wa oa nb i Co Wo o W3 P3 oo : Nat} {q1 w1 q2 f q3 w3 : Nat → Int32} {a b Ca : Nat} (hq : RSQ c N on P0 Wn w1 Wa oa nb i) (hc : OUT c N) (hs : SG5 (c i)) (hcl : CLS q1 w1 a b Ca Wa q2 Co Wo) (hlow : Wn ≤ Wo) (h2 : 2 ≤ o) (h6 : o ≤ 6) (hf : f = upd w1 Wo (nI (1048576 * o + 0))) (hfa : FAC q2 f a Co (Wo + 1) (i + 1) q3 w3 W3 P3) (hF : FA c (6 - oa) (i + 1) nb = .inr (6 - oo, nb + (W3 - (Wo + 1)), P3)) (ho : oo = oa + (W3 - (Wo + 1))) (h66 : oo ≤ 6) : RSQ c N on P0 Wn w3 W3 oo (nb + (W3 - (Wo + 1))) P3 := by
  obtain ⟨a1, a2, a3, a4⟩ := hq
  have hk : dK (nI (1048576 * o + 0)) = o := dK_of (by omega) (by decide)
  have e1 : AG w1 f Wo := by rw [hf]; exact (AG.rf w1 Wo).up (Nat.le_refl Wo)
  refine ⟨?_, by omega, h66, ?_⟩
  · rw [a1, sumE_s hc hs, facS_r hF]
  · have e2 : q14 f (Wo + 1) = q14 w1 Wo := by
      rw [q14_n (by rw [hf, pk_us, hk]; omega), q14_ag Wo e1]
    have e3 : q14 w3 Wn = q14 w1 Wn := q14_ag Wn (AG.tr (e1.le hlow) hfa.2.1 (by omega))
    rw [hfa.q14, e2, e3, ← hcl.q14, a4]
    omega
theorem RSQ.close {c : Nat → Int32} {N on P0 Wn Wa oa nb i Co Wo : Nat} {q1 w1 q2 : Nat → Int32} {a b Ca : Nat} (hq : RSQ c N on P0 Wn w1 Wa oa nb i) (hc : OUT c N) (hs : ¬ SG5 (c i)) (h93 : c i = 93) (hcl : CLS q1 w1 a b Ca Wa q2 Co Wo) (h14 : ∃ j, Wn ≤ j ∧ j < Wa ∧ dK (w1 j) = 14) (hWo : 1 ≤ Wo) (hr : Wn ≤ Wo - 1) (hd : dK (w1 (Wo - 1)) = 14) : 1 ≤ oa ∧ RSQ c N on P0 Wn w1 (Wo - 1) (oa - 1) (nb - 1) (i + 1) := by
  obtain ⟨a1, a2, a3, a4⟩ := hq
  have hx := q14_ex h14
  obtain ⟨m, rfl⟩ : ∃ m, nb = m + 1 := ⟨nb - 1, by omega⟩
  obtain ⟨n, rfl⟩ : ∃ n, Wo = n + 1 := ⟨Wo - 1, by omega⟩
  have e := q14_y (w := w1) (n := n) hd
  have e2 := hcl.q14
  refine ⟨by omega, ?_, by omega, by omega, ?_⟩
  · rw [a1, sumE_c hc hs h93, show 6 - (oa - 1) = 6 - oa + 1 by omega]
    rfl
  · show q14 w1 n = _
    omega
theorem RSQ.bad {c : Nat → Int32} {N on P0 Wn Wa oa nb i : Nat} {w1 : Nat → Int32} (hq : RSQ c N on P0 Wn w1 Wa oa nb i) (hi : i ≤ N) (hs : ¬ SG5 (c i)) (h93 : ¬ c i = 93) (h14 : ∃ j, Wn ≤ j ∧ j < Wa ∧ dK (w1 j) = 14) : facS c N (6 - on) 0 P0 = .inl (-1000 * 1 - nI i) := by
  obtain ⟨a1, a2, a3, a4⟩ := hq
  have hx := q14_ex h14
  obtain ⟨m, rfl⟩ : ∃ m, nb = m + 1 := ⟨nb - 1, by omega⟩
  rw [a1]
  exact sumE_x hi hs h93
theorem RSQ.fin {c : Nat → Int32} {N on P0 Wn Wa oa nb i : Nat} {w1 : Nat → Int32} (hq : RSQ c N on P0 Wn w1 Wa oa nb i) (hi : i ≤ N) (hs : ¬ SG5 (c i)) (hW : Wn ≤ Wa) (hno : ∀ j, Wn ≤ j → j < Wa → ¬ dK (w1 j) = 14) : facS c N (6 - on) 0 P0 = .inr i ∧ oa = on := by
  obtain ⟨a1, a2, a3, a4⟩ := hq
  have hx := q14_no hW hno
  have e : nb = 0 := by omega
  subst e
  rw [a1]
  exact ⟨sumE_0 hi hs, by omega⟩
theorem ndStep {c : Nat → Int32} {K p i : Nat} (hp : p ≤ i) (hj : i < p + K) (h : 48 ≤ c i ∧ c i ≤ 57) (hd : ndg c K p = (i - p) + ndg c (K - (i - p)) i) : ndg c K p = (i + 1 - p) + ndg c (K - (i + 1 - p)) (i + 1) := by
  have e : K - (i - p) = (K - (i + 1 - p)) + 1 := by omega
  rw [e, ndg_y h] at hd
  omega
theorem leaf_l {c : Nat → Int32} {p : Nat} (h : ¬ kp1 (c p) = -1) : leafF c p = .inr (p + 1) := if_pos h
theorem leaf_n {c : Nat → Int32} {p : Nat} (h : kp1 (c p) = -1) (h1 : ¬ (48 ≤ c p ∧ c p ≤ 57)) : leafF c p = .inl (-1000 * 1 - nI p) := by
  unfold leafF
  rw [if_neg (fun z => z h), if_pos (ndg_n h1)]
theorem kp1_dg {x : Int32} (h : 48 ≤ x ∧ x ≤ 57) : kp1 x = -1 := by
  have h1 := Int32.le_iff_toInt_le.mp h.1
  have h2 := Int32.le_iff_toInt_le.mp h.2
  have n : ∀ v : Int32, 57 < v.toInt → ¬ v = x := fun v hv q => by rw [q] at hv; have e : (57 : Int32).toInt = 57 := (by decide); omega
  unfold kp1
  rw [if_neg (n 105 (by decide)), if_neg (n 112 (by decide)), if_neg (n 120 (by decide)), if_neg (n 100 (by decide)), if_neg (n 119 (by decide)), if_neg (n 114 (by decide)), if_neg (n 97 (by decide)), if_neg (n 117 (by decide))]
theorem leaf_d {c : Nat → Int32} {p : Nat} (h : 48 ≤ c p ∧ c p ≤ 57) (h1 : ¬ (48 ≤ c (p + ndg c 5 p) ∧ c (p + ndg c 5 p) ≤ 57)) : leafF c p = .inr (p + ndg c 5 p) := by
  unfold leafF
  have hn : ¬ ndg c 5 p = 0 := by rw [show ndg c 5 p = ndg c 4 (p + 1) + 1 from ndg_y h]; omega
  rw [if_neg (fun z => z (kp1_dg h)), if_neg hn, if_neg h1]
theorem leaf_6 {c : Nat → Int32} {p : Nat} (h : 48 ≤ c p ∧ c p ≤ 57) (h1 : 48 ≤ c (p + ndg c 5 p) ∧ c (p + ndg c 5 p) ≤ 57) : leafF c p = .inl (-1000 * 2 - nI (p + ndg c 5 p)) := by
  unfold leafF
  have hn : ¬ ndg c 5 p = 0 := by rw [show ndg c 5 p = ndg c 4 (p + 1) + 1 from ndg_y h]; omega
  rw [if_neg (fun z => z (kp1_dg h)), if_neg hn, if_pos h1]
theorem dg_91 {x : Int32} (h : 48 ≤ x ∧ x ≤ 57) : ¬ x = 91 := fun q => absurd h.2 (by rw [q]; decide)
theorem kp1_k (x : Int32) : kp1 x = -1 ∨ ∃ j : Nat, j < 8 ∧ kp1 x = nI j := by
  unfold kp1
  repeat' split
  all_goals first | exact Or.inr ⟨0, by decide, rfl⟩ | exact Or.inr ⟨1, by decide, rfl⟩ | exact Or.inr ⟨2, by decide, rfl⟩ | exact Or.inr ⟨3, by decide, rfl⟩ | exact Or.inr ⟨4, by decide, rfl⟩ | exact Or.inr ⟨5, by decide, rfl⟩ | exact Or.inr ⟨6, by decide, rfl⟩ | exact Or.inr ⟨7, by decide, rfl⟩ | exact Or.inl rfl
theorem kp1_j (x : Int32) : kp1 x = -1 ∨ ((∃ j : Nat, j < 8 ∧ kp1 x = nI j) ∧ ¬ x = -1) := by
  by_cases h : kp1 x = -1
  · exact Or.inl h
  · exact Or.inr ⟨(kp1_k x).resolve_left h, fun q => h (by rw [q]; exact kp1_m)⟩
