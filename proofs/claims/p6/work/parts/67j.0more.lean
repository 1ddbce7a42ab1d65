/-- a row of letters laid down from a place on -/
def rowG (c : Nat → Int32) (q b m : Nat) (G : Nat → Int32) : Nat → Int32 := fun j => if b ≤ j ∧ j < b + m then c (q + (j - b)) - 97 else G j
theorem rowG_0 (c : Nat → Int32) (q b : Nat) (G : Nat → Int32) : rowG c q b 0 G = G := funext fun j => if_neg (by omega)
theorem rowG_in {c : Nat → Int32} {q b m j : Nat} {G : Nat → Int32} (h : b ≤ j ∧ j < b + m) : rowG c q b m G j = c (q + (j - b)) - 97 := if_pos h
theorem rowG_out {c : Nat → Int32} {q b m j : Nat} {G : Nat → Int32} (h : ¬ (b ≤ j ∧ j < b + m)) : rowG c q b m G j = G j := if_neg h
theorem rowG_s (c : Nat → Int32) (q b m : Nat) (G : Nat → Int32) : upd (rowG c q b m G) (b + m) (c (q + m) - 97) = rowG c q b (m + 1) G := by
  funext j
  by_cases e : j = b + m
  · subst e
    rw [pk_us, rowG_in (by omega), Nat.add_sub_cancel_left]
  · rw [pk_un e]
    by_cases h : b ≤ j ∧ j < b + m
    · rw [rowG_in h, rowG_in (by omega)]
    · rw [rowG_out h, rowG_out (by omega)]
def drRow (c : Nat → Int32) : Nat → Nat → Nat → Int32 → Int32 ⊕ Nat
  | 0, p, _, _ => .inr p
  | n + 1, p, m, s => if 97 ≤ c p ∧ c p ≤ 106 then (if s >>> ((c p - 97) &&& 31) &&& 1 = 1 then .inl (-1000 * 6 - nI p) else drRow c n (p + 1) (m + 1) (s ||| (1 : Int32) <<< ((c p - 97) &&& 31))) else (if m = 0 then .inl (-1000 * 1 - nI p) else .inr p)
theorem drRow_y {c : Nat → Int32} {n p m j : Nat} {s : Int32} (h1 : 97 ≤ c p ∧ c p ≤ 106) (hj : c p - 97 = nI j) (hs : ¬ s >>> (nI j &&& 31) &&& 1 = 1) : drRow c (n + 1) p m s = drRow c n (p + 1) (m + 1) (s ||| (1 : Int32) <<< (nI j &&& 31)) := by
  show (if 97 ≤ c p ∧ c p ≤ 106 then (if s >>> ((c p - 97) &&& 31) &&& 1 = 1 then .inl (-1000 * 6 - nI p) else drRow c n (p + 1) (m + 1) (s ||| (1 : Int32) <<< ((c p - 97) &&& 31))) else _) = _
  rw [if_pos h1, hj, if_neg hs]
theorem drRow_6 {c : Nat → Int32} {n p m j : Nat} {s : Int32} (h1 : 97 ≤ c p ∧ c p ≤ 106) (hj : c p - 97 = nI j) (hs : s >>> (nI j &&& 31) &&& 1 = 1) : drRow c (n + 1) p m s = .inl (-1000 * 6 - nI p) := by
  show (if 97 ≤ c p ∧ c p ≤ 106 then (if s >>> ((c p - 97) &&& 31) &&& 1 = 1 then .inl (-1000 * 6 - nI p) else drRow c n (p + 1) (m + 1) (s ||| (1 : Int32) <<< ((c p - 97) &&& 31))) else _) = _
  rw [if_pos h1, hj, if_pos hs]
theorem drRow_1 {c : Nat → Int32} {n p m : Nat} {s : Int32} (h1 : ¬ (97 ≤ c p ∧ c p ≤ 106)) (hm : m = 0) : drRow c (n + 1) p m s = .inl (-1000 * 1 - nI p) := by
  exact (if_neg h1).trans (if_pos hm)
theorem drRow_e {c : Nat → Int32} {n p m : Nat} {s : Int32} (h1 : ¬ (97 ≤ c p ∧ c p ≤ 106)) (hm : ¬ m = 0) : drRow c (n + 1) p m s = .inr p := by
  exact (if_neg h1).trans (if_neg hm)
def drLine (c : Nat → Int32) (p k : Nat) (G M : Nat → Int32) : Int32 ⊕ (Nat × (Nat → Int32) × (Nat → Int32)) :=
  if ¬ (48 ≤ c p ∧ c p ≤ 57) then .inl (-1000 * 1 - nI p) else if k = 12 then .inl (-1000 * 4 - nI p) else if 12 ≤ nvl c 2 p 0 then .inl (-1000 * 3 - nI p) else if ¬ c (p + ndg c 2 p) = 58 then .inl (-1000 * 1 - nI (p + ndg c 2 p)) else
  match drRow c 11 (p + ndg c 2 p + 1) 0 0 with
  | .inl f => .inl f
  | .inr q => .inr (q, rowG c (p + ndg c 2 p + 1) (10 * (nvl c 2 p 0).toNatClampNeg) (q - (p + ndg c 2 p + 1)) G, upd M (nvl c 2 p 0).toNatClampNeg (nI (q - (p + ndg c 2 p + 1))))
theorem drLine_1 {c : Nat → Int32} {p k : Nat} {G M : Nat → Int32} (h : ¬ (48 ≤ c p ∧ c p ≤ 57)) : drLine c p k G M = .inl (-1000 * 1 - nI p) := if_pos h
theorem drLine_4 {c : Nat → Int32} {p k : Nat} {G M : Nat → Int32} (h : 48 ≤ c p ∧ c p ≤ 57) (hk : k = 12) : drLine c p k G M = .inl (-1000 * 4 - nI p) := by
  unfold drLine
  rw [if_neg (fun z => z h), if_pos hk]
theorem drLine_3 {c : Nat → Int32} {p k : Nat} {G M : Nat → Int32} (h : 48 ≤ c p ∧ c p ≤ 57) (hk : ¬ k = 12) (hv : 12 ≤ nvl c 2 p 0) : drLine c p k G M = .inl (-1000 * 3 - nI p) := by
  unfold drLine
  rw [if_neg (fun z => z h), if_neg hk, if_pos hv]
theorem drLine_c {c : Nat → Int32} {p k : Nat} {G M : Nat → Int32} (h : 48 ≤ c p ∧ c p ≤ 57) (hk : ¬ k = 12) (hv : ¬ 12 ≤ nvl c 2 p 0) (hc : ¬ c (p + ndg c 2 p) = 58) : drLine c p k G M = .inl (-1000 * 1 - nI (p + ndg c 2 p)) := by
  unfold drLine
  rw [if_neg (fun z => z h), if_neg hk, if_neg hv, if_pos hc]
theorem drLine_f {c : Nat → Int32} {p k : Nat} {G M : Nat → Int32} {f : Int32} (h : 48 ≤ c p ∧ c p ≤ 57) (hk : ¬ k = 12) (hv : ¬ 12 ≤ nvl c 2 p 0) (hc : c (p + ndg c 2 p) = 58) (hr : drRow c 11 (p + ndg c 2 p + 1) 0 0 = .inl f) : drLine c p k G M = .inl f := by
  unfold drLine
  rw [if_neg (fun z => z h), if_neg hk, if_neg hv, if_neg (fun z => z hc), hr]
theorem drLine_y {c : Nat → Int32} {p k q v : Nat} {G M : Nat → Int32} (h : 48 ≤ c p ∧ c p ≤ 57) (hk : ¬ k = 12) (hv : nvl c 2 p 0 = nI v) (hv9 : v < 12) (hc : c (p + ndg c 2 p) = 58) (hr : drRow c 11 (p + ndg c 2 p + 1) 0 0 = .inr q) : drLine c p k G M = .inr (q, rowG c (p + ndg c 2 p + 1) (10 * v) (q - (p + ndg c 2 p + 1)) G, upd M v (nI (q - (p + ndg c 2 p + 1)))) := by
  have h12 : ¬ (12 : Int32) ≤ nI v := nI_ge (b := 12) hv9 (by decide)
  unfold drLine
  rw [if_neg (fun z => z h), if_neg hk, hv, if_neg h12, if_neg (fun z => z hc), hr, nI_clamp (by omega)]
def drGo (c : Nat → Int32) (N : Nat) : Nat → Nat → Nat → (Nat → Int32) → (Nat → Int32) → Int32 ⊕ (Nat × (Nat → Int32) × (Nat → Int32))
  | 0, _, _, _, _ => .inl 0
  | n + 1, p, k, G, M => match drLine c p k G M with
    | .inl f => .inl f
    | .inr r => if r.1 < N then (if c r.1 = 59 then drGo c N n (r.1 + 1) (k + 1) r.2.1 r.2.2 else .inl (-1000 * 1 - nI r.1)) else .inr (k + 1, r.2.1, r.2.2)
def drEnd (c : Nat → Int32) (N n q k : Nat) (G M : Nat → Int32) : Int32 ⊕ (Nat × (Nat → Int32) × (Nat → Int32)) := if q < N then (if c q = 59 then drGo c N n (q + 1) k G M else .inl (-1000 * 1 - nI q)) else .inr (k, G, M)
def drTot (c : Nat → Int32) (N : Nat) (G : Nat → Int32) : Int32 ⊕ (Nat × (Nat → Int32) × (Nat → Int32)) := drGo c N (N + 2) 0 0 G (fun _ => 0)
theorem drGo_s {c : Nat → Int32} {N n p k q : Nat} {G M G2 M2 : Nat → Int32} (h : drLine c p k G M = .inr (q, G2, M2)) : drGo c N (n + 1) p k G M = drEnd c N n q (k + 1) G2 M2 := by
  show (match drLine c p k G M with | .inl f => (Sum.inl f : Int32 ⊕ (Nat × (Nat → Int32) × (Nat → Int32))) | .inr r => if r.1 < N then (if c r.1 = 59 then drGo c N n (r.1 + 1) (k + 1) r.2.1 r.2.2 else .inl (-1000 * 1 - nI r.1)) else .inr (k + 1, r.2.1, r.2.2)) = _
  rw [h]
  rfl
theorem drGo_f {c : Nat → Int32} {N n p k : Nat} {G M : Nat → Int32} {f : Int32} (h : drLine c p k G M = .inl f) : drGo c N (n + 1) p k G M = .inl f := by
  show (match drLine c p k G M with | .inl f => (Sum.inl f : Int32 ⊕ (Nat × (Nat → Int32) × (Nat → Int32))) | .inr r => if r.1 < N then (if c r.1 = 59 then drGo c N n (r.1 + 1) (k + 1) r.2.1 r.2.2 else .inl (-1000 * 1 - nI r.1)) else .inr (k + 1, r.2.1, r.2.2)) = _
  rw [h]
theorem drEnd_c {c : Nat → Int32} {N n q k : Nat} {G M : Nat → Int32} (h : q < N) (h1 : c q = 59) : drEnd c N n q k G M = drGo c N n (q + 1) k G M := by
  unfold drEnd
  rw [if_pos h, if_pos h1]
theorem drEnd_x {c : Nat → Int32} {N n q k : Nat} {G M : Nat → Int32} (h : q < N) (h1 : ¬ c q = 59) : drEnd c N n q k G M = .inl (-1000 * 1 - nI q) := by
  unfold drEnd
  rw [if_pos h, if_neg h1]
theorem drEnd_e {c : Nat → Int32} {N n q k : Nat} {G M : Nat → Int32} (h : ¬ q < N) : drEnd c N n q k G M = .inr (k, G, M) := if_neg h
theorem nf2_z {f : Nat → Int32} {N p M : Nat} (h : 48 ≤ chF f N p ∧ chF f N p ≤ 57) : nf2 f N 0 (M + 1) 0 p = 0 := by
  unfold nf2 nf1
  rw [sQ0, ndg_y h, if_neg (by omega : ¬ ndg (chF f N) M (p + 1) + 1 = 0), if_neg (fun z => z.1 rfl)]
theorem flF_0 {a b : Int32} : flF 0 a b = -1000 * a - b := if_pos rfl
theorem drStep {f : Nat → Int32} {N n p pb k q : Nat} {fa fb fc : Int32} {G M G2 M2 : Nat → Int32} {X : Int32 ⊕ (Nat × (Nat → Int32) × (Nat → Int32))} (h0 : fa = 0) (hp : p < N) (hX : X = drEnd (chF f N) N (n + 1 + 1) p k G M) (a1 : sQ f N fa p = 59 → pb = p + 1 ∧ fb = fa) (a2 : ¬ sQ f N fa p = 59 → pb = p ∧ fb = flF fa 1 (nI p)) (hN : N ≤ 260) (b1 : ¬ fb = 0 → fc = fb) (b2 : fb = 0 → (fc = 0 ∧ drLine (chF f N) pb k G M = .inr (q, G2, M2)) ∨ (fc < 0 ∧ drLine (chF f N) pb k G M = .inl fc)) : (fc = 0 → X = drEnd (chF f N) N (n + 1) q (k + 1) G2 M2) ∧ (¬ fc = 0 → X = .inl fc) := by
  subst h0
  rw [sQ0] at a1 a2
  by_cases c : chF f N p = 59
  · obtain ⟨e1, e2⟩ := a1 c
    subst e1 e2
    rw [hX, drEnd_c hp c]
    rcases b2 rfl with ⟨z, w⟩ | ⟨z, w⟩
    · exact ⟨fun _ => drGo_s w, fun y => absurd z y⟩
    · exact ⟨fun y => absurd y (neg_nz z), fun _ => drGo_f w⟩
  · have hn : fb < 0 := by rw [(a2 c).2]; exact flF_neg (k := 1) rfl (by decide) (by decide) (by omega) (Or.inl rfl)
    have e := b1 (neg_nz hn)
    refine ⟨fun z => absurd (e.symm.trans z) (neg_nz hn), fun _ => ?_⟩
    rw [hX, drEnd_x hp c, e, (a2 c).2, flF_0]
theorem drTot_1 {f : Nat → Int32} {N q : Nat} {G G2 M2 : Nat → Int32} {fo : Int32} (b2 : (fo = 0 ∧ drLine (chF f N) 0 0 G (fun _ => 0) = .inr (q, G2, M2)) ∨ (fo < 0 ∧ drLine (chF f N) 0 0 G (fun _ => 0) = .inl fo)) : (fo = 0 → drTot (chF f N) N G = drEnd (chF f N) N (N + 1) q 1 G2 M2) ∧ (¬ fo = 0 → drTot (chF f N) N G = .inl fo) := by
  rcases b2 with ⟨z, w⟩ | ⟨z, w⟩
  · exact ⟨fun _ => drGo_s w, fun y => absurd z y⟩
  · exact ⟨fun y => absurd y (neg_nz z), fun _ => drGo_f w⟩
