def bI (b : Prop) [Decidable b] : Int32 := if b then 1 else 0
theorem bI1 {b : Prop} [Decidable b] (h : b) : (1 : Int32) = bI b := (if_pos h).symm
theorem bI0 {b : Prop} [Decidable b] (h : ¬ b) : (0 : Int32) = bI b := (if_neg h).symm
theorem bIt {b : Prop} [Decidable b] (h : ¬ bI b = 0) : b := Decidable.byContradiction fun q => h (if_neg q)
theorem bIf {b : Prop} [Decidable b] (h : bI b = 0) : ¬ b := fun q => absurd ((if_pos q).symm.trans h) (by decide)
theorem bIn (b : Prop) [Decidable b] : narrow .boolean (.int (bI b)) = .int (bI b) := by
  by_cases h : b
  · rw [show bI b = 1 from if_pos h]; rfl
  · rw [show bI b = 0 from if_neg h]; rfl
theorem sh0 (k : Int32) : ¬ ((0 : Int32) >>> k &&& 1 = 1) := by
  intro h
  have h1 : (0 : Int32) >>> k = 0 := by
    apply Int32.toBitVec_inj.mp
    simp
  rw [h1] at h
  exact absurd h (by decide)
theorem vin {x : Int32} {k : Nat} (h0 : ¬ x < 0) (h1 : ¬ nI k ≤ x) (hk : k < 2 ^ 31) : vp_in x k := by
  rcases pk_ix x hk with h | h | ⟨j, hj, rfl⟩
  · exact absurd h h0
  · exact absurd h h1
  · exact vp_in_nI hj hk
theorem vlt {x : Int32} {k : Nat} (h : vp_in x k) : x.toNatClampNeg < k := Nat.not_le.mp fun q => h (Or.inr q)
theorem dlt {x : Int32} (h : 0 ≤ x) : (-2 : Int32) < x := by
  rw [Int32.le_iff_toInt_le] at h
  rw [Int32.lt_iff_toInt_lt]
  have e1 : (0 : Int32).toInt = 0 := by decide
  have e2 : (-2 : Int32).toInt = -2 := by decide
  omega
theorem updA {f : Nat → Int32} {v : Int32} {n : Nat} (k : Nat) (h : ∀ j, j < n → f j = v) : ∀ j, j < n → upd f k v j = v := by
  intro j hj
  by_cases e : j = k
  · rw [e, pk_us]
  · rw [pk_un e]; exact h j hj
theorem updS {f : Nat → Int32} {v : Int32} {i : Nat} (h : ∀ j, j < i → f j = v) : ∀ j, j < i + 1 → upd f i v j = v := by
  intro j hj
  by_cases e : j = i
  · rw [e, pk_us]
  · rw [pk_un e]; exact h j (by omega)
theorem cpyA {f g : Nat → Int32} {v : Int32} {n : Nat} (h : ∀ j, j < n → f j = v) : ∀ j, j < n → va_cpy f g 0 0 n j = v := by
  intro j hj
  rw [pk_cpy_in (Nat.zero_le j) (by omega)]
  exact h _ (by omega)
theorem drw {k : Nat} (h : k < 65536) : ∃ k2 : Nat, k2 < 65536 ∧ (25173 * nI k + 13849) - (25173 * nI k + 13849) / 65536 * 65536 = nI k2 := by
  refine ⟨(25173 * k + 13849) % 65536, Nat.mod_lt _ (by decide), ?_⟩
  have e1 : (25173 : Int32) * nI k + 13849 = nI (25173 * k + 13849) := by
    rw [show (25173 : Int32) = nI 25173 from rfl, show (13849 : Int32) = nI 13849 from rfl, pk_mul, nI_add]
  rw [e1]
  exact pk_rem (by omega) (by decide) (by decide)
theorem r10 {k : Nat} (h : k < 65536) : ∃ k2 : Nat, k2 < 10 ∧ nI k - nI k / 10 * 10 = nI k2 := ⟨k % 10, Nat.mod_lt _ (by decide), pk_rem (d := 10) (by omega) (by decide) (by decide)⟩
def iI (b : Prop) [Decidable b] (x z : Int32) : Int32 := if b then x else z
theorem iI1 {b : Prop} [Decidable b] {x z : Int32} (h : b) : x = iI b x z := (if_pos h).symm
theorem iI0 {b : Prop} [Decidable b] {x z : Int32} (h : ¬ b) : z = iI b x z := (if_neg h).symm
theorem dcN {x : Int32} {k : Nat} {K : Int32} (hK : K.toInt = k) (h : 1 ≤ x ∧ x ≤ K) : ∃ N : Nat, N ≤ k ∧ x = nI N := nI_of2 hK (fun q => absurd (Int32.lt_of_le_of_lt h.1 q) (by decide)) h.2
theorem inN {x : Int32} {k : Nat} {K : Int32} (hK : K.toInt = k) (h : 0 ≤ x ∧ x ≤ K) : ∃ N : Nat, N ≤ k ∧ x = nI N := nI_of2 hK (Int32.not_lt.mpr h.1) h.2
theorem cg0 {n lo hi : Int32} (h : 0 < lo) : ¬ ((lo ≤ n ∧ n ≤ hi) ∧ n ≤ 0) := fun q => absurd (Int32.lt_of_lt_of_le h q.1.1) (Int32.not_lt.mpr q.2)
theorem le0 {n : Int32} (h : 0 ≤ n) (h1 : n ≤ 0) : n = 0 := Int32.le_antisymm h1 h
theorem aM1 (a : Int32) : a &&& (-1) = a := by
  apply Int32.toBitVec_inj.mp
  simp
theorem c10 {j : Nat} (h : j ≤ 9) : ¬ (¬ nI j = 0 ∧ ¬ nI j = 1 ∧ ¬ nI j = 2 ∧ ¬ nI j = 3 ∧ ¬ nI j = 4 ∧ ¬ nI j = 5 ∧ ¬ nI j = 6 ∧ ¬ nI j = 7 ∧ ¬ nI j = 8 ∧ ¬ nI j = 9) := by
  match j, h with
  | 0, _ => decide
  | 1, _ => decide
  | 2, _ => decide
  | 3, _ => decide
  | 4, _ => decide
  | 5, _ => decide
  | 6, _ => decide
  | 7, _ => decide
  | 8, _ => decide
  | 9, _ => decide
  | k + 10, h => omega
theorem c5 {j : Nat} (h : j ≤ 4) : ¬ (¬ nI j = 0 ∧ ¬ nI j = 1 ∧ ¬ nI j = 2 ∧ ¬ nI j = 3 ∧ ¬ nI j = 4) := by
  match j, h with
  | 0, _ => decide
  | 1, _ => decide
  | 2, _ => decide
  | 3, _ => decide
  | 4, _ => decide
  | k + 5, h => omega
theorem updE {f : Nat → Int32} {v : Int32} {k j : Nat} (h : k = j) : upd f k v j = v := by rw [h, pk_us]
theorem updN {f : Nat → Int32} {v w : Int32} {k j : Nat} (h : ¬ j = k) (e : f j = w) : upd f k v j = w := (pk_un h).trans e
theorem updC {f g : Nat → Int32} {x : Int32} {i : Nat} (h : ∀ j, j < i → g j = f j) (e : x = f i) : ∀ j, j < i + 1 → upd g i x j = f j := by
  intro j hj
  by_cases q : j = i
  · rw [q, pk_us, e]
  · rw [pk_un q]; exact h j (by omega)
theorem rdL {f : Nat → Int32} {k j : Nat} {v : Int32} (e : k = j) (h : f j = v) : f k = v := e ▸ h
theorem sz0 (k : Int32) : (0 : Int32) >>> k &&& 1 = 0 := by
  have h1 : (0 : Int32) >>> k = 0 := by
    apply Int32.toBitVec_inj.mp
    simp
  rw [h1]; decide
theorem bitx : ∀ k, k < 1024 → 0 < k → ¬ ∀ q, q < 10 → ¬ (nI k >>> (nI q &&& 31) &&& 1 = 1) := by decide +kernel
theorem n0 {n : Int32} (h : 1 ≤ n) : ¬ n ≤ 0 := fun q => absurd (Int32.le_trans h q) (by decide)
theorem n1 {n : Int32} (h : 1 ≤ n) : ¬ n = 0 := fun q => absurd (q ▸ h) (by decide)
theorem nobits {x : Int32} (h : 1 ≤ x ∧ x ≤ 1023) : ¬ ∀ q, q < 10 → ¬ (x >>> (nI q &&& 31) &&& 1 = 1) := by
  obtain ⟨N, hN, rfl⟩ := dcN (k := 1023) (by decide) h
  exact bitx N (by omega) (Nat.pos_of_ne_zero fun q => n1 h.1 (by rw [q]; rfl))
theorem j0 {j : Nat} (h : nI j = 0) (hj : j < 1024) : j = 0 := (nI_eq (by omega) (by decide)).mp (h.trans nI_0.symm)
section NWA
variable {p : Program} {l : Launch} {e : Env} {R : Room} {s : State} {m : MethodId} {args : Array Value} {below : List Frame} {meth : Method} {c : Code} {cc : ByteArray} {H H0 : Heap} {locs : List Loc} {cells slots pc : Nat} {Q : State → Prop} {ls : Array Slot} {rest : List Value} {D : va_G} {cI cB : ClassId} {ws : va_W} {A : Nat → Prop}
theorem nwI {n : Int32} {N : Nat} (hx : p.tables.exec = Jvm.exec) (hb : c.code = cc) (harr : (Cond.arrayClass .int).before args s = true) (hK : va_K D vwCl (tyL cI cB) s) (hP : va_P D vwCl ws H) (hD : va_D A ws) (hS : va_S A H0 H locs) (hA : ∀ q, H0.size ≤ q → A q) (hn : ¬ n < 0) (hN : n.toNatClampNeg = N) (hbytes : N * componentBytes .int ≤ 536870912) (hcells : cells + 1 ≤ R.cells) (hslots : slots + N ≤ R.slots) (hdg : decode cc pc = .ok (.newarray .int, 2))
    (kk : ∀ (q : Nat) (H1 : Heap), va_P D vwCl (ws ++ [(q, .inl (cI, N, .inl (fun _ => 0)))]) H1 → va_D A (ws ++ [(q, .inl (cI, N, .inl (fun _ => 0)))]) → va_S A H0 H1 locs → W p l e R s m args below meth c H1 locs (cells + 1) (slots + N) Q (F0 m (pc + 2) ls (.ref q :: rest))) : W p l e R s m args below meth c H locs cells slots Q (F0 m pc ls (.int n :: rest)) := by
  refine va_newa (atype := .int) (ty := .int) (a0 := (N, .inl (fun _ => 0))) hx hb harr rfl hK hP hD hS hA (fun cA => rfl) hn hN hbytes hcells hslots hdg (fun q cA H1 hK1 hP1 hD1 hS1 => ?_)
  have e1 := (hK1.2 2 (cA, .int) rfl).2
  have e2 := (hK.2 0 (cI, .int) rfl).2
  have e3 : cA = cI := Option.some.inj (Eq.trans (Eq.symm e1) e2)
  subst e3
  exact kk q H1 hP1 hD1 hS1
theorem nwB {n : Int32} {N : Nat} (hx : p.tables.exec = Jvm.exec) (hb : c.code = cc) (harr : (Cond.arrayClass .byte).before args s = true) (hK : va_K D vwCl (tyL cI cB) s) (hP : va_P D vwCl ws H) (hD : va_D A ws) (hS : va_S A H0 H locs) (hA : ∀ q, H0.size ≤ q → A q) (hn : ¬ n < 0) (hN : n.toNatClampNeg = N) (hbytes : N * componentBytes .byte ≤ 536870912) (hcells : cells + 1 ≤ R.cells) (hslots : slots + N ≤ R.slots) (hdg : decode cc pc = .ok (.newarray .byte, 2))
    (kk : ∀ (q : Nat) (H1 : Heap), va_P D vwCl (ws ++ [(q, .inl (cB, N, .inl (fun _ => 0)))]) H1 → va_D A (ws ++ [(q, .inl (cB, N, .inl (fun _ => 0)))]) → va_S A H0 H1 locs → W p l e R s m args below meth c H1 locs (cells + 1) (slots + N) Q (F0 m (pc + 2) ls (.ref q :: rest))) : W p l e R s m args below meth c H locs cells slots Q (F0 m pc ls (.int n :: rest)) := by
  refine va_newa (atype := .byte) (ty := .byte) (a0 := (N, .inl (fun _ => 0))) hx hb harr rfl hK hP hD hS hA (fun cA => rfl) hn hN hbytes hcells hslots hdg (fun q cA H1 hK1 hP1 hD1 hS1 => ?_)
  have e1 := (hK1.2 2 (cA, .byte) rfl).2
  have e2 := (hK.2 1 (cB, .byte) rfl).2
  have e3 : cA = cB := Option.some.inj (Eq.trans (Eq.symm e1) e2)
  subst e3
  exact kk q H1 hP1 hD1 hS1
end NWA
theorem lt6 : ∀ {L : Nat}, L < 6 → Int32.ofNat L - 6 < 0
  | 0, _ => by decide
  | 1, _ => by decide
  | 2, _ => by decide
  | 3, _ => by decide
  | 4, _ => by decide
  | 5, _ => by decide
  | k + 6, h => absurd h (by omega)
