/-- CHORES of which one is a DOER -/
def coI (t : Nat → Int32) (ch k V : Int32) (i : Nat) : Nat → Int32
  | 0 => V
  | j + 1 => if t (10 * i + j) = k ∧ ch >>> (nI i &&& 31) &&& 1 = 1 then coI t ch k V i j ||| (1 : Int32) <<< (nI i &&& 31) else coI t ch k V i j
def coO (t m : Nat → Int32) (ch k : Int32) : Nat → Int32
  | 0 => 0
  | i + 1 => coI t ch k (coO t m ch k i) i (m i).toNatClampNeg
theorem coI_y {t : Nat → Int32} {ch k V : Int32} {i j : Nat} (h1 : t (10 * i + j) = k) (h2 : ch >>> (nI i &&& 31) &&& 1 = 1) : coI t ch k V i j ||| (1 : Int32) <<< (nI i &&& 31) = coI t ch k V i (j + 1) := (if_pos ⟨h1, h2⟩).symm
theorem coI_n {t : Nat → Int32} {ch k V : Int32} {i j : Nat} (h : ¬ (t (10 * i + j) = k ∧ ch >>> (nI i &&& 31) &&& 1 = 1)) : coI t ch k V i (j + 1) = coI t ch k V i j := if_neg h
theorem coO_s {t m : Nat → Int32} {ch k : Int32} {i q : Nat} (hq : q < 2147483648) (h : m i = nI q) : coO t m ch k (i + 1) = coI t ch k (coO t m ch k i) i q := by
  show coI t ch k (coO t m ch k i) i (m i).toNatClampNeg = _
  rw [h, nI_clamp hq]
theorem coI_e {t t2 : Nat → Int32} {ch k V : Int32} {i m : Nat} (h : ∀ j, j < m → t (10 * i + j) = t2 (10 * i + j)) : coI t ch k V i m = coI t2 ch k V i m := by
  induction m with
  | zero => rfl
  | succ m ih =>
    have e := ih (fun j hj => h j (by omega))
    show (if t (10 * i + m) = k ∧ _ then _ else _) = (if t2 (10 * i + m) = k ∧ _ then _ else _)
    rw [h m (by omega), e]
theorem coO_e {t m t2 m2 : Nat → Int32} {ch k : Int32} {n : Nat} (hn : n ≤ 12) (h : DRK t m t2 m2) (hm : DMK m2) : coO t m ch k n = coO t2 m2 ch k n := by
  induction n with
  | zero => rfl
  | succ n ih =>
    obtain ⟨q, hq, eq⟩ := hm n (by omega)
    have h1 := h n (by omega)
    rw [coO_s (by omega) (h1.1.trans eq), coO_s (by omega) eq, ih (by omega)]
    exact coI_e (fun j hj => h1.2 j (by omega) (by rw [eq]; exact nI_lt hj (by omega)))
/-- what is known of one -/
def piF (pe ch : Int32) (cap F L t m : Nat → Int32) (d p w : Int32) : Int32 :=
  if (0 ≤ p ∧ p < 10) ∧ pe >>> (p &&& 31) &&& 1 = 1 then (if w = 0 then cap p.toNatClampNeg else if w = 1 then F p.toNatClampNeg else if w = 2 then L p.toNatClampNeg else if w = 3 then bI (F p.toNatClampNeg ≤ d ∧ d ≤ L p.toNatClampNeg) else if w = 4 then coO t m ch p 12 else -1) else -1
theorem piF_n {pe ch d p w : Int32} {cap F L t m : Nat → Int32} (h : ¬ ((0 ≤ p ∧ p < 10) ∧ pe >>> (p &&& 31) &&& 1 = 1)) : piF pe ch cap F L t m d p w = -1 := if_neg h
theorem piF_y {pe ch d w : Int32} {q : Nat} {cap F L t m : Nat → Int32} (h : (0 ≤ nI q ∧ nI q < 10) ∧ pe >>> (nI q &&& 31) &&& 1 = 1) (hq : q < 10) : piF pe ch cap F L t m d (nI q) w = (if w = 0 then cap q else if w = 1 then F q else if w = 2 then L q else if w = 3 then bI (F q ≤ d ∧ d ≤ L q) else if w = 4 then coO t m ch (nI q) 12 else -1) := by
  unfold piF
  rw [if_pos h, nI_clamp (by omega)]
theorem piF_e {pe ch pe2 ch2 d p w : Int32} {cap F L t m cap2 F2 L2 t2 m2 : Nat → Int32} (e1 : pe = pe2) (e2 : ch = ch2) (hc : ∀ j, j < 10 → cap j = cap2 j) (hl : LVK F2 L2 F L) (hd : DRK t m t2 m2) (hm : DMK m2) : piF pe ch cap F L t m d p w = piF pe2 ch2 cap2 F2 (fun j => if F2 j = -2 then -2 else L2 j) t2 m2 d p w := by
  subst e1 e2
  by_cases h : (0 ≤ p ∧ p < 10) ∧ pe >>> (p &&& 31) &&& 1 = 1
  · obtain ⟨q, hq, rfl⟩ := n9 (n := 10) h.1 (by decide) (by decide)
    rw [piF_y h hq, piF_y h hq, hc q hq, (hl q hq).1, (hl q hq).2, coO_e (Nat.le_refl 12) hd hm]
  · rw [piF_n h, piF_n h]
theorem lt31 {p : Int32} (h : p < 10) : p < 31 := Int32.lt_trans h (by decide)
theorem lt31c {p : Int32} (h : p < 12) : p < 31 := Int32.lt_trans h (by decide)
theorem RGn {f : Nat → Int32} (h : RG f) {i : Nat} (hi : i < 12) : ∃ q : Nat, q ≤ 10 ∧ f i = nI q := by
  obtain ⟨j, hj, e⟩ := toN (x := f i) (n := 11) (h i hi).1 (by have := (h i hi).2; omega) (by decide)
  exact ⟨j, by omega, e⟩
theorem aw0 {fl flt : Nat → Int32} {k : Nat} {d : Int32} (h : fl k = -2) (hd : (-2 : Int32) < d) : ¬ (fl k ≤ d ∧ d ≤ (if fl k = -2 then -2 else flt k)) := by
  rw [if_pos h]
  exact fun q => absurd hd (Int32.not_lt.mpr q.2)
theorem aw1 {fl flt : Nat → Int32} {k : Nat} {d : Int32} (h : ¬ fl k = -2) : (fl k ≤ d ∧ d ≤ (if fl k = -2 then -2 else flt k)) ↔ (fl k ≤ d ∧ d ≤ flt k) := by
  rw [if_neg h]
theorem m2lt {n : Nat} (h : n ≤ 9999) : (-2 : Int32) < nI n := by
  rw [Int32.lt_iff_toInt_lt, nI_toInt (by omega)]
  have e : (-2 : Int32).toInt = -2 := by decide
  omega
theorem toldE {C : Prop} {a b a2 b2 v : Int32} {f g f2 g2 : Nat → Int32} {k : Nat} {x : Int32} (e : a = b) (h : ∀ j, j < 10 → f j = g j) (h1 : C → a2 = (a ||| v) ∧ f2 = upd f k x) (h2 : ¬ C → a2 = a ∧ f2 = f) (h3 : C → b2 = (b ||| v) ∧ g2 = upd g k x) (h4 : ¬ C → b2 = b ∧ g2 = g) : a2 = b2 ∧ ∀ j, j < 10 → f2 j = g2 j := by
  by_cases q : C
  · rw [(h1 q).1, (h3 q).1, (h1 q).2, (h3 q).2, e]
    refine ⟨rfl, fun j hj => ?_⟩
    by_cases z : j = k
    · rw [z, pk_us, pk_us]
    · rw [pk_un z, pk_un z]; exact h j hj
  · rw [(h2 q).1, (h4 q).1, (h2 q).2, (h4 q).2]
    exact ⟨e, h⟩
theorem toldC {C : Prop} {a b a2 b2 v : Int32} (e : a = b) (h1 : C → a2 = (a ||| v) ∧ True) (h2 : ¬ C → a2 = a ∧ True) (h3 : C → b2 = (b ||| v) ∧ True) (h4 : ¬ C → b2 = b ∧ True) : a2 = b2 := by
  by_cases q : C
  · rw [(h1 q).1, (h3 q).1, e]
  · rw [(h2 q).1, (h4 q).1, e]
