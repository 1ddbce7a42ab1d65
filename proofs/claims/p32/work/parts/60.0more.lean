/-! the reference's reader of THE LAW: codes, what waits, heights -/
def dK (x : Int32) : Nat := x.toNatClampNeg / 1048576
def dV (x : Int32) : Nat := x.toNatClampNeg % 1048576
def GX (x : Int32) : Prop := ∃ o v : Nat, o ≤ 14 ∧ v < 1048576 ∧ x = nI (1048576 * o + v)
theorem dK_of {o v : Nat} (ho : o ≤ 14) (hv : v < 1048576) : dK (nI (1048576 * o + v)) = o := by
  unfold dK
  rw [nI_clamp (by omega)]
  omega
theorem dV_of {o v : Nat} (ho : o ≤ 14) (hv : v < 1048576) : dV (nI (1048576 * o + v)) = v := by
  unfold dV
  rw [nI_clamp (by omega)]
  omega
theorem unit_ (o v : Nat) : (1048576 : Int32) * nI o + nI v = nI (1048576 * o + v) := by
  rw [show (1048576 : Int32) = nI 1048576 from rfl, pk_mul, nI_add]
theorem GX.div {x : Int32} (h : GX x) : x / 1048576 = nI (dK x) := by
  obtain ⟨o, v, ho, hv, rfl⟩ := h
  rw [dK_of ho hv, show (1048576 : Int32) = nI 1048576 from rfl, pk_div (by omega) (by decide) (by decide)]
  congr 1
  omega
theorem GX.rem {x : Int32} (h : GX x) : x - x / 1048576 * 1048576 = nI (dV x) := by
  obtain ⟨o, v, ho, hv, rfl⟩ := h
  rw [dV_of ho hv, show (1048576 : Int32) = nI 1048576 from rfl, pk_rem (by omega) (by decide) (by decide)]
  congr 1
  omega
theorem GX.le {x : Int32} (h : GX x) : dK x ≤ 14 := by
  obtain ⟨o, v, ho, hv, rfl⟩ := h
  rw [dK_of ho hv]; exact ho
theorem GX.lv {x : Int32} (h : GX x) : dV x < 1048576 := by
  obtain ⟨o, v, ho, hv, rfl⟩ := h
  rw [dV_of ho hv]; exact hv
theorem GX.mk {o v : Nat} (ho : o ≤ 14) (hv : v < 1048576) : GX (nI (1048576 * o + v)) := ⟨o, v, ho, hv, rfl⟩
def HT (q : Nat → Int32) (a : Nat) : Nat → Nat
  | 0 => 0
  | d + 1 => if dK (q (a + d)) ≤ 1 then HT q a d + 1 else if dK (q (a + d)) = 10 then HT q a d else HT q a d - 1
def hg (q : Nat → Int32) (a k : Nat) : Nat := HT q a (k - a)
theorem hg_0 (q : Nat → Int32) (a : Nat) : hg q a a = 0 := by
  unfold hg
  rw [Nat.sub_self]
  rfl
theorem hg_s {q : Nat → Int32} {a k : Nat} (h : a ≤ k) : hg q a (k + 1) = if dK (q k) ≤ 1 then hg q a k + 1 else if dK (q k) = 10 then hg q a k else hg q a k - 1 := by
  unfold hg
  have e : k + 1 - a = (k - a) + 1 := by omega
  have e2 : a + (k - a) = k := by omega
  rw [e]
  show (if dK (q (a + (k - a))) ≤ 1 then HT q a (k - a) + 1 else if dK (q (a + (k - a))) = 10 then HT q a (k - a) else HT q a (k - a) - 1) = _
  rw [e2]
theorem HT_congr {q q' : Nat → Int32} {a : Nat} : ∀ d, (∀ j, j < d → dK (q (a + j)) = dK (q' (a + j))) → HT q a d = HT q' a d := by
  intro d
  induction d with
  | zero => intro _; rfl
  | succ d ih =>
    intro h
    show (if dK (q (a + d)) ≤ 1 then HT q a d + 1 else if dK (q (a + d)) = 10 then HT q a d else HT q a d - 1) = (if dK (q' (a + d)) ≤ 1 then HT q' a d + 1 else if dK (q' (a + d)) = 10 then HT q' a d else HT q' a d - 1)
    rw [ih (fun j hj => h j (by omega)), h d (by omega)]
theorem hg_congr {q q' : Nat → Int32} {a k : Nat} (h : ∀ j, a ≤ j → j < k → dK (q j) = dK (q' j)) : hg q a k = hg q' a k := by
  unfold hg
  exact HT_congr _ (fun j hj => h (a + j) (by omega) (by omega))
theorem hg_upd {q : Nat → Int32} {a k m : Nat} {x : Int32} (hk : k ≤ m) : hg (upd q m x) a k = hg q a k := hg_congr (fun j _ hj => by rw [pk_un (by omega)])
theorem hg_n {q : Nat → Int32} {a m : Nat} {x : Int32} (h : a ≤ m) : hg (upd q m x) a (m + 1) = if dK x ≤ 1 then hg q a m + 1 else if dK x = 10 then hg q a m else hg q a m - 1 := by
  rw [hg_s h, pk_us, hg_upd (Nat.le_refl m)]
theorem hg_up {q : Nat → Int32} {a m : Nat} {x : Int32} (h : a ≤ m) (hx : dK x ≤ 1) : hg (upd q m x) a (m + 1) = hg q a m + 1 := by rw [hg_n h, if_pos hx]
theorem hg_not {q : Nat → Int32} {a m : Nat} {x : Int32} (h : a ≤ m) (hx : dK x = 10) : hg (upd q m x) a (m + 1) = hg q a m := by rw [hg_n h, if_neg (by omega), if_pos hx]
theorem hg_dn {q : Nat → Int32} {a m : Nat} {x : Int32} (h : a ≤ m) (hx : 2 ≤ dK x) (h10 : ¬ dK x = 10) : hg (upd q m x) a (m + 1) = hg q a m - 1 := by rw [hg_n h, if_neg (by omega), if_neg h10]
def CC (q : Nat → Int32) (a k : Nat) : Prop := GX (q k) ∧ (dK (q k) = 1 → dV (q k) < 8) ∧ (dK (q k) = 10 → 1 ≤ hg q a k) ∧ (dK (q k) = 11 ∨ dK (q k) = 12 → hg q a k = 1) ∧ (2 ≤ dK (q k) → ¬ dK (q k) = 10 → ¬ dK (q k) = 11 → ¬ dK (q k) = 12 → 2 ≤ hg q a k)
def SG (q : Nat → Int32) (a m : Nat) : Prop := ∀ k, a ≤ k → k < m → CC q a k
theorem SG.z (q : Nat → Int32) (a : Nat) : SG q a a := fun k h1 h2 => absurd h1 (by omega)
theorem SG.note {q : Nat → Int32} {a m : Nat} {x : Int32} (h : SG q a m) (hx : GX x) (c1 : dK x = 1 → dV x < 8) (c2 : dK x = 10 → 1 ≤ hg q a m) (c3 : dK x = 11 ∨ dK x = 12 → hg q a m = 1) (c4 : 2 ≤ dK x → ¬ dK x = 10 → ¬ dK x = 11 → ¬ dK x = 12 → 2 ≤ hg q a m) : SG (upd q m x) a (m + 1) := by
  intro k h1 h2
  by_cases e : k = m
  · subst e
    unfold CC
    rw [pk_us, hg_upd (Nat.le_refl k)]
    exact ⟨hx, c1, c2, c3, c4⟩
  · have h3 := h k h1 (by omega)
    unfold CC at h3 ⊢
    rw [pk_un e, hg_upd (by omega)]
    exact h3
def NJ (q : Nat → Int32) (m n : Nat) : Prop := ∀ k, m ≤ k → k < n → ¬ dK (q k) = 11 ∧ ¬ dK (q k) = 12
theorem NJ.z (q : Nat → Int32) (m : Nat) : NJ q m m := fun k h1 h2 => absurd h1 (by omega)
theorem NJ.note {q : Nat → Int32} {m n : Nat} {x : Int32} (h : NJ q m n) (hx : ¬ dK x = 11 ∧ ¬ dK x = 12) : NJ (upd q n x) m (n + 1) := by
  intro k h1 h2
  by_cases e : k = n
  · rw [e, pk_us]; exact hx
  · rw [pk_un e]; exact h k h1 (by omega)
def AG (q q' : Nat → Int32) (n : Nat) : Prop := ∀ k, k < n → q' k = q k
theorem AG.rf (q : Nat → Int32) (n : Nat) : AG q q n := fun _ _ => rfl
theorem AG.tr {q q1 q2 : Nat → Int32} {n m : Nat} (h : AG q q1 n) (h1 : AG q1 q2 m) (hm : n ≤ m) : AG q q2 n := fun k hk => (h1 k (by omega)).trans (h k hk)
theorem AG.le {q q1 : Nat → Int32} {n m : Nat} (h : AG q q1 m) (hm : n ≤ m) : AG q q1 n := fun k hk => h k (by omega)
theorem AG.up {q q1 : Nat → Int32} {n m : Nat} {x : Int32} (h : AG q q1 n) (hm : n ≤ m) : AG q (upd q1 m x) n := fun k hk => (pk_un (by omega)).trans (h k hk)
theorem NJ.tr {q q' : Nat → Int32} {m n p : Nat} (h : NJ q m n) (h1 : NJ q' n p) (ha : AG q q' n) : NJ q' m p := by
  intro k h2 h3
  by_cases e : k < n
  · rw [ha k e]; exact h k h2 e
  · exact h1 k (by omega) h3
theorem SG.ag {q q' : Nat → Int32} {a m : Nat} (h : SG q a m) (ha : AG q q' m) : SG q' a m := by
  intro k h1 h2
  have h3 := h k h1 h2
  unfold CC at h3 ⊢
  rw [ha k h2, hg_congr (q := q') (q' := q) (fun j _ hj => by rw [ha j (by omega)])]
  exact h3
/-- how many wait that will come as codes -/
def pn (w : Nat → Int32) : Nat → Nat
  | 0 => 0
  | n + 1 => pn w n + (if dK (w n) = 11 ∨ dK (w n) = 12 then 0 else 1)
def bn (w : Nat → Int32) : Nat → Nat
  | 0 => 0
  | n + 1 => bn w n + (if 2 ≤ dK (w n) ∧ dK (w n) ≤ 6 then 1 else 0)
theorem pn_y {w : Nat → Int32} {n : Nat} (h : ¬ (dK (w n) = 11 ∨ dK (w n) = 12)) : pn w (n + 1) = pn w n + 1 := by
  show pn w n + (if dK (w n) = 11 ∨ dK (w n) = 12 then 0 else 1) = _
  rw [if_neg h]
theorem pn_j {w : Nat → Int32} {n : Nat} (h : dK (w n) = 11 ∨ dK (w n) = 12) : pn w (n + 1) = pn w n := by
  show pn w n + (if dK (w n) = 11 ∨ dK (w n) = 12 then 0 else 1) = _
  rw [if_pos h]
  rfl
theorem pn_d (w : Nat → Int32) (n : Nat) : pn w n ≤ pn w (n + 1) := Nat.le_add_right _ _
theorem bn_y {w : Nat → Int32} {n : Nat} (h : 2 ≤ dK (w n) ∧ dK (w n) ≤ 6) : bn w (n + 1) = bn w n + 1 := by
  show bn w n + (if 2 ≤ dK (w n) ∧ dK (w n) ≤ 6 then 1 else 0) = _
  rw [if_pos h]
theorem bn_n {w : Nat → Int32} {n : Nat} (h : ¬ (2 ≤ dK (w n) ∧ dK (w n) ≤ 6)) : bn w (n + 1) = bn w n := by
  show bn w n + (if 2 ≤ dK (w n) ∧ dK (w n) ≤ 6 then 1 else 0) = _
  rw [if_neg h]
  rfl
theorem pn_ag {w w' : Nat → Int32} : ∀ n, AG w w' n → pn w' n = pn w n := by
  intro n
  induction n with
  | zero => intro _; rfl
  | succ n ih =>
    intro h
    show pn w' n + (if dK (w' n) = 11 ∨ dK (w' n) = 12 then 0 else 1) = pn w n + (if dK (w n) = 11 ∨ dK (w n) = 12 then 0 else 1)
    rw [ih (h.le (by omega)), h n (by omega)]
theorem bn_ag {w w' : Nat → Int32} : ∀ n, AG w w' n → bn w' n = bn w n := by
  intro n
  induction n with
  | zero => intro _; rfl
  | succ n ih =>
    intro h
    show bn w' n + (if 2 ≤ dK (w' n) ∧ dK (w' n) ≤ 6 then 1 else 0) = bn w n + (if 2 ≤ dK (w n) ∧ dK (w n) ≤ 6 then 1 else 0)
    rw [ih (h.le (by omega)), h n (by omega)]
theorem bn_0 {w : Nat → Int32} : ∀ n, (∀ i, i < n → 10 ≤ dK (w i)) → bn w n = 0 := by
  intro n
  induction n with
  | zero => intro _; rfl
  | succ n ih =>
    intro h
    have h1 := h n (by omega)
    rw [bn_n (by omega)]
    exact ih (fun i hi => h i (by omega))
theorem pn_14 {w : Nat → Int32} {n : Nat} : ∀ d, (∀ i, n ≤ i → i < n + d → dK (w i) = 14) → bn w (n + d) = bn w n ∧ pn w (n + d) = pn w n + d := by
  intro d
  induction d with
  | zero => intro _; exact ⟨rfl, rfl⟩
  | succ d ih =>
    intro h
    have h1 := h (n + d) (by omega) (by omega)
    have h2 := ih (fun i hi hj => h i hi (by omega))
    refine ⟨?_, ?_⟩
    · show bn w (n + d + 1) = _
      rw [bn_n (by omega)]; exact h2.1
    · show pn w (n + d + 1) = _
      rw [pn_y (by omega)]; omega
/-- the kind on top of what waits -/
def tK (w : Nat → Int32) (n : Nat) : Int32 := if n = 0 then -1 else nI (dK (w (n - 1)))
theorem tK0 {w : Nat → Int32} {n : Nat} (h : n = 0) : tK w n = -1 := if_pos h
theorem tKn {w : Nat → Int32} {n : Nat} (h : 1 ≤ n) : tK w n = nI (dK (w (n - 1))) := if_neg (by omega)
def WG (w : Nat → Int32) (n : Nat) : Prop := ∀ i, i < n → GX (w i)
theorem tKI {w : Nat → Int32} {n : Nat} (h : 1 ≤ n) (hw : WG w n) : (tK w n).toInt = (dK (w (n - 1)) : Int) := by
  have := (hw (n - 1) (by omega)).le
  rw [tKn h, nI_toInt (by omega)]
/-- sums that are closed -/
def CLS (q w : Nat → Int32) (a b Cm Wn : Nat) (q' : Nat → Int32) (Co Wo : Nat) : Prop :=
  Wo ≤ Wn ∧ (∀ i, Wo ≤ i → i < Wn → 2 ≤ dK (w i) ∧ dK (w i) ≤ 6) ∧ Cm ≤ Co ∧ AG q q' Cm ∧ SG q' a Co ∧ hg q' a Co = b + 1 + bn w Wo ∧ NJ q' Cm Co ∧ Co + pn w Wo = Cm + pn w Wn
theorem CLS.rf {q w : Nat → Int32} {a b Cm Wn : Nat} (h : SG q a Cm) (hh : hg q a Cm = b + 1 + bn w Wn) : CLS q w a b Cm Wn q Cm Wn :=
  ⟨Nat.le_refl _, fun i h1 h2 => absurd h1 (by omega), Nat.le_refl _, AG.rf q Cm, h, hh, NJ.z q Cm, rfl⟩
theorem CLS.step {q w q' : Nat → Int32} {a b Cm Wn Co n : Nat} {x : Int32} (h : CLS q w a b Cm Wn q' Co (n + 1)) (ha : a ≤ Cm) (h2 : 2 ≤ dK (w n)) (h6 : dK (w n) ≤ 6) (hx : x = nI (1048576 * dK (w n) + 0)) : CLS q w a b Cm Wn (upd q' Co x) (Co + 1) n := by
  obtain ⟨c1, c2, c3, c4, c5, c6, c7, c8⟩ := h
  have hk : dK x = dK (w n) := by rw [hx]; exact dK_of (by omega) (by decide)
  have hb : bn w (n + 1) = bn w n + 1 := bn_y ⟨h2, h6⟩
  have hp : pn w (n + 1) = pn w n + 1 := pn_y (by omega)
  refine ⟨by omega, ?_, by omega, c4.up c3, SG.note c5 (by rw [hx]; exact GX.mk (by omega) (by decide)) (by omega) (by omega) (by omega) (fun _ _ _ _ => by omega), ?_, c7.note (by omega), by omega⟩
  · intro i h3 h4
    by_cases e : i = n
    · rw [e]; exact ⟨h2, h6⟩
    · exact c2 i (by omega) h4
  · rw [hg_dn (by omega) (by omega) (by omega)]; omega
/-- brackets that are opened -/
def OPN (w : Nat → Int32) (Wn P0 Cm : Nat) (wa : Nat → Int32) (Wa i : Nat) : Prop :=
  Wn ≤ Wa ∧ AG w wa Wn ∧ (∀ j, Wn ≤ j → j < Wa → GX (wa j) ∧ dK (wa j) = 14) ∧ Cm + pn wa Wa + P0 ≤ Cm + pn w Wn + i ∧ Wa ≤ i ∧ P0 ≤ i
theorem OPN.rf {w : Nat → Int32} {Wn P0 Cm : Nat} (h1 : Wn ≤ P0) : OPN w Wn P0 Cm w Wn P0 :=
  ⟨Nat.le_refl _, AG.rf w Wn, fun j h2 h3 => absurd h2 (by omega), Nat.le_refl _, h1, Nat.le_refl _⟩
theorem OPN.step {w wa : Nat → Int32} {Wn P0 Cm Wa i : Nat} (h : OPN w Wn P0 Cm wa Wa i) : OPN w Wn P0 Cm (upd wa Wa (1048576 * 14)) (Wa + 1) (i + 1) := by
  obtain ⟨c1, c2, c3, c4, c5, c6⟩ := h
  have e : (1048576 * 14 : Int32) = nI (1048576 * 14 + 0) := by decide
  have hd : dK (1048576 * 14) = 14 := by rw [e]; exact dK_of (by decide) (by decide)
  have hg : GX (1048576 * 14) := by rw [e]; exact GX.mk (by decide) (by decide)
  refine ⟨by omega, c2.up c1, ?_, ?_, by omega, by omega⟩
  · intro j h1 h2
    by_cases q : j = Wa
    · rw [q, pk_us]; exact ⟨hg, hd⟩
    · rw [pk_un q]; exact c3 j h1 (by omega)
  · rw [pn_y (by rw [pk_us, hd]; omega), pn_ag (w := wa) Wa ((AG.rf wa Wa).up (Nat.le_refl Wa))]; omega
def FAC (q w : Nat → Int32) (a Cm Wn P0 : Nat) (q' w' : Nat → Int32) (Wo Po : Nat) : Prop :=
  Wn ≤ Wo ∧ AG w w' Wn ∧ (∀ i, Wn ≤ i → i < Wo → GX (w' i) ∧ dK (w' i) = 14) ∧ AG q q' Cm ∧ SG q' a (Cm + 1) ∧ hg q' a (Cm + 1) = hg q a Cm + 1 ∧ NJ q' Cm (Cm + 1) ∧ P0 < Po ∧ Cm + 1 + pn w' Wo + P0 ≤ Cm + pn w Wn + Po ∧ Wo ≤ Po
theorem FAC.of {q w w' : Nat → Int32} {a Cm Wn P0 Wo i Po : Nat} {o v : Nat} {x : Int32} (h : OPN w Wn P0 Cm w' Wo i) (ha : a ≤ Cm) (hs : SG q a Cm) (hi : i < Po) (ho : o ≤ 1) (hv : v < 1048576) (h8 : o = 1 → v < 8) (hx : x = nI (1048576 * o + v)) : FAC q w a Cm Wn P0 (upd q Cm x) w' Wo Po := by
  obtain ⟨c1, c2, c3, c4, c5, c6⟩ := h
  have hk : dK x = o := by rw [hx]; exact dK_of (by omega) hv
  have hvv : dV x = v := by rw [hx]; exact dV_of (by omega) hv
  refine ⟨c1, c2, c3, (AG.rf q Cm).up (Nat.le_refl _), SG.note hs (by rw [hx]; exact GX.mk (by omega) hv) (by rw [hk, hvv]; exact h8) (by omega) (by omega) (by omega), hg_up ha (by omega), (NJ.z q Cm).note (by omega), by omega, by omega, by omega⟩
theorem ne14 {x : Int32} (hx : GX x) (h : ¬ nI (dK x) = 14) : ¬ dK x = 14 := fun q => h (by rw [q]; rfl)
theorem eq14 {x : Int32} (hx : GX x) (h : nI (dK x) = 14) : dK x = 14 := by
  have := hx.le
  exact (nI_eq (b := 14) (by omega) (by decide)).mp h
theorem p10s {v d e : Nat} (h : v + 1 ≤ 10 ^ e) (hd : d ≤ 9) : 10 * v + d + 1 ≤ 10 ^ (e + 1) := by
  rw [Nat.pow_succ]
  omega
theorem p10e {v e : Nat} (h : v + 1 ≤ 10 ^ e) (he : e ≤ 5) : v < 100000 := by
  have : 10 ^ e ≤ 10 ^ 5 := Nat.pow_le_pow_right (by decide) he
  have h5 : 10 ^ 5 = 100000 := by decide
  omega
theorem hrEq {ft : Nat → Int32} {P N : Nat} {x : Int32} (hx : ¬ x = -1) (h : hrF ft P N = x) : P < N := hrL (fun q => hx (h.symm.trans q))
theorem hrNe {ft : Nat → Int32} {P N : Nat} {x : Int32} (hx : ¬ x = -1) (h : N ≤ P) : ¬ hrF ft P N = x := fun q => hx (q.symm.trans (hrE h))
