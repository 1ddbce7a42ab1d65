abbrev JK (x : Int32) : Prop := dK x = 11 ∨ dK x = 12
/-- below the top ( : a level for each entry, with its ! -/
def BEL (w : Nat → Int32) : List Nat → Nat → Prop
  | [], o => o = 0
  | q :: S, o => ∃ o2 t : Nat, o = o2 + 1 + t + q ∧ dK (w o2) = 13 ∧ (∀ i, o2 + 1 ≤ i → i < o2 + 1 + t → JK (w i)) ∧ (∀ i, o2 + 1 + t ≤ i → i < o → dK (w i) = 10) ∧ BEL w S o2
def ABS (w : Nat → Int32) (S : List Nat) (m W : Nat) : Prop := ∃ o t : Nat, W = o + 1 + t + m ∧ dK (w o) = 13 ∧ (∀ i, o + 1 ≤ i → i < o + 1 + t → JK (w i)) ∧ (∀ i, o + 1 + t ≤ i → i < W → dK (w i) = 10) ∧ BEL w S o
def cntS : List Nat → Nat
  | [] => 1
  | q :: S => 1 + q + cntS S
theorem cntS_1 : ∀ S, 1 ≤ cntS S
  | [] => Nat.le_refl 1
  | q :: S => by show 1 ≤ 1 + q + cntS S; omega
theorem BEL.ag {w w' : Nat → Int32} : ∀ (S : List Nat) (o : Nat), BEL w S o → AG w w' o → BEL w' S o
  | [], _, h, _ => h
  | q :: S, o, h, ha => by
    obtain ⟨o2, t, e, h1, h2, h3, h4⟩ := h
    exact ⟨o2, t, e, by rw [ha o2 (by omega)]; exact h1, fun i a b => by rw [ha i (by omega)]; exact h2 i a b, fun i a b => by rw [ha i b]; exact h3 i a b, BEL.ag S o2 h4 (ha.le (by omega))⟩
theorem ABS.ag {w w' : Nat → Int32} {S : List Nat} {m W : Nat} (h : ABS w S m W) (ha : AG w w' W) : ABS w' S m W := by
  obtain ⟨o, t, e, h1, h2, h3, h4⟩ := h
  exact ⟨o, t, e, by rw [ha o (by omega)]; exact h1, fun i a b => by rw [ha i (by omega)]; exact h2 i a b, fun i a b => by rw [ha i b]; exact h3 i a b, h4.ag S o (ha.le (by omega))⟩
theorem ABS.up {w : Nat → Int32} {S : List Nat} {m W : Nat} {x : Int32} (h : ABS w S m W) : ABS (upd w W x) S m W := h.ag ((AG.rf w W).up (Nat.le_refl W))
theorem ABS.start {w : Nat → Int32} (h : dK (w 0) = 13) : ABS w [] 0 1 := ⟨0, 0, rfl, h, fun i a b => absurd a (by omega), fun i a b => absurd a (by omega), rfl⟩
theorem ABS.not {w : Nat → Int32} {S : List Nat} {m W : Nat} {x : Int32} (h : ABS w S m W) (hx : dK x = 10) : ABS (upd w W x) S (m + 1) (W + 1) := by
  obtain ⟨o, t, e, h1, h2, h3, h4⟩ := h.up (x := x)
  refine ⟨o, t, by omega, h1, h2, fun i a b => ?_, h4⟩
  by_cases z : i = W
  · rw [z, pk_us]; exact hx
  · exact h3 i a (by omega)
theorem ABS.opn {w : Nat → Int32} {S : List Nat} {m W : Nat} {x : Int32} (h : ABS w S m W) (hx : dK x = 13) : ABS (upd w W x) (m :: S) 0 (W + 1) := ⟨W, 0, rfl, by rw [pk_us]; exact hx, fun i a b => absurd a (by omega), fun i a b => absurd a (by omega), h.up⟩
theorem ABS.jmp {w : Nat → Int32} {S : List Nat} {W : Nat} {x : Int32} (h : ABS w S 0 W) (hx : JK x) : ABS (upd w W x) S 0 (W + 1) := by
  obtain ⟨o, t, e, h1, h2, h3, h4⟩ := h.up (x := x)
  refine ⟨o, t + 1, by omega, h1, fun i a b => ?_, fun i a b => absurd a (by omega), h4⟩
  by_cases z : i = W
  · rw [z, pk_us]; exact hx
  · exact h2 i a (by omega)
theorem ABS.pj {w : Nat → Int32} {S : List Nat} {n : Nat} (h : ABS w S 0 (n + 1)) (hx : JK (w n)) : ABS w S 0 n := by
  obtain ⟨o, t, e, h1, h2, h3, h4⟩ := h
  cases t with
  | zero =>
    have z : n = o := by omega
    rw [z] at hx
    omega
  | succ t => exact ⟨o, t, by omega, h1, fun i a b => h2 i a (by omega), fun i a b => absurd a (by omega), h4⟩
theorem ABS.pn {w : Nat → Int32} {S : List Nat} {m n : Nat} (h : ABS w S (m + 1) (n + 1)) : ABS w S m n := by
  obtain ⟨o, t, e, h1, h2, h3, h4⟩ := h
  exact ⟨o, t, by omega, h1, h2, fun i a b => h3 i a (by omega), h4⟩
theorem ABS.t10 {w : Nat → Int32} {S : List Nat} {m W : Nat} (h : ABS w S (m + 1) W) : 1 ≤ W ∧ dK (w (W - 1)) = 10 := by
  obtain ⟨o, t, e, h1, h2, h3, h4⟩ := h
  exact ⟨by omega, h3 (W - 1) (by omega) (by omega)⟩
theorem ABS.n10 {w : Nat → Int32} {S : List Nat} {W : Nat} (h : ABS w S 0 W) : ¬ dK (w (W - 1)) = 10 := by
  obtain ⟨o, t, e, h1, h2, h3, h4⟩ := h
  cases t with
  | zero =>
    have z : W - 1 = o := by omega
    rw [z]; omega
  | succ t =>
    have := h2 (W - 1) (by omega) (by omega)
    omega
theorem ABS.top {w : Nat → Int32} {S : List Nat} {W : Nat} (h : ABS w S 0 W) (hx : ¬ JK (w (W - 1))) : 1 ≤ W ∧ BEL w S (W - 1) := by
  obtain ⟨o, t, e, h1, h2, h3, h4⟩ := h
  cases t with
  | zero =>
    have z : W - 1 = o := by omega
    rw [z]; exact ⟨by omega, h4⟩
  | succ t => exact absurd (h2 (W - 1) (by omega) (by omega)) hx
theorem BEL.pos {w : Nat → Int32} {q : Nat} {S : List Nat} {o : Nat} (h : BEL w (q :: S) o) : 1 ≤ o ∧ ABS w S q o := by
  obtain ⟨o2, t, e, h1, h2, h3, h4⟩ := h
  exact ⟨by omega, o2, t, e, h1, h2, h3, h4⟩
