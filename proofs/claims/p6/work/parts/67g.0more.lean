theorem all10 : ∀ i, i < 10 → (0 ≤ nI i ∧ nI i < 31) ∧ (1023 : Int32) >>> (nI i &&& 31) &&& 1 = 1 := by decide +kernel
theorem updS2 {f g : Nat → Int32} {i : Nat} (h : ∀ j, j < i → f j = -2 ∧ g j = -2) : ∀ j, j < i + 1 → upd f i (-2) j = -2 ∧ upd g i (-2) j = -2 := by
  intro j hj
  by_cases e : j = i
  · rw [e, pk_us, pk_us]; exact ⟨rfl, rfl⟩
  · rw [pk_un e, pk_un e]; exact h j (by omega)
/-- LEAVES as the class keeps them -/
def LVK (F L a b : Nat → Int32) : Prop := ∀ j, j < 10 → a j = F j ∧ b j = if F j = -2 then -2 else L j
def LVI (i : Nat) (F L a b : Nat → Int32) : Prop := ∀ j, j < 10 → (j < i → a j = F j ∧ b j = if F j = -2 then -2 else L j) ∧ (¬ j < i → a j = -2 ∧ b j = -2)
theorem LVI.z {F L a b : Nat → Int32} (h : ∀ j, j < 10 → a j = -2 ∧ b j = -2) : LVI 0 F L a b := fun j hj => ⟨fun q => absurd q (Nat.not_lt_zero j), fun _ => h j hj⟩
theorem LVI.no {i : Nat} {F L a b : Nat → Int32} (h : LVI i F L a b) (hF : F i = -2) : LVI (i + 1) F L a b := by
  intro j hj
  refine ⟨fun q => ?_, fun q => (h j hj).2 (by omega)⟩
  by_cases e : j = i
  · rw [e, hF, if_pos rfl]; exact (h i (by omega)).2 (Nat.lt_irrefl i)
  · exact (h j hj).1 (by omega)
theorem LVI.yes {i : Nat} {F L a b : Nat → Int32} {x y : Int32} (h : LVI i F L a b) (hF : ¬ F i = -2) (hx : x = F i) (hy : y = L i) : LVI (i + 1) F L (upd a i x) (upd b i y) := by
  intro j hj
  by_cases e : j = i
  · rw [e, pk_us, pk_us, if_neg hF]; exact ⟨fun _ => ⟨hx, hy⟩, fun q => absurd (Nat.lt_succ_self i) q⟩
  · rw [pk_un e, pk_un e]
    exact ⟨fun q => (h j hj).1 (by omega), fun q => (h j hj).2 (by omega)⟩
theorem LVI.all {F L a b : Nat → Int32} (h : LVI 10 F L a b) : LVK F L a b := fun j hj => (h j hj).1 hj
def lbF (f : Nat → Int32) : Nat → Int32
  | 0 => 0
  | i + 1 => lbF f i ||| (if f i = -2 then 0 else (1 : Int32) <<< (nI i &&& 31))
theorem lbF_n {f : Nat → Int32} {i : Nat} (h : f i = -2) : lbF f i ||| 0 = lbF f (i + 1) := by
  show _ = lbF f i ||| (if f i = -2 then 0 else (1 : Int32) <<< (nI i &&& 31))
  rw [if_pos h]
theorem lbF_y {f : Nat → Int32} {i : Nat} (h : ¬ f i = -2) : lbF f i ||| (1 : Int32) <<< (nI i &&& 31) = lbF f (i + 1) := by
  show _ = lbF f i ||| (if f i = -2 then 0 else (1 : Int32) <<< (nI i &&& 31))
  rw [if_neg h]
theorem lbF_e {f g : Nat → Int32} {n : Nat} (h : ∀ j, j < n → f j = g j) : lbF f n = lbF g n := by
  induction n with
  | zero => rfl
  | succ n ih =>
    show lbF f n ||| _ = lbF g n ||| _
    rw [ih (fun j hj => h j (by omega)), h n (by omega)]
theorem lbF_p (f : Nat → Int32) {n : Nat} (hn : n ≤ 10) : PEK (lbF f n) := by
  induction n with
  | zero => exact ⟨0, by decide, rfl⟩
  | succ n ih =>
    by_cases h : f n = -2
    · rw [← lbF_n h]
      have e : lbF f n ||| 0 = lbF f n := by
        apply Int32.toBitVec_inj.mp
        simp
      rw [e]; exact ih (by omega)
    · rw [← lbF_y h]; exact PEK_or (ih (by omega)) (by omega)
theorem bS1210 : ∀ k, k < 1024 → bS (nI k) 12 = bS (nI k) 10 := by decide +kernel
theorem bc_bS {x : Int32} (h : PEK x) : bcF x = nI (bS x 12) := by
  obtain ⟨q, hq, rfl⟩ := h
  rw [bcT q hq, bS1210 q hq]
