/-- THE LAW as it is kept: each clause's two stretches of codes -/
def LOK (kc : Nat) (qc qf qh qt : Nat → Int32) : Prop := ∀ j, j < kc → ∃ a h t : Nat, qf j = nI a ∧ qh j = nI h ∧ qt j = nI t ∧ a ≤ h ∧ h ≤ t ∧ h < 260 ∧ t ≤ 260 ∧ WFC qc a h ∧ WFC qc h t
def DMK (f : Nat → Int32) : Prop := ∀ j, j < 12 → ∃ n : Nat, n ≤ 10 ∧ f j = nI n
def DOK (f : Nat → Int32) : Prop := ∀ j, j < 120 → ∃ n : Nat, n < 10 ∧ f j = nI n
def FOK (f : Nat → Int32) : Prop := ∀ j, j < 12 → f j = -1 ∨ ∃ n : Nat, n < 10 ∧ f j = nI n
theorem P_ext {D : va_G} {cl : List vw_C} {ws : va_W} {H : Heap} (k : Nat) {a : Nat} {c : ClassId} {n : Nat} {f g : Nat → Int32} (h : va_P D cl ws H) (hk : ws[k]? = some (a, .inl (c, n, .inl f))) (e : ∀ j, j < n → f j = g j) : va_P D cl (ws.set k (a, .inl (c, n, .inl g))) H := by
  have hl := (List.getElem?_eq_some_iff.mp hk).1
  intro i q hq
  by_cases hik : i = k
  · subst hik
    rw [List.getElem?_set_self hl] at hq
    cases hq
    have h1 : H[a]? = some (arrV c n (fun j => .int (f j))) := h i _ hk
    show H[a]? = some (arrV c n (fun j => .int (g j)))
    rw [h1]
    unfold arrV
    have h2 : (Array.ofFn (n := n) fun j => Value.int (f j.val)) = (Array.ofFn (n := n) fun j => Value.int (g j.val)) := congrArg _ (funext fun j => by rw [e j.val j.isLt])
    rw [h2]
  · rw [List.getElem?_set_ne (Ne.symm hik)] at hq
    exact h i q hq
theorem ix10b (a b : Nat) : 10 * nI a + nI b = nI (10 * a + b) := by
  rw [show (10 : Int32) = nI 10 from rfl, pk_mul, nI_add]
