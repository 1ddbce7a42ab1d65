def hcF (ft : Nat → Int32) (N : Nat) : Nat → Int32 := fun p => hrF ft p N
theorem hc_ch {T N : Nat} {f g : Nat → Int32} (h : TR T f g) (hN : N ≤ T) : hcF g N = chF f N := by
  funext p
  show hrF g p N = chF f N p
  unfold hrF chF
  by_cases q : p < N
  · rw [if_pos q, if_pos q, h p (by omega)]
  · rw [if_neg q, if_neg q]
theorem ndg_x {c : Nat → Int32} {p : Nat} (h : ¬ (48 ≤ c p ∧ c p ≤ 57)) (M : Nat) : ndg c M p = 0 := by
  cases M with
  | zero => rfl
  | succ M => exact ndg_n h
theorem nvl_x {c : Nat → Int32} {p : Nat} {v : Int32} (h : ¬ (48 ≤ c p ∧ c p ≤ 57)) (M : Nat) : nvl c M p v = v := by
  cases M with
  | zero => rfl
  | succ M => exact nvl_n h
theorem dgStep {c : Nat → Int32} {K p i jd : Nat} {na x : Int32} (hj : jd < K) (h : 48 ≤ c i ∧ c i ≤ 57) (hd : ndg c K p = jd + ndg c (K - jd) i) (hv : nvl c K p 0 = nvl c (K - jd) i na) (ex : x = 10 * na + c i - 48) : ndg c K p = jd + 1 + ndg c (K - (jd + 1)) (i + 1) ∧ nvl c K p 0 = nvl c (K - (jd + 1)) (i + 1) x := by
  have e : K - jd = (K - (jd + 1)) + 1 := by omega
  rw [e, ndg_y h] at hd
  rw [e, nvl_y h, Int32.mul_comm, ← ex] at hv
  exact ⟨by omega, hv⟩
theorem dgEnd {c : Nat → Int32} {K p i jd : Nat} {na : Int32} (h : ¬ (48 ≤ c i ∧ c i ≤ 57) ∨ jd = K) (hd : ndg c K p = jd + ndg c (K - jd) i) (hv : nvl c K p 0 = nvl c (K - jd) i na) : ndg c K p = jd ∧ nvl c K p 0 = na := by
  rcases h with h | h
  · rw [ndg_x h] at hd; rw [nvl_x h] at hv; exact ⟨hd, hv⟩
  · subst h
    rw [Nat.sub_self] at hd hv
    exact ⟨hd, hv⟩
theorem lvOne_m {c : Nat → Int32} {p k j p1 p2 p3 : Nat} {F L F2 L2 : Nat → Int32} {r1 r2 : Int32} (h1 : 97 ≤ c p ∧ c p ≤ 106) (hj : c p - 97 = nI j) (hj9 : j < 10) (hk : k < 10) (hF : F j = -2) (a1 : 0 < ndg c 3 (p + 1)) (e1 : p1 = p + 1 + ndg c 3 (p + 1)) (v1 : r1 = nvl c 3 (p + 1) 0) (a2 : c p1 = 45) (e2 : p2 = p1 + 1) (a3 : 0 < ndg c 3 p2) (e3 : p3 = p2 + ndg c 3 p2) (v2 : r2 = nvl c 3 p2 0) (hlt : ¬ r2 < r1) (eF : F2 = upd F j r1) (eL : L2 = upd L j r2) : lvOne c p k F L = some (p3, F2, L2) := by
  subst e1 e2 e3 v1 v2 eF eL
  exact lvOne_y h1 hj hj9 hk hF ⟨a1, a2, a3, hlt⟩
theorem lvOne_f {c : Nat → Int32} {p k j p1 p2 : Nat} {F L : Nat → Int32} {r1 r2 : Int32} (hj : c p - 97 = nI j) (hj9 : j < 10) (h : ndg c 3 (p + 1) = 0 ∨ (p1 = p + 1 + ndg c 3 (p + 1) ∧ (¬ c p1 = 45 ∨ (p2 = p1 + 1 ∧ (ndg c 3 p2 = 0 ∨ (r1 = nvl c 3 (p + 1) 0 ∧ r2 = nvl c 3 p2 0 ∧ r2 < r1)))))) : lvOne c p k F L = none := by
  apply lvOne_n hj hj9
  refine Or.inr (Or.inr (fun q => ?_))
  rcases h with h | ⟨e1, h⟩
  · omega
  · subst e1
    rcases h with h | ⟨e2, h⟩
    · exact h q.2.1
    · subst e2
      rcases h with h | ⟨v1, v2, h⟩
      · omega
      · subst v1 v2; exact q.2.2.2 h
theorem lvStepM {c : Nat → Int32} {N n p k q : Nat} {F L F2 L2 : Nat → Int32} {X : Option ((Nat → Int32) × (Nat → Int32))} (hp : p < N) (hX : X = lvEnd c N (n + 1) p k F L) (hc : c p = 44) (b2 : lvOne c (p + 1) k F L = some (q, F2, L2)) : X = lvEnd c N n q (k + 1) F2 L2 := by
  rw [hX, lvEnd_c hp hc]
  exact lvGo_s b2
theorem lvStepN {c : Nat → Int32} {N n p k : Nat} {F L : Nat → Int32} {X : Option ((Nat → Int32) × (Nat → Int32))} (hp : p < N) (hX : X = lvEnd c N (n + 1) p k F L) (h : ¬ c p = 44 ∨ lvOne c (p + 1) k F L = none) : X = none := by
  rw [hX]
  by_cases q : c p = 44
  · rw [lvEnd_c hp q]; exact lvGo_n (h.resolve_left (fun z => z q))
  · exact lvEnd_x hp q
theorem cpS {a b F L : Nat → Int32} {i : Nat} {x y : Int32} (h : ∀ j, j < i → a j = F j ∧ b j = L j) (hx : x = F i) (hy : y = L i) : ∀ j, j < i + 1 → upd a i x j = F j ∧ upd b i y j = L j := by
  intro j hj
  by_cases e : j = i
  · rw [e, pk_us, pk_us]; exact ⟨hx, hy⟩
  · rw [pk_un e, pk_un e]; exact h j (by omega)
