theorem nb255 (x : Int32) : x.toInt8.toInt32 &&& 255 = x &&& 255 := by
  apply b_ext
  intro i hi
  rw [b_and, b_and]
  by_cases h : i < 8
  · congr 1
    show (BitVec.signExtend 32 (BitVec.signExtend 8 x.toBitVec)).getLsbD i = x.toBitVec.getLsbD i
    rw [BitVec.getLsbD_signExtend, BitVec.getLsbD_signExtend]
    simp [hi, h, show i < 32 from hi]
  · have hz : bt 255 i = false := by
      have hd : ∀ i, i < 32 → ¬ i < 8 → bt 255 i = false := by decide +kernel
      exact hd i hi h
    rw [hz, Bool.and_false, Bool.and_false]
theorem nar255 (x : Int32) : vp_nar .byte x.toInt8.toInt32 &&& 255 = x &&& 255 := by
  show x.toInt8.toInt32.toInt8.toInt32 &&& 255 = x &&& 255
  rw [nb255, nb255]
theorem wb4 {T : Nat} {fb f1 f2 f3 f4 : Nat → Int32} {a b c d : Int32} (e1 : f1 = upd fb T a) (e2 : f2 = upd f1 (T + 1) b) (e3 : f3 = upd f2 (T + 2) c) (e4 : f4 = upd f3 (T + 3) d) : (∀ j, j < T → f4 j = fb j) ∧ f4 T = a ∧ f4 (T + 1) = b ∧ f4 (T + 2) = c ∧ f4 (T + 3) = d := by
  subst e1 e2 e3 e4
  refine ⟨fun j hj => ?_, ?_, ?_, ?_, pk_us⟩
  · rw [pk_un (by omega), pk_un (by omega), pk_un (by omega), pk_un (by omega)]
  · rw [pk_un (by omega), pk_un (by omega), pk_un (by omega), pk_us]
  · rw [pk_un (by omega), pk_un (by omega), pk_us]
  · rw [pk_un (by omega), pk_us]
/-- a word's four bytes behind the first T ones -/
def WBx (T : Nat) (w : Int32) (f g : Nat → Int32) : Prop := (∀ j, j < T → g j = f j) ∧ g T = w >>> (24 &&& 31) &&& 255 ∧ g (T + 1) = w >>> (16 &&& 31) &&& 255 ∧ g (T + 2) = w >>> (8 &&& 31) &&& 255 ∧ g (T + 3) = w >>> (0 &&& 31) &&& 255
def WBr (T : Nat) (w : Int32) (f g : Nat → Int32) : Prop := (∀ j, j < T → g j = f j) ∧ (g T &&& (255 : Int32)) = w >>> (24 &&& 31) &&& 255 ∧ (g (T + 1) &&& (255 : Int32)) = w >>> (16 &&& 31) &&& 255 ∧ (g (T + 2) &&& (255 : Int32)) = w >>> (8 &&& 31) &&& 255 ∧ (g (T + 3) &&& (255 : Int32)) = w >>> (0 &&& 31) &&& 255
def FDX (T : Nat) (v1 v2 v3 v4 v5 : Int32) (f g : Nat → Int32) : Prop := ∃ b1 b2 b3 b4 : Nat → Int32, WBx T v1 f b1 ∧ WBx (T + 4) v2 b1 b2 ∧ WBx (T + 4 + 4) v3 b2 b3 ∧ WBx (T + 4 + 4 + 4) v4 b3 b4 ∧ WBx (T + 4 + 4 + 4 + 4) v5 b4 g
def FDR (T : Nat) (v1 v2 v3 v4 v5 : Int32) (f g : Nat → Int32) : Prop := ∃ b1 b2 b3 b4 : Nat → Int32, WBr T v1 f b1 ∧ WBr (T + 4) v2 b1 b2 ∧ WBr (T + 4 + 4) v3 b2 b3 ∧ WBr (T + 4 + 4 + 4) v4 b3 b4 ∧ WBr (T + 4 + 4 + 4 + 4) v5 b4 g
/-- both tapes hold the same bytes -/
def TR (T : Nat) (f g : Nat → Int32) : Prop := ∀ j, j < T → f j = (g j &&& (255 : Int32))
theorem TR.z (f g : Nat → Int32) : TR 0 f g := fun j hj => absurd hj (Nat.not_lt_zero j)
theorem TR.of {T Tx : Nat} {f g : Nat → Int32} {C : Prop} (h : TR T f g) (h1 : C → Tx = 0) (h2 : ¬ C → Tx = T) : TR Tx f g := by
  by_cases q : C
  · rw [h1 q]; exact TR.z f g
  · rw [h2 q]; exact h
theorem TR.word {T : Nat} {w : Int32} {f f1 g g1 : Nat → Int32} (h : TR T f g) (h1 : WBx T w f f1) (h2 : WBr T w g g1) : TR (T + 4) f1 g1 := by
  intro j hj
  by_cases q : j < T
  · rw [h1.1 j q, h2.1 j q]; exact h j q
  · have h3 : j = T ∨ j = T + 1 ∨ j = T + 2 ∨ j = T + 3 := by omega
    rcases h3 with e | e | e | e
    · rw [e, h1.2.1, h2.2.1]
    · rw [e, h1.2.2.1, h2.2.2.1]
    · rw [e, h1.2.2.2.1, h2.2.2.2.1]
    · rw [e, h1.2.2.2.2, h2.2.2.2.2]
theorem TR.feed {T Tx : Nat} {v1 v2 v3 v4 v5 : Int32} {f f1 g g1 : Nat → Int32} (h : TR T f g) (hx : T ≤ 240 → Tx = T + 20) (hx2 : ¬ T ≤ 240 → Tx = T) (h1 : T ≤ 240 → FDX T v1 v2 v3 v4 v5 f f1) (h2 : T ≤ 240 → FDR T v1 v2 v3 v4 v5 g g1) (h3 : ¬ T ≤ 240 → f1 = f) (h4 : ¬ T ≤ 240 → g1 = g) : TR Tx f1 g1 := by
  by_cases q : T ≤ 240
  · obtain ⟨a1, a2, a3, a4, p1, p2, p3, p4, p5⟩ := h1 q
    obtain ⟨b1, b2, b3, b4, q1, q2, q3, q4, q5⟩ := h2 q
    rw [hx q]
    exact ((((h.word p1 q1).word p2 q2).word p3 q3).word p4 q4).word p5 q5
  · rw [hx2 q, h3 q, h4 q]; exact h
