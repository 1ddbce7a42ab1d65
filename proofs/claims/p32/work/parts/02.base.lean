/-! words, contracts and calls, shortened: a method's words are its own code and all the good words of the tables -/
def tb : List Cond := lw_tbl.filter goodWord
theorem tb_in {w : Cond} (h : w ∈ lw_tbl) (g : goodWord w = true) : w ∈ tb := List.mem_filter.mpr ⟨h, g⟩
theorem tb_sub {w : Cond} (h : w ∈ tb) : w ∈ lw_tbl := (List.mem_filter.mp h).1
theorem tb_good {w : Cond} (h : w ∈ tb) : (w.onTables && w.keeps) = true ∨ ∃ ty, w = .arrayClass ty := good_of_word (List.mem_filter.mp h).2
def isNest : Cond → Bool
  | .fieldLinkNest _ _ _ _ _ _ => true
  | .methodLinkNest _ _ _ _ => true
  | _ => false
def NW (U : State) : Prop := ∀ w ∈ lw_tbl, isNest w = true → va_Nw w U
theorem NW.warm {s U : State} (hW : s.WarmedH U.vm) (h : NW s) : NW U := by
  intro w hw hn
  have h1 := h w hw hn
  cases w <;> first | exact va_Nw.warmF hW h1 | exact va_Nw.warmM hW h1 | (simp [isNest] at hn; done)
theorem NW.same {u U : State} (h : u.vm = U.vm) (hN : NW u) : NW U := by
  intro w hw hn
  have h1 := hN w hw hn
  cases w <;> first | exact va_Nw.same rfl h h1 | (simp [isNest] at hn; done)
theorem NW.calling {U : State} {g : JFrame} {mk : MethodId} {a : Array Value} (hN : NW U) : NW (U.calling g mk a) := NW.same (u := U) rfl hN
abbrev rm (f n : Nat) : Room := { frames := f, cells := 0, slots := 0, locals := n }
abbrev rmc (f n k o : Nat) : Room := { frames := f, cells := k, slots := o, locals := n }
abbrev mw (y : MethodName) (cc : ByteArray) (mL : Nat) (ret : Option FieldType) : List Cond := Cond.code y cc mL ret :: tb
abbrev tyL (cI cB : ClassId) : List (ClassId × FieldType) := [(cI, .int), (cB, .byte)]
/-- a method that only reads: its start and its end -/
def RP (D : va_G) (cI cB : ClassId) (ws : va_W) : State → Prop := fun U => NW U ∧ va_P D vwCl ws U.heap ∧ va_K D vwCl (tyL cI cB) U
def RQ (post : Int32 → Prop) : Array Value → State → Outcome → State → Prop := fun _ st oc t => ∃ r : Int32, oc = .returned (some (.int r)) ∧ post r ∧ t.heap = st.heap
abbrev MR (l : Launch) (D : va_G) (cI cB : ClassId) (y : MethodName) (cc : ByteArray) (mL : Nat) (rt : FieldType) (R : Room) (av : List Value) (ws : va_W) (post : Int32 → Prop) : Prop :=
  Met l y (mw y cc mL (some rt)) R (va_Pc av (RP D cI cB ws)) (RQ post) 0 0 (fun _ => False)
/-- a method that writes -/
def WP (D : va_G) (cI cB : ClassId) (ws : va_W) (sz : Nat) : State → Prop := fun U => U.heap.size = sz ∧ NW U ∧ va_P D vwCl ws U.heap ∧ va_K D vwCl (tyL cI cB) U ∧ va_D (fun _ => True) ws
def WB {S : Type} (D : va_G) (cI cB : ClassId) (A : Nat → Prop) (wf : S → va_W) : S → State → Prop := fun u t => va_P D vwCl (wf u) t.heap ∧ va_K D vwCl (tyL cI cB) t ∧ va_D A (wf u)
abbrev MV {S : Type} (l : Launch) (D : va_G) (cI cB : ClassId) (y : MethodName) (cc : ByteArray) (mL : Nat) (R : Room) (av : List Value) (ws : va_W) (sz : Nat) (post : S → Prop) (wf : S → va_W) : Prop :=
  Met l y (mw y cc mL none) R (va_Pc av (WP D cI cB ws sz)) (va_Qv post (WB D cI cB (va_A ws sz) wf) (va_A ws sz)) R.cells R.slots (va_A ws sz)
abbrev MI {S : Type} (l : Launch) (D : va_G) (cI cB : ClassId) (y : MethodName) (cc : ByteArray) (mL : Nat) (rt : FieldType) (R : Room) (av : List Value) (ws : va_W) (sz : Nat) (post : Int32 → S → Prop) (wf : S → va_W) : Prop :=
  Met l y (mw y cc mL (some rt)) R (va_Pc av (WP D cI cB ws sz)) (va_Qi post (WB D cI cB (va_A ws sz) wf) (va_A ws sz)) R.cells R.slots (va_A ws sz)
section OF
variable {l : Launch} {D : va_G} {cI cB : ClassId} {y : MethodName} {cc : ByteArray} {mL : Nat} {rt : FieldType} {R : Room} {av : List Value} {ws : va_W}
theorem MR.of {post : Int32 → Prop} (hy : plainName y.cls = true) (hlen : (lg_sl av).length ≤ mL)
    (body : ∀ (p : Program) (e : Env) (s : State) (m : MethodId) (below : List Frame) (meth : Method) (c : Code) (Q : State → Prop) (ls : Array Slot),
      CallFix p m c cc mL s av.toArray tb y.cls → NW s → va_P D vwCl ws s.heap → va_K D vwCl (tyL cI cB) s → lv_has ls mL (lv_args 0 av) →
      (∀ (pc : Nat) (ls : Array Slot) (r : Int32), decode cc pc = .ok (.ireturn, 1) → narrow rt (.int r) = .int r → post r → W p l e R s m av.toArray below meth c s.heap [] 0 0 Q (F0 m pc ls [.int r])) →
      W p l e R s m av.toArray below meth c s.heap [] 0 0 Q (F0 m 0 ls [])) : MR l D cI cB y cc mL rt R av ws post := by
  refine Met.ofW (cc := cc) (maxL := mL) (ret := some rt) hy rfl ?_
  intro p e s m args below meth c s₁ B hml hv
  obtain ⟨rfl, hN, hP, hK⟩ := hv
  have hts := atoms_spec (ws := mw y cc mL (some rt)) B.pre
  rw [lg_entry_eq]
  refine body p e s m below meth c _ _ ⟨B.exec, B.bytes, hml, findClass_of_methodNamed B.named, fun w h => hts w (List.mem_cons_of_mem _ h)⟩ hN hP hK (lv_entry av hlen) ?_
  intro pc ls r hd hn hp
  exact W.zret B.exec B.bytes B.returns hn (fun t ht _ => ⟨r, rfl, hp, ht⟩) (fun _ h => by cases h) hd B.notSynchronized
theorem MV.of {S : Type} {sz : Nat} {post : S → Prop} {wf : S → va_W} (hy : plainName y.cls = true) (hlen : (lg_sl av).length ≤ mL)
    (body : ∀ (p : Program) (e : Env) (s : State) (m : MethodId) (below : List Frame) (meth : Method) (c : Code) (Q : State → Prop) (ls : Array Slot) (A : Nat → Prop),
      CallFix p m c cc mL s av.toArray tb y.cls → meth.name = y.name → NW s → va_P D vwCl ws s.heap → va_K D vwCl (tyL cI cB) s → va_D A ws → (∀ q : Nat, s.heap.size ≤ q → A q) → lv_has ls mL (lv_args 0 av) →
      (∀ (pc : Nat) (ls : Array Slot) (H : Heap) (locs : List Loc) (u : S), decode cc pc = .ok (.return_, 1) → post u → va_P D vwCl (wf u) H → va_D A (wf u) → va_S A s.heap H locs → W p l e R s m av.toArray below meth c H locs R.cells R.slots Q (F0 m pc ls [])) →
      W p l e R s m av.toArray below meth c s.heap [] 0 0 Q (F0 m 0 ls [])) : MV l D cI cB y cc mL R av ws sz post wf := by
  refine Met.ofW (cc := cc) (maxL := mL) (ret := none) hy rfl ?_
  intro p e s m args below meth c s₁ B hml hv
  obtain ⟨rfl, rfl, hN, hP, hK, hD⟩ := hv
  have hts := atoms_spec (ws := mw y cc mL none) B.pre
  rw [lg_entry_eq]
  refine body p e s m below meth c _ _ (va_A ws s.heap.size) ⟨B.exec, B.bytes, hml, findClass_of_methodNamed B.named, fun w h => hts w (List.mem_cons_of_mem _ h)⟩ (name_of_methodNamed B.named B.method).1 hN hP hK hD.self (fun q h => Or.inr h) (lv_entry av hlen) ?_
  intro pc ls H locs u hd hp hP1 hD1 hS
  exact W.vret B.exec B.bytes B.returns (fun t ht hW => ⟨⟨u, rfl, hp, by rw [ht]; exact hP1, va_K.moved hW.alike hK, hD1⟩, hS.F ht⟩) hS.2.2 hd B.notSynchronized
theorem MI.of {S : Type} {sz : Nat} {post : Int32 → S → Prop} {wf : S → va_W} (hy : plainName y.cls = true) (hlen : (lg_sl av).length ≤ mL)
    (body : ∀ (p : Program) (e : Env) (s : State) (m : MethodId) (below : List Frame) (meth : Method) (c : Code) (Q : State → Prop) (ls : Array Slot) (A : Nat → Prop),
      CallFix p m c cc mL s av.toArray tb y.cls → meth.name = y.name → NW s → va_P D vwCl ws s.heap → va_K D vwCl (tyL cI cB) s → va_D A ws → (∀ q : Nat, s.heap.size ≤ q → A q) → lv_has ls mL (lv_args 0 av) →
      (∀ (pc : Nat) (ls : Array Slot) (H : Heap) (locs : List Loc) (r : Int32) (u : S), decode cc pc = .ok (.ireturn, 1) → narrow rt (.int r) = .int r → post r u → va_P D vwCl (wf u) H → va_D A (wf u) → va_S A s.heap H locs → W p l e R s m av.toArray below meth c H locs R.cells R.slots Q (F0 m pc ls [.int r])) →
      W p l e R s m av.toArray below meth c s.heap [] 0 0 Q (F0 m 0 ls [])) : MI l D cI cB y cc mL rt R av ws sz post wf := by
  refine Met.ofW (cc := cc) (maxL := mL) (ret := some rt) hy rfl ?_
  intro p e s m args below meth c s₁ B hml hv
  obtain ⟨rfl, rfl, hN, hP, hK, hD⟩ := hv
  have hts := atoms_spec (ws := mw y cc mL (some rt)) B.pre
  rw [lg_entry_eq]
  refine body p e s m below meth c _ _ (va_A ws s.heap.size) ⟨B.exec, B.bytes, hml, findClass_of_methodNamed B.named, fun w h => hts w (List.mem_cons_of_mem _ h)⟩ (name_of_methodNamed B.named B.method).1 hN hP hK hD.self (fun q h => Or.inr h) (lv_entry av hlen) ?_
  intro pc ls H locs r u hd hn hp hP1 hD1 hS
  exact W.zret B.exec B.bytes B.returns hn (fun t ht hW => ⟨⟨r, u, rfl, hp, by rw [ht]; exact hP1, va_K.moved hW.alike hK, hD1⟩, hS.F ht⟩) hS.2.2 hd B.notSynchronized
end OF
theorem gcons {y : MethodName} {cc : ByteArray} {mL : Nat} {ret : Option FieldType} (h : Cond.code y cc mL ret ∈ tb) : GoodIn tb (mw y cc mL ret) := by
  intro w hw
  rcases List.mem_cons.mp hw with rfl | hw
  · exact ⟨h, tb_good h⟩
  · exact ⟨hw, tb_good hw⟩
theorem gV {own C : String} {idx : Nat} {y : MethodName} {cc : ByteArray} {mL : Nat} {ret : Option FieldType} (w1 : Cond.methodLink own idx y ∈ tb) (w2 : Cond.instanceMethod y ∈ tb) (w3 : Cond.selects C y y ∈ tb) (w4 : Cond.initialized C ∈ tb) (w5 : Cond.code y cc mL ret ∈ tb) : GoodIn tb (wsV own idx C y (mw y cc mL ret)) := by
  intro w hw
  have hm : w ∈ tb := by
    rcases List.mem_append.mp hw with h | h
    · simp only [List.mem_cons, List.not_mem_nil, or_false] at h
      rcases h with rfl | rfl | rfl | rfl <;> assumption
    · exact (gcons w5 w h).1
  exact ⟨hm, tb_good hm⟩
