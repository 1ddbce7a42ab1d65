/-! what is constant: FACTORIALS, String's COMPACT_STRINGS, and two String constants -/
abbrev KT : Type := Nat × (Nat → Nat) × (Nat → Nat)
def facN (j : Nat) : Int32 := ([1, 1, 2, 6, 24, 120] : List Int32).getD j 0
def kByt : List (List Int32) := [[109, 110, 99, 107], [105, 112, 120, 100, 119, 114, 97, 117]]
def KO (kk : KT) (A : Nat → Prop) (U : State) (H : Heap) : Prop :=
  va_Z "java/lang/String" "COMPACT_STRINGS" "Z" (.int 1) A U H ∧ va_Z "MissedTown" "FACTORIALS" "[I" (.ref kk.1) A U H ∧ va_T .int kk.1 6 (fun j => .int (facN j)) A U H ∧ vk_S 2 [4, 8] kByt kk.2.1 kk.2.2 A U H ∧ vk_R "MissedTown$LawReader" 51 "mnck" (kk.2.1 0) U ∧ vk_R "MissedTown$LawReader" 123 "ipxdwrau" (kk.2.1 1) U
theorem KO.warm {kk : KT} {A : Nat → Prop} {s U : State} {H : Heap} (hW : s.WarmedH U.vm) (h : KO kk A s H) : KO kk A U H :=
  ⟨h.1.moved hW.alike, h.2.1.moved hW.alike, h.2.2.1.moved hW.alike, h.2.2.2.1.moved hW.alike, h.2.2.2.2.1.warm hW, h.2.2.2.2.2.warm hW⟩
theorem KO.kept {kk : KT} {A : Nat → Prop} {U : State} {H H1 : Heap} (h : KO kk A U H) (hq : ∀ a : Nat, a < H.size → ¬ A a → H1[a]? = H[a]?) : KO kk A U H1 :=
  ⟨h.1.kept hq, h.2.1.kept hq, h.2.2.1.kept hq, h.2.2.2.1.kept hq, h.2.2.2.2⟩
theorem KO.narrow {kk : KT} {A B : Nat → Prop} {U : State} {H : Heap} (h : KO kk A U H) (hAB : ∀ q, B q → A q) : KO kk B U H :=
  ⟨h.1.narrow hAB, h.2.1.narrow hAB, h.2.2.1.narrow hAB, h.2.2.2.1.narrow hAB, h.2.2.2.2⟩
theorem KO.calling {kk : KT} {A : Nat → Prop} {U : State} {g : JFrame} {mk : MethodId} {a : Array Value} (h : KO kk A U U.heap) : KO kk A (U.calling g mk a) (U.calling g mk a).heap :=
  ⟨h.1.moved (u := U) (U := U.calling g mk a) (Vm.Alike.refl U.vm), h.2.1.moved (u := U) (U := U.calling g mk a) (Vm.Alike.refl U.vm), h.2.2.1.moved (u := U) (U := U.calling g mk a) (Vm.Alike.refl U.vm), h.2.2.2.1.moved (u := U) (U := U.calling g mk a) (Vm.Alike.refl U.vm), h.2.2.2.2.1.same (u := U) rfl, h.2.2.2.2.2.same (u := U) rfl⟩
def RPk (D : va_G) (cI cB : ClassId) (kk : KT) (ws : va_W) : State → Prop := fun U => NW U ∧ va_P D vwCl ws U.heap ∧ va_K D vwCl (tyL cI cB) U ∧ KO kk (fun _ => False) U U.heap
abbrev MRk (l : Launch) (D : va_G) (cI cB : ClassId) (kk : KT) (y : MethodName) (cc : ByteArray) (mL : Nat) (rt : FieldType) (R : Room) (av : List Value) (ws : va_W) (post : Int32 → Prop) : Prop :=
  Met l y (mw y cc mL (some rt)) R (va_Pc av (RPk D cI cB kk ws)) (RQ post) 0 0 (fun _ => False)
def WPk (D : va_G) (cI cB : ClassId) (kk : KT) (ws : va_W) (sz : Nat) : State → Prop := fun U => U.heap.size = sz ∧ NW U ∧ va_P D vwCl ws U.heap ∧ va_K D vwCl (tyL cI cB) U ∧ va_D (fun _ => True) ws ∧ KO kk (va_A ws sz) U U.heap
abbrev MVk {S : Type} (l : Launch) (D : va_G) (cI cB : ClassId) (kk : KT) (y : MethodName) (cc : ByteArray) (mL : Nat) (R : Room) (av : List Value) (ws : va_W) (sz : Nat) (post : S → Prop) (wf : S → va_W) : Prop :=
  Met l y (mw y cc mL none) R (va_Pc av (WPk D cI cB kk ws sz)) (va_Qv post (WB D cI cB (va_A ws sz) wf) (va_A ws sz)) R.cells R.slots (va_A ws sz)
abbrev MIk {S : Type} (l : Launch) (D : va_G) (cI cB : ClassId) (kk : KT) (y : MethodName) (cc : ByteArray) (mL : Nat) (rt : FieldType) (R : Room) (av : List Value) (ws : va_W) (sz : Nat) (post : Int32 → S → Prop) (wf : S → va_W) : Prop :=
  Met l y (mw y cc mL (some rt)) R (va_Pc av (WPk D cI cB kk ws sz)) (va_Qi post (WB D cI cB (va_A ws sz) wf) (va_A ws sz)) R.cells R.slots (va_A ws sz)
section OFK
variable {l : Launch} {D : va_G} {cI cB : ClassId} {kk : KT} {y : MethodName} {cc : ByteArray} {mL : Nat} {rt : FieldType} {R : Room} {av : List Value} {ws : va_W}
theorem MRk.of {post : Int32 → Prop} (hy : plainName y.cls = true) (hlen : (lg_sl av).length ≤ mL)
    (body : ∀ (p : Program) (e : Env) (s : State) (m : MethodId) (below : List Frame) (meth : Method) (c : Code) (Q : State → Prop) (ls : Array Slot),
      CallFix p m c cc mL s av.toArray tb y.cls → NW s → KO kk (fun _ => False) s s.heap → va_P D vwCl ws s.heap → va_K D vwCl (tyL cI cB) s → lv_has ls mL (lv_args 0 av) →
      (∀ (pc : Nat) (ls : Array Slot) (r : Int32), decode cc pc = .ok (.ireturn, 1) → narrow rt (.int r) = .int r → post r → W p l e R s m av.toArray below meth c s.heap [] 0 0 Q (F0 m pc ls [.int r])) →
      W p l e R s m av.toArray below meth c s.heap [] 0 0 Q (F0 m 0 ls [])) : MRk l D cI cB kk y cc mL rt R av ws post := by
  refine Met.ofW (cc := cc) (maxL := mL) (ret := some rt) hy rfl ?_
  intro p e s m args below meth c s₁ B hml hv
  obtain ⟨rfl, hN, hP, hK, hO⟩ := hv
  have hts := atoms_spec (ws := mw y cc mL (some rt)) B.pre
  rw [lg_entry_eq]
  refine body p e s m below meth c _ _ ⟨B.exec, B.bytes, hml, findClass_of_methodNamed B.named, fun w h => hts w (List.mem_cons_of_mem _ h)⟩ hN hO hP hK (lv_entry av hlen) ?_
  intro pc ls r hd hn hp
  exact W.zret B.exec B.bytes B.returns hn (fun t ht _ => ⟨r, rfl, hp, ht⟩) (fun _ h => by cases h) hd B.notSynchronized
theorem MVk.of {S : Type} {sz : Nat} {post : S → Prop} {wf : S → va_W} (hy : plainName y.cls = true) (hlen : (lg_sl av).length ≤ mL)
    (body : ∀ (p : Program) (e : Env) (s : State) (m : MethodId) (below : List Frame) (meth : Method) (c : Code) (Q : State → Prop) (ls : Array Slot) (A : Nat → Prop),
      CallFix p m c cc mL s av.toArray tb y.cls → meth.name = y.name → NW s → KO kk A s s.heap → va_P D vwCl ws s.heap → va_K D vwCl (tyL cI cB) s → va_D A ws → (∀ q : Nat, s.heap.size ≤ q → A q) → lv_has ls mL (lv_args 0 av) →
      (∀ (pc : Nat) (ls : Array Slot) (H : Heap) (locs : List Loc) (u : S), decode cc pc = .ok (.return_, 1) → post u → va_P D vwCl (wf u) H → va_D A (wf u) → va_S A s.heap H locs → W p l e R s m av.toArray below meth c H locs R.cells R.slots Q (F0 m pc ls [])) →
      W p l e R s m av.toArray below meth c s.heap [] 0 0 Q (F0 m 0 ls [])) : MVk l D cI cB kk y cc mL R av ws sz post wf := by
  refine Met.ofW (cc := cc) (maxL := mL) (ret := none) hy rfl ?_
  intro p e s m args below meth c s₁ B hml hv
  obtain ⟨rfl, rfl, hN, hP, hK, hD, hO⟩ := hv
  have hts := atoms_spec (ws := mw y cc mL none) B.pre
  rw [lg_entry_eq]
  refine body p e s m below meth c _ _ (va_A ws s.heap.size) ⟨B.exec, B.bytes, hml, findClass_of_methodNamed B.named, fun w h => hts w (List.mem_cons_of_mem _ h)⟩ (name_of_methodNamed B.named B.method).1 hN hO hP hK hD.self (fun q h => Or.inr h) (lv_entry av hlen) ?_
  intro pc ls H locs u hd hp hP1 hD1 hS
  exact W.vret B.exec B.bytes B.returns (fun t ht hW => ⟨⟨u, rfl, hp, by rw [ht]; exact hP1, va_K.moved hW.alike hK, hD1⟩, hS.F ht⟩) hS.2.2 hd B.notSynchronized
theorem MIk.of {S : Type} {sz : Nat} {post : Int32 → S → Prop} {wf : S → va_W} (hy : plainName y.cls = true) (hlen : (lg_sl av).length ≤ mL)
    (body : ∀ (p : Program) (e : Env) (s : State) (m : MethodId) (below : List Frame) (meth : Method) (c : Code) (Q : State → Prop) (ls : Array Slot) (A : Nat → Prop),
      CallFix p m c cc mL s av.toArray tb y.cls → meth.name = y.name → NW s → KO kk A s s.heap → va_P D vwCl ws s.heap → va_K D vwCl (tyL cI cB) s → va_D A ws → (∀ q : Nat, s.heap.size ≤ q → A q) → lv_has ls mL (lv_args 0 av) →
      (∀ (pc : Nat) (ls : Array Slot) (H : Heap) (locs : List Loc) (r : Int32) (u : S), decode cc pc = .ok (.ireturn, 1) → narrow rt (.int r) = .int r → post r u → va_P D vwCl (wf u) H → va_D A (wf u) → va_S A s.heap H locs → W p l e R s m av.toArray below meth c H locs R.cells R.slots Q (F0 m pc ls [.int r])) →
      W p l e R s m av.toArray below meth c s.heap [] 0 0 Q (F0 m 0 ls [])) : MIk l D cI cB kk y cc mL rt R av ws sz post wf := by
  refine Met.ofW (cc := cc) (maxL := mL) (ret := some rt) hy rfl ?_
  intro p e s m args below meth c s₁ B hml hv
  obtain ⟨rfl, rfl, hN, hP, hK, hD, hO⟩ := hv
  have hts := atoms_spec (ws := mw y cc mL (some rt)) B.pre
  rw [lg_entry_eq]
  refine body p e s m below meth c _ _ (va_A ws s.heap.size) ⟨B.exec, B.bytes, hml, findClass_of_methodNamed B.named, fun w h => hts w (List.mem_cons_of_mem _ h)⟩ (name_of_methodNamed B.named B.method).1 hN hO hP hK hD.self (fun q h => Or.inr h) (lv_entry av hlen) ?_
  intro pc ls H locs r u hd hn hp hP1 hD1 hS
  exact W.zret B.exec B.bytes B.returns hn (fun t ht hW => ⟨⟨r, u, rfl, hp, by rw [ht]; exact hP1, va_K.moved hW.alike hK, hD1⟩, hS.F ht⟩) hS.2.2 hd B.notSynchronized
end OFK
section CRK
variable {p : Program} {l : Launch} {e : Env} {R : Room} {s : State} {m : MethodId} {args : Array Value} {below : List Frame} {meth : Method} {c : Code} {cc : ByteArray} {nL : Nat} {own : String} {H : Heap} {locs : List Loc} {cells slots : Nat} {Q : State → Prop}
variable {D : va_G} {cI cB : ClassId} {kk : KT} {ws wc : va_W} {y : MethodName} {cc' : ByteArray} {mL' : Nat} {rt : FieldType} {R' : Room} {As rest st : List Value} {b idx n : Nat} {C : String} {pc : Nat} {ls : Array Slot} {A : Nat → Prop}
theorem preRk (av : List Value) (hN : NW s) (hKO : KO kk A s s.heap) (hS : va_S A s.heap H locs) (hK : va_K D vwCl (tyL cI cB) s) (hP : va_P D vwCl wc H) : FrameBlind (va_Pc av (RPk D cI cB kk wc)) ∧ ∀ U : State, U.heap = H → s.WarmedH U.vm → va_Pc av (RPk D cI cB kk wc) av.toArray U := by
  refine ⟨?_, ?_⟩
  · intro a U g mk q
    obtain ⟨q0, qN, qP, qK, qO⟩ := q
    exact ⟨q0, qN.calling, qP, va_K.moved (u := U) (U := U.calling g mk a) (Vm.Alike.refl U.vm) qK, qO.calling⟩
  · intro U hU hW
    exact ⟨rfl, hN.warm hW, by rw [hU]; exact hP, va_K.moved hW.alike hK, by rw [hU]; exact ((hKO.kept hS.2.1).narrow (fun _ h => h.elim)).warm hW⟩
theorem preWk (av : List Value) (hN : NW s) (hKO : KO kk A s s.heap) (hS : va_S A s.heap H locs) (hK : va_K D vwCl (tyL cI cB) s) (hP : va_P D vwCl wc H) (hD : va_D A wc) (hF : ∀ q : Nat, va_A wc H.size q → A q) : FrameBlind (va_Pc av (WPk D cI cB kk wc H.size)) ∧ ∀ U : State, U.heap = H → s.WarmedH U.vm → va_Pc av (WPk D cI cB kk wc H.size) av.toArray U := by
  refine ⟨?_, ?_⟩
  · intro a U g mk q
    obtain ⟨q0, q1, qN, qP, qK, qD, qO⟩ := q
    exact ⟨q0, q1, qN.calling, qP, va_K.moved (u := U) (U := U.calling g mk a) (Vm.Alike.refl U.vm) qK, qD, qO.calling⟩
  · intro U hU hW
    exact ⟨rfl, by rw [hU], hN.warm hW, by rw [hU]; exact hP, va_K.moved hW.alike hK, hD.weaken (fun _ _ _ _ => trivial), by rw [hU]; exact ((hKO.kept hS.2.1).narrow hF).warm hW⟩
theorem cVRk {post : Int32 → Prop} (X : CallFix p m c cc nL s args tb own) (hN : NW s) (hKO : KO kk A s s.heap) (hS : va_S A s.heap H locs) (hK : va_K D vwCl (tyL cI cB) s) (hP : va_P D vwCl ws H)
    (hM : MRk l D cI cB kk y cc' mL' rt R' (.ref b :: As) wc post) (g : GoodIn tb (wsV own idx C y (mw y cc' mL' (some rt))))
    (hd : y.cls = C ∧ y.cls ≠ "java/lang/invoke/MethodHandle" ∧ y.cls ≠ "java/lang/invoke/VarHandle" ∧ (parseMethodDescriptor y.desc).map (fun d => d.parameters.length) = some n) (hR : R'.frames + 1 ≤ R.frames ∧ 8 + (mL' + 11) + R'.locals ≤ R.locals) (h0 : R'.cells = 0 ∧ R'.slots = 0)
    (is : List Nat) (hC : is.filterMap (fun i => ws[i]?) = wc) {q0 ci : Nat} {q : vw_C} {fs : List Value} (hc : vwCl[ci]? = some q) (he : wc[q0]? = some (b, .inr (ci, fs))) (hq : q.1 = C)
    (hst : st = As.reverse ++ .ref b :: rest) (hn : As.length = n) (hs : ls.size = nL) (hw : (rest.map fun v => v.category).sum ≤ 8) (hdg : decode cc pc = .ok (.invokevirtual idx, 3)) (hf : cells ≤ R.cells ∧ slots ≤ R.slots)
    (kq : ∀ r : Int32, post r → W p l e R s m args below meth c H locs cells slots Q (F0 m (pc + 3) ls (.int r :: rest))) : W p l e R s m args below meth c H locs cells slots Q (F0 m pc ls st) := by
  have hPc := hP.sub is hC
  have hpre := preRk (.ref b :: As) hN hKO hS hK hPc
  refine back_R (va_runV (C := C) (As := As) (rest := rest) X hM (cwV n X.2.2.2.2 g rfl h0.1 h0.2 hd hR) ⟨hpre.1, ?_, hpre.2⟩ rfl hn hs hst (lv_room hw) hdg hf) kq
  obtain ⟨cell, h1, h2, h3⟩ := va_recv hK hPc hc he
  exact ⟨cell, h1, h2, by rw [← hq]; exact h3⟩
/-- a virtual call on a String constant -/
theorem cKR {post : Int32 → Prop} {i : Nat} (X : CallFix p m c cc nL s args tb own) (hN : NW s) (hKO : KO kk A s s.heap) (hS : va_S A s.heap H locs) (hK : va_K D vwCl (tyL cI cB) s) (hP : va_P D vwCl ws H)
    (hM : MRk l D cI cB kk y cc' mL' rt R' (.ref (kk.2.1 i) :: As) wc post) (g : GoodIn tb (wsV own idx "java/lang/String" y (mw y cc' mL' (some rt))))
    (hd : y.cls = "java/lang/String" ∧ y.cls ≠ "java/lang/invoke/MethodHandle" ∧ y.cls ≠ "java/lang/invoke/VarHandle" ∧ (parseMethodDescriptor y.desc).map (fun d => d.parameters.length) = some n) (hR : R'.frames + 1 ≤ R.frames ∧ 8 + (mL' + 11) + R'.locals ≤ R.locals) (h0 : R'.cells = 0 ∧ R'.slots = 0)
    (is : List Nat) (hC : is.filterMap (fun i => ws[i]?) = wc) (hi : i < 2)
    (hst : st = As.reverse ++ .ref (kk.2.1 i) :: rest) (hn : As.length = n) (hs : ls.size = nL) (hw : (rest.map fun v => v.category).sum ≤ 8) (hdg : decode cc pc = .ok (.invokevirtual idx, 3)) (hf : cells ≤ R.cells ∧ slots ≤ R.slots)
    (kq : ∀ r : Int32, post r → W p l e R s m args below meth c H locs cells slots Q (F0 m (pc + 3) ls (.int r :: rest))) : W p l e R s m args below meth c H locs cells slots Q (F0 m pc ls st) := by
  have hPc := hP.sub is hC
  have hpre := preRk (.ref (kk.2.1 i) :: As) hN hKO hS hK hPc
  refine back_R (va_runV (C := "java/lang/String") (As := As) (rest := rest) X hM (cwV n X.2.2.2.2 g rfl h0.1 h0.2 hd hR) ⟨hpre.1, ?_, hpre.2⟩ rfl hn hs hst (lv_room hw) hdg hf) kq
  exact vk_recv hKO.2.2.2.1 hi hS
theorem cSRk {post : Int32 → Prop} (X : CallFix p m c cc nL s args tb own) (hN : NW s) (hKO : KO kk A s s.heap) (hS : va_S A s.heap H locs) (hK : va_K D vwCl (tyL cI cB) s) (hP : va_P D vwCl ws H)
    (hM : MRk l D cI cB kk y cc' mL' rt R' As wc post) (w1 : Cond.methodLink own idx y ∈ tb) (w2 : Cond.static y ∈ tb) (w3 : Cond.initialized y.cls ∈ tb) (w5 : Cond.code y cc' mL' (some rt) ∈ tb)
    (hd : y.cls ≠ "java/lang/invoke/MethodHandle" ∧ y.cls ≠ "java/lang/invoke/VarHandle" ∧ (parseMethodDescriptor y.desc).map (fun d => d.parameters.length) = some n) (hR : R'.frames + 1 ≤ R.frames ∧ 8 + (mL' + 11) + R'.locals ≤ R.locals) (h0 : R'.cells = 0 ∧ R'.slots = 0)
    (is : List Nat) (hC : is.filterMap (fun i => ws[i]?) = wc)
    (hst : st = As.reverse ++ rest) (hn : As.length = n) (hs : ls.size = nL) (hw : (rest.map fun v => v.category).sum ≤ 8) (hdg : decode cc pc = .ok (.invokestatic idx, 3)) (hf : cells ≤ R.cells ∧ slots ≤ R.slots)
    (kq : ∀ r : Int32, post r → W p l e R s m args below meth c H locs cells slots Q (F0 m (pc + 3) ls (.int r :: rest))) : W p l e R s m args below meth c H locs cells slots Q (F0 m pc ls st) :=
  back_R (va_runS (As := As) (rest := rest) X hM (gS w1 w2 w3 w5 X.2.2.2.2 h0 hd hR) (preRk As hN hKO hS hK (hP.sub is hC)) rfl hn hs hst (lv_room hw) hdg hf) kq
theorem cVIk {S : Type} {post : Int32 → S → Prop} {wf : S → va_W} {wr : va_W} (X : CallFix p m c cc nL s args tb own) (hN : NW s) (hKO : KO kk A s s.heap) (hK : va_K D vwCl (tyL cI cB) s) (hP : va_P D vwCl ws H) (hD : va_D A ws) (hS : va_S A s.heap H locs) (hA : ∀ q : Nat, s.heap.size ≤ q → A q)
    (hM : MIk l D cI cB kk y cc' mL' rt R' (.ref b :: As) wc H.size post wf) (g : GoodIn tb (wsV own idx C y (mw y cc' mL' (some rt))))
    (hd : y.cls = C ∧ y.cls ≠ "java/lang/invoke/MethodHandle" ∧ y.cls ≠ "java/lang/invoke/VarHandle" ∧ (parseMethodDescriptor y.desc).map (fun d => d.parameters.length) = some n) (hR : R'.frames + 1 ≤ R.frames ∧ 8 + (mL' + 11) + R'.locals ≤ R.locals) (h0 : R'.cells = 0 ∧ R'.slots = 0)
    (isC isR : List Nat) (hC : isC.map (fun i => ws[i]?) = wc.map some) (hRr : isR.map (fun i => ws[i]?) = wr.map some) (hnd : va_nd isC = true ∧ va_nd isR = true) (hdis : ∀ i ∈ isR, i ∉ isC) {q0 ci : Nat} {q : vw_C} {fs : List Value} (hc : vwCl[ci]? = some q) (he : wc[q0]? = some (b, .inr (ci, fs))) (hq : q.1 = C)
    (hst : st = As.reverse ++ .ref b :: rest) (hn : As.length = n) (hs : ls.size = nL) (hw : (rest.map fun v => v.category).sum ≤ 8) (hdg : decode cc pc = .ok (.invokevirtual idx, 3)) (hf : cells ≤ R.cells ∧ slots ≤ R.slots)
    (kq : ∀ (r : Int32) (u : S) (H1 : Heap) (locs1 : List Loc), post r u → va_P D vwCl (wr ++ wf u) H1 → va_D A (wr ++ wf u) → va_S A s.heap H1 locs1 → W p l e R s m args below meth c H1 locs1 cells slots Q (F0 m (pc + 3) ls (.int r :: rest))) : W p l e R s m args below meth c H locs cells slots Q (F0 m pc ls st) := by
  obtain ⟨hPc, hDc⟩ := subPD hP hD isC hC hnd.1
  have hpre := preWk (.ref b :: As) hN hKO hS hK hPc hDc (va_free (wc := wc) hD hS hA isC hC)
  obtain ⟨cell, h1, h2, h3⟩ := va_recv hK hPc hc he
  have h0c := h0.1
  have h0s := h0.2
  refine back_I (mc := R'.cells) (ms := R'.slots) (va_runV (C := C) (As := As) (rest := rest) X hM (cwV n X.2.2.2.2 g rfl rfl rfl hd hR) ⟨hpre.1, ⟨cell, h1, h2, by rw [← hq]; exact h3⟩, hpre.2⟩ rfl hn hs hst (lv_room hw) hdg (by rw [h0c, h0s]; exact hf)) hP hD hS hA isC isR hC hRr hnd.2 hdis ?_
  rw [h0c, h0s]
  exact kq
theorem cVVk {S : Type} {post : S → Prop} {wf : S → va_W} {wr : va_W} (X : CallFix p m c cc nL s args tb own) (hN : NW s) (hKO : KO kk A s s.heap) (hK : va_K D vwCl (tyL cI cB) s) (hP : va_P D vwCl ws H) (hD : va_D A ws) (hS : va_S A s.heap H locs) (hA : ∀ q : Nat, s.heap.size ≤ q → A q)
    (hM : MVk l D cI cB kk y cc' mL' R' (.ref b :: As) wc H.size post wf) (g : GoodIn tb (wsV own idx C y (mw y cc' mL' none)))
    (hd : y.cls = C ∧ y.cls ≠ "java/lang/invoke/MethodHandle" ∧ y.cls ≠ "java/lang/invoke/VarHandle" ∧ (parseMethodDescriptor y.desc).map (fun d => d.parameters.length) = some n) (hR : R'.frames + 1 ≤ R.frames ∧ 8 + (mL' + 11) + R'.locals ≤ R.locals) (h0 : R'.cells = 0 ∧ R'.slots = 0)
    (isC isR : List Nat) (hC : isC.map (fun i => ws[i]?) = wc.map some) (hRr : isR.map (fun i => ws[i]?) = wr.map some) (hnd : va_nd isC = true ∧ va_nd isR = true) (hdis : ∀ i ∈ isR, i ∉ isC) {q0 ci : Nat} {q : vw_C} {fs : List Value} (hc : vwCl[ci]? = some q) (he : wc[q0]? = some (b, .inr (ci, fs))) (hq : q.1 = C)
    (hst : st = As.reverse ++ .ref b :: rest) (hn : As.length = n) (hs : ls.size = nL) (hw : (rest.map fun v => v.category).sum ≤ 8) (hdg : decode cc pc = .ok (.invokevirtual idx, 3)) (hf : cells ≤ R.cells ∧ slots ≤ R.slots)
    (kq : ∀ (u : S) (H1 : Heap) (locs1 : List Loc), post u → va_P D vwCl (wr ++ wf u) H1 → va_D A (wr ++ wf u) → va_S A s.heap H1 locs1 → W p l e R s m args below meth c H1 locs1 cells slots Q (F0 m (pc + 3) ls rest)) : W p l e R s m args below meth c H locs cells slots Q (F0 m pc ls st) := by
  obtain ⟨hPc, hDc⟩ := subPD hP hD isC hC hnd.1
  have hpre := preWk (.ref b :: As) hN hKO hS hK hPc hDc (va_free (wc := wc) hD hS hA isC hC)
  obtain ⟨cell, h1, h2, h3⟩ := va_recv hK hPc hc he
  have h0c := h0.1
  have h0s := h0.2
  refine back_V (mc := R'.cells) (ms := R'.slots) (va_runV (C := C) (As := As) (rest := rest) X hM (cwV n X.2.2.2.2 g rfl rfl rfl hd hR) ⟨hpre.1, ⟨cell, h1, h2, by rw [← hq]; exact h3⟩, hpre.2⟩ rfl hn hs hst (lv_room hw) hdg (by rw [h0c, h0s]; exact hf)) hP hD hS hA isC isR hC hRr hnd.2 hdis ?_
  rw [h0c, h0s]
  exact kq
end CRK
def kp0 (x : Int32) : Int32 := (if 109 = x then 0 else (if 110 = x then 1 else (if 99 = x then 2 else (if 107 = x then 3 else (-1)))))
def kp1 (x : Int32) : Int32 := (if 105 = x then 0 else (if 112 = x then 1 else (if 120 = x then 2 else (if 100 = x then 3 else (if 119 = x then 4 else (if 114 = x then 5 else (if 97 = x then 6 else (if 117 = x then 7 else (-1)))))))))
