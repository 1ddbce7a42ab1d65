section CR
variable {p : Program} {l : Launch} {e : Env} {R : Room} {s : State} {m : MethodId} {args : Array Value} {below : List Frame} {meth : Method} {c : Code} {cc : ByteArray} {nL : Nat} {own : String} {H : Heap} {locs : List Loc} {cells slots : Nat} {Q : State → Prop}
variable {D : va_G} {cI cB : ClassId} {ws wc : va_W} {y : MethodName} {cc' : ByteArray} {mL' : Nat} {rt : FieldType} {R' : Room} {As rest st : List Value} {b idx n : Nat} {C : String} {pc : Nat} {ls : Array Slot} {A : Nat → Prop}
/-- a value on top by another word for it -/
theorem tv {x z : Int32} {pc : Nat} (h : x = z) (k : W p l e R s m args below meth c H locs cells slots Q (F0 m pc ls (.int z :: rest))) : W p l e R s m args below meth c H locs cells slots Q (F0 m pc ls (.int x :: rest)) := by
  rw [h]; exact k
/-- what comes back from a method that only reads -/
theorem back_R {post : Int32 → Prop} {a : Array Value} (hr : va_Run p l e R s m args below meth c H locs cells slots 0 0 (F0 m pc ls st) rest (RQ post a) (fun _ => False))
    (kk : ∀ r : Int32, post r → W p l e R s m args below meth c H locs cells slots Q (F0 m (pc + 3) ls (.int r :: rest))) : W p l e R s m args below meth c H locs cells slots Q (F0 m pc ls st) := by
  intro T hT X
  obtain ⟨v, st₀, t, T', L, h0, X', hL, e1, e2, ⟨r, hv, hp, hh⟩, stp⟩ := hr T hT X
  cases hv
  have hL0 : L = [] := List.eq_nil_iff_forall_not_mem.mpr hL
  subst hL0
  rw [List.append_nil] at X'
  obtain ⟨t2, a1, b1⟩ := kk r hp T' (by rw [e1, hh, h0]) X'
  exact ⟨t2, stp t2 a1, b1⟩
theorem preR (av : List Value) (hN : NW s) (hK : va_K D vwCl (tyL cI cB) s) (hP : va_P D vwCl wc H) : FrameBlind (va_Pc av (RP D cI cB wc)) ∧ ∀ U : State, U.heap = H → s.WarmedH U.vm → va_Pc av (RP D cI cB wc) av.toArray U := by
  refine ⟨?_, ?_⟩
  · intro a U g mk q
    obtain ⟨q0, qN, qP, qK⟩ := q
    exact ⟨q0, qN.calling, qP, va_K.moved (u := U) (U := U.calling g mk a) (Vm.Alike.refl U.vm) qK⟩
  · intro U hU hW
    exact ⟨rfl, hN.warm hW, by rw [hU]; exact hP, va_K.moved hW.alike hK⟩
theorem preW (av : List Value) (hN : NW s) (hK : va_K D vwCl (tyL cI cB) s) (hP : va_P D vwCl wc H) (hD : va_D A wc) : FrameBlind (va_Pc av (WP D cI cB wc H.size)) ∧ ∀ U : State, U.heap = H → s.WarmedH U.vm → va_Pc av (WP D cI cB wc H.size) av.toArray U := by
  refine ⟨?_, ?_⟩
  · intro a U g mk q
    obtain ⟨q0, q1, qN, qP, qK, qD⟩ := q
    exact ⟨q0, q1, qN.calling, qP, va_K.moved (u := U) (U := U.calling g mk a) (Vm.Alike.refl U.vm) qK, qD⟩
  · intro U hU hW
    exact ⟨rfl, by rw [hU], hN.warm hW, by rw [hU]; exact hP, va_K.moved hW.alike hK, hD.weaken (fun _ _ _ _ => trivial)⟩
/-- a virtual call of a method that only reads -/
theorem cVR {post : Int32 → Prop} (X : CallFix p m c cc nL s args tb own) (hN : NW s) (hK : va_K D vwCl (tyL cI cB) s) (hP : va_P D vwCl ws H)
    (hM : MR l D cI cB y cc' mL' rt R' (.ref b :: As) wc post) (g : GoodIn tb (wsV own idx C y (mw y cc' mL' (some rt))))
    (hd : y.cls = C ∧ y.cls ≠ "java/lang/invoke/MethodHandle" ∧ y.cls ≠ "java/lang/invoke/VarHandle" ∧ (parseMethodDescriptor y.desc).map (fun d => d.parameters.length) = some n) (hR : R'.frames + 1 ≤ R.frames ∧ 8 + (mL' + 11) + R'.locals ≤ R.locals) (h0 : R'.cells = 0 ∧ R'.slots = 0)
    (is : List Nat) (hC : is.filterMap (fun i => ws[i]?) = wc) {q0 ci : Nat} {q : vw_C} {fs : List Value} (hc : vwCl[ci]? = some q) (he : wc[q0]? = some (b, .inr (ci, fs))) (hq : q.1 = C)
    (hst : st = As.reverse ++ .ref b :: rest) (hn : As.length = n) (hs : ls.size = nL) (hw : (rest.map fun v => v.category).sum ≤ 8) (hdg : decode cc pc = .ok (.invokevirtual idx, 3)) (hf : cells ≤ R.cells ∧ slots ≤ R.slots)
    (kk : ∀ r : Int32, post r → W p l e R s m args below meth c H locs cells slots Q (F0 m (pc + 3) ls (.int r :: rest))) : W p l e R s m args below meth c H locs cells slots Q (F0 m pc ls st) := by
  have hPc := hP.sub is hC
  have hpre := preR (.ref b :: As) hN hK hPc
  refine back_R (va_runV (C := C) (As := As) (rest := rest) X hM (cwV n X.2.2.2.2 g rfl h0.1 h0.2 hd hR) ⟨hpre.1, ?_, hpre.2⟩ rfl hn hs hst (lv_room hw) hdg hf) kk
  obtain ⟨cell, h1, h2, h3⟩ := va_recv hK hPc hc he
  exact ⟨cell, h1, h2, by rw [← hq]; exact h3⟩
theorem gS {own : String} {idx : Nat} {y : MethodName} {cc : ByteArray} {mL : Nat} {ret : Option FieldType} (w1 : Cond.methodLink own idx y ∈ tb) (w2 : Cond.static y ∈ tb) (w3 : Cond.initialized y.cls ∈ tb) (w5 : Cond.code y cc mL ret ∈ tb) (hts : ∀ w ∈ tb, w.before args s = true) {mc ms : Nat} (h0 : R'.cells = mc ∧ R'.slots = ms)
    (hd : y.cls ≠ "java/lang/invoke/MethodHandle" ∧ y.cls ≠ "java/lang/invoke/VarHandle" ∧ (parseMethodDescriptor y.desc).map (fun d => d.parameters.length) = some n) (hR : R'.frames + 1 ≤ R.frames ∧ 8 + (mL + 11) + R'.locals ≤ R.locals) :
    CallB R s args own idx y cc mL ret (mw y cc mL ret) R' mc ms n ∧ (Cond.static y).before args s = true :=
  ⟨callB_of n hts (gcons w5) rfl h0.1 h0.2 (hts _ w3) (hts _ w1) hd hR, hts _ w2⟩
/-- a static call of a method that only reads -/
theorem cSR {post : Int32 → Prop} (X : CallFix p m c cc nL s args tb own) (hN : NW s) (hK : va_K D vwCl (tyL cI cB) s) (hP : va_P D vwCl ws H)
    (hM : MR l D cI cB y cc' mL' rt R' As wc post) (w1 : Cond.methodLink own idx y ∈ tb) (w2 : Cond.static y ∈ tb) (w3 : Cond.initialized y.cls ∈ tb) (w5 : Cond.code y cc' mL' (some rt) ∈ tb)
    (hd : y.cls ≠ "java/lang/invoke/MethodHandle" ∧ y.cls ≠ "java/lang/invoke/VarHandle" ∧ (parseMethodDescriptor y.desc).map (fun d => d.parameters.length) = some n) (hR : R'.frames + 1 ≤ R.frames ∧ 8 + (mL' + 11) + R'.locals ≤ R.locals) (h0 : R'.cells = 0 ∧ R'.slots = 0)
    (is : List Nat) (hC : is.filterMap (fun i => ws[i]?) = wc)
    (hst : st = As.reverse ++ rest) (hn : As.length = n) (hs : ls.size = nL) (hw : (rest.map fun v => v.category).sum ≤ 8) (hdg : decode cc pc = .ok (.invokestatic idx, 3)) (hf : cells ≤ R.cells ∧ slots ≤ R.slots)
    (kk : ∀ r : Int32, post r → W p l e R s m args below meth c H locs cells slots Q (F0 m (pc + 3) ls (.int r :: rest))) : W p l e R s m args below meth c H locs cells slots Q (F0 m pc ls st) :=
  back_R (va_runS (As := As) (rest := rest) X hM (gS w1 w2 w3 w5 X.2.2.2.2 h0 hd hR) (preR As hN hK (hP.sub is hC)) rfl hn hs hst (lv_room hw) hdg hf) kk
/-- a static call of a nest mate's private method that only reads -/
theorem cSNR {post : Int32 → Prop} {host : String} (X : CallFix p m c cc nL s args tb own) (hN : NW s) (hK : va_K D vwCl (tyL cI cB) s) (hP : va_P D vwCl ws H)
    (hM : MR l D cI cB y cc' mL' rt R' As wc post) (w1 : Cond.methodLinkNest own idx y host ∈ lw_tbl) (w2 : Cond.static y ∈ tb) (w3 : Cond.initialized y.cls ∈ tb) (w5 : Cond.code y cc' mL' (some rt) ∈ tb)
    (hd : y.cls ≠ "java/lang/invoke/MethodHandle" ∧ y.cls ≠ "java/lang/invoke/VarHandle" ∧ (parseMethodDescriptor y.desc).map (fun d => d.parameters.length) = some n) (hR : R'.frames + 1 ≤ R.frames ∧ 8 + (mL' + 11) + R'.locals ≤ R.locals) (h0 : R'.cells = 0 ∧ R'.slots = 0)
    (is : List Nat) (hC : is.filterMap (fun i => ws[i]?) = wc)
    (hst : st = As.reverse ++ rest) (hn : As.length = n) (hs : ls.size = nL) (hw : (rest.map fun v => v.category).sum ≤ 8) (hdg : decode cc pc = .ok (.invokestatic idx, 3)) (hf : cells ≤ R.cells ∧ slots ≤ R.slots)
    (kk : ∀ r : Int32, post r → W p l e R s m args below meth c H locs cells slots Q (F0 m (pc + 3) ls (.int r :: rest))) : W p l e R s m args below meth c H locs cells slots Q (F0 m pc ls st) :=
  back_R (va_runSN (As := As) (rest := rest) X hM ⟨va_cnB n X.2.2.2.2 (gcons w5) rfl h0.1 h0.2 (hN _ w1 rfl) (X.2.2.2.2 _ w3) hd hR, X.2.2.2.2 _ w2, trivial⟩ (preR As hN hK (hP.sub is hC)) rfl hn hs hst (lv_room hw) hdg hf) kk
/-- what comes back from a method that writes: the caller's other cells, and the callee's -/
theorem back_V {S : Type} {post : S → Prop} {wf : S → va_W} {wr : va_W} {mc ms : Nat} {a : Array Value} (hr : va_Run p l e R s m args below meth c H locs cells slots mc ms (F0 m pc ls st) rest (va_Qv post (WB D cI cB (va_A wc H.size) wf) (va_A wc H.size) a) (va_A wc H.size))
    (hP : va_P D vwCl ws H) (hD : va_D A ws) (hS : va_S A s.heap H locs) (hA : ∀ q : Nat, s.heap.size ≤ q → A q) (isC isR : List Nat) (hC : isC.map (fun i => ws[i]?) = wc.map some) (hR : isR.map (fun i => ws[i]?) = wr.map some) (hn : va_nd isR = true) (hdis : ∀ i ∈ isR, i ∉ isC)
    (kk : ∀ (u : S) (H1 : Heap) (locs1 : List Loc), post u → va_P D vwCl (wr ++ wf u) H1 → va_D A (wr ++ wf u) → va_S A s.heap H1 locs1 → W p l e R s m args below meth c H1 locs1 (cells + mc) (slots + ms) Q (F0 m (pc + 3) ls rest)) : W p l e R s m args below meth c H locs cells slots Q (F0 m pc ls st) := by
  have hFc := va_free (wc := wc) hD hS hA isC hC
  refine va_callv hr hS (fun q _ h => hFc q h) hFc (fun u t H1 locs1 ht hvm hw hB hz1 hk1 hS1 => ?_)
  obtain ⟨hP1, -, hD1⟩ := hB
  rw [ht] at hP1
  obtain ⟨hP2, hD2⟩ := va_join (wr := wr) hP hD isC isR hC hR hn hdis hk1 hFc hP1 hD1
  exact kk u H1 locs1 hw hP2 hD2 hS1
theorem back_I {S : Type} {post : Int32 → S → Prop} {wf : S → va_W} {wr : va_W} {mc ms : Nat} {a : Array Value} (hr : va_Run p l e R s m args below meth c H locs cells slots mc ms (F0 m pc ls st) rest (va_Qi post (WB D cI cB (va_A wc H.size) wf) (va_A wc H.size) a) (va_A wc H.size))
    (hP : va_P D vwCl ws H) (hD : va_D A ws) (hS : va_S A s.heap H locs) (hA : ∀ q : Nat, s.heap.size ≤ q → A q) (isC isR : List Nat) (hC : isC.map (fun i => ws[i]?) = wc.map some) (hR : isR.map (fun i => ws[i]?) = wr.map some) (hn : va_nd isR = true) (hdis : ∀ i ∈ isR, i ∉ isC)
    (kk : ∀ (r : Int32) (u : S) (H1 : Heap) (locs1 : List Loc), post r u → va_P D vwCl (wr ++ wf u) H1 → va_D A (wr ++ wf u) → va_S A s.heap H1 locs1 → W p l e R s m args below meth c H1 locs1 (cells + mc) (slots + ms) Q (F0 m (pc + 3) ls (.int r :: rest))) : W p l e R s m args below meth c H locs cells slots Q (F0 m pc ls st) := by
  have hFc := va_free (wc := wc) hD hS hA isC hC
  refine va_calli hr hS (fun q _ h => hFc q h) hFc (fun r u t H1 locs1 ht hvm hw hB hz1 hk1 hS1 => ?_)
  obtain ⟨hP1, -, hD1⟩ := hB
  rw [ht] at hP1
  obtain ⟨hP2, hD2⟩ := va_join (wr := wr) hP hD isC isR hC hR hn hdis hk1 hFc hP1 hD1
  exact kk r u H1 locs1 hw hP2 hD2 hS1
theorem subPD (hP : va_P D vwCl ws H) (hD : va_D A ws) (isC : List Nat) (hC : isC.map (fun i => ws[i]?) = wc.map some) (hnC : va_nd isC = true) : va_P D vwCl wc H ∧ va_D A wc := by
  refine ⟨?_, hD.sub isC hnC hC⟩
  intro k q hk
  have h1 : (isC.map (fun i => ws[i]?))[k]? = some (some q) := by rw [hC, List.getElem?_map, hk]; rfl
  rw [List.getElem?_map] at h1
  cases hi : isC[k]? with
  | none => rw [hi] at h1; cases h1
  | some i => rw [hi] at h1; exact hP i q (Option.some.inj h1)
/-- a virtual call of a method that writes and answers an int -/
theorem cVI {S : Type} {post : Int32 → S → Prop} {wf : S → va_W} {wr : va_W} (X : CallFix p m c cc nL s args tb own) (hN : NW s) (hK : va_K D vwCl (tyL cI cB) s) (hP : va_P D vwCl ws H) (hD : va_D A ws) (hS : va_S A s.heap H locs) (hA : ∀ q : Nat, s.heap.size ≤ q → A q)
    (hM : MI l D cI cB y cc' mL' rt R' (.ref b :: As) wc H.size post wf) (g : GoodIn tb (wsV own idx C y (mw y cc' mL' (some rt))))
    (hd : y.cls = C ∧ y.cls ≠ "java/lang/invoke/MethodHandle" ∧ y.cls ≠ "java/lang/invoke/VarHandle" ∧ (parseMethodDescriptor y.desc).map (fun d => d.parameters.length) = some n) (hR : R'.frames + 1 ≤ R.frames ∧ 8 + (mL' + 11) + R'.locals ≤ R.locals) (h0 : R'.cells = 0 ∧ R'.slots = 0)
    (isC isR : List Nat) (hC : isC.map (fun i => ws[i]?) = wc.map some) (hRr : isR.map (fun i => ws[i]?) = wr.map some) (hnd : va_nd isC = true ∧ va_nd isR = true) (hdis : ∀ i ∈ isR, i ∉ isC) {q0 ci : Nat} {q : vw_C} {fs : List Value} (hc : vwCl[ci]? = some q) (he : wc[q0]? = some (b, .inr (ci, fs))) (hq : q.1 = C)
    (hst : st = As.reverse ++ .ref b :: rest) (hn : As.length = n) (hs : ls.size = nL) (hw : (rest.map fun v => v.category).sum ≤ 8) (hdg : decode cc pc = .ok (.invokevirtual idx, 3)) (hf : cells ≤ R.cells ∧ slots ≤ R.slots)
    (kk : ∀ (r : Int32) (u : S) (H1 : Heap) (locs1 : List Loc), post r u → va_P D vwCl (wr ++ wf u) H1 → va_D A (wr ++ wf u) → va_S A s.heap H1 locs1 → W p l e R s m args below meth c H1 locs1 cells slots Q (F0 m (pc + 3) ls (.int r :: rest))) : W p l e R s m args below meth c H locs cells slots Q (F0 m pc ls st) := by
  obtain ⟨hPc, hDc⟩ := subPD hP hD isC hC hnd.1
  have hpre := preW (.ref b :: As) hN hK hPc hDc
  obtain ⟨cell, h1, h2, h3⟩ := va_recv hK hPc hc he
  have h0c := h0.1
  have h0s := h0.2
  refine back_I (mc := R'.cells) (ms := R'.slots) (va_runV (C := C) (As := As) (rest := rest) X hM (cwV n X.2.2.2.2 g rfl rfl rfl hd hR) ⟨hpre.1, ⟨cell, h1, h2, by rw [← hq]; exact h3⟩, hpre.2⟩ rfl hn hs hst (lv_room hw) hdg (by rw [h0c, h0s]; exact hf)) hP hD hS hA isC isR hC hRr hnd.2 hdis ?_
  rw [h0c, h0s]
  exact kk
/-- a virtual call of a method that writes and answers nothing -/
theorem cVV {S : Type} {post : S → Prop} {wf : S → va_W} {wr : va_W} (X : CallFix p m c cc nL s args tb own) (hN : NW s) (hK : va_K D vwCl (tyL cI cB) s) (hP : va_P D vwCl ws H) (hD : va_D A ws) (hS : va_S A s.heap H locs) (hA : ∀ q : Nat, s.heap.size ≤ q → A q)
    (hM : MV l D cI cB y cc' mL' R' (.ref b :: As) wc H.size post wf) (g : GoodIn tb (wsV own idx C y (mw y cc' mL' none)))
    (hd : y.cls = C ∧ y.cls ≠ "java/lang/invoke/MethodHandle" ∧ y.cls ≠ "java/lang/invoke/VarHandle" ∧ (parseMethodDescriptor y.desc).map (fun d => d.parameters.length) = some n) (hR : R'.frames + 1 ≤ R.frames ∧ 8 + (mL' + 11) + R'.locals ≤ R.locals) (h0 : R'.cells = 0 ∧ R'.slots = 0)
    (isC isR : List Nat) (hC : isC.map (fun i => ws[i]?) = wc.map some) (hRr : isR.map (fun i => ws[i]?) = wr.map some) (hnd : va_nd isC = true ∧ va_nd isR = true) (hdis : ∀ i ∈ isR, i ∉ isC) {q0 ci : Nat} {q : vw_C} {fs : List Value} (hc : vwCl[ci]? = some q) (he : wc[q0]? = some (b, .inr (ci, fs))) (hq : q.1 = C)
    (hst : st = As.reverse ++ .ref b :: rest) (hn : As.length = n) (hs : ls.size = nL) (hw : (rest.map fun v => v.category).sum ≤ 8) (hdg : decode cc pc = .ok (.invokevirtual idx, 3)) (hf : cells ≤ R.cells ∧ slots ≤ R.slots)
    (kk : ∀ (u : S) (H1 : Heap) (locs1 : List Loc), post u → va_P D vwCl (wr ++ wf u) H1 → va_D A (wr ++ wf u) → va_S A s.heap H1 locs1 → W p l e R s m args below meth c H1 locs1 cells slots Q (F0 m (pc + 3) ls rest)) : W p l e R s m args below meth c H locs cells slots Q (F0 m pc ls st) := by
  obtain ⟨hPc, hDc⟩ := subPD hP hD isC hC hnd.1
  have hpre := preW (.ref b :: As) hN hK hPc hDc
  obtain ⟨cell, h1, h2, h3⟩ := va_recv hK hPc hc he
  have h0c := h0.1
  have h0s := h0.2
  refine back_V (mc := R'.cells) (ms := R'.slots) (va_runV (C := C) (As := As) (rest := rest) X hM (cwV n X.2.2.2.2 g rfl rfl rfl hd hR) ⟨hpre.1, ⟨cell, h1, h2, by rw [← hq]; exact h3⟩, hpre.2⟩ rfl hn hs hst (lv_room hw) hdg (by rw [h0c, h0s]; exact hf)) hP hD hS hA isC isR hC hRr hnd.2 hdis ?_
  rw [h0c, h0s]
  exact kk
/-- a static call of a method that writes and answers nothing -/
theorem cSV {S : Type} {post : S → Prop} {wf : S → va_W} {wr : va_W} (X : CallFix p m c cc nL s args tb own) (hN : NW s) (hK : va_K D vwCl (tyL cI cB) s) (hP : va_P D vwCl ws H) (hD : va_D A ws) (hS : va_S A s.heap H locs) (hA : ∀ q : Nat, s.heap.size ≤ q → A q)
    (hM : MV l D cI cB y cc' mL' R' As wc H.size post wf) (w1 : Cond.methodLink own idx y ∈ tb) (w2 : Cond.static y ∈ tb) (w3 : Cond.initialized y.cls ∈ tb) (w5 : Cond.code y cc' mL' none ∈ tb)
    (hd : y.cls ≠ "java/lang/invoke/MethodHandle" ∧ y.cls ≠ "java/lang/invoke/VarHandle" ∧ (parseMethodDescriptor y.desc).map (fun d => d.parameters.length) = some n) (hR : R'.frames + 1 ≤ R.frames ∧ 8 + (mL' + 11) + R'.locals ≤ R.locals) (h0 : R'.cells = 0 ∧ R'.slots = 0)
    (isC isR : List Nat) (hC : isC.map (fun i => ws[i]?) = wc.map some) (hRr : isR.map (fun i => ws[i]?) = wr.map some) (hnd : va_nd isC = true ∧ va_nd isR = true) (hdis : ∀ i ∈ isR, i ∉ isC)
    (hst : st = As.reverse ++ rest) (hn : As.length = n) (hs : ls.size = nL) (hw : (rest.map fun v => v.category).sum ≤ 8) (hdg : decode cc pc = .ok (.invokestatic idx, 3)) (hf : cells ≤ R.cells ∧ slots ≤ R.slots)
    (kk : ∀ (u : S) (H1 : Heap) (locs1 : List Loc), post u → va_P D vwCl (wr ++ wf u) H1 → va_D A (wr ++ wf u) → va_S A s.heap H1 locs1 → W p l e R s m args below meth c H1 locs1 cells slots Q (F0 m (pc + 3) ls rest)) : W p l e R s m args below meth c H locs cells slots Q (F0 m pc ls st) := by
  obtain ⟨hPc, hDc⟩ := subPD hP hD isC hC hnd.1
  have hpre := preW As hN hK hPc hDc
  have h0c := h0.1
  have h0s := h0.2
  refine back_V (mc := R'.cells) (ms := R'.slots) (va_runS (As := As) (rest := rest) X hM (gS w1 w2 w3 w5 X.2.2.2.2 ⟨rfl, rfl⟩ hd hR) hpre rfl hn hs hst (lv_room hw) hdg (by rw [h0c, h0s]; exact hf)) hP hD hS hA isC isR hC hRr hnd.2 hdis ?_
  rw [h0c, h0s]
  exact kk
/-- a constructor: own nest or not; it makes R'.cells cells of R'.slots slots -/
theorem cIV {S : Type} {post : S → Prop} {wf : S → va_W} {wr : va_W} (X : CallFix p m c cc nL s args tb own) (hN : NW s) (hK : va_K D vwCl (tyL cI cB) s) (hP : va_P D vwCl ws H) (hD : va_D A ws) (hS : va_S A s.heap H locs) (hA : ∀ q : Nat, s.heap.size ≤ q → A q)
    (hM : MV l D cI cB y cc' mL' R' (.ref b :: As) wc H.size post wf) (w1 : Cond.methodLink own idx y ∈ tb) (w2 : Cond.instanceMethod y ∈ tb) (w3 : Cond.initialized y.cls ∈ tb) (w5 : Cond.code y cc' mL' none ∈ tb) (hi : y.name = "<init>")
    (hd : y.cls ≠ "java/lang/invoke/MethodHandle" ∧ y.cls ≠ "java/lang/invoke/VarHandle" ∧ (parseMethodDescriptor y.desc).map (fun d => d.parameters.length) = some n) (hR : R'.frames + 1 ≤ R.frames ∧ 8 + (mL' + 11) + R'.locals ≤ R.locals)
    (isC isR : List Nat) (hC : isC.map (fun i => ws[i]?) = wc.map some) (hRr : isR.map (fun i => ws[i]?) = wr.map some) (hnd : va_nd isC = true ∧ va_nd isR = true) (hdis : ∀ i ∈ isR, i ∉ isC)
    (hst : st = As.reverse ++ .ref b :: rest) (hn : As.length = n) (hs : ls.size = nL) (hw : (rest.map fun v => v.category).sum ≤ 8) (hdg : decode cc pc = .ok (.invokespecial idx, 3)) (hf : cells + R'.cells ≤ R.cells ∧ slots + R'.slots ≤ R.slots)
    (kk : ∀ (u : S) (H1 : Heap) (locs1 : List Loc), post u → va_P D vwCl (wr ++ wf u) H1 → va_D A (wr ++ wf u) → va_S A s.heap H1 locs1 → W p l e R s m args below meth c H1 locs1 (cells + R'.cells) (slots + R'.slots) Q (F0 m (pc + 3) ls rest)) : W p l e R s m args below meth c H locs cells slots Q (F0 m pc ls st) := by
  obtain ⟨hPc, hDc⟩ := subPD hP hD isC hC hnd.1
  have hpre := preW (.ref b :: As) hN hK hPc hDc
  exact back_V (mc := R'.cells) (ms := R'.slots) (va_runI (As := As) (rest := rest) X hM (cwI n X.2.2.2.2 (gcons w5) rfl rfl rfl (X.2.2.2.2 _ w3) (X.2.2.2.2 _ w1) (X.2.2.2.2 _ w2) hi hd hR) hpre rfl hn hs hst (lv_room hw) hdg hf) hP hD hS hA isC isR hC hRr hnd.2 hdis kk
theorem cINV {S : Type} {post : S → Prop} {wf : S → va_W} {wr : va_W} {host : String} (X : CallFix p m c cc nL s args tb own) (hN : NW s) (hK : va_K D vwCl (tyL cI cB) s) (hP : va_P D vwCl ws H) (hD : va_D A ws) (hS : va_S A s.heap H locs) (hA : ∀ q : Nat, s.heap.size ≤ q → A q)
    (hM : MV l D cI cB y cc' mL' R' (.ref b :: As) wc H.size post wf) (w1 : Cond.methodLinkNest own idx y host ∈ lw_tbl) (w2 : Cond.instanceMethod y ∈ tb) (w3 : Cond.initialized y.cls ∈ tb) (w5 : Cond.code y cc' mL' none ∈ tb) (hi : y.name = "<init>")
    (hd : y.cls ≠ "java/lang/invoke/MethodHandle" ∧ y.cls ≠ "java/lang/invoke/VarHandle" ∧ (parseMethodDescriptor y.desc).map (fun d => d.parameters.length) = some n) (hR : R'.frames + 1 ≤ R.frames ∧ 8 + (mL' + 11) + R'.locals ≤ R.locals)
    (isC isR : List Nat) (hC : isC.map (fun i => ws[i]?) = wc.map some) (hRr : isR.map (fun i => ws[i]?) = wr.map some) (hnd : va_nd isC = true ∧ va_nd isR = true) (hdis : ∀ i ∈ isR, i ∉ isC)
    (hst : st = As.reverse ++ .ref b :: rest) (hn : As.length = n) (hs : ls.size = nL) (hw : (rest.map fun v => v.category).sum ≤ 8) (hdg : decode cc pc = .ok (.invokespecial idx, 3)) (hf : cells + R'.cells ≤ R.cells ∧ slots + R'.slots ≤ R.slots)
    (kk : ∀ (u : S) (H1 : Heap) (locs1 : List Loc), post u → va_P D vwCl (wr ++ wf u) H1 → va_D A (wr ++ wf u) → va_S A s.heap H1 locs1 → W p l e R s m args below meth c H1 locs1 (cells + R'.cells) (slots + R'.slots) Q (F0 m (pc + 3) ls rest)) : W p l e R s m args below meth c H locs cells slots Q (F0 m pc ls st) := by
  obtain ⟨hPc, hDc⟩ := subPD hP hD isC hC hnd.1
  have hpre := preW (.ref b :: As) hN hK hPc hDc
  exact back_V (mc := R'.cells) (ms := R'.slots) (va_runIN (As := As) (rest := rest) X hM ⟨va_cnB n X.2.2.2.2 (gcons w5) rfl rfl rfl (hN _ w1 rfl) (X.2.2.2.2 _ w3) hd hR, hi, X.2.2.2.2 _ w2⟩ hpre rfl hn hs hst (lv_room hw) hdg hf) hP hD hS hA isC isR hC hRr hnd.2 hdis kk
end CR
