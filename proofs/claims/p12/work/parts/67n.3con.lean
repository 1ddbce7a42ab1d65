set_option maxRecDepth 100000 in
set_option maxHeartbeats 4000000 in
theorem c_hasPersonF (l : Launch) (D : va_G) (cI cB : ClassId) (h0 : Nat) (pe : Int32) (ch : Int32) (rt : Int32) (t1 : Nat) (t2 : Nat) (t3 : Nat) (t4 : Nat) (k : Int32)  : MR l D cI cB yX7_hasPerson cX7_hasPerson 2 .boolean (rm 1 21) [.ref h0, .int k] [(h0, .inr (7, [.int pe, .int ch, .int rt, .ref t1, .ref t2, .ref t3, .ref t4]))] (fun r : Int32 => r = bI ((0 ≤ k ∧ k < 10) ∧ pe >>> (k &&& 31) &&& 1 = 1)) := by
  refine MR.of (by decide) (Nat.le_of_ble_eq_true rfl) ?_
  intro p e s m below meth c Q ls X hN hP hK hl ret
  obtain ⟨hx, hb, hml, hown, htb⟩ := id X
  have hl : lv_has ls 2 [(0, .ref h0), (1, .int k)] := hl
  refine lv_iload_n hx hb dX7_hasPerson_0 rfl (lv_at hl 1 rfl) ?_
  refine lv_if_lt (tgt := 25) hx hb dX7_hasPerson_1 (by decide) (fun c_1 => ?_) (fun c_1 => ?_)
  · refine lv_iconst (v := 0) hx hb dX7_hasPerson_25 (by decide) ?_
    exact ret _ _ 0 dX7_hasPerson_26 rfl (bI0 (fun h => (Int32.not_lt.mpr h.1.1) c_1))
  · refine lv_iload_n hx hb dX7_hasPerson_4 rfl (lv_at hl 1 rfl) ?_
    refine lv_bipush (v := 10) hx hb dX7_hasPerson_5 (by decide) ?_
    refine lv_icmp_ge (tgt := 25) hx hb dX7_hasPerson_7 (by decide) (fun c_7 => ?_) (fun c_7 => ?_)
    · refine lv_iconst (v := 0) hx hb dX7_hasPerson_25 (by decide) ?_
      exact ret _ _ 0 dX7_hasPerson_26 rfl (bI0 (fun h => (Int32.not_le.mpr h.1.2) c_7))
    · refine lv_aload_n hx hb dX7_hasPerson_10 rfl (lv_at hl 0 rfl) ?_
      refine va_get (D := D) (ci := 7) (v := .int pe) (C := RX7) (T := TX7) (N := 7) hx hb htb itX7 hown hK hP 0 rfl rfl 0 (by decide) (htb _ k_143) (fun _ h9 => h9) rfl dX7_hasPerson_11 ?_
      refine lv_iload_n hx hb dX7_hasPerson_14 rfl (lv_at hl 1 rfl) ?_
      refine cSNR (As := [.int pe, .int k]) (rest := []) (n := 2) X hN hK hP (c_isInF l D cI cB pe k) n_858 k_696 k_92 k_697 (by decide +kernel) ⟨Nat.le_of_ble_eq_true rfl, Nat.le_of_ble_eq_true rfl⟩ ⟨rfl, rfl⟩ [] rfl rfl rfl hl.1 (Nat.le_of_ble_eq_true rfl) dX7_hasPerson_15 ⟨Nat.le_of_ble_eq_true rfl, Nat.le_of_ble_eq_true rfl⟩ (fun r_1 hr_1 => ?_)
      subst hr_1
      refine lv_if_eq (tgt := 25) hx hb dX7_hasPerson_18 (by decide) (fun c_18 => ?_) (fun c_18 => ?_)
      · refine lv_iconst (v := 0) hx hb dX7_hasPerson_25 (by decide) ?_
        exact ret _ _ 0 dX7_hasPerson_26 rfl (bI0 (fun h => bIf c_18 ⟨⟨h.1.1, lt31 h.1.2⟩, h.2⟩))
      · refine lv_iconst (v := 1) hx hb dX7_hasPerson_21 (by decide) ?_
        refine lv_goto (tgt := 26) hx hb dX7_hasPerson_22 (by decide) ?_
        exact ret _ _ 1 dX7_hasPerson_26 rfl (bI1 ⟨⟨Int32.not_lt.mp c_1, Int32.not_le.mp c_7⟩, (bIt c_18).2⟩)

set_option maxRecDepth 100000 in
set_option maxHeartbeats 4000000 in
theorem c_isPersonF (l : Launch) (D : va_G) (cI cB : ClassId) (h0 : Nat) (a_now : Nat) (a_aside : Nat) (a_kept : Nat) (a_keptFrom : Nat) (a_keptTo : Nat) (a_capOf : Nat) (a_leaveFrom : Nat) (a_leaveTo : Nat) (a_amountOf : Nat) (a_doerMany : Nat) (a_doerOf : Nat) (a_tape : Nat) (a_said : Nat) (a_waitsAt : Nat) (a_saidLetter : Nat) (a_saidFrom : Nat) (a_saidHalf : Nat) (a_saidTo : Nat) (a_codes : Nat) (a_clauseOf : Nat) (a_codeFrom : Nat) (a_codeHalf : Nat) (a_codeTo : Nat) (a_stack : Nat) (a_facts : Nat) (a_lineChore : Nat) (a_lineMany : Nat) (a_lineDoer : Nat) (a_newFrom : Nat) (a_newTo : Nat) (a_goFrom : Nat) (a_goTo : Nat) (a_idleFrom : Nat) (a_idleTo : Nat) (a_moreOf : Nat) (a_firstOf : Nat) (a_leftOf : Nat) (a_didOf : Nat) (a_costBy : Nat) (a_gainBy : Nat) (a_hiredOf : Nat) (a_hiredBest : Nat) (a_hiredTo : Nat) (a_turnOf : Nat) (a_turnWho : Nat) (pe : Int32) (ch : Int32) (rt : Int32) (pl : Int32) (le0 : Int32) (fa : Int32) (nu : Int32) (op_ : Int32) (cm : Int32) (wt : Int32) (sm : Int32) (cs : Int32) (li : Int32) (rv : Int32) (du : Int32) (cl : Int32) (gd : Int32) (sd : Int32) (ik : Int32) (T : Nat) (k : Int32)  : MR l D cI cB yX10_isPerson cX10_isPerson 2 .boolean (rm 1 21) [.ref h0, .int k] [(h0, .inr (10, [.ref a_now, .ref a_aside, .ref a_kept, .ref a_keptFrom, .ref a_keptTo, .ref a_capOf, .ref a_leaveFrom, .ref a_leaveTo, .ref a_amountOf, .ref a_doerMany, .ref a_doerOf, .int pe, .int ch, .int rt, .ref a_tape, .int (nI T), .int pl, .int le0, .int fa, .int nu, .int op_, .int cm, .int wt, .int sm, .int cs, .ref a_said, .ref a_waitsAt, .ref a_saidLetter, .ref a_saidFrom, .ref a_saidHalf, .ref a_saidTo, .ref a_codes, .ref a_clauseOf, .ref a_codeFrom, .ref a_codeHalf, .ref a_codeTo, .ref a_stack, .ref a_facts, .ref a_lineChore, .ref a_lineMany, .ref a_lineDoer, .ref a_newFrom, .ref a_newTo, .int li, .ref a_goFrom, .ref a_goTo, .ref a_idleFrom, .ref a_idleTo, .ref a_moreOf, .ref a_firstOf, .ref a_leftOf, .ref a_didOf, .int rv, .int du, .int cl, .int gd, .ref a_costBy, .int sd, .ref a_gainBy, .ref a_hiredOf, .ref a_hiredBest, .ref a_hiredTo, .ref a_turnOf, .ref a_turnWho, .int ik]))] (fun r : Int32 => r = bI ((0 ≤ k ∧ k < 10) ∧ pe >>> (k &&& 31) &&& 1 = 1)) := by
  refine MR.of (by decide) (Nat.le_of_ble_eq_true rfl) ?_
  intro p e s m below meth c Q ls X hN hP hK hl ret
  obtain ⟨hx, hb, hml, hown, htb⟩ := id X
  have hl : lv_has ls 2 [(0, .ref h0), (1, .int k)] := hl
  refine lv_iload_n hx hb dX10_isPerson_0 rfl (lv_at hl 1 rfl) ?_
  refine lv_if_lt (tgt := 25) hx hb dX10_isPerson_1 (by decide) (fun c_1 => ?_) (fun c_1 => ?_)
  · refine lv_iconst (v := 0) hx hb dX10_isPerson_25 (by decide) ?_
    exact ret _ _ 0 dX10_isPerson_26 rfl (bI0 (fun h => (Int32.not_lt.mpr h.1.1) c_1))
  · refine lv_iload_n hx hb dX10_isPerson_4 rfl (lv_at hl 1 rfl) ?_
    refine lv_bipush (v := 10) hx hb dX10_isPerson_5 (by decide) ?_
    refine lv_icmp_ge (tgt := 25) hx hb dX10_isPerson_7 (by decide) (fun c_7 => ?_) (fun c_7 => ?_)
    · refine lv_iconst (v := 0) hx hb dX10_isPerson_25 (by decide) ?_
      exact ret _ _ 0 dX10_isPerson_26 rfl (bI0 (fun h => (Int32.not_le.mpr h.1.2) c_7))
    · refine lv_aload_n hx hb dX10_isPerson_10 rfl (lv_at hl 0 rfl) ?_
      refine va_get (D := D) (ci := 10) (v := .int pe) (C := RX10) (T := TX10) (N := 65) hx hb htb itX10 hown hK hP 0 rfl rfl 11 (by decide) (htb _ k_1079) (fun _ h9 => h9) rfl dX10_isPerson_11 ?_
      refine lv_iload_n hx hb dX10_isPerson_14 rfl (lv_at hl 1 rfl) ?_
      refine cSR (As := [.int pe, .int k]) (rest := []) (n := 2) X hN hK hP (c_hasF l D cI cB pe k) k_1385 k_1386 k_103 k_1387 (by decide +kernel) ⟨Nat.le_of_ble_eq_true rfl, Nat.le_of_ble_eq_true rfl⟩ ⟨rfl, rfl⟩ [] rfl rfl rfl hl.1 (Nat.le_of_ble_eq_true rfl) dX10_isPerson_15 ⟨Nat.le_of_ble_eq_true rfl, Nat.le_of_ble_eq_true rfl⟩ (fun r_1 hr_1 => ?_)
      subst hr_1
      refine lv_if_eq (tgt := 25) hx hb dX10_isPerson_18 (by decide) (fun c_18 => ?_) (fun c_18 => ?_)
      · refine lv_iconst (v := 0) hx hb dX10_isPerson_25 (by decide) ?_
        exact ret _ _ 0 dX10_isPerson_26 rfl (bI0 (fun h => bIf c_18 h.2))
      · refine lv_iconst (v := 1) hx hb dX10_isPerson_21 (by decide) ?_
        refine lv_goto (tgt := 26) hx hb dX10_isPerson_22 (by decide) ?_
        exact ret _ _ 1 dX10_isPerson_26 rfl (bI1 ⟨⟨Int32.not_lt.mp c_1, Int32.not_le.mp c_7⟩, bIt c_18⟩)

set_option maxRecDepth 100000 in
set_option maxHeartbeats 4000000 in
theorem c_isChoreF (l : Launch) (D : va_G) (cI cB : ClassId) (h0 : Nat) (a_now : Nat) (a_aside : Nat) (a_kept : Nat) (a_keptFrom : Nat) (a_keptTo : Nat) (a_capOf : Nat) (a_leaveFrom : Nat) (a_leaveTo : Nat) (a_amountOf : Nat) (a_doerMany : Nat) (a_doerOf : Nat) (a_tape : Nat) (a_said : Nat) (a_waitsAt : Nat) (a_saidLetter : Nat) (a_saidFrom : Nat) (a_saidHalf : Nat) (a_saidTo : Nat) (a_codes : Nat) (a_clauseOf : Nat) (a_codeFrom : Nat) (a_codeHalf : Nat) (a_codeTo : Nat) (a_stack : Nat) (a_facts : Nat) (a_lineChore : Nat) (a_lineMany : Nat) (a_lineDoer : Nat) (a_newFrom : Nat) (a_newTo : Nat) (a_goFrom : Nat) (a_goTo : Nat) (a_idleFrom : Nat) (a_idleTo : Nat) (a_moreOf : Nat) (a_firstOf : Nat) (a_leftOf : Nat) (a_didOf : Nat) (a_costBy : Nat) (a_gainBy : Nat) (a_hiredOf : Nat) (a_hiredBest : Nat) (a_hiredTo : Nat) (a_turnOf : Nat) (a_turnWho : Nat) (pe : Int32) (ch : Int32) (rt : Int32) (pl : Int32) (le0 : Int32) (fa : Int32) (nu : Int32) (op_ : Int32) (cm : Int32) (wt : Int32) (sm : Int32) (cs : Int32) (li : Int32) (rv : Int32) (du : Int32) (cl : Int32) (gd : Int32) (sd : Int32) (ik : Int32) (T : Nat) (k : Int32)  : MR l D cI cB yX10_isChore cX10_isChore 2 .boolean (rm 1 21) [.ref h0, .int k] [(h0, .inr (10, [.ref a_now, .ref a_aside, .ref a_kept, .ref a_keptFrom, .ref a_keptTo, .ref a_capOf, .ref a_leaveFrom, .ref a_leaveTo, .ref a_amountOf, .ref a_doerMany, .ref a_doerOf, .int pe, .int ch, .int rt, .ref a_tape, .int (nI T), .int pl, .int le0, .int fa, .int nu, .int op_, .int cm, .int wt, .int sm, .int cs, .ref a_said, .ref a_waitsAt, .ref a_saidLetter, .ref a_saidFrom, .ref a_saidHalf, .ref a_saidTo, .ref a_codes, .ref a_clauseOf, .ref a_codeFrom, .ref a_codeHalf, .ref a_codeTo, .ref a_stack, .ref a_facts, .ref a_lineChore, .ref a_lineMany, .ref a_lineDoer, .ref a_newFrom, .ref a_newTo, .int li, .ref a_goFrom, .ref a_goTo, .ref a_idleFrom, .ref a_idleTo, .ref a_moreOf, .ref a_firstOf, .ref a_leftOf, .ref a_didOf, .int rv, .int du, .int cl, .int gd, .ref a_costBy, .int sd, .ref a_gainBy, .ref a_hiredOf, .ref a_hiredBest, .ref a_hiredTo, .ref a_turnOf, .ref a_turnWho, .int ik]))] (fun r : Int32 => r = bI ((0 ≤ k ∧ k < 12) ∧ ch >>> (k &&& 31) &&& 1 = 1)) := by
  refine MR.of (by decide) (Nat.le_of_ble_eq_true rfl) ?_
  intro p e s m below meth c Q ls X hN hP hK hl ret
  obtain ⟨hx, hb, hml, hown, htb⟩ := id X
  have hl : lv_has ls 2 [(0, .ref h0), (1, .int k)] := hl
  refine lv_iload_n hx hb dX10_isChore_0 rfl (lv_at hl 1 rfl) ?_
  refine lv_if_lt (tgt := 25) hx hb dX10_isChore_1 (by decide) (fun c_1 => ?_) (fun c_1 => ?_)
  · refine lv_iconst (v := 0) hx hb dX10_isChore_25 (by decide) ?_
    exact ret _ _ 0 dX10_isChore_26 rfl (bI0 (fun h => (Int32.not_lt.mpr h.1.1) c_1))
  · refine lv_iload_n hx hb dX10_isChore_4 rfl (lv_at hl 1 rfl) ?_
    refine lv_bipush (v := 12) hx hb dX10_isChore_5 (by decide) ?_
    refine lv_icmp_ge (tgt := 25) hx hb dX10_isChore_7 (by decide) (fun c_7 => ?_) (fun c_7 => ?_)
    · refine lv_iconst (v := 0) hx hb dX10_isChore_25 (by decide) ?_
      exact ret _ _ 0 dX10_isChore_26 rfl (bI0 (fun h => (Int32.not_le.mpr h.1.2) c_7))
    · refine lv_aload_n hx hb dX10_isChore_10 rfl (lv_at hl 0 rfl) ?_
      refine va_get (D := D) (ci := 10) (v := .int ch) (C := RX10) (T := TX10) (N := 65) hx hb htb itX10 hown hK hP 0 rfl rfl 12 (by decide) (htb _ k_1080) (fun _ h9 => h9) rfl dX10_isChore_11 ?_
      refine lv_iload_n hx hb dX10_isChore_14 rfl (lv_at hl 1 rfl) ?_
      refine cSR (As := [.int ch, .int k]) (rest := []) (n := 2) X hN hK hP (c_hasF l D cI cB ch k) k_1385 k_1386 k_103 k_1387 (by decide +kernel) ⟨Nat.le_of_ble_eq_true rfl, Nat.le_of_ble_eq_true rfl⟩ ⟨rfl, rfl⟩ [] rfl rfl rfl hl.1 (Nat.le_of_ble_eq_true rfl) dX10_isChore_15 ⟨Nat.le_of_ble_eq_true rfl, Nat.le_of_ble_eq_true rfl⟩ (fun r_1 hr_1 => ?_)
      subst hr_1
      refine lv_if_eq (tgt := 25) hx hb dX10_isChore_18 (by decide) (fun c_18 => ?_) (fun c_18 => ?_)
      · refine lv_iconst (v := 0) hx hb dX10_isChore_25 (by decide) ?_
        exact ret _ _ 0 dX10_isChore_26 rfl (bI0 (fun h => bIf c_18 h.2))
      · refine lv_iconst (v := 1) hx hb dX10_isChore_21 (by decide) ?_
        refine lv_goto (tgt := 26) hx hb dX10_isChore_22 (by decide) ?_
        exact ret _ _ 1 dX10_isChore_26 rfl (bI1 ⟨⟨Int32.not_lt.mp c_1, Int32.not_le.mp c_7⟩, bIt c_18⟩)

set_option maxRecDepth 100000 in
set_option maxHeartbeats 4000000 in
theorem c_choresOfF (l : Launch) (D : va_G) (cI cB : ClassId) (h0 : Nat) (pe : Int32) (ch : Int32) (rt : Int32) (t1 : Nat) (t2 : Nat) (t3 : Nat) (t4 : Nat) (k : Int32) (ft3 : Nat → Int32) (ft4 : Nat → Int32) (hr4 : RG ft4) : MR l D cI cB yX7_choresOf cX7_choresOf 5 .int (rm 1 21) [.ref h0, .int k] [(h0, .inr (7, [.int pe, .int ch, .int rt, .ref t1, .ref t2, .ref t3, .ref t4])), (t3, .inl (cI, 120, .inl ft3)), (t4, .inl (cI, 12, .inl ft4))] (fun r : Int32 => r = coO ft3 ft4 ch k 12) := by
  refine MR.of (by decide) (Nat.le_of_ble_eq_true rfl) ?_
  intro p e s m below meth c Q ls X hN hP hK hl ret
  obtain ⟨hx, hb, hml, hown, htb⟩ := id X
  have hl : lv_has ls 5 [(0, .ref h0), (1, .int k)] := hl
  refine lv_iconst (v := 0) hx hb dX7_choresOf_0 (by decide) ?_
  refine lv_istore_n (lv' := [(2, .int 0), (0, .ref h0), (1, .int k)]) hx hb dX7_choresOf_1 rfl hl (by decide) rfl (fun ls hl => ?_)
  refine lv_iconst (v := 0) hx hb dX7_choresOf_2 (by decide) ?_
  refine lv_istore_n (lv' := [(3, .int 0), (2, .int 0), (0, .ref h0), (1, .int k)]) hx hb dX7_choresOf_3 rfl hl (by decide) rfl (fun ls hl => ?_)
  have loop_4 : ∀ (n i : Nat), n + i = 12 → ∀ (ls : Array Slot), lv_has ls 5 [(0, .ref h0), (1, .int k), (2, .int (coO ft3 ft4 ch k i)), (3, .int (nI i))] → W p l e (rm 1 21) s m ([.ref h0, .int k] : List Value).toArray below meth c s.heap [] 0 0 Q (F0 m 4 ls []) := by
    intro n
    induction n with
    | zero =>
      intro i hni ls hl
      have hni_4 := hni
      have hi : i = 12 := by omega
      refine lv_iload_n hx hb dX7_choresOf_4 rfl (lv_at hl 3 rfl) ?_
      refine lv_bipush (v := 12) hx hb dX7_choresOf_5 (by decide) ?_
      refine lv_icmp_ge (tgt := 76) hx hb dX7_choresOf_7 (by decide) (fun _ => ?_) (fun c_7 => absurd (by rw [hi]; decide) c_7)
      refine lv_iload_n hx hb dX7_choresOf_76 rfl (lv_at hl 2 rfl) ?_
      exact ret _ _ (coO ft3 ft4 ch k i) dX7_choresOf_77 rfl (by rw [hi])
    | succ n ih_4 =>
      intro i hni ls hl
      have hni_4 := hni
      have hi : i < 12 := by omega
      refine lv_iload_n hx hb dX7_choresOf_4 rfl (lv_at hl 3 rfl) ?_
      refine lv_bipush (v := 12) hx hb dX7_choresOf_5 (by decide) ?_
      refine lv_icmp_ge (tgt := 76) hx hb dX7_choresOf_7 (by decide) (fun c_7 => absurd c_7 (nI_ge hi (by decide))) (fun _ => ?_)
      have hi4 := hi
      obtain ⟨mq, hmq, emq⟩ := RGn hr4 (i := i) (by omega)
      refine lv_iconst (v := 0) hx hb dX7_choresOf_10 (by decide) ?_
      refine lv_istore (lv' := [(4, .int 0), (0, .ref h0), (1, .int k), (2, .int (coO ft3 ft4 ch k i)), (3, .int (nI i))]) hx hb dX7_choresOf_11 hl (by decide) rfl (fun ls hl => ?_)
      have loop_13 : ∀ (n j : Nat), n + j = mq → ∀ (ls : Array Slot), lv_has ls 5 [(0, .ref h0), (1, .int k), (2, .int (coI ft3 ch k (coO ft3 ft4 ch k i) i j)), (3, .int (nI i)), (4, .int (nI j))] → W p l e (rm 1 21) s m ([.ref h0, .int k] : List Value).toArray below meth c s.heap [] 0 0 Q (F0 m 13 ls []) := by
        intro n
        induction n with
        | zero =>
          intro j hni ls hl
          have hni_13 := hni
          have hi : j = mq := by omega
          refine lv_iload hx hb dX7_choresOf_13 (lv_at hl 4 rfl) ?_
          refine lv_aload_n hx hb dX7_choresOf_15 rfl (lv_at hl 0 rfl) ?_
          refine va_get (D := D) (ci := 7) (v := .ref t4) (C := RX7) (T := TX7) (N := 7) hx hb htb itX7 hown hK hP 0 rfl rfl 6 (by decide) (htb _ k_161) (fun _ h9 => h9) rfl dX7_choresOf_16 ?_
          refine lv_iload_n hx hb dX7_choresOf_19 rfl (lv_at hl 3 rfl) ?_
          refine va_iald hx hb hK hP 2 0 rfl rfl (vp_in_nI (by omega) (by decide)) dX7_choresOf_20 ?_
          refine tv (z := (nI mq)) (by rw [nI_clamp (by omega)]; exact emq) ?_
          refine lv_icmp_ge (tgt := 70) hx hb dX7_choresOf_21 (by decide) (fun _ => ?_) (fun c_21 => absurd (by rw [hi]; exact nI_le (Nat.le_refl _) (by omega)) c_21)
          have hl : lv_has ls 5 [(0, .ref h0), (1, .int k), (2, .int (coO ft3 ft4 ch k (i + 1))), (3, .int (nI i)), (4, .int (nI j))] := by rw [coO_s (by omega) emq, ← hi]; exact hl
          refine lv_iinc (v := (nI (i + 1))) (lv' := [(3, .int (nI (i + 1))), (0, .ref h0), (1, .int k), (2, .int (coO ft3 ft4 ch k (i + 1))), (4, .int (nI j))]) hx hb dX7_choresOf_70 hl (k := 3) rfl (nI_1 i) (by decide) rfl (fun ls hl => ?_)
          refine lv_goto (tgt := 4) hx hb dX7_choresOf_73 (by decide) ?_
          exact ih_4 (i + 1) (by omega) _ (lv_sub hl [1, 2, 3, 0] rfl)
        | succ n ih_13 =>
          intro j hni ls hl
          have hni_13 := hni
          have hi : j < mq := by omega
          refine lv_iload hx hb dX7_choresOf_13 (lv_at hl 4 rfl) ?_
          refine lv_aload_n hx hb dX7_choresOf_15 rfl (lv_at hl 0 rfl) ?_
          refine va_get (D := D) (ci := 7) (v := .ref t4) (C := RX7) (T := TX7) (N := 7) hx hb htb itX7 hown hK hP 0 rfl rfl 6 (by decide) (htb _ k_161) (fun _ h9 => h9) rfl dX7_choresOf_16 ?_
          refine lv_iload_n hx hb dX7_choresOf_19 rfl (lv_at hl 3 rfl) ?_
          refine va_iald hx hb hK hP 2 0 rfl rfl (vp_in_nI (by omega) (by decide)) dX7_choresOf_20 ?_
          refine tv (z := (nI mq)) (by rw [nI_clamp (by omega)]; exact emq) ?_
          refine lv_icmp_ge (tgt := 70) hx hb dX7_choresOf_21 (by decide) (fun c_21 => absurd c_21 (nI_ge hi (by omega))) (fun _ => ?_)
          refine lv_iload hx hb dX7_choresOf_24 (lv_at hl 4 rfl) ?_
          refine lv_bipush (v := 10) hx hb dX7_choresOf_26 (by decide) ?_
          refine lv_icmp_ge (tgt := 70) hx hb dX7_choresOf_28 (by decide) (fun c_28 => absurd c_28 (nI_ge (b := 10) (by omega) (by decide))) (fun _ => ?_)
          refine lv_aload_n hx hb dX7_choresOf_31 rfl (lv_at hl 0 rfl) ?_
          refine va_get (D := D) (ci := 7) (v := .ref t3) (C := RX7) (T := TX7) (N := 7) hx hb htb itX7 hown hK hP 0 rfl rfl 5 (by decide) (htb _ k_157) (fun _ h9 => h9) rfl dX7_choresOf_32 ?_
          refine lv_iload_n hx hb dX7_choresOf_35 rfl (lv_at hl 3 rfl) ?_
          refine lv_bipush (v := 10) hx hb dX7_choresOf_36 (by decide) ?_
          refine lv_imul hx hb dX7_choresOf_38 ?_
          refine lv_iload hx hb dX7_choresOf_39 (lv_at hl 4 rfl) ?_
          refine lv_iadd hx hb dX7_choresOf_41 ?_
          refine tv (z := (nI (10 * i + j))) (ix10 i j) ?_
          refine va_iald hx hb hK hP 1 0 rfl rfl (vp_in_nI (by omega) (by decide)) dX7_choresOf_42 ?_
          refine tv (z := (ft3 (10 * i + j))) (by rw [nI_clamp (by omega)]) ?_
          refine lv_iload_n hx hb dX7_choresOf_43 rfl (lv_at hl 1 rfl) ?_
          refine lv_icmp_ne (tgt := 64) hx hb dX7_choresOf_44 (by decide) (fun c_44 => ?_) (fun c_44 => ?_)
          · have hl : lv_has ls 5 [(0, .ref h0), (1, .int k), (2, .int (coI ft3 ch k (coO ft3 ft4 ch k i) i (j + 1))), (3, .int (nI i)), (4, .int (nI j))] := by rw [coI_n (fun z => c_44 z.1)]; exact hl
            refine lv_iinc (v := (nI (j + 1))) (lv' := [(4, .int (nI (j + 1))), (0, .ref h0), (1, .int k), (2, .int (coI ft3 ch k (coO ft3 ft4 ch k i) i (j + 1))), (3, .int (nI i))]) hx hb dX7_choresOf_64 hl (k := 4) rfl (nI_1 j) (by decide) rfl (fun ls hl => ?_)
            refine lv_goto (tgt := 13) hx hb dX7_choresOf_67 (by decide) ?_
            exact ih_13 (j + 1) (by omega) _ (lv_sub hl [1, 2, 3, 4, 0] rfl)
          · refine lv_aload_n hx hb dX7_choresOf_47 rfl (lv_at hl 0 rfl) ?_
            refine va_get (D := D) (ci := 7) (v := .int ch) (C := RX7) (T := TX7) (N := 7) hx hb htb itX7 hown hK hP 0 rfl rfl 1 (by decide) (htb _ k_146) (fun _ h9 => h9) rfl dX7_choresOf_48 ?_
            refine lv_iload_n hx hb dX7_choresOf_51 rfl (lv_at hl 3 rfl) ?_
            refine cSNR (As := [.int ch, .int (nI i)]) (rest := []) (n := 2) X hN hK hP (c_isInF l D cI cB ch (nI i)) n_858 k_696 k_92 k_697 (by decide +kernel) ⟨Nat.le_of_ble_eq_true rfl, Nat.le_of_ble_eq_true rfl⟩ ⟨rfl, rfl⟩ [] rfl rfl rfl hl.1 (Nat.le_of_ble_eq_true rfl) dX7_choresOf_52 ⟨Nat.le_of_ble_eq_true rfl, Nat.le_of_ble_eq_true rfl⟩ (fun r_1 hr_1 => ?_)
            subst hr_1
            refine lv_if_eq (tgt := 64) hx hb dX7_choresOf_55 (by decide) (fun c_55 => ?_) (fun c_55 => ?_)
            · have hl : lv_has ls 5 [(0, .ref h0), (1, .int k), (2, .int (coI ft3 ch k (coO ft3 ft4 ch k i) i (j + 1))), (3, .int (nI i)), (4, .int (nI j))] := by rw [coI_n (fun z => bIf c_55 ⟨bfr rfl (by omega), z.2⟩)]; exact hl
              refine lv_iinc (v := (nI (j + 1))) (lv' := [(4, .int (nI (j + 1))), (0, .ref h0), (1, .int k), (2, .int (coI ft3 ch k (coO ft3 ft4 ch k i) i (j + 1))), (3, .int (nI i))]) hx hb dX7_choresOf_64 hl (k := 4) rfl (nI_1 j) (by decide) rfl (fun ls hl => ?_)
              refine lv_goto (tgt := 13) hx hb dX7_choresOf_67 (by decide) ?_
              exact ih_13 (j + 1) (by omega) _ (lv_sub hl [1, 2, 3, 4, 0] rfl)
            · refine lv_iload_n hx hb dX7_choresOf_58 rfl (lv_at hl 2 rfl) ?_
              refine lv_iconst (v := 1) hx hb dX7_choresOf_59 (by decide) ?_
              refine lv_iload_n hx hb dX7_choresOf_60 rfl (lv_at hl 3 rfl) ?_
              refine lv_ishl hx hb dX7_choresOf_61 ?_
              refine tv (z := ((1 : Int32) <<< ((nI i) &&& 31))) (rfl) ?_
              refine lv_ior hx hb dX7_choresOf_62 ?_
              refine tv (z := (coI ft3 ch k (coO ft3 ft4 ch k i) i (j + 1))) (coI_y c_44 (bIt c_55).2) ?_
              refine lv_istore_n (lv' := [(2, .int (coI ft3 ch k (coO ft3 ft4 ch k i) i (j + 1))), (0, .ref h0), (1, .int k), (3, .int (nI i)), (4, .int (nI j))]) hx hb dX7_choresOf_63 rfl hl (by decide) rfl (fun ls hl => ?_)
              refine lv_iinc (v := (nI (j + 1))) (lv' := [(4, .int (nI (j + 1))), (2, .int (coI ft3 ch k (coO ft3 ft4 ch k i) i (j + 1))), (0, .ref h0), (1, .int k), (3, .int (nI i))]) hx hb dX7_choresOf_64 hl (k := 4) rfl (nI_1 j) (by decide) rfl (fun ls hl => ?_)
              refine lv_goto (tgt := 13) hx hb dX7_choresOf_67 (by decide) ?_
              exact ih_13 (j + 1) (by omega) _ (lv_sub hl [2, 3, 1, 4, 0] rfl)
      exact loop_13 mq 0 (by omega) _ (lv_sub hl [1, 2, 3, 4, 0] rfl)
  exact loop_4 12 0 (by omega) _ (lv_sub hl [2, 3, 1, 0] rfl)

set_option maxRecDepth 100000 in
set_option maxHeartbeats 4000000 in
theorem c_choresOfM (l : Launch) (D : va_G) (cI cB : ClassId) (h0 : Nat) (a_now : Nat) (a_aside : Nat) (a_kept : Nat) (a_keptFrom : Nat) (a_keptTo : Nat) (a_capOf : Nat) (a_leaveFrom : Nat) (a_leaveTo : Nat) (a_amountOf : Nat) (a_doerMany : Nat) (a_doerOf : Nat) (a_tape : Nat) (a_said : Nat) (a_waitsAt : Nat) (a_saidLetter : Nat) (a_saidFrom : Nat) (a_saidHalf : Nat) (a_saidTo : Nat) (a_codes : Nat) (a_clauseOf : Nat) (a_codeFrom : Nat) (a_codeHalf : Nat) (a_codeTo : Nat) (a_stack : Nat) (a_facts : Nat) (a_lineChore : Nat) (a_lineMany : Nat) (a_lineDoer : Nat) (a_newFrom : Nat) (a_newTo : Nat) (a_goFrom : Nat) (a_goTo : Nat) (a_idleFrom : Nat) (a_idleTo : Nat) (a_moreOf : Nat) (a_firstOf : Nat) (a_leftOf : Nat) (a_didOf : Nat) (a_costBy : Nat) (a_gainBy : Nat) (a_hiredOf : Nat) (a_hiredBest : Nat) (a_hiredTo : Nat) (a_turnOf : Nat) (a_turnWho : Nat) (pe : Int32) (ch : Int32) (rt : Int32) (pl : Int32) (le0 : Int32) (fa : Int32) (nu : Int32) (op_ : Int32) (cm : Int32) (wt : Int32) (sm : Int32) (li : Int32) (rv : Int32) (du : Int32) (cl : Int32) (gd : Int32) (sd : Int32) (ik : Int32) (T : Nat) (kc : Nat) (k : Int32) (fdm : Nat → Int32) (fdo : Nat → Int32) (hdm : DMK fdm) : MR l D cI cB yX10_choresOf cX10_choresOf 5 .int (rm 2 42) [.ref h0, .int k] [(h0, .inr (10, [.ref a_now, .ref a_aside, .ref a_kept, .ref a_keptFrom, .ref a_keptTo, .ref a_capOf, .ref a_leaveFrom, .ref a_leaveTo, .ref a_amountOf, .ref a_doerMany, .ref a_doerOf, .int pe, .int ch, .int rt, .ref a_tape, .int (nI T), .int pl, .int le0, .int fa, .int nu, .int op_, .int cm, .int wt, .int sm, .int (nI kc), .ref a_said, .ref a_waitsAt, .ref a_saidLetter, .ref a_saidFrom, .ref a_saidHalf, .ref a_saidTo, .ref a_codes, .ref a_clauseOf, .ref a_codeFrom, .ref a_codeHalf, .ref a_codeTo, .ref a_stack, .ref a_facts, .ref a_lineChore, .ref a_lineMany, .ref a_lineDoer, .ref a_newFrom, .ref a_newTo, .int li, .ref a_goFrom, .ref a_goTo, .ref a_idleFrom, .ref a_idleTo, .ref a_moreOf, .ref a_firstOf, .ref a_leftOf, .ref a_didOf, .int rv, .int du, .int cl, .int gd, .ref a_costBy, .int sd, .ref a_gainBy, .ref a_hiredOf, .ref a_hiredBest, .ref a_hiredTo, .ref a_turnOf, .ref a_turnWho, .int ik])), (a_doerMany, .inl (cI, 12, .inl fdm)), (a_doerOf, .inl (cI, 120, .inl fdo))] (fun r : Int32 => r = coO fdo fdm ch k 12) := by
  refine MR.of (by decide) (Nat.le_of_ble_eq_true rfl) ?_
  intro p e s m below meth c Q ls X hN hP hK hl ret
  obtain ⟨hx, hb, hml, hown, htb⟩ := id X
  have hl : lv_has ls 5 [(0, .ref h0), (1, .int k)] := hl
  refine lv_iconst (v := 0) hx hb dX10_choresOf_0 (by decide) ?_
  refine lv_istore_n (lv' := [(2, .int 0), (0, .ref h0), (1, .int k)]) hx hb dX10_choresOf_1 rfl hl (by decide) rfl (fun ls hl => ?_)
  refine lv_iconst (v := 0) hx hb dX10_choresOf_2 (by decide) ?_
  refine lv_istore_n (lv' := [(3, .int 0), (2, .int 0), (0, .ref h0), (1, .int k)]) hx hb dX10_choresOf_3 rfl hl (by decide) rfl (fun ls hl => ?_)
  have loop_4 : ∀ (n i : Nat), n + i = 12 → ∀ (ls : Array Slot), lv_has ls 5 [(0, .ref h0), (1, .int k), (2, .int (coO fdo fdm ch k i)), (3, .int (nI i))] → W p l e (rm 2 42) s m ([.ref h0, .int k] : List Value).toArray below meth c s.heap [] 0 0 Q (F0 m 4 ls []) := by
    intro n
    induction n with
    | zero =>
      intro i hni ls hl
      have hni_4 := hni
      have hi : i = 12 := by omega
      refine lv_iload_n hx hb dX10_choresOf_4 rfl (lv_at hl 3 rfl) ?_
      refine lv_bipush (v := 12) hx hb dX10_choresOf_5 (by decide) ?_
      refine lv_icmp_ge (tgt := 66) hx hb dX10_choresOf_7 (by decide) (fun _ => ?_) (fun c_7 => absurd (by rw [hi]; decide) c_7)
      refine lv_iload_n hx hb dX10_choresOf_66 rfl (lv_at hl 2 rfl) ?_
      exact ret _ _ (coO fdo fdm ch k i) dX10_choresOf_67 rfl (by rw [hi])
    | succ n ih_4 =>
      intro i hni ls hl
      have hni_4 := hni
      have hi : i < 12 := by omega
      refine lv_iload_n hx hb dX10_choresOf_4 rfl (lv_at hl 3 rfl) ?_
      refine lv_bipush (v := 12) hx hb dX10_choresOf_5 (by decide) ?_
      refine lv_icmp_ge (tgt := 66) hx hb dX10_choresOf_7 (by decide) (fun c_7 => absurd c_7 (nI_ge hi (by decide))) (fun _ => ?_)
      have hi4 := hi
      obtain ⟨mq, hmq, emq⟩ := hdm i (by omega)
      refine lv_iconst (v := 0) hx hb dX10_choresOf_10 (by decide) ?_
      refine lv_istore (lv' := [(4, .int 0), (0, .ref h0), (1, .int k), (2, .int (coO fdo fdm ch k i)), (3, .int (nI i))]) hx hb dX10_choresOf_11 hl (by decide) rfl (fun ls hl => ?_)
      have loop_13 : ∀ (n j : Nat), n + j = mq → ∀ (ls : Array Slot), lv_has ls 5 [(0, .ref h0), (1, .int k), (2, .int (coI fdo ch k (coO fdo fdm ch k i) i j)), (3, .int (nI i)), (4, .int (nI j))] → W p l e (rm 2 42) s m ([.ref h0, .int k] : List Value).toArray below meth c s.heap [] 0 0 Q (F0 m 13 ls []) := by
        intro n
        induction n with
        | zero =>
          intro j hni ls hl
          have hni_13 := hni
          have hi : j = mq := by omega
          refine lv_iload hx hb dX10_choresOf_13 (lv_at hl 4 rfl) ?_
          refine lv_aload_n hx hb dX10_choresOf_15 rfl (lv_at hl 0 rfl) ?_
          refine va_get (D := D) (ci := 10) (v := .ref a_doerMany) (C := RX10) (T := TX10) (N := 65) hx hb htb itX10 hown hK hP 0 rfl rfl 9 (by decide) (htb _ k_1077) (fun _ h9 => h9) rfl dX10_choresOf_16 ?_
          refine lv_iload_n hx hb dX10_choresOf_19 rfl (lv_at hl 3 rfl) ?_
          refine va_iald hx hb hK hP 1 0 rfl rfl (vp_in_nI (by omega) (by decide)) dX10_choresOf_20 ?_
          refine tv (z := (nI mq)) (by rw [nI_clamp (by omega)]; exact emq) ?_
          refine lv_icmp_ge (tgt := 60) hx hb dX10_choresOf_21 (by decide) (fun _ => ?_) (fun c_21 => absurd (by rw [hi]; exact nI_le (Nat.le_refl _) (by omega)) c_21)
          have hl : lv_has ls 5 [(0, .ref h0), (1, .int k), (2, .int (coO fdo fdm ch k (i + 1))), (3, .int (nI i)), (4, .int (nI j))] := by rw [coO_s (by omega) emq, ← hi]; exact hl
          refine lv_iinc (v := (nI (i + 1))) (lv' := [(3, .int (nI (i + 1))), (0, .ref h0), (1, .int k), (2, .int (coO fdo fdm ch k (i + 1))), (4, .int (nI j))]) hx hb dX10_choresOf_60 hl (k := 3) rfl (nI_1 i) (by decide) rfl (fun ls hl => ?_)
          refine lv_goto (tgt := 4) hx hb dX10_choresOf_63 (by decide) ?_
          exact ih_4 (i + 1) (by omega) _ (lv_sub hl [1, 2, 3, 0] rfl)
        | succ n ih_13 =>
          intro j hni ls hl
          have hni_13 := hni
          have hi : j < mq := by omega
          refine lv_iload hx hb dX10_choresOf_13 (lv_at hl 4 rfl) ?_
          refine lv_aload_n hx hb dX10_choresOf_15 rfl (lv_at hl 0 rfl) ?_
          refine va_get (D := D) (ci := 10) (v := .ref a_doerMany) (C := RX10) (T := TX10) (N := 65) hx hb htb itX10 hown hK hP 0 rfl rfl 9 (by decide) (htb _ k_1077) (fun _ h9 => h9) rfl dX10_choresOf_16 ?_
          refine lv_iload_n hx hb dX10_choresOf_19 rfl (lv_at hl 3 rfl) ?_
          refine va_iald hx hb hK hP 1 0 rfl rfl (vp_in_nI (by omega) (by decide)) dX10_choresOf_20 ?_
          refine tv (z := (nI mq)) (by rw [nI_clamp (by omega)]; exact emq) ?_
          refine lv_icmp_ge (tgt := 60) hx hb dX10_choresOf_21 (by decide) (fun c_21 => absurd c_21 (nI_ge hi (by omega))) (fun _ => ?_)
          refine lv_aload_n hx hb dX10_choresOf_24 rfl (lv_at hl 0 rfl) ?_
          refine lv_iload_n hx hb dX10_choresOf_25 rfl (lv_at hl 3 rfl) ?_
          refine cVR (As := [.int (nI i)]) (rest := []) (n := 1) (ci := 10) (q0 := 0) X hN hK hP (c_isChoreF l D cI cB h0 a_now a_aside a_kept a_keptFrom a_keptTo a_capOf a_leaveFrom a_leaveTo a_amountOf a_doerMany a_doerOf a_tape a_said a_waitsAt a_saidLetter a_saidFrom a_saidHalf a_saidTo a_codes a_clauseOf a_codeFrom a_codeHalf a_codeTo a_stack a_facts a_lineChore a_lineMany a_lineDoer a_newFrom a_newTo a_goFrom a_goTo a_idleFrom a_idleTo a_moreOf a_firstOf a_leftOf a_didOf a_costBy a_gainBy a_hiredOf a_hiredBest a_hiredTo a_turnOf a_turnWho pe ch rt pl le0 fa nu op_ cm wt sm (nI kc) li rv du cl gd sd ik T (nI i)) (gV k_1474 k_1476 k_70 k_103 k_1477) (by decide +kernel) ⟨Nat.le_of_ble_eq_true rfl, Nat.le_of_ble_eq_true rfl⟩ ⟨rfl, rfl⟩ [0] rfl rfl rfl rfl rfl rfl hl.1 (Nat.le_of_ble_eq_true rfl) dX10_choresOf_26 ⟨Nat.le_of_ble_eq_true rfl, Nat.le_of_ble_eq_true rfl⟩ (fun r_1 hr_1 => ?_)
          subst hr_1
          refine lv_if_eq (tgt := 54) hx hb dX10_choresOf_29 (by decide) (fun c_29 => ?_) (fun c_29 => ?_)
          · have hl : lv_has ls 5 [(0, .ref h0), (1, .int k), (2, .int (coI fdo ch k (coO fdo fdm ch k i) i (j + 1))), (3, .int (nI i)), (4, .int (nI j))] := by rw [coI_n (fun z => bIf c_29 ⟨⟨Int32.not_lt.mp (nI_pos (n := i) (by omega)), nI_lt (b := 12) (by omega) (by decide)⟩, z.2⟩)]; exact hl
            refine lv_iinc (v := (nI (j + 1))) (lv' := [(4, .int (nI (j + 1))), (0, .ref h0), (1, .int k), (2, .int (coI fdo ch k (coO fdo fdm ch k i) i (j + 1))), (3, .int (nI i))]) hx hb dX10_choresOf_54 hl (k := 4) rfl (nI_1 j) (by decide) rfl (fun ls hl => ?_)
            refine lv_goto (tgt := 13) hx hb dX10_choresOf_57 (by decide) ?_
            exact ih_13 (j + 1) (by omega) _ (lv_sub hl [1, 2, 3, 4, 0] rfl)
          · refine lv_aload_n hx hb dX10_choresOf_32 rfl (lv_at hl 0 rfl) ?_
            refine va_get (D := D) (ci := 10) (v := .ref a_doerOf) (C := RX10) (T := TX10) (N := 65) hx hb htb itX10 hown hK hP 0 rfl rfl 10 (by decide) (htb _ k_1078) (fun _ h9 => h9) rfl dX10_choresOf_33 ?_
            refine lv_bipush (v := 10) hx hb dX10_choresOf_36 (by decide) ?_
            refine lv_iload_n hx hb dX10_choresOf_38 rfl (lv_at hl 3 rfl) ?_
            refine lv_imul hx hb dX10_choresOf_39 ?_
            refine lv_iload hx hb dX10_choresOf_40 (lv_at hl 4 rfl) ?_
            refine lv_iadd hx hb dX10_choresOf_42 ?_
            refine tv (z := (nI (10 * i + j))) (ix10b i j) ?_
            refine va_iald hx hb hK hP 2 0 rfl rfl (vp_in_nI (by omega) (by decide)) dX10_choresOf_43 ?_
            refine tv (z := (fdo (10 * i + j))) (by rw [nI_clamp (by omega)]) ?_
            refine lv_iload_n hx hb dX10_choresOf_44 rfl (lv_at hl 1 rfl) ?_
            refine lv_icmp_ne (tgt := 54) hx hb dX10_choresOf_45 (by decide) (fun c_45 => ?_) (fun c_45 => ?_)
            · have hl : lv_has ls 5 [(0, .ref h0), (1, .int k), (2, .int (coI fdo ch k (coO fdo fdm ch k i) i (j + 1))), (3, .int (nI i)), (4, .int (nI j))] := by rw [coI_n (fun z => c_45 z.1)]; exact hl
              refine lv_iinc (v := (nI (j + 1))) (lv' := [(4, .int (nI (j + 1))), (0, .ref h0), (1, .int k), (2, .int (coI fdo ch k (coO fdo fdm ch k i) i (j + 1))), (3, .int (nI i))]) hx hb dX10_choresOf_54 hl (k := 4) rfl (nI_1 j) (by decide) rfl (fun ls hl => ?_)
              refine lv_goto (tgt := 13) hx hb dX10_choresOf_57 (by decide) ?_
              exact ih_13 (j + 1) (by omega) _ (lv_sub hl [1, 2, 3, 4, 0] rfl)
            · refine lv_iload_n hx hb dX10_choresOf_48 rfl (lv_at hl 2 rfl) ?_
              refine lv_iconst (v := 1) hx hb dX10_choresOf_49 (by decide) ?_
              refine lv_iload_n hx hb dX10_choresOf_50 rfl (lv_at hl 3 rfl) ?_
              refine lv_ishl hx hb dX10_choresOf_51 ?_
              refine tv (z := ((1 : Int32) <<< ((nI i) &&& 31))) (rfl) ?_
              refine lv_ior hx hb dX10_choresOf_52 ?_
              refine tv (z := (coI fdo ch k (coO fdo fdm ch k i) i (j + 1))) (coI_y c_45 (bIt c_29).2) ?_
              refine lv_istore_n (lv' := [(2, .int (coI fdo ch k (coO fdo fdm ch k i) i (j + 1))), (0, .ref h0), (1, .int k), (3, .int (nI i)), (4, .int (nI j))]) hx hb dX10_choresOf_53 rfl hl (by decide) rfl (fun ls hl => ?_)
              refine lv_iinc (v := (nI (j + 1))) (lv' := [(4, .int (nI (j + 1))), (2, .int (coI fdo ch k (coO fdo fdm ch k i) i (j + 1))), (0, .ref h0), (1, .int k), (3, .int (nI i))]) hx hb dX10_choresOf_54 hl (k := 4) rfl (nI_1 j) (by decide) rfl (fun ls hl => ?_)
              refine lv_goto (tgt := 13) hx hb dX10_choresOf_57 (by decide) ?_
              exact ih_13 (j + 1) (by omega) _ (lv_sub hl [2, 3, 1, 4, 0] rfl)
      exact loop_13 mq 0 (by omega) _ (lv_sub hl [1, 2, 3, 4, 0] rfl)
  exact loop_4 12 0 (by omega) _ (lv_sub hl [2, 3, 1, 0] rfl)

set_option maxRecDepth 100000 in
set_option maxHeartbeats 4000000 in
theorem c_isAwayN (l : Launch) (D : va_G) (cI cB : ClassId) (h0 : Nat) (u1 : Nat) (f1 : Nat) (g1 : Nat) (ms : Int32) (dy : Int32) (dr : Int32) (k : Nat) (ff : Nat → Int32) (fg : Nat → Int32) (hk : k < 10) : MR l D cI cB yX4_isAway cX4_isAway 2 .boolean (rm 0 0) [.ref h0, .int (nI k)] [(h0, .inr (4, [.ref u1, .ref f1, .ref g1, .int ms, .int dy, .int dr])), (f1, .inl (cI, 10, .inl ff)), (g1, .inl (cI, 10, .inl fg))] (fun r : Int32 => r = bI (ff k ≤ dy ∧ dy ≤ fg k)) := by
  refine MR.of (by decide) (Nat.le_of_ble_eq_true rfl) ?_
  intro p e s m below meth c Q ls X hN hP hK hl ret
  obtain ⟨hx, hb, hml, hown, htb⟩ := id X
  have hl : lv_has ls 2 [(0, .ref h0), (1, .int (nI k))] := hl
  refine lv_iload_n hx hb dX4_isAway_0 rfl (lv_at hl 1 rfl) ?_
  refine lv_if_lt (tgt := 40) hx hb dX4_isAway_1 (by decide) (fun c_1 => absurd c_1 (nI_pos (by omega))) (fun _ => ?_)
  refine lv_iload_n hx hb dX4_isAway_4 rfl (lv_at hl 1 rfl) ?_
  refine lv_bipush (v := 10) hx hb dX4_isAway_5 (by decide) ?_
  refine lv_icmp_ge (tgt := 40) hx hb dX4_isAway_7 (by decide) (fun c_7 => absurd c_7 (nI_ge hk (by decide))) (fun _ => ?_)
  refine lv_aload_n hx hb dX4_isAway_10 rfl (lv_at hl 0 rfl) ?_
  refine va_get (D := D) (ci := 4) (v := .ref f1) (C := RX4) (T := TX4) (N := 6) hx hb htb itX4 hown hK hP 0 rfl rfl 1 (by decide) (htb _ k_192) (fun _ h9 => h9) rfl dX4_isAway_11 ?_
  refine lv_iload_n hx hb dX4_isAway_14 rfl (lv_at hl 1 rfl) ?_
  refine va_iald hx hb hK hP 1 0 rfl rfl (vp_in_nI (by omega) (by decide)) dX4_isAway_15 ?_
  refine tv (z := (ff k)) (by rw [nI_clamp (by omega)]) ?_
  refine lv_aload_n hx hb dX4_isAway_16 rfl (lv_at hl 0 rfl) ?_
  refine va_get (D := D) (ci := 4) (v := .int dy) (C := RX4) (T := TX4) (N := 6) hx hb htb itX4 hown hK hP 0 rfl rfl 4 (by decide) (htb _ k_199) (fun _ h9 => h9) rfl dX4_isAway_17 ?_
  refine lv_icmp_gt (tgt := 40) hx hb dX4_isAway_20 (by decide) (fun c_20 => ?_) (fun c_20 => ?_)
  · refine lv_iconst (v := 0) hx hb dX4_isAway_40 (by decide) ?_
    exact ret _ _ 0 dX4_isAway_41 rfl (bI0 (fun h => (Int32.not_lt.mpr h.1) c_20))
  · refine lv_aload_n hx hb dX4_isAway_23 rfl (lv_at hl 0 rfl) ?_
    refine va_get (D := D) (ci := 4) (v := .int dy) (C := RX4) (T := TX4) (N := 6) hx hb htb itX4 hown hK hP 0 rfl rfl 4 (by decide) (htb _ k_199) (fun _ h9 => h9) rfl dX4_isAway_24 ?_
    refine lv_aload_n hx hb dX4_isAway_27 rfl (lv_at hl 0 rfl) ?_
    refine va_get (D := D) (ci := 4) (v := .ref g1) (C := RX4) (T := TX4) (N := 6) hx hb htb itX4 hown hK hP 0 rfl rfl 2 (by decide) (htb _ k_194) (fun _ h9 => h9) rfl dX4_isAway_28 ?_
    refine lv_iload_n hx hb dX4_isAway_31 rfl (lv_at hl 1 rfl) ?_
    refine va_iald hx hb hK hP 2 0 rfl rfl (by have a0 := mt Int32.lt_iff_toInt_lt.mpr c_20; exact vp_in_nI (by omega) (by decide)) dX4_isAway_32 ?_
    refine tv (z := (fg k)) (by rw [nI_clamp (by omega)]) ?_
    refine lv_icmp_gt (tgt := 40) hx hb dX4_isAway_33 (by decide) (fun c_33 => ?_) (fun c_33 => ?_)
    · refine lv_iconst (v := 0) hx hb dX4_isAway_40 (by decide) ?_
      exact ret _ _ 0 dX4_isAway_41 rfl (bI0 (fun h => (Int32.not_lt.mpr h.2) c_33))
    · refine lv_iconst (v := 1) hx hb dX4_isAway_36 (by decide) ?_
      refine lv_goto (tgt := 41) hx hb dX4_isAway_37 (by decide) ?_
      exact ret _ _ 1 dX4_isAway_41 rfl (bI1 ⟨Int32.not_lt.mp c_20, Int32.not_lt.mp c_33⟩)

set_option maxRecDepth 100000 in
set_option maxHeartbeats 4000000 in
theorem c_personIsX (l : Launch) (D : va_G) (cI cB : ClassId) (h0 : Nat) (tp : Nat) (tw : Nat) (nw : Nat) (kp : Nat) (lw : Nat) (lr : Nat) (dd : Nat) (vv : Nat) (tl : Nat) (sc : Nat) (hk : Int32) (pe : Int32) (ch : Int32) (rt : Int32) (t1 : Nat) (t2 : Nat) (t3 : Nat) (t4 : Nat) (ft1 : Nat → Int32) (ft3 : Nat → Int32) (ft4 : Nat → Int32) (u2 : Nat) (f2 : Nat) (g2 : Nat) (ms2 : Int32) (dy2 : Int32) (dr2 : Int32) (fu2 : Nat → Int32) (ff2 : Nat → Int32) (fg2 : Nat → Int32) (x1 : Int32) (x2 : Int32) (hr4 : RG ft4) : MR l D cI cB yX9_personIs cX9_personIs 3 .int (rm 2 45) [.ref h0, .int x1, .int x2] [(h0, .inr (9, [.ref tp, .ref tw, .ref nw, .ref kp, .ref lw, .ref lr, .ref dd, .ref vv, .ref tl, .ref sc, .int hk])), (tw, .inr (7, [.int pe, .int ch, .int rt, .ref t1, .ref t2, .ref t3, .ref t4])), (t1, .inl (cI, 10, .inl ft1)), (t3, .inl (cI, 120, .inl ft3)), (t4, .inl (cI, 12, .inl ft4)), (nw, .inr (4, [.ref u2, .ref f2, .ref g2, .int ms2, .int dy2, .int dr2])), (u2, .inl (cI, 12, .inl fu2)), (f2, .inl (cI, 10, .inl ff2)), (g2, .inl (cI, 10, .inl fg2))] (fun r : Int32 => r = piF pe ch ft1 ff2 fg2 ft3 ft4 dy2 x1 x2) := by
  refine MR.of (by decide) (Nat.le_of_ble_eq_true rfl) ?_
  intro p e s m below meth c Q ls X hN hP hK hl ret
  obtain ⟨hx, hb, hml, hown, htb⟩ := id X
  have hl : lv_has ls 3 [(0, .ref h0), (1, .int x1), (2, .int x2)] := hl
  refine lv_aload_n hx hb dX9_personIs_0 rfl (lv_at hl 0 rfl) ?_
  refine va_get (D := D) (ci := 9) (v := .ref tw) (C := RX9) (T := TX9) (N := 11) hx hb htb itX9 hown hK hP 0 rfl rfl 1 (by decide) (htb _ k_394) (fun _ h9 => h9) rfl dX9_personIs_1 ?_
  refine lv_iload_n hx hb dX9_personIs_4 rfl (lv_at hl 1 rfl) ?_
  refine cVR (As := [.int x1]) (rest := []) (n := 1) (ci := 7) (q0 := 0) X hN hK hP (c_hasPersonF l D cI cB tw pe ch rt t1 t2 t3 t4 x1) (gV k_859 k_860 k_861 k_94 k_862) (by decide +kernel) ⟨Nat.le_of_ble_eq_true rfl, Nat.le_of_ble_eq_true rfl⟩ ⟨rfl, rfl⟩ [1] rfl rfl rfl rfl rfl rfl hl.1 (Nat.le_of_ble_eq_true rfl) dX9_personIs_5 ⟨Nat.le_of_ble_eq_true rfl, Nat.le_of_ble_eq_true rfl⟩ (fun r_1 hr_1 => ?_)
  subst hr_1
  refine lv_if_ne (tgt := 13) hx hb dX9_personIs_8 (by decide) (fun c_8 => ?_) (fun c_8 => ?_)
  · obtain ⟨kq_2, hkq_2, rfl⟩ := n9 (n := 10) ((bIt c_8).1) (by decide) (by decide)
    refine lv_iload_n hx hb dX9_personIs_13 rfl (lv_at hl 2 rfl) ?_
    by_cases e14_0 : x2 = 0
    · subst e14_0
      refine lv_tableIn (off := 34) (tgt := 48) hx hb dX9_personIs_14 (by decide) (by decide) (by decide) (by decide) ?_
      refine lv_aload_n hx hb dX9_personIs_48 rfl (lv_at hl 0 rfl) ?_
      refine va_get (D := D) (ci := 9) (v := .ref tw) (C := RX9) (T := TX9) (N := 11) hx hb htb itX9 hown hK hP 0 rfl rfl 1 (by decide) (htb _ k_394) (fun _ h9 => h9) rfl dX9_personIs_49 ?_
      refine va_getN (D := D) (ci := 7) (v := .ref t1) (C := RX7) (T := TX7) (N := 7) hx hb htb itX7 hown hK hP 1 rfl rfl 3 (by decide) (va_Nw.use rfl (hN _ n_152 rfl)) (fun _ h9 => h9) rfl dX9_personIs_52 ?_
      refine lv_iload_n hx hb dX9_personIs_55 rfl (lv_at hl 1 rfl) ?_
      refine va_iald hx hb hK hP 2 0 rfl rfl (by have a0 := mt Int32.toInt_inj.mp c_8; have a1 : (0 : Int32).toInt = 0 := (by decide); exact vp_in_nI (by omega) (by decide)) dX9_personIs_56 ?_
      refine tv (z := (ft1 kq_2)) (by rw [nI_clamp (by omega)]) ?_
      exact ret _ _ (ft1 kq_2) dX9_personIs_57 rfl (by rw [piF_y (bIt c_8) hkq_2, if_pos rfl])
    by_cases e14_1 : x2 = 1
    · subst e14_1
      refine lv_tableIn (off := 44) (tgt := 58) hx hb dX9_personIs_14 (by decide) (by decide) (by decide) (by decide) ?_
      refine lv_aload_n hx hb dX9_personIs_58 rfl (lv_at hl 0 rfl) ?_
      refine va_get (D := D) (ci := 9) (v := .ref nw) (C := RX9) (T := TX9) (N := 11) hx hb htb itX9 hown hK hP 0 rfl rfl 2 (by decide) (htb _ k_395) (fun _ h9 => h9) rfl dX9_personIs_59 ?_
      refine va_getN (D := D) (ci := 4) (v := .ref f2) (C := RX4) (T := TX4) (N := 6) hx hb htb itX4 hown hK hP 5 rfl rfl 1 (by decide) (va_Nw.use rfl (hN _ n_193 rfl)) (fun _ h9 => h9) rfl dX9_personIs_62 ?_
      refine lv_iload_n hx hb dX9_personIs_65 rfl (lv_at hl 1 rfl) ?_
      refine va_iald hx hb hK hP 7 0 rfl rfl (by have a0 := mt Int32.toInt_inj.mp c_8; have a1 : (0 : Int32).toInt = 0 := (by decide); exact vp_in_nI (by omega) (by decide)) dX9_personIs_66 ?_
      refine tv (z := (ff2 kq_2)) (by rw [nI_clamp (by omega)]) ?_
      exact ret _ _ (ff2 kq_2) dX9_personIs_67 rfl (by rw [piF_y (bIt c_8) hkq_2, if_neg (by decide), if_pos rfl])
    by_cases e14_2 : x2 = 2
    · subst e14_2
      refine lv_tableIn (off := 54) (tgt := 68) hx hb dX9_personIs_14 (by decide) (by decide) (by decide) (by decide) ?_
      refine lv_aload_n hx hb dX9_personIs_68 rfl (lv_at hl 0 rfl) ?_
      refine va_get (D := D) (ci := 9) (v := .ref nw) (C := RX9) (T := TX9) (N := 11) hx hb htb itX9 hown hK hP 0 rfl rfl 2 (by decide) (htb _ k_395) (fun _ h9 => h9) rfl dX9_personIs_69 ?_
      refine va_getN (D := D) (ci := 4) (v := .ref g2) (C := RX4) (T := TX4) (N := 6) hx hb htb itX4 hown hK hP 5 rfl rfl 2 (by decide) (va_Nw.use rfl (hN _ n_195 rfl)) (fun _ h9 => h9) rfl dX9_personIs_72 ?_
      refine lv_iload_n hx hb dX9_personIs_75 rfl (lv_at hl 1 rfl) ?_
      refine va_iald hx hb hK hP 8 0 rfl rfl (by have a0 := mt Int32.toInt_inj.mp c_8; have a1 : (0 : Int32).toInt = 0 := (by decide); exact vp_in_nI (by omega) (by decide)) dX9_personIs_76 ?_
      refine tv (z := (fg2 kq_2)) (by rw [nI_clamp (by omega)]) ?_
      exact ret _ _ (fg2 kq_2) dX9_personIs_77 rfl (by rw [piF_y (bIt c_8) hkq_2, if_neg (by decide), if_neg (by decide), if_pos rfl])
    by_cases e14_3 : x2 = 3
    · subst e14_3
      refine lv_tableIn (off := 64) (tgt := 78) hx hb dX9_personIs_14 (by decide) (by decide) (by decide) (by decide) ?_
      refine lv_aload_n hx hb dX9_personIs_78 rfl (lv_at hl 0 rfl) ?_
      refine va_get (D := D) (ci := 9) (v := .ref nw) (C := RX9) (T := TX9) (N := 11) hx hb htb itX9 hown hK hP 0 rfl rfl 2 (by decide) (htb _ k_395) (fun _ h9 => h9) rfl dX9_personIs_79 ?_
      refine lv_iload_n hx hb dX9_personIs_82 rfl (lv_at hl 1 rfl) ?_
      refine cVR (As := [.int (nI kq_2)]) (rest := []) (n := 1) (ci := 4) (q0 := 0) X hN hK hP (c_isAwayN l D cI cB nw u2 f2 g2 ms2 dy2 dr2 kq_2 ff2 fg2 (by assumption)) (gV k_875 k_798 k_799 k_95 k_800) (by decide +kernel) ⟨Nat.le_of_ble_eq_true rfl, Nat.le_of_ble_eq_true rfl⟩ ⟨rfl, rfl⟩ [5, 7, 8] rfl rfl rfl rfl rfl rfl hl.1 (Nat.le_of_ble_eq_true rfl) dX9_personIs_83 ⟨Nat.le_of_ble_eq_true rfl, Nat.le_of_ble_eq_true rfl⟩ (fun r_3 hr_3 => ?_)
      subst hr_3
      refine lv_if_eq (tgt := 93) hx hb dX9_personIs_86 (by decide) (fun c_86 => ?_) (fun c_86 => ?_)
      · refine lv_iconst (v := 0) hx hb dX9_personIs_93 (by decide) ?_
        exact ret _ _ 0 dX9_personIs_94 rfl (by rw [piF_y (bIt c_8) hkq_2, if_neg (by decide), if_neg (by decide), if_neg (by decide), if_pos rfl]; exact bI0 (bIf c_86))
      · refine lv_iconst (v := 1) hx hb dX9_personIs_89 (by decide) ?_
        refine lv_goto (tgt := 94) hx hb dX9_personIs_90 (by decide) ?_
        exact ret _ _ 1 dX9_personIs_94 rfl (by rw [piF_y (bIt c_8) hkq_2, if_neg (by decide), if_neg (by decide), if_neg (by decide), if_pos rfl]; exact bI1 (bIt c_86))
    by_cases e14_4 : x2 = 4
    · subst e14_4
      refine lv_tableIn (off := 81) (tgt := 95) hx hb dX9_personIs_14 (by decide) (by decide) (by decide) (by decide) ?_
      refine lv_aload_n hx hb dX9_personIs_95 rfl (lv_at hl 0 rfl) ?_
      refine va_get (D := D) (ci := 9) (v := .ref tw) (C := RX9) (T := TX9) (N := 11) hx hb htb itX9 hown hK hP 0 rfl rfl 1 (by decide) (htb _ k_394) (fun _ h9 => h9) rfl dX9_personIs_96 ?_
      refine lv_iload_n hx hb dX9_personIs_99 rfl (lv_at hl 1 rfl) ?_
      refine cVR (As := [.int (nI kq_2)]) (rest := []) (n := 1) (ci := 7) (q0 := 0) X hN hK hP (c_choresOfF l D cI cB tw pe ch rt t1 t2 t3 t4 (nI kq_2) ft3 ft4 hr4) (gV k_876 k_877 k_878 k_94 k_879) (by decide +kernel) ⟨Nat.le_of_ble_eq_true rfl, Nat.le_of_ble_eq_true rfl⟩ ⟨rfl, rfl⟩ [1, 3, 4] rfl rfl rfl rfl rfl rfl hl.1 (Nat.le_of_ble_eq_true rfl) dX9_personIs_100 ⟨Nat.le_of_ble_eq_true rfl, Nat.le_of_ble_eq_true rfl⟩ (fun r_4 hr_4 => ?_)
      subst hr_4
      exact ret _ _ (coO ft3 ft4 ch (nI kq_2) 12) dX9_personIs_103 rfl (by rw [piF_y (bIt c_8) hkq_2, if_neg (by decide), if_neg (by decide), if_neg (by decide), if_neg (by decide), if_pos rfl])
    refine lv_tableOut (tgt := 104) hx hb dX9_personIs_14 (by have t0 := lv_neT e14_0 (a := 0) (by decide); have t1 := lv_neT e14_1 (a := 1) (by decide); have t2 := lv_neT e14_2 (a := 2) (by decide); have t3 := lv_neT e14_3 (a := 3) (by decide); have t4 := lv_neT e14_4 (a := 4) (by decide); omega) (by decide) ?_
    refine lv_iconst (v := (-1)) hx hb dX9_personIs_104 (by decide) ?_
    exact ret _ _ (-1) dX9_personIs_105 rfl (by rw [piF_y (bIt c_8) hkq_2, if_neg e14_0, if_neg e14_1, if_neg e14_2, if_neg e14_3, if_neg e14_4])
  · refine lv_iconst (v := (-1)) hx hb dX9_personIs_11 (by decide) ?_
    exact ret _ _ (-1) dX9_personIs_12 rfl ((piF_n (bIf c_8)).symm)

set_option maxRecDepth 100000 in
set_option maxHeartbeats 4000000 in
theorem c_personIsM (l : Launch) (D : va_G) (cI cB : ClassId) (h0 : Nat) (a_now : Nat) (a_aside : Nat) (a_kept : Nat) (a_keptFrom : Nat) (a_keptTo : Nat) (a_capOf : Nat) (a_leaveFrom : Nat) (a_leaveTo : Nat) (a_amountOf : Nat) (a_doerMany : Nat) (a_doerOf : Nat) (a_tape : Nat) (a_said : Nat) (a_waitsAt : Nat) (a_saidLetter : Nat) (a_saidFrom : Nat) (a_saidHalf : Nat) (a_saidTo : Nat) (a_codes : Nat) (a_clauseOf : Nat) (a_codeFrom : Nat) (a_codeHalf : Nat) (a_codeTo : Nat) (a_stack : Nat) (a_facts : Nat) (a_lineChore : Nat) (a_lineMany : Nat) (a_lineDoer : Nat) (a_newFrom : Nat) (a_newTo : Nat) (a_goFrom : Nat) (a_goTo : Nat) (a_idleFrom : Nat) (a_idleTo : Nat) (a_moreOf : Nat) (a_firstOf : Nat) (a_leftOf : Nat) (a_didOf : Nat) (a_costBy : Nat) (a_gainBy : Nat) (a_hiredOf : Nat) (a_hiredBest : Nat) (a_hiredTo : Nat) (a_turnOf : Nat) (a_turnWho : Nat) (pe : Int32) (ch : Int32) (rt : Int32) (pl : Int32) (le0 : Int32) (fa : Int32) (nu : Int32) (op_ : Int32) (cm : Int32) (wt : Int32) (sm : Int32) (li : Int32) (rv : Int32) (du : Int32) (cl : Int32) (gd : Int32) (sd : Int32) (ik : Int32) (T : Nat) (kc : Nat) (x1 : Int32) (x2 : Int32) (fca : Nat → Int32) (fl : Nat → Int32) (flt : Nat → Int32) (fw : Nat → Int32) (fdm : Nat → Int32) (fdo : Nat → Int32) (dn : Nat) (hdm : DMK fdm) (hdn : dn ≤ 9999) (hd0 : fw 13 = nI dn) : MR l D cI cB yX10_personIs cX10_personIs 3 .int (rm 3 66) [.ref h0, .int x1, .int x2] [(h0, .inr (10, [.ref a_now, .ref a_aside, .ref a_kept, .ref a_keptFrom, .ref a_keptTo, .ref a_capOf, .ref a_leaveFrom, .ref a_leaveTo, .ref a_amountOf, .ref a_doerMany, .ref a_doerOf, .int pe, .int ch, .int rt, .ref a_tape, .int (nI T), .int pl, .int le0, .int fa, .int nu, .int op_, .int cm, .int wt, .int sm, .int (nI kc), .ref a_said, .ref a_waitsAt, .ref a_saidLetter, .ref a_saidFrom, .ref a_saidHalf, .ref a_saidTo, .ref a_codes, .ref a_clauseOf, .ref a_codeFrom, .ref a_codeHalf, .ref a_codeTo, .ref a_stack, .ref a_facts, .ref a_lineChore, .ref a_lineMany, .ref a_lineDoer, .ref a_newFrom, .ref a_newTo, .int li, .ref a_goFrom, .ref a_goTo, .ref a_idleFrom, .ref a_idleTo, .ref a_moreOf, .ref a_firstOf, .ref a_leftOf, .ref a_didOf, .int rv, .int du, .int cl, .int gd, .ref a_costBy, .int sd, .ref a_gainBy, .ref a_hiredOf, .ref a_hiredBest, .ref a_hiredTo, .ref a_turnOf, .ref a_turnWho, .int ik])), (a_capOf, .inl (cI, 10, .inl fca)), (a_leaveFrom, .inl (cI, 10, .inl fl)), (a_leaveTo, .inl (cI, 10, .inl flt)), (a_now, .inl (cI, 15, .inl fw)), (a_doerMany, .inl (cI, 12, .inl fdm)), (a_doerOf, .inl (cI, 120, .inl fdo))] (fun r : Int32 => r = piF pe ch fca fl (fun j => if fl j = -2 then -2 else flt j) fdo fdm (fw 13) x1 x2) := by
  refine MR.of (by decide) (Nat.le_of_ble_eq_true rfl) ?_
  intro p e s m below meth c Q ls X hN hP hK hl ret
  obtain ⟨hx, hb, hml, hown, htb⟩ := id X
  have hl : lv_has ls 3 [(0, .ref h0), (1, .int x1), (2, .int x2)] := hl
  refine lv_aload_n hx hb dX10_personIs_0 rfl (lv_at hl 0 rfl) ?_
  refine lv_iload_n hx hb dX10_personIs_1 rfl (lv_at hl 1 rfl) ?_
  refine cVR (As := [.int x1]) (rest := []) (n := 1) (ci := 10) (q0 := 0) X hN hK hP (c_isPersonF l D cI cB h0 a_now a_aside a_kept a_keptFrom a_keptTo a_capOf a_leaveFrom a_leaveTo a_amountOf a_doerMany a_doerOf a_tape a_said a_waitsAt a_saidLetter a_saidFrom a_saidHalf a_saidTo a_codes a_clauseOf a_codeFrom a_codeHalf a_codeTo a_stack a_facts a_lineChore a_lineMany a_lineDoer a_newFrom a_newTo a_goFrom a_goTo a_idleFrom a_idleTo a_moreOf a_firstOf a_leftOf a_didOf a_costBy a_gainBy a_hiredOf a_hiredBest a_hiredTo a_turnOf a_turnWho pe ch rt pl le0 fa nu op_ cm wt sm (nI kc) li rv du cl gd sd ik T x1) (gV k_1451 k_1453 k_65 k_103 k_1454) (by decide +kernel) ⟨Nat.le_of_ble_eq_true rfl, Nat.le_of_ble_eq_true rfl⟩ ⟨rfl, rfl⟩ [0] rfl rfl rfl rfl rfl rfl hl.1 (Nat.le_of_ble_eq_true rfl) dX10_personIs_2 ⟨Nat.le_of_ble_eq_true rfl, Nat.le_of_ble_eq_true rfl⟩ (fun r_1 hr_1 => ?_)
  subst hr_1
  refine lv_if_ne (tgt := 10) hx hb dX10_personIs_5 (by decide) (fun c_5 => ?_) (fun c_5 => ?_)
  · obtain ⟨kq_2, hkq_2, rfl⟩ := n9 (n := 10) ((bIt c_5).1) (by decide) (by decide)
    refine lv_iload_n hx hb dX10_personIs_10 rfl (lv_at hl 2 rfl) ?_
    by_cases e11_0 : x2 = 0
    · subst e11_0
      refine lv_tableIn (off := 33) (tgt := 44) hx hb dX10_personIs_11 (by decide) (by decide) (by decide) (by decide) ?_
      refine lv_aload_n hx hb dX10_personIs_44 rfl (lv_at hl 0 rfl) ?_
      refine va_get (D := D) (ci := 10) (v := .ref a_capOf) (C := RX10) (T := TX10) (N := 65) hx hb htb itX10 hown hK hP 0 rfl rfl 5 (by decide) (htb _ k_1073) (fun _ h9 => h9) rfl dX10_personIs_45 ?_
      refine lv_iload_n hx hb dX10_personIs_48 rfl (lv_at hl 1 rfl) ?_
      refine va_iald hx hb hK hP 1 0 rfl rfl (by have a0 := mt Int32.toInt_inj.mp c_5; have a1 : (0 : Int32).toInt = 0 := (by decide); exact vp_in_nI (by omega) (by decide)) dX10_personIs_49 ?_
      refine tv (z := (fca kq_2)) (by rw [nI_clamp (by omega)]) ?_
      exact ret _ _ (fca kq_2) dX10_personIs_50 rfl (by rw [piF_y (bIt c_5) hkq_2, if_pos rfl])
    by_cases e11_1 : x2 = 1
    · subst e11_1
      refine lv_tableIn (off := 40) (tgt := 51) hx hb dX10_personIs_11 (by decide) (by decide) (by decide) (by decide) ?_
      refine lv_aload_n hx hb dX10_personIs_51 rfl (lv_at hl 0 rfl) ?_
      refine va_get (D := D) (ci := 10) (v := .ref a_leaveFrom) (C := RX10) (T := TX10) (N := 65) hx hb htb itX10 hown hK hP 0 rfl rfl 6 (by decide) (htb _ k_1074) (fun _ h9 => h9) rfl dX10_personIs_52 ?_
      refine lv_iload_n hx hb dX10_personIs_55 rfl (lv_at hl 1 rfl) ?_
      refine va_iald hx hb hK hP 2 0 rfl rfl (by have a0 := mt Int32.toInt_inj.mp c_5; have a1 : (0 : Int32).toInt = 0 := (by decide); exact vp_in_nI (by omega) (by decide)) dX10_personIs_56 ?_
      refine tv (z := (fl kq_2)) (by rw [nI_clamp (by omega)]) ?_
      exact ret _ _ (fl kq_2) dX10_personIs_57 rfl (by rw [piF_y (bIt c_5) hkq_2, if_neg (by decide), if_pos rfl])
    by_cases e11_2 : x2 = 2
    · subst e11_2
      refine lv_tableIn (off := 47) (tgt := 58) hx hb dX10_personIs_11 (by decide) (by decide) (by decide) (by decide) ?_
      refine lv_aload_n hx hb dX10_personIs_58 rfl (lv_at hl 0 rfl) ?_
      refine lv_iload_n hx hb dX10_personIs_59 rfl (lv_at hl 1 rfl) ?_
      refine cVR (As := [.int (nI kq_2)]) (rest := []) (n := 1) (ci := 10) (q0 := 0) X hN hK hP (c_hasLeaveM l D cI cB h0 a_now a_aside a_kept a_keptFrom a_keptTo a_capOf a_leaveFrom a_leaveTo a_amountOf a_doerMany a_doerOf a_tape a_said a_waitsAt a_saidLetter a_saidFrom a_saidHalf a_saidTo a_codes a_clauseOf a_codeFrom a_codeHalf a_codeTo a_stack a_facts a_lineChore a_lineMany a_lineDoer a_newFrom a_newTo a_goFrom a_goTo a_idleFrom a_idleTo a_moreOf a_firstOf a_leftOf a_didOf a_costBy a_gainBy a_hiredOf a_hiredBest a_hiredTo a_turnOf a_turnWho pe ch rt pl le0 fa nu op_ cm wt sm (nI kc) li rv du cl gd sd ik T kq_2 fl (by assumption)) (gV k_1408 k_1410 k_57 k_103 k_1411) (by decide +kernel) ⟨Nat.le_of_ble_eq_true rfl, Nat.le_of_ble_eq_true rfl⟩ ⟨rfl, rfl⟩ [0, 2] rfl rfl rfl rfl rfl rfl hl.1 (Nat.le_of_ble_eq_true rfl) dX10_personIs_60 ⟨Nat.le_of_ble_eq_true rfl, Nat.le_of_ble_eq_true rfl⟩ (fun r_3 hr_3 => ?_)
      subst hr_3
      refine lv_if_eq (tgt := 75) hx hb dX10_personIs_63 (by decide) (fun c_63 => ?_) (fun c_63 => ?_)
      · refine lv_bipush (v := (-2)) hx hb dX10_personIs_75 (by decide) ?_
        exact ret _ _ (-2) dX10_personIs_77 rfl (by rw [piF_y (bIt c_5) hkq_2, if_neg (by decide), if_neg (by decide), if_pos rfl]; exact (if_pos (Classical.byContradiction (bIf c_63))).symm)
      · refine lv_aload_n hx hb dX10_personIs_66 rfl (lv_at hl 0 rfl) ?_
        refine va_get (D := D) (ci := 10) (v := .ref a_leaveTo) (C := RX10) (T := TX10) (N := 65) hx hb htb itX10 hown hK hP 0 rfl rfl 7 (by decide) (htb _ k_1075) (fun _ h9 => h9) rfl dX10_personIs_67 ?_
        refine lv_iload_n hx hb dX10_personIs_70 rfl (lv_at hl 1 rfl) ?_
        refine va_iald hx hb hK hP 3 0 rfl rfl (by have a0 := mt Int32.toInt_inj.mp c_5; have a1 := mt Int32.toInt_inj.mp c_63; have a2 : (0 : Int32).toInt = 0 := (by decide); exact vp_in_nI (by omega) (by decide)) dX10_personIs_71 ?_
        refine tv (z := (flt kq_2)) (by rw [nI_clamp (by omega)]) ?_
        refine lv_goto (tgt := 77) hx hb dX10_personIs_72 (by decide) ?_
        exact ret _ _ (flt kq_2) dX10_personIs_77 rfl (by rw [piF_y (bIt c_5) hkq_2, if_neg (by decide), if_neg (by decide), if_pos rfl]; exact (if_neg (bIt c_63)).symm)
    by_cases e11_3 : x2 = 3
    · subst e11_3
      refine lv_tableIn (off := 67) (tgt := 78) hx hb dX10_personIs_11 (by decide) (by decide) (by decide) (by decide) ?_
      refine lv_aload_n hx hb dX10_personIs_78 rfl (lv_at hl 0 rfl) ?_
      refine lv_iload_n hx hb dX10_personIs_79 rfl (lv_at hl 1 rfl) ?_
      refine cVR (As := [.int (nI kq_2)]) (rest := []) (n := 1) (ci := 10) (q0 := 0) X hN hK hP (c_hasLeaveM l D cI cB h0 a_now a_aside a_kept a_keptFrom a_keptTo a_capOf a_leaveFrom a_leaveTo a_amountOf a_doerMany a_doerOf a_tape a_said a_waitsAt a_saidLetter a_saidFrom a_saidHalf a_saidTo a_codes a_clauseOf a_codeFrom a_codeHalf a_codeTo a_stack a_facts a_lineChore a_lineMany a_lineDoer a_newFrom a_newTo a_goFrom a_goTo a_idleFrom a_idleTo a_moreOf a_firstOf a_leftOf a_didOf a_costBy a_gainBy a_hiredOf a_hiredBest a_hiredTo a_turnOf a_turnWho pe ch rt pl le0 fa nu op_ cm wt sm (nI kc) li rv du cl gd sd ik T kq_2 fl (by assumption)) (gV k_1408 k_1410 k_57 k_103 k_1411) (by decide +kernel) ⟨Nat.le_of_ble_eq_true rfl, Nat.le_of_ble_eq_true rfl⟩ ⟨rfl, rfl⟩ [0, 2] rfl rfl rfl rfl rfl rfl hl.1 (Nat.le_of_ble_eq_true rfl) dX10_personIs_80 ⟨Nat.le_of_ble_eq_true rfl, Nat.le_of_ble_eq_true rfl⟩ (fun r_4 hr_4 => ?_)
      subst hr_4
      refine lv_if_eq (tgt := 115) hx hb dX10_personIs_83 (by decide) (fun c_83 => ?_) (fun c_83 => ?_)
      · refine lv_iconst (v := 0) hx hb dX10_personIs_115 (by decide) ?_
        exact ret _ _ 0 dX10_personIs_116 rfl (by rw [piF_y (bIt c_5) hkq_2, if_neg (by decide), if_neg (by decide), if_neg (by decide), if_pos rfl]; exact bI0 (aw0 (Classical.byContradiction (bIf c_83)) (by rw [hd0]; exact m2lt hdn)))
      · refine lv_aload_n hx hb dX10_personIs_86 rfl (lv_at hl 0 rfl) ?_
        refine va_get (D := D) (ci := 10) (v := .ref a_now) (C := RX10) (T := TX10) (N := 65) hx hb htb itX10 hown hK hP 0 rfl rfl 0 (by decide) (htb _ k_1068) (fun _ h9 => h9) rfl dX10_personIs_87 ?_
        refine lv_bipush (v := 13) hx hb dX10_personIs_90 (by decide) ?_
        refine va_iald hx hb hK hP 4 0 rfl rfl (by unfold vp_in; decide) dX10_personIs_92 ?_
        refine tv (z := (fw 13)) (by rw [cl13]) ?_
        refine lv_aload_n hx hb dX10_personIs_93 rfl (lv_at hl 0 rfl) ?_
        refine va_get (D := D) (ci := 10) (v := .ref a_leaveFrom) (C := RX10) (T := TX10) (N := 65) hx hb htb itX10 hown hK hP 0 rfl rfl 6 (by decide) (htb _ k_1074) (fun _ h9 => h9) rfl dX10_personIs_94 ?_
        refine lv_iload_n hx hb dX10_personIs_97 rfl (lv_at hl 1 rfl) ?_
        refine va_iald hx hb hK hP 2 0 rfl rfl (by have a0 := mt Int32.toInt_inj.mp c_5; have a1 := mt Int32.toInt_inj.mp c_83; have a2 : (0 : Int32).toInt = 0 := (by decide); exact vp_in_nI (by omega) (by decide)) dX10_personIs_98 ?_
        refine tv (z := (fl kq_2)) (by rw [nI_clamp (by omega)]) ?_
        refine lv_aload_n hx hb dX10_personIs_99 rfl (lv_at hl 0 rfl) ?_
        refine va_get (D := D) (ci := 10) (v := .ref a_leaveTo) (C := RX10) (T := TX10) (N := 65) hx hb htb itX10 hown hK hP 0 rfl rfl 7 (by decide) (htb _ k_1075) (fun _ h9 => h9) rfl dX10_personIs_100 ?_
        refine lv_iload_n hx hb dX10_personIs_103 rfl (lv_at hl 1 rfl) ?_
        refine va_iald hx hb hK hP 3 0 rfl rfl (by have a0 := mt Int32.toInt_inj.mp c_5; have a1 := mt Int32.toInt_inj.mp c_83; have a2 : (0 : Int32).toInt = 0 := (by decide); exact vp_in_nI (by omega) (by decide)) dX10_personIs_104 ?_
        refine tv (z := (flt kq_2)) (by rw [nI_clamp (by omega)]) ?_
        refine cSR (As := [.int (fw 13), .int (fl kq_2), .int (flt kq_2)]) (rest := []) (n := 3) X hN hK hP (c_X10_in l D cI cB (fw 13) (fl kq_2) (flt kq_2)) k_1268 k_1269 k_103 k_1270 (by decide +kernel) ⟨Nat.le_of_ble_eq_true rfl, Nat.le_of_ble_eq_true rfl⟩ ⟨rfl, rfl⟩ [] rfl rfl rfl hl.1 (Nat.le_of_ble_eq_true rfl) dX10_personIs_105 ⟨Nat.le_of_ble_eq_true rfl, Nat.le_of_ble_eq_true rfl⟩ (fun r_5 hr_5 => ?_)
        subst hr_5
        refine lv_if_eq (tgt := 115) hx hb dX10_personIs_108 (by decide) (fun c_108 => ?_) (fun c_108 => ?_)
        · refine lv_iconst (v := 0) hx hb dX10_personIs_115 (by decide) ?_
          exact ret _ _ 0 dX10_personIs_116 rfl (by rw [piF_y (bIt c_5) hkq_2, if_neg (by decide), if_neg (by decide), if_neg (by decide), if_pos rfl]; exact bI0 (fun z => bIf c_108 ((aw1 (bIt c_83)).mp z)))
        · refine lv_iconst (v := 1) hx hb dX10_personIs_111 (by decide) ?_
          refine lv_goto (tgt := 116) hx hb dX10_personIs_112 (by decide) ?_
          exact ret _ _ 1 dX10_personIs_116 rfl (by rw [piF_y (bIt c_5) hkq_2, if_neg (by decide), if_neg (by decide), if_neg (by decide), if_pos rfl]; exact bI1 ((aw1 (bIt c_83)).mpr (bIt c_108)))
    by_cases e11_4 : x2 = 4
    · subst e11_4
      refine lv_tableIn (off := 106) (tgt := 117) hx hb dX10_personIs_11 (by decide) (by decide) (by decide) (by decide) ?_
      refine lv_aload_n hx hb dX10_personIs_117 rfl (lv_at hl 0 rfl) ?_
      refine lv_iload_n hx hb dX10_personIs_118 rfl (lv_at hl 1 rfl) ?_
      refine cVR (As := [.int (nI kq_2)]) (rest := []) (n := 1) (ci := 10) (q0 := 0) X hN hK hP (c_choresOfM l D cI cB h0 a_now a_aside a_kept a_keptFrom a_keptTo a_capOf a_leaveFrom a_leaveTo a_amountOf a_doerMany a_doerOf a_tape a_said a_waitsAt a_saidLetter a_saidFrom a_saidHalf a_saidTo a_codes a_clauseOf a_codeFrom a_codeHalf a_codeTo a_stack a_facts a_lineChore a_lineMany a_lineDoer a_newFrom a_newTo a_goFrom a_goTo a_idleFrom a_idleTo a_moreOf a_firstOf a_leftOf a_didOf a_costBy a_gainBy a_hiredOf a_hiredBest a_hiredTo a_turnOf a_turnWho pe ch rt pl le0 fa nu op_ cm wt sm li rv du cl gd sd ik T kc (nI kq_2) fdm fdo hdm) (gV k_1508 k_1510 k_75 k_103 k_1511) (by decide +kernel) ⟨Nat.le_of_ble_eq_true rfl, Nat.le_of_ble_eq_true rfl⟩ ⟨rfl, rfl⟩ [0, 5, 6] rfl rfl rfl rfl rfl rfl hl.1 (Nat.le_of_ble_eq_true rfl) dX10_personIs_119 ⟨Nat.le_of_ble_eq_true rfl, Nat.le_of_ble_eq_true rfl⟩ (fun r_6 hr_6 => ?_)
      subst hr_6
      exact ret _ _ (coO fdo fdm ch (nI kq_2) 12) dX10_personIs_122 rfl (by rw [piF_y (bIt c_5) hkq_2, if_neg (by decide), if_neg (by decide), if_neg (by decide), if_neg (by decide), if_pos rfl])
    refine lv_tableOut (tgt := 123) hx hb dX10_personIs_11 (by have t0 := lv_neT e11_0 (a := 0) (by decide); have t1 := lv_neT e11_1 (a := 1) (by decide); have t2 := lv_neT e11_2 (a := 2) (by decide); have t3 := lv_neT e11_3 (a := 3) (by decide); have t4 := lv_neT e11_4 (a := 4) (by decide); omega) (by decide) ?_
    refine lv_iconst (v := (-1)) hx hb dX10_personIs_123 (by decide) ?_
    exact ret _ _ (-1) dX10_personIs_124 rfl (by rw [piF_y (bIt c_5) hkq_2, if_neg e11_0, if_neg e11_1, if_neg e11_2, if_neg e11_3, if_neg e11_4])
  · refine lv_iconst (v := (-1)) hx hb dX10_personIs_8 (by decide) ?_
    exact ret _ _ (-1) dX10_personIs_9 rfl ((piF_n (bIf c_5)).symm)

set_option maxRecDepth 100000 in
set_option maxHeartbeats 4000000 in
theorem c_personY (l : Launch) (D : va_G) (cI cB : ClassId) (sz : Nat) (h0 : Nat) (tp : Nat) (tw : Nat) (nw : Nat) (kp : Nat) (lw : Nat) (lr : Nat) (dd : Nat) (vv : Nat) (tl : Nat) (sc : Nat) (hk : Int32) (pe : Int32) (ch : Int32) (rt : Int32) (t1 : Nat) (t2 : Nat) (t3 : Nat) (t4 : Nat) (ft1 : Nat → Int32) (x1 : Int32) (x2 : Int32) (hpe : PEK pe) (hca : BD 20 10 ft1) : MI (S := ((Int32) × (Nat → Int32))) l D cI cB yX9_person cX9_person 3 .boolean (rm 1 22) [.ref h0, .int x1, .int x2] [(h0, .inr (9, [.ref tp, .ref tw, .ref nw, .ref kp, .ref lw, .ref lr, .ref dd, .ref vv, .ref tl, .ref sc, .int hk])), (tw, .inr (7, [.int pe, .int ch, .int rt, .ref t1, .ref t2, .ref t3, .ref t4])), (t1, .inl (cI, 10, .inl ft1))] sz (fun r u => ((r = bI ((0 ≤ x1 ∧ x1 ≤ 9) ∧ (0 ≤ x2 ∧ x2 ≤ 20)) ∧ PEK u.1) ∧ BD 20 10 u.2) ∧ (((0 ≤ x1 ∧ x1 ≤ 9) ∧ (0 ≤ x2 ∧ x2 ≤ 20)) → u.1 = (pe ||| (1 : Int32) <<< (x1 &&& 31)) ∧ u.2 = upd ft1 x1.toNatClampNeg x2) ∧ (¬ ((0 ≤ x1 ∧ x1 ≤ 9) ∧ (0 ≤ x2 ∧ x2 ≤ 20)) → u.1 = pe ∧ u.2 = ft1)) (fun u : ((Int32) × (Nat → Int32)) => [(h0, .inr (9, [.ref tp, .ref tw, .ref nw, .ref kp, .ref lw, .ref lr, .ref dd, .ref vv, .ref tl, .ref sc, .int hk])), (tw, .inr (7, [.int u.1, .int ch, .int rt, .ref t1, .ref t2, .ref t3, .ref t4])), (t1, .inl (cI, 10, .inl u.2))]) := by
  refine MI.of (by decide) (Nat.le_of_ble_eq_true rfl) ?_
  intro p e s m below meth c Q ls A X hin hN hP hK hD hA hl ret
  have hS : va_S A s.heap s.heap [] := va_S.rf
  obtain ⟨hx, hb, hml, hown, htb⟩ := id X
  have hl : lv_has ls 3 [(0, .ref h0), (1, .int x1), (2, .int x2)] := hl
  refine lv_iload_n hx hb dX9_person_0 rfl (lv_at hl 1 rfl) ?_
  refine lv_iconst (v := 0) hx hb dX9_person_1 (by decide) ?_
  refine lv_bipush (v := 9) hx hb dX9_person_2 (by decide) ?_
  refine cSR (As := [.int x1, .int 0, .int 9]) (rest := []) (n := 3) X hN hK hP (c_X9_within l D cI cB x1 0 9) k_431 k_432 k_92 k_433 (by decide +kernel) ⟨Nat.le_of_ble_eq_true rfl, Nat.le_of_ble_eq_true rfl⟩ ⟨rfl, rfl⟩ [] rfl rfl rfl hl.1 (Nat.le_of_ble_eq_true rfl) dX9_person_4 ⟨Nat.le_of_ble_eq_true rfl, Nat.le_of_ble_eq_true rfl⟩ (fun r_1 hr_1 => ?_)
  subst hr_1
  refine lv_if_eq (tgt := 20) hx hb dX9_person_7 (by decide) (fun c_7 => ?_) (fun c_7 => ?_)
  · refine lv_iconst (v := 0) hx hb dX9_person_20 (by decide) ?_
    exact ret _ _ _ _ 0 (pe, ft1) dX9_person_21 rfl (⟨⟨⟨bI0 (fun h => bIf c_7 h.1), hpe⟩, hca⟩, fun h => absurd h (fun h => bIf c_7 h.1), fun _ => ⟨rfl, rfl⟩⟩) (hP.sub [0, 1, 2] rfl) (hD.sub [0, 1, 2] (by decide) rfl) hS
  · refine lv_iload_n hx hb dX9_person_10 rfl (lv_at hl 2 rfl) ?_
    refine lv_iconst (v := 0) hx hb dX9_person_11 (by decide) ?_
    refine lv_bipush (v := 20) hx hb dX9_person_12 (by decide) ?_
    refine cSR (As := [.int x2, .int 0, .int 20]) (rest := []) (n := 3) X hN hK hP (c_X9_within l D cI cB x2 0 20) k_431 k_432 k_92 k_433 (by decide +kernel) ⟨Nat.le_of_ble_eq_true rfl, Nat.le_of_ble_eq_true rfl⟩ ⟨rfl, rfl⟩ [] rfl rfl rfl hl.1 (Nat.le_of_ble_eq_true rfl) dX9_person_14 ⟨Nat.le_of_ble_eq_true rfl, Nat.le_of_ble_eq_true rfl⟩ (fun r_2 hr_2 => ?_)
    subst hr_2
    refine lv_if_ne (tgt := 22) hx hb dX9_person_17 (by decide) (fun c_17 => ?_) (fun c_17 => ?_)
    · refine lv_aload_n hx hb dX9_person_22 rfl (lv_at hl 0 rfl) ?_
      refine va_get (D := D) (ci := 9) (v := .ref tw) (C := RX9) (T := TX9) (N := 11) hx hb htb itX9 hown hK hP 0 rfl rfl 1 (by decide) (htb _ k_394) (fun _ h9 => h9) rfl dX9_person_23 ?_
      refine lv_dup hx hb dX9_person_26 rfl ?_
      refine va_getN (D := D) (ci := 7) (v := .int pe) (C := RX7) (T := TX7) (N := 7) hx hb htb itX7 hown hK hP 1 rfl rfl 0 (by decide) (va_Nw.use rfl (hN _ n_144 rfl)) (fun _ h9 => h9) rfl dX9_person_27 ?_
      refine lv_iconst (v := 1) hx hb dX9_person_30 (by decide) ?_
      refine lv_iload_n hx hb dX9_person_31 rfl (lv_at hl 1 rfl) ?_
      refine lv_ishl hx hb dX9_person_32 ?_
      refine lv_ior hx hb dX9_person_33 ?_
      refine lv_topi (fun x_3 ex_3 => ?_)
      refine va_putN (D := D) (ci := 7) (v := .int x_3) (ty := .int) (C := RX7) (T := TX7) (N := 7) hx hb htb itX7 tyX7 tyX7_ok nmX7 hown hK hP hD hS 1 rfl rfl 0 (by decide) (va_Nw.use rfl (hN _ n_144 rfl)) (fun _ h9 => h9) rfl (tyX7_ok 0 (by decide)) rfl rfl (Nat.le_of_ble_eq_true rfl) dX9_person_34 (fun H locs hP hD hS => ?_)
      have hP : va_P D vwCl [(h0, .inr (9, [.ref tp, .ref tw, .ref nw, .ref kp, .ref lw, .ref lr, .ref dd, .ref vv, .ref tl, .ref sc, .int hk])), (tw, .inr (7, [.int x_3, .int ch, .int rt, .ref t1, .ref t2, .ref t3, .ref t4])), (t1, .inl (cI, 10, .inl ft1))] H := hP
      have hD : va_D A [(h0, .inr (9, [.ref tp, .ref tw, .ref nw, .ref kp, .ref lw, .ref lr, .ref dd, .ref vv, .ref tl, .ref sc, .int hk])), (tw, .inr (7, [.int x_3, .int ch, .int rt, .ref t1, .ref t2, .ref t3, .ref t4])), (t1, .inl (cI, 10, .inl ft1))] := hD
      refine lv_aload_n hx hb dX9_person_37 rfl (lv_at hl 0 rfl) ?_
      refine va_get (D := D) (ci := 9) (v := .ref tw) (C := RX9) (T := TX9) (N := 11) hx hb htb itX9 hown hK hP 0 rfl rfl 1 (by decide) (htb _ k_394) (fun _ h9 => h9) rfl dX9_person_38 ?_
      refine va_getN (D := D) (ci := 7) (v := .ref t1) (C := RX7) (T := TX7) (N := 7) hx hb htb itX7 hown hK hP 1 rfl rfl 3 (by decide) (va_Nw.use rfl (hN _ n_152 rfl)) (fun _ h9 => h9) rfl dX9_person_41 ?_
      refine lv_iload_n hx hb dX9_person_44 rfl (lv_at hl 1 rfl) ?_
      refine lv_iload_n hx hb dX9_person_45 rfl (lv_at hl 2 rfl) ?_
      refine va_iast hx hb hK hP hD hS 2 0 rfl rfl (in8 (bIt c_7) (n := 10) (by decide)) dX9_person_46 (fun H locs hP hD hS => ?_)
      obtain ⟨f_4, ef_4⟩ : ∃ g : Nat → Int32, g = upd ft1 (Int32.toNatClampNeg x1) x2 := ⟨_, rfl⟩
      rw [← ef_4] at hP hD
      have hP : va_P D vwCl [(h0, .inr (9, [.ref tp, .ref tw, .ref nw, .ref kp, .ref lw, .ref lr, .ref dd, .ref vv, .ref tl, .ref sc, .int hk])), (tw, .inr (7, [.int x_3, .int ch, .int rt, .ref t1, .ref t2, .ref t3, .ref t4])), (t1, .inl (cI, 10, .inl f_4))] H := hP
      have hD : va_D A [(h0, .inr (9, [.ref tp, .ref tw, .ref nw, .ref kp, .ref lw, .ref lr, .ref dd, .ref vv, .ref tl, .ref sc, .int hk])), (tw, .inr (7, [.int x_3, .int ch, .int rt, .ref t1, .ref t2, .ref t3, .ref t4])), (t1, .inl (cI, 10, .inl f_4))] := hD
      refine lv_iconst (v := 1) hx hb dX9_person_47 (by decide) ?_
      exact ret _ _ _ _ 1 (x_3, f_4) dX9_person_48 rfl (⟨⟨⟨bI1 ⟨bIt c_7, bIt c_17⟩, by obtain ⟨kq, hkq, ekq⟩ := inN (k := 9) (by decide) (bIt c_7); rw [ex_3, ekq]; exact PEK_or hpe (by omega)⟩, by rw [ef_4]; exact BD_in _ hca (by decide) (bIt c_17)⟩, fun _ => ⟨ex_3, ef_4⟩, fun h => absurd ⟨bIt c_7, bIt c_17⟩ h⟩) (hP.sub [0, 1, 2] rfl) (hD.sub [0, 1, 2] (by decide) rfl) hS
    · refine lv_iconst (v := 0) hx hb dX9_person_20 (by decide) ?_
      exact ret _ _ _ _ 0 (pe, ft1) dX9_person_21 rfl (⟨⟨⟨bI0 (fun h => bIf c_17 h.2), hpe⟩, hca⟩, fun h => absurd h (fun h => bIf c_17 h.2), fun _ => ⟨rfl, rfl⟩⟩) (hP.sub [0, 1, 2] rfl) (hD.sub [0, 1, 2] (by decide) rfl) hS

set_option maxRecDepth 100000 in
set_option maxHeartbeats 4000000 in
theorem c_choreY (l : Launch) (D : va_G) (cI cB : ClassId) (sz : Nat) (h0 : Nat) (tp : Nat) (tw : Nat) (nw : Nat) (kp : Nat) (lw : Nat) (lr : Nat) (dd : Nat) (vv : Nat) (tl : Nat) (sc : Nat) (hk : Int32) (pe : Int32) (ch : Int32) (rt : Int32) (t1 : Nat) (t2 : Nat) (t3 : Nat) (t4 : Nat) (u2 : Nat) (f2 : Nat) (g2 : Nat) (ms2 : Int32) (dy2 : Int32) (dr2 : Int32) (fu2 : Nat → Int32) (ff2 : Nat → Int32) (fg2 : Nat → Int32) (ft2 : Nat → Int32) (x1 : Int32) (x2 : Int32) (ham : BD 20 12 ft2) (hun : BD 99 12 fu2) : MI (S := ((Int32) × (Nat → Int32) × (Nat → Int32))) l D cI cB yX9_chore cX9_chore 3 .boolean (rm 1 22) [.ref h0, .int x1, .int x2] [(h0, .inr (9, [.ref tp, .ref tw, .ref nw, .ref kp, .ref lw, .ref lr, .ref dd, .ref vv, .ref tl, .ref sc, .int hk])), (tw, .inr (7, [.int pe, .int ch, .int rt, .ref t1, .ref t2, .ref t3, .ref t4])), (t2, .inl (cI, 12, .inl ft2)), (nw, .inr (4, [.ref u2, .ref f2, .ref g2, .int ms2, .int dy2, .int dr2])), (u2, .inl (cI, 12, .inl fu2)), (f2, .inl (cI, 10, .inl ff2)), (g2, .inl (cI, 10, .inl fg2))] sz (fun r u => (r = bI ((0 ≤ x1 ∧ x1 ≤ 11) ∧ (0 ≤ x2 ∧ x2 ≤ 20)) ∧ BD 20 12 u.2.1 ∧ BD 99 12 u.2.2) ∧ (((0 ≤ x1 ∧ x1 ≤ 11) ∧ (0 ≤ x2 ∧ x2 ≤ 20)) → u.1 = (ch ||| (1 : Int32) <<< (x1 &&& 31)) ∧ True) ∧ (¬ ((0 ≤ x1 ∧ x1 ≤ 11) ∧ (0 ≤ x2 ∧ x2 ≤ 20)) → u.1 = ch ∧ True)) (fun u : ((Int32) × (Nat → Int32) × (Nat → Int32)) => [(h0, .inr (9, [.ref tp, .ref tw, .ref nw, .ref kp, .ref lw, .ref lr, .ref dd, .ref vv, .ref tl, .ref sc, .int hk])), (tw, .inr (7, [.int pe, .int u.1, .int rt, .ref t1, .ref t2, .ref t3, .ref t4])), (t2, .inl (cI, 12, .inl u.2.1)), (nw, .inr (4, [.ref u2, .ref f2, .ref g2, .int ms2, .int dy2, .int dr2])), (u2, .inl (cI, 12, .inl u.2.2)), (f2, .inl (cI, 10, .inl ff2)), (g2, .inl (cI, 10, .inl fg2))]) := by
  refine MI.of (by decide) (Nat.le_of_ble_eq_true rfl) ?_
  intro p e s m below meth c Q ls A X hin hN hP hK hD hA hl ret
  have hS : va_S A s.heap s.heap [] := va_S.rf
  obtain ⟨hx, hb, hml, hown, htb⟩ := id X
  have hl : lv_has ls 3 [(0, .ref h0), (1, .int x1), (2, .int x2)] := hl
  refine lv_iload_n hx hb dX9_chore_0 rfl (lv_at hl 1 rfl) ?_
  refine lv_iconst (v := 0) hx hb dX9_chore_1 (by decide) ?_
  refine lv_bipush (v := 11) hx hb dX9_chore_2 (by decide) ?_
  refine cSR (As := [.int x1, .int 0, .int 11]) (rest := []) (n := 3) X hN hK hP (c_X9_within l D cI cB x1 0 11) k_431 k_432 k_92 k_433 (by decide +kernel) ⟨Nat.le_of_ble_eq_true rfl, Nat.le_of_ble_eq_true rfl⟩ ⟨rfl, rfl⟩ [] rfl rfl rfl hl.1 (Nat.le_of_ble_eq_true rfl) dX9_chore_4 ⟨Nat.le_of_ble_eq_true rfl, Nat.le_of_ble_eq_true rfl⟩ (fun r_1 hr_1 => ?_)
  subst hr_1
  refine lv_if_eq (tgt := 20) hx hb dX9_chore_7 (by decide) (fun c_7 => ?_) (fun c_7 => ?_)
  · refine lv_iconst (v := 0) hx hb dX9_chore_20 (by decide) ?_
    exact ret _ _ _ _ 0 (ch, ft2, fu2) dX9_chore_21 rfl (⟨⟨bI0 (fun h => bIf c_7 h.1), ham, hun⟩, fun h => absurd h (fun h => bIf c_7 h.1), fun _ => ⟨rfl, trivial⟩⟩) (hP.sub [0, 1, 2, 3, 4, 5, 6] rfl) (hD.sub [0, 1, 2, 3, 4, 5, 6] (by decide) rfl) hS
  · refine lv_iload_n hx hb dX9_chore_10 rfl (lv_at hl 2 rfl) ?_
    refine lv_iconst (v := 0) hx hb dX9_chore_11 (by decide) ?_
    refine lv_bipush (v := 20) hx hb dX9_chore_12 (by decide) ?_
    refine cSR (As := [.int x2, .int 0, .int 20]) (rest := []) (n := 3) X hN hK hP (c_X9_within l D cI cB x2 0 20) k_431 k_432 k_92 k_433 (by decide +kernel) ⟨Nat.le_of_ble_eq_true rfl, Nat.le_of_ble_eq_true rfl⟩ ⟨rfl, rfl⟩ [] rfl rfl rfl hl.1 (Nat.le_of_ble_eq_true rfl) dX9_chore_14 ⟨Nat.le_of_ble_eq_true rfl, Nat.le_of_ble_eq_true rfl⟩ (fun r_2 hr_2 => ?_)
    subst hr_2
    refine lv_if_ne (tgt := 22) hx hb dX9_chore_17 (by decide) (fun c_17 => ?_) (fun c_17 => ?_)
    · refine lv_aload_n hx hb dX9_chore_22 rfl (lv_at hl 0 rfl) ?_
      refine va_get (D := D) (ci := 9) (v := .ref tw) (C := RX9) (T := TX9) (N := 11) hx hb htb itX9 hown hK hP 0 rfl rfl 1 (by decide) (htb _ k_394) (fun _ h9 => h9) rfl dX9_chore_23 ?_
      refine lv_dup hx hb dX9_chore_26 rfl ?_
      refine va_getN (D := D) (ci := 7) (v := .int ch) (C := RX7) (T := TX7) (N := 7) hx hb htb itX7 hown hK hP 1 rfl rfl 1 (by decide) (va_Nw.use rfl (hN _ n_147 rfl)) (fun _ h9 => h9) rfl dX9_chore_27 ?_
      refine lv_iconst (v := 1) hx hb dX9_chore_30 (by decide) ?_
      refine lv_iload_n hx hb dX9_chore_31 rfl (lv_at hl 1 rfl) ?_
      refine lv_ishl hx hb dX9_chore_32 ?_
      refine lv_ior hx hb dX9_chore_33 ?_
      refine lv_topi (fun x_3 ex_3 => ?_)
      refine va_putN (D := D) (ci := 7) (v := .int x_3) (ty := .int) (C := RX7) (T := TX7) (N := 7) hx hb htb itX7 tyX7 tyX7_ok nmX7 hown hK hP hD hS 1 rfl rfl 1 (by decide) (va_Nw.use rfl (hN _ n_147 rfl)) (fun _ h9 => h9) rfl (tyX7_ok 1 (by decide)) rfl rfl (Nat.le_of_ble_eq_true rfl) dX9_chore_34 (fun H locs hP hD hS => ?_)
      have hP : va_P D vwCl [(h0, .inr (9, [.ref tp, .ref tw, .ref nw, .ref kp, .ref lw, .ref lr, .ref dd, .ref vv, .ref tl, .ref sc, .int hk])), (tw, .inr (7, [.int pe, .int x_3, .int rt, .ref t1, .ref t2, .ref t3, .ref t4])), (t2, .inl (cI, 12, .inl ft2)), (nw, .inr (4, [.ref u2, .ref f2, .ref g2, .int ms2, .int dy2, .int dr2])), (u2, .inl (cI, 12, .inl fu2)), (f2, .inl (cI, 10, .inl ff2)), (g2, .inl (cI, 10, .inl fg2))] H := hP
      have hD : va_D A [(h0, .inr (9, [.ref tp, .ref tw, .ref nw, .ref kp, .ref lw, .ref lr, .ref dd, .ref vv, .ref tl, .ref sc, .int hk])), (tw, .inr (7, [.int pe, .int x_3, .int rt, .ref t1, .ref t2, .ref t3, .ref t4])), (t2, .inl (cI, 12, .inl ft2)), (nw, .inr (4, [.ref u2, .ref f2, .ref g2, .int ms2, .int dy2, .int dr2])), (u2, .inl (cI, 12, .inl fu2)), (f2, .inl (cI, 10, .inl ff2)), (g2, .inl (cI, 10, .inl fg2))] := hD
      refine lv_aload_n hx hb dX9_chore_37 rfl (lv_at hl 0 rfl) ?_
      refine va_get (D := D) (ci := 9) (v := .ref tw) (C := RX9) (T := TX9) (N := 11) hx hb htb itX9 hown hK hP 0 rfl rfl 1 (by decide) (htb _ k_394) (fun _ h9 => h9) rfl dX9_chore_38 ?_
      refine va_getN (D := D) (ci := 7) (v := .ref t2) (C := RX7) (T := TX7) (N := 7) hx hb htb itX7 hown hK hP 1 rfl rfl 4 (by decide) (va_Nw.use rfl (hN _ n_155 rfl)) (fun _ h9 => h9) rfl dX9_chore_41 ?_
      refine lv_iload_n hx hb dX9_chore_44 rfl (lv_at hl 1 rfl) ?_
      refine lv_iload_n hx hb dX9_chore_45 rfl (lv_at hl 2 rfl) ?_
      refine va_iast hx hb hK hP hD hS 2 0 rfl rfl (in8 (bIt c_7) (n := 12) (by decide)) dX9_chore_46 (fun H locs hP hD hS => ?_)
      obtain ⟨f_4, ef_4⟩ : ∃ g : Nat → Int32, g = upd ft2 (Int32.toNatClampNeg x1) x2 := ⟨_, rfl⟩
      rw [← ef_4] at hP hD
      have hP : va_P D vwCl [(h0, .inr (9, [.ref tp, .ref tw, .ref nw, .ref kp, .ref lw, .ref lr, .ref dd, .ref vv, .ref tl, .ref sc, .int hk])), (tw, .inr (7, [.int pe, .int x_3, .int rt, .ref t1, .ref t2, .ref t3, .ref t4])), (t2, .inl (cI, 12, .inl f_4)), (nw, .inr (4, [.ref u2, .ref f2, .ref g2, .int ms2, .int dy2, .int dr2])), (u2, .inl (cI, 12, .inl fu2)), (f2, .inl (cI, 10, .inl ff2)), (g2, .inl (cI, 10, .inl fg2))] H := hP
      have hD : va_D A [(h0, .inr (9, [.ref tp, .ref tw, .ref nw, .ref kp, .ref lw, .ref lr, .ref dd, .ref vv, .ref tl, .ref sc, .int hk])), (tw, .inr (7, [.int pe, .int x_3, .int rt, .ref t1, .ref t2, .ref t3, .ref t4])), (t2, .inl (cI, 12, .inl f_4)), (nw, .inr (4, [.ref u2, .ref f2, .ref g2, .int ms2, .int dy2, .int dr2])), (u2, .inl (cI, 12, .inl fu2)), (f2, .inl (cI, 10, .inl ff2)), (g2, .inl (cI, 10, .inl fg2))] := hD
      refine lv_aload_n hx hb dX9_chore_47 rfl (lv_at hl 0 rfl) ?_
      refine va_get (D := D) (ci := 9) (v := .ref nw) (C := RX9) (T := TX9) (N := 11) hx hb htb itX9 hown hK hP 0 rfl rfl 2 (by decide) (htb _ k_395) (fun _ h9 => h9) rfl dX9_chore_48 ?_
      refine va_getN (D := D) (ci := 4) (v := .ref u2) (C := RX4) (T := TX4) (N := 6) hx hb htb itX4 hown hK hP 3 rfl rfl 0 (by decide) (va_Nw.use rfl (hN _ n_190 rfl)) (fun _ h9 => h9) rfl dX9_chore_51 ?_
      refine lv_iload_n hx hb dX9_chore_54 rfl (lv_at hl 1 rfl) ?_
      refine lv_iconst (v := 0) hx hb dX9_chore_55 (by decide) ?_
      refine va_iast hx hb hK hP hD hS 4 0 rfl rfl (in8 (bIt c_7) (n := 12) (by decide)) dX9_chore_56 (fun H locs hP hD hS => ?_)
      obtain ⟨f_5, ef_5⟩ : ∃ g : Nat → Int32, g = upd fu2 (Int32.toNatClampNeg x1) 0 := ⟨_, rfl⟩
      rw [← ef_5] at hP hD
      have hP : va_P D vwCl [(h0, .inr (9, [.ref tp, .ref tw, .ref nw, .ref kp, .ref lw, .ref lr, .ref dd, .ref vv, .ref tl, .ref sc, .int hk])), (tw, .inr (7, [.int pe, .int x_3, .int rt, .ref t1, .ref t2, .ref t3, .ref t4])), (t2, .inl (cI, 12, .inl f_4)), (nw, .inr (4, [.ref u2, .ref f2, .ref g2, .int ms2, .int dy2, .int dr2])), (u2, .inl (cI, 12, .inl f_5)), (f2, .inl (cI, 10, .inl ff2)), (g2, .inl (cI, 10, .inl fg2))] H := hP
      have hD : va_D A [(h0, .inr (9, [.ref tp, .ref tw, .ref nw, .ref kp, .ref lw, .ref lr, .ref dd, .ref vv, .ref tl, .ref sc, .int hk])), (tw, .inr (7, [.int pe, .int x_3, .int rt, .ref t1, .ref t2, .ref t3, .ref t4])), (t2, .inl (cI, 12, .inl f_4)), (nw, .inr (4, [.ref u2, .ref f2, .ref g2, .int ms2, .int dy2, .int dr2])), (u2, .inl (cI, 12, .inl f_5)), (f2, .inl (cI, 10, .inl ff2)), (g2, .inl (cI, 10, .inl fg2))] := hD
      refine lv_iconst (v := 1) hx hb dX9_chore_57 (by decide) ?_
      exact ret _ _ _ _ 1 (x_3, f_4, f_5) dX9_chore_58 rfl (⟨⟨bI1 ⟨bIt c_7, bIt c_17⟩, by rw [ef_4]; exact BD_in _ ham (by decide) (bIt c_17), by rw [ef_5]; exact BD_upd (u := 0) _ hun (by omega)⟩, fun _ => ⟨ex_3, trivial⟩, fun h => absurd ⟨bIt c_7, bIt c_17⟩ h⟩) (hP.sub [0, 1, 2, 3, 4, 5, 6] rfl) (hD.sub [0, 1, 2, 3, 4, 5, 6] (by decide) rfl) hS
    · refine lv_iconst (v := 0) hx hb dX9_chore_20 (by decide) ?_
      exact ret _ _ _ _ 0 (ch, ft2, fu2) dX9_chore_21 rfl (⟨⟨bI0 (fun h => bIf c_17 h.2), ham, hun⟩, fun h => absurd h (fun h => bIf c_17 h.2), fun _ => ⟨rfl, trivial⟩⟩) (hP.sub [0, 1, 2, 3, 4, 5, 6] rfl) (hD.sub [0, 1, 2, 3, 4, 5, 6] (by decide) rfl) hS

set_option maxRecDepth 100000 in
set_option maxHeartbeats 4000000 in
theorem c_personE (l : Launch) (D : va_G) (cI cB : ClassId) (sz : Nat) (h0 : Nat) (a_now : Nat) (a_aside : Nat) (a_kept : Nat) (a_keptFrom : Nat) (a_keptTo : Nat) (a_capOf : Nat) (a_leaveFrom : Nat) (a_leaveTo : Nat) (a_amountOf : Nat) (a_doerMany : Nat) (a_doerOf : Nat) (a_tape : Nat) (a_said : Nat) (a_waitsAt : Nat) (a_saidLetter : Nat) (a_saidFrom : Nat) (a_saidHalf : Nat) (a_saidTo : Nat) (a_codes : Nat) (a_clauseOf : Nat) (a_codeFrom : Nat) (a_codeHalf : Nat) (a_codeTo : Nat) (a_stack : Nat) (a_facts : Nat) (a_lineChore : Nat) (a_lineMany : Nat) (a_lineDoer : Nat) (a_newFrom : Nat) (a_newTo : Nat) (a_goFrom : Nat) (a_goTo : Nat) (a_idleFrom : Nat) (a_idleTo : Nat) (a_moreOf : Nat) (a_firstOf : Nat) (a_leftOf : Nat) (a_didOf : Nat) (a_costBy : Nat) (a_gainBy : Nat) (a_hiredOf : Nat) (a_hiredBest : Nat) (a_hiredTo : Nat) (a_turnOf : Nat) (a_turnWho : Nat) (pe : Int32) (ch : Int32) (rt : Int32) (pl : Int32) (le0 : Int32) (fa : Int32) (nu : Int32) (op_ : Int32) (cm : Int32) (wt : Int32) (sm : Int32) (li : Int32) (rv : Int32) (du : Int32) (cl : Int32) (gd : Int32) (sd : Int32) (ik : Int32) (T : Nat) (kc : Nat) (fca : Nat → Int32) (x1 : Int32) (x2 : Int32) (hca : BD 20 10 fca) : MI (S := ((Int32) × (Nat → Int32))) l D cI cB yX10_person cX10_person 3 .boolean (rm 1 22) [.ref h0, .int x1, .int x2] [(h0, .inr (10, [.ref a_now, .ref a_aside, .ref a_kept, .ref a_keptFrom, .ref a_keptTo, .ref a_capOf, .ref a_leaveFrom, .ref a_leaveTo, .ref a_amountOf, .ref a_doerMany, .ref a_doerOf, .int pe, .int ch, .int rt, .ref a_tape, .int (nI T), .int pl, .int le0, .int fa, .int nu, .int op_, .int cm, .int wt, .int sm, .int (nI kc), .ref a_said, .ref a_waitsAt, .ref a_saidLetter, .ref a_saidFrom, .ref a_saidHalf, .ref a_saidTo, .ref a_codes, .ref a_clauseOf, .ref a_codeFrom, .ref a_codeHalf, .ref a_codeTo, .ref a_stack, .ref a_facts, .ref a_lineChore, .ref a_lineMany, .ref a_lineDoer, .ref a_newFrom, .ref a_newTo, .int li, .ref a_goFrom, .ref a_goTo, .ref a_idleFrom, .ref a_idleTo, .ref a_moreOf, .ref a_firstOf, .ref a_leftOf, .ref a_didOf, .int rv, .int du, .int cl, .int gd, .ref a_costBy, .int sd, .ref a_gainBy, .ref a_hiredOf, .ref a_hiredBest, .ref a_hiredTo, .ref a_turnOf, .ref a_turnWho, .int ik])), (a_capOf, .inl (cI, 10, .inl fca))] sz (fun r u => (r = bI ((0 ≤ x1 ∧ x1 ≤ 9) ∧ (0 ≤ x2 ∧ x2 ≤ 20)) ∧ BD 20 10 u.2) ∧ (((0 ≤ x1 ∧ x1 ≤ 9) ∧ (0 ≤ x2 ∧ x2 ≤ 20)) → u.1 = (pe ||| (1 : Int32) <<< (x1 &&& 31)) ∧ u.2 = upd fca x1.toNatClampNeg x2) ∧ (¬ ((0 ≤ x1 ∧ x1 ≤ 9) ∧ (0 ≤ x2 ∧ x2 ≤ 20)) → u.1 = pe ∧ u.2 = fca)) (fun u : ((Int32) × (Nat → Int32)) => [(h0, .inr (10, [.ref a_now, .ref a_aside, .ref a_kept, .ref a_keptFrom, .ref a_keptTo, .ref a_capOf, .ref a_leaveFrom, .ref a_leaveTo, .ref a_amountOf, .ref a_doerMany, .ref a_doerOf, .int u.1, .int ch, .int rt, .ref a_tape, .int (nI T), .int pl, .int le0, .int fa, .int nu, .int op_, .int cm, .int wt, .int sm, .int (nI kc), .ref a_said, .ref a_waitsAt, .ref a_saidLetter, .ref a_saidFrom, .ref a_saidHalf, .ref a_saidTo, .ref a_codes, .ref a_clauseOf, .ref a_codeFrom, .ref a_codeHalf, .ref a_codeTo, .ref a_stack, .ref a_facts, .ref a_lineChore, .ref a_lineMany, .ref a_lineDoer, .ref a_newFrom, .ref a_newTo, .int li, .ref a_goFrom, .ref a_goTo, .ref a_idleFrom, .ref a_idleTo, .ref a_moreOf, .ref a_firstOf, .ref a_leftOf, .ref a_didOf, .int rv, .int du, .int cl, .int gd, .ref a_costBy, .int sd, .ref a_gainBy, .ref a_hiredOf, .ref a_hiredBest, .ref a_hiredTo, .ref a_turnOf, .ref a_turnWho, .int ik])), (a_capOf, .inl (cI, 10, .inl u.2))]) := by
  refine MI.of (by decide) (Nat.le_of_ble_eq_true rfl) ?_
  intro p e s m below meth c Q ls A X hin hN hP hK hD hA hl ret
  have hS : va_S A s.heap s.heap [] := va_S.rf
  obtain ⟨hx, hb, hml, hown, htb⟩ := id X
  have hl : lv_has ls 3 [(0, .ref h0), (1, .int x1), (2, .int x2)] := hl
  refine lv_iload_n hx hb dX10_person_0 rfl (lv_at hl 1 rfl) ?_
  refine lv_iconst (v := 0) hx hb dX10_person_1 (by decide) ?_
  refine lv_bipush (v := 9) hx hb dX10_person_2 (by decide) ?_
  refine cSR (As := [.int x1, .int 0, .int 9]) (rest := []) (n := 3) X hN hK hP (c_X10_in l D cI cB x1 0 9) k_1268 k_1269 k_103 k_1270 (by decide +kernel) ⟨Nat.le_of_ble_eq_true rfl, Nat.le_of_ble_eq_true rfl⟩ ⟨rfl, rfl⟩ [] rfl rfl rfl hl.1 (Nat.le_of_ble_eq_true rfl) dX10_person_4 ⟨Nat.le_of_ble_eq_true rfl, Nat.le_of_ble_eq_true rfl⟩ (fun r_1 hr_1 => ?_)
  subst hr_1
  refine lv_if_eq (tgt := 20) hx hb dX10_person_7 (by decide) (fun c_7 => ?_) (fun c_7 => ?_)
  · refine lv_iconst (v := 0) hx hb dX10_person_20 (by decide) ?_
    exact ret _ _ _ _ 0 (pe, fca) dX10_person_21 rfl (⟨⟨bI0 (fun h => bIf c_7 h.1), hca⟩, fun h => absurd h (fun h => bIf c_7 h.1), fun _ => ⟨rfl, rfl⟩⟩) (hP.sub [0, 1] rfl) (hD.sub [0, 1] (by decide) rfl) hS
  · refine lv_iload_n hx hb dX10_person_10 rfl (lv_at hl 2 rfl) ?_
    refine lv_iconst (v := 0) hx hb dX10_person_11 (by decide) ?_
    refine lv_bipush (v := 20) hx hb dX10_person_12 (by decide) ?_
    refine cSR (As := [.int x2, .int 0, .int 20]) (rest := []) (n := 3) X hN hK hP (c_X10_in l D cI cB x2 0 20) k_1268 k_1269 k_103 k_1270 (by decide +kernel) ⟨Nat.le_of_ble_eq_true rfl, Nat.le_of_ble_eq_true rfl⟩ ⟨rfl, rfl⟩ [] rfl rfl rfl hl.1 (Nat.le_of_ble_eq_true rfl) dX10_person_14 ⟨Nat.le_of_ble_eq_true rfl, Nat.le_of_ble_eq_true rfl⟩ (fun r_2 hr_2 => ?_)
    subst hr_2
    refine lv_if_ne (tgt := 22) hx hb dX10_person_17 (by decide) (fun c_17 => ?_) (fun c_17 => ?_)
    · refine lv_aload_n hx hb dX10_person_22 rfl (lv_at hl 0 rfl) ?_
      refine lv_aload_n hx hb dX10_person_23 rfl (lv_at hl 0 rfl) ?_
      refine va_get (D := D) (ci := 10) (v := .int pe) (C := RX10) (T := TX10) (N := 65) hx hb htb itX10 hown hK hP 0 rfl rfl 11 (by decide) (htb _ k_1079) (fun _ h9 => h9) rfl dX10_person_24 ?_
      refine lv_iconst (v := 1) hx hb dX10_person_27 (by decide) ?_
      refine lv_iload_n hx hb dX10_person_28 rfl (lv_at hl 1 rfl) ?_
      refine lv_ishl hx hb dX10_person_29 ?_
      refine lv_ior hx hb dX10_person_30 ?_
      refine lv_topi (fun x_3 ex_3 => ?_)
      refine va_put (D := D) (ci := 10) (v := .int x_3) (ty := .int) (C := RX10) (T := TX10) (N := 65) hx hb htb itX10 tyX10 tyX10_ok nmX10 hown hK hP hD hS 0 rfl rfl 11 (by decide) (htb _ k_1079) (fun _ h9 => h9) rfl (tyX10_ok 11 (by decide)) rfl rfl (Nat.le_of_ble_eq_true rfl) dX10_person_31 (fun H locs hP hD hS => ?_)
      have hP : va_P D vwCl [(h0, .inr (10, [.ref a_now, .ref a_aside, .ref a_kept, .ref a_keptFrom, .ref a_keptTo, .ref a_capOf, .ref a_leaveFrom, .ref a_leaveTo, .ref a_amountOf, .ref a_doerMany, .ref a_doerOf, .int x_3, .int ch, .int rt, .ref a_tape, .int (nI T), .int pl, .int le0, .int fa, .int nu, .int op_, .int cm, .int wt, .int sm, .int (nI kc), .ref a_said, .ref a_waitsAt, .ref a_saidLetter, .ref a_saidFrom, .ref a_saidHalf, .ref a_saidTo, .ref a_codes, .ref a_clauseOf, .ref a_codeFrom, .ref a_codeHalf, .ref a_codeTo, .ref a_stack, .ref a_facts, .ref a_lineChore, .ref a_lineMany, .ref a_lineDoer, .ref a_newFrom, .ref a_newTo, .int li, .ref a_goFrom, .ref a_goTo, .ref a_idleFrom, .ref a_idleTo, .ref a_moreOf, .ref a_firstOf, .ref a_leftOf, .ref a_didOf, .int rv, .int du, .int cl, .int gd, .ref a_costBy, .int sd, .ref a_gainBy, .ref a_hiredOf, .ref a_hiredBest, .ref a_hiredTo, .ref a_turnOf, .ref a_turnWho, .int ik])), (a_capOf, .inl (cI, 10, .inl fca))] H := hP
      have hD : va_D A [(h0, .inr (10, [.ref a_now, .ref a_aside, .ref a_kept, .ref a_keptFrom, .ref a_keptTo, .ref a_capOf, .ref a_leaveFrom, .ref a_leaveTo, .ref a_amountOf, .ref a_doerMany, .ref a_doerOf, .int x_3, .int ch, .int rt, .ref a_tape, .int (nI T), .int pl, .int le0, .int fa, .int nu, .int op_, .int cm, .int wt, .int sm, .int (nI kc), .ref a_said, .ref a_waitsAt, .ref a_saidLetter, .ref a_saidFrom, .ref a_saidHalf, .ref a_saidTo, .ref a_codes, .ref a_clauseOf, .ref a_codeFrom, .ref a_codeHalf, .ref a_codeTo, .ref a_stack, .ref a_facts, .ref a_lineChore, .ref a_lineMany, .ref a_lineDoer, .ref a_newFrom, .ref a_newTo, .int li, .ref a_goFrom, .ref a_goTo, .ref a_idleFrom, .ref a_idleTo, .ref a_moreOf, .ref a_firstOf, .ref a_leftOf, .ref a_didOf, .int rv, .int du, .int cl, .int gd, .ref a_costBy, .int sd, .ref a_gainBy, .ref a_hiredOf, .ref a_hiredBest, .ref a_hiredTo, .ref a_turnOf, .ref a_turnWho, .int ik])), (a_capOf, .inl (cI, 10, .inl fca))] := hD
      refine lv_aload_n hx hb dX10_person_34 rfl (lv_at hl 0 rfl) ?_
      refine va_get (D := D) (ci := 10) (v := .ref a_capOf) (C := RX10) (T := TX10) (N := 65) hx hb htb itX10 hown hK hP 0 rfl rfl 5 (by decide) (htb _ k_1073) (fun _ h9 => h9) rfl dX10_person_35 ?_
      refine lv_iload_n hx hb dX10_person_38 rfl (lv_at hl 1 rfl) ?_
      refine lv_iload_n hx hb dX10_person_39 rfl (lv_at hl 2 rfl) ?_
      refine va_iast hx hb hK hP hD hS 1 0 rfl rfl (in8 (bIt c_7) (n := 10) (by decide)) dX10_person_40 (fun H locs hP hD hS => ?_)
      obtain ⟨f_4, ef_4⟩ : ∃ g : Nat → Int32, g = upd fca (Int32.toNatClampNeg x1) x2 := ⟨_, rfl⟩
      rw [← ef_4] at hP hD
      have hP : va_P D vwCl [(h0, .inr (10, [.ref a_now, .ref a_aside, .ref a_kept, .ref a_keptFrom, .ref a_keptTo, .ref a_capOf, .ref a_leaveFrom, .ref a_leaveTo, .ref a_amountOf, .ref a_doerMany, .ref a_doerOf, .int x_3, .int ch, .int rt, .ref a_tape, .int (nI T), .int pl, .int le0, .int fa, .int nu, .int op_, .int cm, .int wt, .int sm, .int (nI kc), .ref a_said, .ref a_waitsAt, .ref a_saidLetter, .ref a_saidFrom, .ref a_saidHalf, .ref a_saidTo, .ref a_codes, .ref a_clauseOf, .ref a_codeFrom, .ref a_codeHalf, .ref a_codeTo, .ref a_stack, .ref a_facts, .ref a_lineChore, .ref a_lineMany, .ref a_lineDoer, .ref a_newFrom, .ref a_newTo, .int li, .ref a_goFrom, .ref a_goTo, .ref a_idleFrom, .ref a_idleTo, .ref a_moreOf, .ref a_firstOf, .ref a_leftOf, .ref a_didOf, .int rv, .int du, .int cl, .int gd, .ref a_costBy, .int sd, .ref a_gainBy, .ref a_hiredOf, .ref a_hiredBest, .ref a_hiredTo, .ref a_turnOf, .ref a_turnWho, .int ik])), (a_capOf, .inl (cI, 10, .inl f_4))] H := hP
      have hD : va_D A [(h0, .inr (10, [.ref a_now, .ref a_aside, .ref a_kept, .ref a_keptFrom, .ref a_keptTo, .ref a_capOf, .ref a_leaveFrom, .ref a_leaveTo, .ref a_amountOf, .ref a_doerMany, .ref a_doerOf, .int x_3, .int ch, .int rt, .ref a_tape, .int (nI T), .int pl, .int le0, .int fa, .int nu, .int op_, .int cm, .int wt, .int sm, .int (nI kc), .ref a_said, .ref a_waitsAt, .ref a_saidLetter, .ref a_saidFrom, .ref a_saidHalf, .ref a_saidTo, .ref a_codes, .ref a_clauseOf, .ref a_codeFrom, .ref a_codeHalf, .ref a_codeTo, .ref a_stack, .ref a_facts, .ref a_lineChore, .ref a_lineMany, .ref a_lineDoer, .ref a_newFrom, .ref a_newTo, .int li, .ref a_goFrom, .ref a_goTo, .ref a_idleFrom, .ref a_idleTo, .ref a_moreOf, .ref a_firstOf, .ref a_leftOf, .ref a_didOf, .int rv, .int du, .int cl, .int gd, .ref a_costBy, .int sd, .ref a_gainBy, .ref a_hiredOf, .ref a_hiredBest, .ref a_hiredTo, .ref a_turnOf, .ref a_turnWho, .int ik])), (a_capOf, .inl (cI, 10, .inl f_4))] := hD
      refine lv_iconst (v := 1) hx hb dX10_person_41 (by decide) ?_
      exact ret _ _ _ _ 1 (x_3, f_4) dX10_person_42 rfl (⟨⟨bI1 ⟨bIt c_7, bIt c_17⟩, by rw [ef_4]; exact BD_in _ hca (by decide) (bIt c_17)⟩, fun _ => ⟨ex_3, ef_4⟩, fun h => absurd ⟨bIt c_7, bIt c_17⟩ h⟩) (hP.sub [0, 1] rfl) (hD.sub [0, 1] (by decide) rfl) hS
    · refine lv_iconst (v := 0) hx hb dX10_person_20 (by decide) ?_
      exact ret _ _ _ _ 0 (pe, fca) dX10_person_21 rfl (⟨⟨bI0 (fun h => bIf c_17 h.2), hca⟩, fun h => absurd h (fun h => bIf c_17 h.2), fun _ => ⟨rfl, rfl⟩⟩) (hP.sub [0, 1] rfl) (hD.sub [0, 1] (by decide) rfl) hS

set_option maxRecDepth 100000 in
set_option maxHeartbeats 4000000 in
theorem c_choreE (l : Launch) (D : va_G) (cI cB : ClassId) (sz : Nat) (h0 : Nat) (a_now : Nat) (a_aside : Nat) (a_kept : Nat) (a_keptFrom : Nat) (a_keptTo : Nat) (a_capOf : Nat) (a_leaveFrom : Nat) (a_leaveTo : Nat) (a_amountOf : Nat) (a_doerMany : Nat) (a_doerOf : Nat) (a_tape : Nat) (a_said : Nat) (a_waitsAt : Nat) (a_saidLetter : Nat) (a_saidFrom : Nat) (a_saidHalf : Nat) (a_saidTo : Nat) (a_codes : Nat) (a_clauseOf : Nat) (a_codeFrom : Nat) (a_codeHalf : Nat) (a_codeTo : Nat) (a_stack : Nat) (a_facts : Nat) (a_lineChore : Nat) (a_lineMany : Nat) (a_lineDoer : Nat) (a_newFrom : Nat) (a_newTo : Nat) (a_goFrom : Nat) (a_goTo : Nat) (a_idleFrom : Nat) (a_idleTo : Nat) (a_moreOf : Nat) (a_firstOf : Nat) (a_leftOf : Nat) (a_didOf : Nat) (a_costBy : Nat) (a_gainBy : Nat) (a_hiredOf : Nat) (a_hiredBest : Nat) (a_hiredTo : Nat) (a_turnOf : Nat) (a_turnWho : Nat) (pe : Int32) (ch : Int32) (rt : Int32) (pl : Int32) (le0 : Int32) (fa : Int32) (nu : Int32) (op_ : Int32) (cm : Int32) (wt : Int32) (sm : Int32) (li : Int32) (rv : Int32) (du : Int32) (cl : Int32) (gd : Int32) (sd : Int32) (ik : Int32) (T : Nat) (kc : Nat) (fam : Nat → Int32) (fw : Nat → Int32) (x1 : Int32) (x2 : Int32) (ham : BD 20 12 fam) (hnw : BD 99 12 fw) : MI (S := ((Int32) × (Nat → Int32) × (Nat → Int32))) l D cI cB yX10_chore cX10_chore 3 .boolean (rm 1 22) [.ref h0, .int x1, .int x2] [(h0, .inr (10, [.ref a_now, .ref a_aside, .ref a_kept, .ref a_keptFrom, .ref a_keptTo, .ref a_capOf, .ref a_leaveFrom, .ref a_leaveTo, .ref a_amountOf, .ref a_doerMany, .ref a_doerOf, .int pe, .int ch, .int rt, .ref a_tape, .int (nI T), .int pl, .int le0, .int fa, .int nu, .int op_, .int cm, .int wt, .int sm, .int (nI kc), .ref a_said, .ref a_waitsAt, .ref a_saidLetter, .ref a_saidFrom, .ref a_saidHalf, .ref a_saidTo, .ref a_codes, .ref a_clauseOf, .ref a_codeFrom, .ref a_codeHalf, .ref a_codeTo, .ref a_stack, .ref a_facts, .ref a_lineChore, .ref a_lineMany, .ref a_lineDoer, .ref a_newFrom, .ref a_newTo, .int li, .ref a_goFrom, .ref a_goTo, .ref a_idleFrom, .ref a_idleTo, .ref a_moreOf, .ref a_firstOf, .ref a_leftOf, .ref a_didOf, .int rv, .int du, .int cl, .int gd, .ref a_costBy, .int sd, .ref a_gainBy, .ref a_hiredOf, .ref a_hiredBest, .ref a_hiredTo, .ref a_turnOf, .ref a_turnWho, .int ik])), (a_amountOf, .inl (cI, 12, .inl fam)), (a_now, .inl (cI, 15, .inl fw))] sz (fun r u => ((r = bI ((0 ≤ x1 ∧ x1 ≤ 11) ∧ (0 ≤ x2 ∧ x2 ≤ 20)) ∧ BD 20 12 u.2.1 ∧ BD 99 12 u.2.2) ∧ u.2.2 13 = fw 13) ∧ (((0 ≤ x1 ∧ x1 ≤ 11) ∧ (0 ≤ x2 ∧ x2 ≤ 20)) → u.1 = (ch ||| (1 : Int32) <<< (x1 &&& 31)) ∧ True) ∧ (¬ ((0 ≤ x1 ∧ x1 ≤ 11) ∧ (0 ≤ x2 ∧ x2 ≤ 20)) → u.1 = ch ∧ True)) (fun u : ((Int32) × (Nat → Int32) × (Nat → Int32)) => [(h0, .inr (10, [.ref a_now, .ref a_aside, .ref a_kept, .ref a_keptFrom, .ref a_keptTo, .ref a_capOf, .ref a_leaveFrom, .ref a_leaveTo, .ref a_amountOf, .ref a_doerMany, .ref a_doerOf, .int pe, .int u.1, .int rt, .ref a_tape, .int (nI T), .int pl, .int le0, .int fa, .int nu, .int op_, .int cm, .int wt, .int sm, .int (nI kc), .ref a_said, .ref a_waitsAt, .ref a_saidLetter, .ref a_saidFrom, .ref a_saidHalf, .ref a_saidTo, .ref a_codes, .ref a_clauseOf, .ref a_codeFrom, .ref a_codeHalf, .ref a_codeTo, .ref a_stack, .ref a_facts, .ref a_lineChore, .ref a_lineMany, .ref a_lineDoer, .ref a_newFrom, .ref a_newTo, .int li, .ref a_goFrom, .ref a_goTo, .ref a_idleFrom, .ref a_idleTo, .ref a_moreOf, .ref a_firstOf, .ref a_leftOf, .ref a_didOf, .int rv, .int du, .int cl, .int gd, .ref a_costBy, .int sd, .ref a_gainBy, .ref a_hiredOf, .ref a_hiredBest, .ref a_hiredTo, .ref a_turnOf, .ref a_turnWho, .int ik])), (a_amountOf, .inl (cI, 12, .inl u.2.1)), (a_now, .inl (cI, 15, .inl u.2.2))]) := by
  refine MI.of (by decide) (Nat.le_of_ble_eq_true rfl) ?_
  intro p e s m below meth c Q ls A X hin hN hP hK hD hA hl ret
  have hS : va_S A s.heap s.heap [] := va_S.rf
  obtain ⟨hx, hb, hml, hown, htb⟩ := id X
  have hl : lv_has ls 3 [(0, .ref h0), (1, .int x1), (2, .int x2)] := hl
  refine lv_iload_n hx hb dX10_chore_0 rfl (lv_at hl 1 rfl) ?_
  refine lv_iconst (v := 0) hx hb dX10_chore_1 (by decide) ?_
  refine lv_bipush (v := 11) hx hb dX10_chore_2 (by decide) ?_
  refine cSR (As := [.int x1, .int 0, .int 11]) (rest := []) (n := 3) X hN hK hP (c_X10_in l D cI cB x1 0 11) k_1268 k_1269 k_103 k_1270 (by decide +kernel) ⟨Nat.le_of_ble_eq_true rfl, Nat.le_of_ble_eq_true rfl⟩ ⟨rfl, rfl⟩ [] rfl rfl rfl hl.1 (Nat.le_of_ble_eq_true rfl) dX10_chore_4 ⟨Nat.le_of_ble_eq_true rfl, Nat.le_of_ble_eq_true rfl⟩ (fun r_1 hr_1 => ?_)
  subst hr_1
  refine lv_if_eq (tgt := 20) hx hb dX10_chore_7 (by decide) (fun c_7 => ?_) (fun c_7 => ?_)
  · refine lv_iconst (v := 0) hx hb dX10_chore_20 (by decide) ?_
    exact ret _ _ _ _ 0 (ch, fam, fw) dX10_chore_21 rfl (⟨⟨⟨bI0 (fun h => bIf c_7 h.1), ham, hnw⟩, rfl⟩, fun h => absurd h (fun h => bIf c_7 h.1), fun _ => ⟨rfl, trivial⟩⟩) (hP.sub [0, 1, 2] rfl) (hD.sub [0, 1, 2] (by decide) rfl) hS
  · refine lv_iload_n hx hb dX10_chore_10 rfl (lv_at hl 2 rfl) ?_
    refine lv_iconst (v := 0) hx hb dX10_chore_11 (by decide) ?_
    refine lv_bipush (v := 20) hx hb dX10_chore_12 (by decide) ?_
    refine cSR (As := [.int x2, .int 0, .int 20]) (rest := []) (n := 3) X hN hK hP (c_X10_in l D cI cB x2 0 20) k_1268 k_1269 k_103 k_1270 (by decide +kernel) ⟨Nat.le_of_ble_eq_true rfl, Nat.le_of_ble_eq_true rfl⟩ ⟨rfl, rfl⟩ [] rfl rfl rfl hl.1 (Nat.le_of_ble_eq_true rfl) dX10_chore_14 ⟨Nat.le_of_ble_eq_true rfl, Nat.le_of_ble_eq_true rfl⟩ (fun r_2 hr_2 => ?_)
    subst hr_2
    refine lv_if_ne (tgt := 22) hx hb dX10_chore_17 (by decide) (fun c_17 => ?_) (fun c_17 => ?_)
    · refine lv_aload_n hx hb dX10_chore_22 rfl (lv_at hl 0 rfl) ?_
      refine lv_aload_n hx hb dX10_chore_23 rfl (lv_at hl 0 rfl) ?_
      refine va_get (D := D) (ci := 10) (v := .int ch) (C := RX10) (T := TX10) (N := 65) hx hb htb itX10 hown hK hP 0 rfl rfl 12 (by decide) (htb _ k_1080) (fun _ h9 => h9) rfl dX10_chore_24 ?_
      refine lv_iconst (v := 1) hx hb dX10_chore_27 (by decide) ?_
      refine lv_iload_n hx hb dX10_chore_28 rfl (lv_at hl 1 rfl) ?_
      refine lv_ishl hx hb dX10_chore_29 ?_
      refine lv_ior hx hb dX10_chore_30 ?_
      refine lv_topi (fun x_3 ex_3 => ?_)
      refine va_put (D := D) (ci := 10) (v := .int x_3) (ty := .int) (C := RX10) (T := TX10) (N := 65) hx hb htb itX10 tyX10 tyX10_ok nmX10 hown hK hP hD hS 0 rfl rfl 12 (by decide) (htb _ k_1080) (fun _ h9 => h9) rfl (tyX10_ok 12 (by decide)) rfl rfl (Nat.le_of_ble_eq_true rfl) dX10_chore_31 (fun H locs hP hD hS => ?_)
      have hP : va_P D vwCl [(h0, .inr (10, [.ref a_now, .ref a_aside, .ref a_kept, .ref a_keptFrom, .ref a_keptTo, .ref a_capOf, .ref a_leaveFrom, .ref a_leaveTo, .ref a_amountOf, .ref a_doerMany, .ref a_doerOf, .int pe, .int x_3, .int rt, .ref a_tape, .int (nI T), .int pl, .int le0, .int fa, .int nu, .int op_, .int cm, .int wt, .int sm, .int (nI kc), .ref a_said, .ref a_waitsAt, .ref a_saidLetter, .ref a_saidFrom, .ref a_saidHalf, .ref a_saidTo, .ref a_codes, .ref a_clauseOf, .ref a_codeFrom, .ref a_codeHalf, .ref a_codeTo, .ref a_stack, .ref a_facts, .ref a_lineChore, .ref a_lineMany, .ref a_lineDoer, .ref a_newFrom, .ref a_newTo, .int li, .ref a_goFrom, .ref a_goTo, .ref a_idleFrom, .ref a_idleTo, .ref a_moreOf, .ref a_firstOf, .ref a_leftOf, .ref a_didOf, .int rv, .int du, .int cl, .int gd, .ref a_costBy, .int sd, .ref a_gainBy, .ref a_hiredOf, .ref a_hiredBest, .ref a_hiredTo, .ref a_turnOf, .ref a_turnWho, .int ik])), (a_amountOf, .inl (cI, 12, .inl fam)), (a_now, .inl (cI, 15, .inl fw))] H := hP
      have hD : va_D A [(h0, .inr (10, [.ref a_now, .ref a_aside, .ref a_kept, .ref a_keptFrom, .ref a_keptTo, .ref a_capOf, .ref a_leaveFrom, .ref a_leaveTo, .ref a_amountOf, .ref a_doerMany, .ref a_doerOf, .int pe, .int x_3, .int rt, .ref a_tape, .int (nI T), .int pl, .int le0, .int fa, .int nu, .int op_, .int cm, .int wt, .int sm, .int (nI kc), .ref a_said, .ref a_waitsAt, .ref a_saidLetter, .ref a_saidFrom, .ref a_saidHalf, .ref a_saidTo, .ref a_codes, .ref a_clauseOf, .ref a_codeFrom, .ref a_codeHalf, .ref a_codeTo, .ref a_stack, .ref a_facts, .ref a_lineChore, .ref a_lineMany, .ref a_lineDoer, .ref a_newFrom, .ref a_newTo, .int li, .ref a_goFrom, .ref a_goTo, .ref a_idleFrom, .ref a_idleTo, .ref a_moreOf, .ref a_firstOf, .ref a_leftOf, .ref a_didOf, .int rv, .int du, .int cl, .int gd, .ref a_costBy, .int sd, .ref a_gainBy, .ref a_hiredOf, .ref a_hiredBest, .ref a_hiredTo, .ref a_turnOf, .ref a_turnWho, .int ik])), (a_amountOf, .inl (cI, 12, .inl fam)), (a_now, .inl (cI, 15, .inl fw))] := hD
      refine lv_aload_n hx hb dX10_chore_34 rfl (lv_at hl 0 rfl) ?_
      refine va_get (D := D) (ci := 10) (v := .ref a_amountOf) (C := RX10) (T := TX10) (N := 65) hx hb htb itX10 hown hK hP 0 rfl rfl 8 (by decide) (htb _ k_1076) (fun _ h9 => h9) rfl dX10_chore_35 ?_
      refine lv_iload_n hx hb dX10_chore_38 rfl (lv_at hl 1 rfl) ?_
      refine lv_iload_n hx hb dX10_chore_39 rfl (lv_at hl 2 rfl) ?_
      refine va_iast hx hb hK hP hD hS 1 0 rfl rfl (in8 (bIt c_7) (n := 12) (by decide)) dX10_chore_40 (fun H locs hP hD hS => ?_)
      obtain ⟨f_4, ef_4⟩ : ∃ g : Nat → Int32, g = upd fam (Int32.toNatClampNeg x1) x2 := ⟨_, rfl⟩
      rw [← ef_4] at hP hD
      have hP : va_P D vwCl [(h0, .inr (10, [.ref a_now, .ref a_aside, .ref a_kept, .ref a_keptFrom, .ref a_keptTo, .ref a_capOf, .ref a_leaveFrom, .ref a_leaveTo, .ref a_amountOf, .ref a_doerMany, .ref a_doerOf, .int pe, .int x_3, .int rt, .ref a_tape, .int (nI T), .int pl, .int le0, .int fa, .int nu, .int op_, .int cm, .int wt, .int sm, .int (nI kc), .ref a_said, .ref a_waitsAt, .ref a_saidLetter, .ref a_saidFrom, .ref a_saidHalf, .ref a_saidTo, .ref a_codes, .ref a_clauseOf, .ref a_codeFrom, .ref a_codeHalf, .ref a_codeTo, .ref a_stack, .ref a_facts, .ref a_lineChore, .ref a_lineMany, .ref a_lineDoer, .ref a_newFrom, .ref a_newTo, .int li, .ref a_goFrom, .ref a_goTo, .ref a_idleFrom, .ref a_idleTo, .ref a_moreOf, .ref a_firstOf, .ref a_leftOf, .ref a_didOf, .int rv, .int du, .int cl, .int gd, .ref a_costBy, .int sd, .ref a_gainBy, .ref a_hiredOf, .ref a_hiredBest, .ref a_hiredTo, .ref a_turnOf, .ref a_turnWho, .int ik])), (a_amountOf, .inl (cI, 12, .inl f_4)), (a_now, .inl (cI, 15, .inl fw))] H := hP
      have hD : va_D A [(h0, .inr (10, [.ref a_now, .ref a_aside, .ref a_kept, .ref a_keptFrom, .ref a_keptTo, .ref a_capOf, .ref a_leaveFrom, .ref a_leaveTo, .ref a_amountOf, .ref a_doerMany, .ref a_doerOf, .int pe, .int x_3, .int rt, .ref a_tape, .int (nI T), .int pl, .int le0, .int fa, .int nu, .int op_, .int cm, .int wt, .int sm, .int (nI kc), .ref a_said, .ref a_waitsAt, .ref a_saidLetter, .ref a_saidFrom, .ref a_saidHalf, .ref a_saidTo, .ref a_codes, .ref a_clauseOf, .ref a_codeFrom, .ref a_codeHalf, .ref a_codeTo, .ref a_stack, .ref a_facts, .ref a_lineChore, .ref a_lineMany, .ref a_lineDoer, .ref a_newFrom, .ref a_newTo, .int li, .ref a_goFrom, .ref a_goTo, .ref a_idleFrom, .ref a_idleTo, .ref a_moreOf, .ref a_firstOf, .ref a_leftOf, .ref a_didOf, .int rv, .int du, .int cl, .int gd, .ref a_costBy, .int sd, .ref a_gainBy, .ref a_hiredOf, .ref a_hiredBest, .ref a_hiredTo, .ref a_turnOf, .ref a_turnWho, .int ik])), (a_amountOf, .inl (cI, 12, .inl f_4)), (a_now, .inl (cI, 15, .inl fw))] := hD
      refine lv_aload_n hx hb dX10_chore_41 rfl (lv_at hl 0 rfl) ?_
      refine va_get (D := D) (ci := 10) (v := .ref a_now) (C := RX10) (T := TX10) (N := 65) hx hb htb itX10 hown hK hP 0 rfl rfl 0 (by decide) (htb _ k_1068) (fun _ h9 => h9) rfl dX10_chore_42 ?_
      refine lv_iload_n hx hb dX10_chore_45 rfl (lv_at hl 1 rfl) ?_
      refine lv_iconst (v := 0) hx hb dX10_chore_46 (by decide) ?_
      refine va_iast hx hb hK hP hD hS 2 0 rfl rfl (in8 (bIt c_7) (n := 15) (by decide)) dX10_chore_47 (fun H locs hP hD hS => ?_)
      obtain ⟨f_5, ef_5⟩ : ∃ g : Nat → Int32, g = upd fw (Int32.toNatClampNeg x1) 0 := ⟨_, rfl⟩
      rw [← ef_5] at hP hD
      have hP : va_P D vwCl [(h0, .inr (10, [.ref a_now, .ref a_aside, .ref a_kept, .ref a_keptFrom, .ref a_keptTo, .ref a_capOf, .ref a_leaveFrom, .ref a_leaveTo, .ref a_amountOf, .ref a_doerMany, .ref a_doerOf, .int pe, .int x_3, .int rt, .ref a_tape, .int (nI T), .int pl, .int le0, .int fa, .int nu, .int op_, .int cm, .int wt, .int sm, .int (nI kc), .ref a_said, .ref a_waitsAt, .ref a_saidLetter, .ref a_saidFrom, .ref a_saidHalf, .ref a_saidTo, .ref a_codes, .ref a_clauseOf, .ref a_codeFrom, .ref a_codeHalf, .ref a_codeTo, .ref a_stack, .ref a_facts, .ref a_lineChore, .ref a_lineMany, .ref a_lineDoer, .ref a_newFrom, .ref a_newTo, .int li, .ref a_goFrom, .ref a_goTo, .ref a_idleFrom, .ref a_idleTo, .ref a_moreOf, .ref a_firstOf, .ref a_leftOf, .ref a_didOf, .int rv, .int du, .int cl, .int gd, .ref a_costBy, .int sd, .ref a_gainBy, .ref a_hiredOf, .ref a_hiredBest, .ref a_hiredTo, .ref a_turnOf, .ref a_turnWho, .int ik])), (a_amountOf, .inl (cI, 12, .inl f_4)), (a_now, .inl (cI, 15, .inl f_5))] H := hP
      have hD : va_D A [(h0, .inr (10, [.ref a_now, .ref a_aside, .ref a_kept, .ref a_keptFrom, .ref a_keptTo, .ref a_capOf, .ref a_leaveFrom, .ref a_leaveTo, .ref a_amountOf, .ref a_doerMany, .ref a_doerOf, .int pe, .int x_3, .int rt, .ref a_tape, .int (nI T), .int pl, .int le0, .int fa, .int nu, .int op_, .int cm, .int wt, .int sm, .int (nI kc), .ref a_said, .ref a_waitsAt, .ref a_saidLetter, .ref a_saidFrom, .ref a_saidHalf, .ref a_saidTo, .ref a_codes, .ref a_clauseOf, .ref a_codeFrom, .ref a_codeHalf, .ref a_codeTo, .ref a_stack, .ref a_facts, .ref a_lineChore, .ref a_lineMany, .ref a_lineDoer, .ref a_newFrom, .ref a_newTo, .int li, .ref a_goFrom, .ref a_goTo, .ref a_idleFrom, .ref a_idleTo, .ref a_moreOf, .ref a_firstOf, .ref a_leftOf, .ref a_didOf, .int rv, .int du, .int cl, .int gd, .ref a_costBy, .int sd, .ref a_gainBy, .ref a_hiredOf, .ref a_hiredBest, .ref a_hiredTo, .ref a_turnOf, .ref a_turnWho, .int ik])), (a_amountOf, .inl (cI, 12, .inl f_4)), (a_now, .inl (cI, 15, .inl f_5))] := hD
      refine lv_iconst (v := 1) hx hb dX10_chore_48 (by decide) ?_
      exact ret _ _ _ _ 1 (x_3, f_4, f_5) dX10_chore_49 rfl (⟨⟨⟨bI1 ⟨bIt c_7, bIt c_17⟩, by rw [ef_4]; exact BD_in _ ham (by decide) (bIt c_17), by rw [ef_5]; exact BD_upd (u := 0) _ hnw (by omega)⟩, by rw [ef_5]; exact d13 (by have := vlt (in8 (bIt c_7) (n := 12) (by decide)); omega)⟩, fun _ => ⟨ex_3, trivial⟩, fun h => absurd ⟨bIt c_7, bIt c_17⟩ h⟩) (hP.sub [0, 1, 2] rfl) (hD.sub [0, 1, 2] (by decide) rfl) hS
    · refine lv_iconst (v := 0) hx hb dX10_chore_20 (by decide) ?_
      exact ret _ _ _ _ 0 (ch, fam, fw) dX10_chore_21 rfl (⟨⟨⟨bI0 (fun h => bIf c_17 h.2), ham, hnw⟩, rfl⟩, fun h => absurd h (fun h => bIf c_17 h.2), fun _ => ⟨rfl, trivial⟩⟩) (hP.sub [0, 1, 2] rfl) (hD.sub [0, 1, 2] (by decide) rfl) hS
