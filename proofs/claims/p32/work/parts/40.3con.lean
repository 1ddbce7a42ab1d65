set_option maxRecDepth 100000 in
set_option maxHeartbeats 4000000 in
theorem c_X10_min (l : Launch) (D : va_G) (cI cB : ClassId) (a : Int32) (b : Int32)  : MR l D cI cB yX10_min cX10_min 2 .int (rm 0 0) [.int a, .int b] [] (fun r : Int32 => True) := by
  refine MR.of (by decide) (Nat.le_of_ble_eq_true rfl) ?_
  intro p e s m below meth c Q ls X hN hP hK hl ret
  obtain ⟨hx, hb, hml, hown, htb⟩ := id X
  have hl : lv_has ls 2 [(0, .int a), (1, .int b)] := hl
  refine lv_iload_n hx hb dX10_min_0 rfl (lv_at hl 0 rfl) ?_
  refine lv_iload_n hx hb dX10_min_1 rfl (lv_at hl 1 rfl) ?_
  refine lv_icmp_ge (tgt := 9) hx hb dX10_min_2 (by decide) (fun c_2 => ?_) (fun c_2 => ?_)
  · refine lv_iload_n hx hb dX10_min_9 rfl (lv_at hl 1 rfl) ?_
    exact ret _ _ b dX10_min_10 rfl trivial
  · refine lv_iload_n hx hb dX10_min_5 rfl (lv_at hl 0 rfl) ?_
    refine lv_goto (tgt := 10) hx hb dX10_min_6 (by decide) ?_
    exact ret _ _ a dX10_min_10 rfl trivial

set_option maxRecDepth 100000 in
set_option maxHeartbeats 4000000 in
theorem c_X10_areDays (l : Launch) (D : va_G) (cI cB : ClassId) (x : Int32)  : MR l D cI cB yX10_areDays cX10_areDays 1 .boolean (rm 1 22) [.int x] [] (fun r : Int32 => r = bI (1 ≤ x ∧ x ≤ 60)) := by
  refine MR.of (by decide) (Nat.le_of_ble_eq_true rfl) ?_
  intro p e s m below meth c Q ls X hN hP hK hl ret
  obtain ⟨hx, hb, hml, hown, htb⟩ := id X
  have hl : lv_has ls 1 [(0, .int x)] := hl
  refine lv_iload_n hx hb dX10_areDays_0 rfl (lv_at hl 0 rfl) ?_
  refine lv_iconst (v := 1) hx hb dX10_areDays_1 (by decide) ?_
  refine lv_bipush (v := 60) hx hb dX10_areDays_2 (by decide) ?_
  refine cSR (As := [.int x, .int 1, .int 60]) (rest := []) (n := 3) X hN hK hP (c_X10_in l D cI cB x 1 60) k_1268 k_1269 k_103 k_1270 (by decide +kernel) ⟨Nat.le_of_ble_eq_true rfl, Nat.le_of_ble_eq_true rfl⟩ ⟨rfl, rfl⟩ [] rfl rfl rfl hl.1 (Nat.le_of_ble_eq_true rfl) dX10_areDays_4 ⟨Nat.le_of_ble_eq_true rfl, Nat.le_of_ble_eq_true rfl⟩ (fun r_1 hr_1 => ?_)
  subst hr_1
  exact ret _ _ (bI (1 ≤ x ∧ x ≤ 60)) dX10_areDays_7 (bIn _) rfl

set_option maxRecDepth 100000 in
set_option maxHeartbeats 4000000 in
theorem c_X10_bits (l : Launch) (D : va_G) (cI cB : ClassId) (a : Int32)  : MR l D cI cB yX10_bits cX10_bits 3 .int (rm 0 0) [.int a] [] (fun r : Int32 => True) := by
  refine MR.of (by decide) (Nat.le_of_ble_eq_true rfl) ?_
  intro p e s m below meth c Q ls X hN hP hK hl ret
  obtain ⟨hx, hb, hml, hown, htb⟩ := id X
  have hl : lv_has ls 3 [(0, .int a)] := hl
  refine lv_iconst (v := 0) hx hb dX10_bits_0 (by decide) ?_
  refine lv_istore_n (lv' := [(1, .int 0), (0, .int a)]) hx hb dX10_bits_1 rfl hl (by decide) rfl (fun ls hl => ?_)
  refine lv_iconst (v := 0) hx hb dX10_bits_2 (by decide) ?_
  refine lv_istore_n (lv' := [(2, .int 0), (1, .int 0), (0, .int a)]) hx hb dX10_bits_3 rfl hl (by decide) rfl (fun ls hl => ?_)
  have loop_4 : ∀ (n i : Nat) (v : Int32), n + i = 12 → ∀ (ls : Array Slot), lv_has ls 3 [(0, .int a), (1, .int v), (2, .int (nI i))] → W p l e (rm 0 0) s m ([.int a] : List Value).toArray below meth c s.heap [] 0 0 Q (F0 m 4 ls []) := by
    intro n
    induction n with
    | zero =>
      intro i v hni ls hl
      have hni_4 := hni
      have hi : i = 12 := by omega
      refine lv_iload_n hx hb dX10_bits_4 rfl (lv_at hl 2 rfl) ?_
      refine lv_bipush (v := 12) hx hb dX10_bits_5 (by decide) ?_
      refine lv_icmp_ge (tgt := 24) hx hb dX10_bits_7 (by decide) (fun _ => ?_) (fun c_7 => absurd (by rw [hi]; decide) c_7)
      refine lv_iload_n hx hb dX10_bits_24 rfl (lv_at hl 1 rfl) ?_
      exact ret _ _ v dX10_bits_25 rfl trivial
    | succ n ih_4 =>
      intro i v hni ls hl
      have hni_4 := hni
      have hi : i < 12 := by omega
      refine lv_iload_n hx hb dX10_bits_4 rfl (lv_at hl 2 rfl) ?_
      refine lv_bipush (v := 12) hx hb dX10_bits_5 (by decide) ?_
      refine lv_icmp_ge (tgt := 24) hx hb dX10_bits_7 (by decide) (fun c_7 => absurd c_7 (nI_ge hi (by decide))) (fun _ => ?_)
      refine lv_iload_n hx hb dX10_bits_10 rfl (lv_at hl 1 rfl) ?_
      refine lv_iload_n hx hb dX10_bits_11 rfl (lv_at hl 0 rfl) ?_
      refine lv_iload_n hx hb dX10_bits_12 rfl (lv_at hl 2 rfl) ?_
      refine lv_ishr hx hb dX10_bits_13 ?_
      refine lv_iconst (v := 1) hx hb dX10_bits_14 (by decide) ?_
      refine lv_iand hx hb dX10_bits_15 ?_
      refine lv_iadd hx hb dX10_bits_16 ?_
      refine lv_topi (fun x_1 ex_1 => ?_)
      refine lv_istore_n (lv' := [(1, .int x_1), (0, .int a), (2, .int (nI i))]) hx hb dX10_bits_17 rfl hl (by decide) rfl (fun ls hl => ?_)
      refine lv_iinc (v := (nI (i + 1))) (lv' := [(2, .int (nI (i + 1))), (1, .int x_1), (0, .int a)]) hx hb dX10_bits_18 hl (k := 2) rfl (nI_1 i) (by decide) rfl (fun ls hl => ?_)
      refine lv_goto (tgt := 4) hx hb dX10_bits_21 (by decide) ?_
      exact ih_4 (i + 1) x_1 (by omega) _ (lv_sub hl [2, 1, 0] rfl)
  exact loop_4 12 0 0 (by omega) _ (lv_sub hl [2, 1, 0] rfl)

set_option maxRecDepth 100000 in
set_option maxHeartbeats 4000000 in
theorem c_X10_isPerson (l : Launch) (D : va_G) (cI cB : ClassId) (h0 : Nat) (a_now : Nat) (a_aside : Nat) (a_kept : Nat) (a_keptFrom : Nat) (a_keptTo : Nat) (a_capOf : Nat) (a_leaveFrom : Nat) (a_leaveTo : Nat) (a_amountOf : Nat) (a_doerMany : Nat) (a_doerOf : Nat) (a_tape : Nat) (a_said : Nat) (a_waitsAt : Nat) (a_saidLetter : Nat) (a_saidFrom : Nat) (a_saidHalf : Nat) (a_saidTo : Nat) (a_codes : Nat) (a_clauseOf : Nat) (a_codeFrom : Nat) (a_codeHalf : Nat) (a_codeTo : Nat) (a_stack : Nat) (a_facts : Nat) (a_lineChore : Nat) (a_lineMany : Nat) (a_lineDoer : Nat) (a_newFrom : Nat) (a_newTo : Nat) (a_goFrom : Nat) (a_goTo : Nat) (a_idleFrom : Nat) (a_idleTo : Nat) (a_moreOf : Nat) (a_firstOf : Nat) (a_leftOf : Nat) (a_didOf : Nat) (a_costBy : Nat) (a_gainBy : Nat) (a_hiredOf : Nat) (a_hiredBest : Nat) (a_hiredTo : Nat) (a_turnOf : Nat) (a_turnWho : Nat) (pe : Int32) (ch : Int32) (rt : Int32) (pl : Int32) (le0 : Int32) (fa : Int32) (nu : Int32) (op_ : Int32) (cm : Int32) (wt : Int32) (sm : Int32) (cs : Int32) (li : Int32) (rv : Int32) (du : Int32) (cl : Int32) (gd : Int32) (sd : Int32) (ik : Int32) (T : Nat) (k : Int32)  : MR l D cI cB yX10_isPerson cX10_isPerson 2 .boolean (rm 1 21) [.ref h0, .int k] [(h0, .inr (10, [.ref a_now, .ref a_aside, .ref a_kept, .ref a_keptFrom, .ref a_keptTo, .ref a_capOf, .ref a_leaveFrom, .ref a_leaveTo, .ref a_amountOf, .ref a_doerMany, .ref a_doerOf, .int pe, .int ch, .int rt, .ref a_tape, .int (nI T), .int pl, .int le0, .int fa, .int nu, .int op_, .int cm, .int wt, .int sm, .int cs, .ref a_said, .ref a_waitsAt, .ref a_saidLetter, .ref a_saidFrom, .ref a_saidHalf, .ref a_saidTo, .ref a_codes, .ref a_clauseOf, .ref a_codeFrom, .ref a_codeHalf, .ref a_codeTo, .ref a_stack, .ref a_facts, .ref a_lineChore, .ref a_lineMany, .ref a_lineDoer, .ref a_newFrom, .ref a_newTo, .int li, .ref a_goFrom, .ref a_goTo, .ref a_idleFrom, .ref a_idleTo, .ref a_moreOf, .ref a_firstOf, .ref a_leftOf, .ref a_didOf, .int rv, .int du, .int cl, .int gd, .ref a_costBy, .int sd, .ref a_gainBy, .ref a_hiredOf, .ref a_hiredBest, .ref a_hiredTo, .ref a_turnOf, .ref a_turnWho, .int ik]))] (fun r : Int32 => (r = 0 ∨ r = 1) ∧ (r = 1 → 0 ≤ k ∧ k < 10)) := by
  refine MR.of (by decide) (Nat.le_of_ble_eq_true rfl) ?_
  intro p e s m below meth c Q ls X hN hP hK hl ret
  obtain ⟨hx, hb, hml, hown, htb⟩ := id X
  have hl : lv_has ls 2 [(0, .ref h0), (1, .int k)] := hl
  refine lv_iload_n hx hb dX10_isPerson_0 rfl (lv_at hl 1 rfl) ?_
  refine lv_if_lt (tgt := 25) hx hb dX10_isPerson_1 (by decide) (fun c_1 => ?_) (fun c_1 => ?_)
  · refine lv_iconst (v := 0) hx hb dX10_isPerson_25 (by decide) ?_
    exact ret _ _ 0 dX10_isPerson_26 rfl (⟨Or.inl rfl, fun h => absurd h (by decide)⟩)
  · refine lv_iload_n hx hb dX10_isPerson_4 rfl (lv_at hl 1 rfl) ?_
    refine lv_bipush (v := 10) hx hb dX10_isPerson_5 (by decide) ?_
    refine lv_icmp_ge (tgt := 25) hx hb dX10_isPerson_7 (by decide) (fun c_7 => ?_) (fun c_7 => ?_)
    · refine lv_iconst (v := 0) hx hb dX10_isPerson_25 (by decide) ?_
      exact ret _ _ 0 dX10_isPerson_26 rfl (⟨Or.inl rfl, fun h => absurd h (by decide)⟩)
    · refine lv_aload_n hx hb dX10_isPerson_10 rfl (lv_at hl 0 rfl) ?_
      refine va_get (D := D) (ci := 10) (v := .int pe) (C := RX10) (T := TX10) (N := 65) hx hb htb itX10 hown hK hP 0 rfl rfl 11 (by decide) (htb _ k_1079) (fun _ h9 => h9) rfl dX10_isPerson_11 ?_
      refine lv_iload_n hx hb dX10_isPerson_14 rfl (lv_at hl 1 rfl) ?_
      refine cSR (As := [.int pe, .int k]) (rest := []) (n := 2) X hN hK hP (c_X10_has l D cI cB pe k) k_1385 k_1386 k_103 k_1387 (by decide +kernel) ⟨Nat.le_of_ble_eq_true rfl, Nat.le_of_ble_eq_true rfl⟩ ⟨rfl, rfl⟩ [] rfl rfl rfl hl.1 (Nat.le_of_ble_eq_true rfl) dX10_isPerson_15 ⟨Nat.le_of_ble_eq_true rfl, Nat.le_of_ble_eq_true rfl⟩ (fun r_1 hr_1 => ?_)
      refine lv_if_eq (tgt := 25) hx hb dX10_isPerson_18 (by decide) (fun c_18 => ?_) (fun c_18 => ?_)
      · refine lv_iconst (v := 0) hx hb dX10_isPerson_25 (by decide) ?_
        exact ret _ _ 0 dX10_isPerson_26 rfl (⟨Or.inl rfl, fun h => absurd h (by decide)⟩)
      · refine lv_iconst (v := 1) hx hb dX10_isPerson_21 (by decide) ?_
        refine lv_goto (tgt := 26) hx hb dX10_isPerson_22 (by decide) ?_
        exact ret _ _ 1 dX10_isPerson_26 rfl (⟨Or.inr rfl, fun _ => ⟨Int32.not_lt.mp c_1, Int32.not_le.mp c_7⟩⟩)

set_option maxRecDepth 100000 in
set_option maxHeartbeats 4000000 in
theorem c_X10_isChore (l : Launch) (D : va_G) (cI cB : ClassId) (h0 : Nat) (a_now : Nat) (a_aside : Nat) (a_kept : Nat) (a_keptFrom : Nat) (a_keptTo : Nat) (a_capOf : Nat) (a_leaveFrom : Nat) (a_leaveTo : Nat) (a_amountOf : Nat) (a_doerMany : Nat) (a_doerOf : Nat) (a_tape : Nat) (a_said : Nat) (a_waitsAt : Nat) (a_saidLetter : Nat) (a_saidFrom : Nat) (a_saidHalf : Nat) (a_saidTo : Nat) (a_codes : Nat) (a_clauseOf : Nat) (a_codeFrom : Nat) (a_codeHalf : Nat) (a_codeTo : Nat) (a_stack : Nat) (a_facts : Nat) (a_lineChore : Nat) (a_lineMany : Nat) (a_lineDoer : Nat) (a_newFrom : Nat) (a_newTo : Nat) (a_goFrom : Nat) (a_goTo : Nat) (a_idleFrom : Nat) (a_idleTo : Nat) (a_moreOf : Nat) (a_firstOf : Nat) (a_leftOf : Nat) (a_didOf : Nat) (a_costBy : Nat) (a_gainBy : Nat) (a_hiredOf : Nat) (a_hiredBest : Nat) (a_hiredTo : Nat) (a_turnOf : Nat) (a_turnWho : Nat) (pe : Int32) (ch : Int32) (rt : Int32) (pl : Int32) (le0 : Int32) (fa : Int32) (nu : Int32) (op_ : Int32) (cm : Int32) (wt : Int32) (sm : Int32) (cs : Int32) (li : Int32) (rv : Int32) (du : Int32) (cl : Int32) (gd : Int32) (sd : Int32) (ik : Int32) (T : Nat) (k : Int32)  : MR l D cI cB yX10_isChore cX10_isChore 2 .boolean (rm 1 21) [.ref h0, .int k] [(h0, .inr (10, [.ref a_now, .ref a_aside, .ref a_kept, .ref a_keptFrom, .ref a_keptTo, .ref a_capOf, .ref a_leaveFrom, .ref a_leaveTo, .ref a_amountOf, .ref a_doerMany, .ref a_doerOf, .int pe, .int ch, .int rt, .ref a_tape, .int (nI T), .int pl, .int le0, .int fa, .int nu, .int op_, .int cm, .int wt, .int sm, .int cs, .ref a_said, .ref a_waitsAt, .ref a_saidLetter, .ref a_saidFrom, .ref a_saidHalf, .ref a_saidTo, .ref a_codes, .ref a_clauseOf, .ref a_codeFrom, .ref a_codeHalf, .ref a_codeTo, .ref a_stack, .ref a_facts, .ref a_lineChore, .ref a_lineMany, .ref a_lineDoer, .ref a_newFrom, .ref a_newTo, .int li, .ref a_goFrom, .ref a_goTo, .ref a_idleFrom, .ref a_idleTo, .ref a_moreOf, .ref a_firstOf, .ref a_leftOf, .ref a_didOf, .int rv, .int du, .int cl, .int gd, .ref a_costBy, .int sd, .ref a_gainBy, .ref a_hiredOf, .ref a_hiredBest, .ref a_hiredTo, .ref a_turnOf, .ref a_turnWho, .int ik]))] (fun r : Int32 => (r = 0 ∨ r = 1) ∧ (r = 1 → 0 ≤ k ∧ k < 12)) := by
  refine MR.of (by decide) (Nat.le_of_ble_eq_true rfl) ?_
  intro p e s m below meth c Q ls X hN hP hK hl ret
  obtain ⟨hx, hb, hml, hown, htb⟩ := id X
  have hl : lv_has ls 2 [(0, .ref h0), (1, .int k)] := hl
  refine lv_iload_n hx hb dX10_isChore_0 rfl (lv_at hl 1 rfl) ?_
  refine lv_if_lt (tgt := 25) hx hb dX10_isChore_1 (by decide) (fun c_1 => ?_) (fun c_1 => ?_)
  · refine lv_iconst (v := 0) hx hb dX10_isChore_25 (by decide) ?_
    exact ret _ _ 0 dX10_isChore_26 rfl (⟨Or.inl rfl, fun h => absurd h (by decide)⟩)
  · refine lv_iload_n hx hb dX10_isChore_4 rfl (lv_at hl 1 rfl) ?_
    refine lv_bipush (v := 12) hx hb dX10_isChore_5 (by decide) ?_
    refine lv_icmp_ge (tgt := 25) hx hb dX10_isChore_7 (by decide) (fun c_7 => ?_) (fun c_7 => ?_)
    · refine lv_iconst (v := 0) hx hb dX10_isChore_25 (by decide) ?_
      exact ret _ _ 0 dX10_isChore_26 rfl (⟨Or.inl rfl, fun h => absurd h (by decide)⟩)
    · refine lv_aload_n hx hb dX10_isChore_10 rfl (lv_at hl 0 rfl) ?_
      refine va_get (D := D) (ci := 10) (v := .int ch) (C := RX10) (T := TX10) (N := 65) hx hb htb itX10 hown hK hP 0 rfl rfl 12 (by decide) (htb _ k_1080) (fun _ h9 => h9) rfl dX10_isChore_11 ?_
      refine lv_iload_n hx hb dX10_isChore_14 rfl (lv_at hl 1 rfl) ?_
      refine cSR (As := [.int ch, .int k]) (rest := []) (n := 2) X hN hK hP (c_X10_has l D cI cB ch k) k_1385 k_1386 k_103 k_1387 (by decide +kernel) ⟨Nat.le_of_ble_eq_true rfl, Nat.le_of_ble_eq_true rfl⟩ ⟨rfl, rfl⟩ [] rfl rfl rfl hl.1 (Nat.le_of_ble_eq_true rfl) dX10_isChore_15 ⟨Nat.le_of_ble_eq_true rfl, Nat.le_of_ble_eq_true rfl⟩ (fun r_1 hr_1 => ?_)
      refine lv_if_eq (tgt := 25) hx hb dX10_isChore_18 (by decide) (fun c_18 => ?_) (fun c_18 => ?_)
      · refine lv_iconst (v := 0) hx hb dX10_isChore_25 (by decide) ?_
        exact ret _ _ 0 dX10_isChore_26 rfl (⟨Or.inl rfl, fun h => absurd h (by decide)⟩)
      · refine lv_iconst (v := 1) hx hb dX10_isChore_21 (by decide) ?_
        refine lv_goto (tgt := 26) hx hb dX10_isChore_22 (by decide) ?_
        exact ret _ _ 1 dX10_isChore_26 rfl (⟨Or.inr rfl, fun _ => ⟨Int32.not_lt.mp c_1, Int32.not_le.mp c_7⟩⟩)

set_option maxRecDepth 100000 in
set_option maxHeartbeats 4000000 in
theorem c_X10_hasLeave (l : Launch) (D : va_G) (cI cB : ClassId) (h0 : Nat) (a_now : Nat) (a_aside : Nat) (a_kept : Nat) (a_keptFrom : Nat) (a_keptTo : Nat) (a_capOf : Nat) (a_leaveFrom : Nat) (a_leaveTo : Nat) (a_amountOf : Nat) (a_doerMany : Nat) (a_doerOf : Nat) (a_tape : Nat) (a_said : Nat) (a_waitsAt : Nat) (a_saidLetter : Nat) (a_saidFrom : Nat) (a_saidHalf : Nat) (a_saidTo : Nat) (a_codes : Nat) (a_clauseOf : Nat) (a_codeFrom : Nat) (a_codeHalf : Nat) (a_codeTo : Nat) (a_stack : Nat) (a_facts : Nat) (a_lineChore : Nat) (a_lineMany : Nat) (a_lineDoer : Nat) (a_newFrom : Nat) (a_newTo : Nat) (a_goFrom : Nat) (a_goTo : Nat) (a_idleFrom : Nat) (a_idleTo : Nat) (a_moreOf : Nat) (a_firstOf : Nat) (a_leftOf : Nat) (a_didOf : Nat) (a_costBy : Nat) (a_gainBy : Nat) (a_hiredOf : Nat) (a_hiredBest : Nat) (a_hiredTo : Nat) (a_turnOf : Nat) (a_turnWho : Nat) (pe : Int32) (ch : Int32) (rt : Int32) (pl : Int32) (le0 : Int32) (fa : Int32) (nu : Int32) (op_ : Int32) (cm : Int32) (wt : Int32) (sm : Int32) (cs : Int32) (li : Int32) (rv : Int32) (du : Int32) (cl : Int32) (gd : Int32) (sd : Int32) (ik : Int32) (T : Nat) (k : Nat) (fl : Nat → Int32) (hk : k < 10) : MR l D cI cB yX10_hasLeave cX10_hasLeave 2 .boolean (rm 0 0) [.ref h0, .int (nI k)] [(h0, .inr (10, [.ref a_now, .ref a_aside, .ref a_kept, .ref a_keptFrom, .ref a_keptTo, .ref a_capOf, .ref a_leaveFrom, .ref a_leaveTo, .ref a_amountOf, .ref a_doerMany, .ref a_doerOf, .int pe, .int ch, .int rt, .ref a_tape, .int (nI T), .int pl, .int le0, .int fa, .int nu, .int op_, .int cm, .int wt, .int sm, .int cs, .ref a_said, .ref a_waitsAt, .ref a_saidLetter, .ref a_saidFrom, .ref a_saidHalf, .ref a_saidTo, .ref a_codes, .ref a_clauseOf, .ref a_codeFrom, .ref a_codeHalf, .ref a_codeTo, .ref a_stack, .ref a_facts, .ref a_lineChore, .ref a_lineMany, .ref a_lineDoer, .ref a_newFrom, .ref a_newTo, .int li, .ref a_goFrom, .ref a_goTo, .ref a_idleFrom, .ref a_idleTo, .ref a_moreOf, .ref a_firstOf, .ref a_leftOf, .ref a_didOf, .int rv, .int du, .int cl, .int gd, .ref a_costBy, .int sd, .ref a_gainBy, .ref a_hiredOf, .ref a_hiredBest, .ref a_hiredTo, .ref a_turnOf, .ref a_turnWho, .int ik])), (a_leaveFrom, .inl (cI, 10, .inl fl))] (fun r : Int32 => r = 0 ∨ r = 1) := by
  refine MR.of (by decide) (Nat.le_of_ble_eq_true rfl) ?_
  intro p e s m below meth c Q ls X hN hP hK hl ret
  obtain ⟨hx, hb, hml, hown, htb⟩ := id X
  have hl : lv_has ls 2 [(0, .ref h0), (1, .int (nI k))] := hl
  refine lv_aload_n hx hb dX10_hasLeave_0 rfl (lv_at hl 0 rfl) ?_
  refine va_get (D := D) (ci := 10) (v := .ref a_leaveFrom) (C := RX10) (T := TX10) (N := 65) hx hb htb itX10 hown hK hP 0 rfl rfl 6 (by decide) (htb _ k_1074) (fun _ h9 => h9) rfl dX10_hasLeave_1 ?_
  refine lv_iload_n hx hb dX10_hasLeave_4 rfl (lv_at hl 1 rfl) ?_
  refine va_iald hx hb hK hP 1 0 rfl rfl (vp_in_nI (by omega) (by decide)) dX10_hasLeave_5 ?_
  refine lv_bipush (v := (-2)) hx hb dX10_hasLeave_6 (by decide) ?_
  refine lv_icmp_eq (tgt := 15) hx hb dX10_hasLeave_8 (by decide) (fun c_8 => ?_) (fun c_8 => ?_)
  · refine lv_iconst (v := 0) hx hb dX10_hasLeave_15 (by decide) ?_
    exact ret _ _ 0 dX10_hasLeave_16 rfl (Or.inl rfl)
  · refine lv_iconst (v := 1) hx hb dX10_hasLeave_11 (by decide) ?_
    refine lv_goto (tgt := 16) hx hb dX10_hasLeave_12 (by decide) ?_
    exact ret _ _ 1 dX10_hasLeave_16 rfl (Or.inr rfl)

set_option maxRecDepth 100000 in
set_option maxHeartbeats 4000000 in
theorem c_X10_leaveSet (l : Launch) (D : va_G) (cI cB : ClassId) (h0 : Nat) (a_now : Nat) (a_aside : Nat) (a_kept : Nat) (a_keptFrom : Nat) (a_keptTo : Nat) (a_capOf : Nat) (a_leaveFrom : Nat) (a_leaveTo : Nat) (a_amountOf : Nat) (a_doerMany : Nat) (a_doerOf : Nat) (a_tape : Nat) (a_said : Nat) (a_waitsAt : Nat) (a_saidLetter : Nat) (a_saidFrom : Nat) (a_saidHalf : Nat) (a_saidTo : Nat) (a_codes : Nat) (a_clauseOf : Nat) (a_codeFrom : Nat) (a_codeHalf : Nat) (a_codeTo : Nat) (a_stack : Nat) (a_facts : Nat) (a_lineChore : Nat) (a_lineMany : Nat) (a_lineDoer : Nat) (a_newFrom : Nat) (a_newTo : Nat) (a_goFrom : Nat) (a_goTo : Nat) (a_idleFrom : Nat) (a_idleTo : Nat) (a_moreOf : Nat) (a_firstOf : Nat) (a_leftOf : Nat) (a_didOf : Nat) (a_costBy : Nat) (a_gainBy : Nat) (a_hiredOf : Nat) (a_hiredBest : Nat) (a_hiredTo : Nat) (a_turnOf : Nat) (a_turnWho : Nat) (pe : Int32) (ch : Int32) (rt : Int32) (pl : Int32) (le0 : Int32) (fa : Int32) (nu : Int32) (op_ : Int32) (cm : Int32) (wt : Int32) (sm : Int32) (cs : Int32) (li : Int32) (rv : Int32) (du : Int32) (cl : Int32) (gd : Int32) (sd : Int32) (ik : Int32) (T : Nat) (fl : Nat → Int32)  : MR l D cI cB yX10_leaveSet cX10_leaveSet 3 .int (rm 1 21) [.ref h0] [(h0, .inr (10, [.ref a_now, .ref a_aside, .ref a_kept, .ref a_keptFrom, .ref a_keptTo, .ref a_capOf, .ref a_leaveFrom, .ref a_leaveTo, .ref a_amountOf, .ref a_doerMany, .ref a_doerOf, .int pe, .int ch, .int rt, .ref a_tape, .int (nI T), .int pl, .int le0, .int fa, .int nu, .int op_, .int cm, .int wt, .int sm, .int cs, .ref a_said, .ref a_waitsAt, .ref a_saidLetter, .ref a_saidFrom, .ref a_saidHalf, .ref a_saidTo, .ref a_codes, .ref a_clauseOf, .ref a_codeFrom, .ref a_codeHalf, .ref a_codeTo, .ref a_stack, .ref a_facts, .ref a_lineChore, .ref a_lineMany, .ref a_lineDoer, .ref a_newFrom, .ref a_newTo, .int li, .ref a_goFrom, .ref a_goTo, .ref a_idleFrom, .ref a_idleTo, .ref a_moreOf, .ref a_firstOf, .ref a_leftOf, .ref a_didOf, .int rv, .int du, .int cl, .int gd, .ref a_costBy, .int sd, .ref a_gainBy, .ref a_hiredOf, .ref a_hiredBest, .ref a_hiredTo, .ref a_turnOf, .ref a_turnWho, .int ik])), (a_leaveFrom, .inl (cI, 10, .inl fl))] (fun r : Int32 => True) := by
  refine MR.of (by decide) (Nat.le_of_ble_eq_true rfl) ?_
  intro p e s m below meth c Q ls X hN hP hK hl ret
  obtain ⟨hx, hb, hml, hown, htb⟩ := id X
  have hl : lv_has ls 3 [(0, .ref h0)] := hl
  refine lv_iconst (v := 0) hx hb dX10_leaveSet_0 (by decide) ?_
  refine lv_istore_n (lv' := [(1, .int 0), (0, .ref h0)]) hx hb dX10_leaveSet_1 rfl hl (by decide) rfl (fun ls hl => ?_)
  refine lv_iconst (v := 0) hx hb dX10_leaveSet_2 (by decide) ?_
  refine lv_istore_n (lv' := [(2, .int 0), (1, .int 0), (0, .ref h0)]) hx hb dX10_leaveSet_3 rfl hl (by decide) rfl (fun ls hl => ?_)
  have loop_4 : ∀ (n i : Nat) (v : Int32), n + i = 10 → ∀ (ls : Array Slot), lv_has ls 3 [(0, .ref h0), (1, .int v), (2, .int (nI i))] → W p l e (rm 1 21) s m ([.ref h0] : List Value).toArray below meth c s.heap [] 0 0 Q (F0 m 4 ls []) := by
    intro n
    induction n with
    | zero =>
      intro i v hni ls hl
      have hni_4 := hni
      have hi : i = 10 := by omega
      refine lv_iload_n hx hb dX10_leaveSet_4 rfl (lv_at hl 2 rfl) ?_
      refine lv_bipush (v := 10) hx hb dX10_leaveSet_5 (by decide) ?_
      refine lv_icmp_ge (tgt := 34) hx hb dX10_leaveSet_7 (by decide) (fun _ => ?_) (fun c_7 => absurd (by rw [hi]; decide) c_7)
      refine lv_iload_n hx hb dX10_leaveSet_34 rfl (lv_at hl 1 rfl) ?_
      exact ret _ _ v dX10_leaveSet_35 rfl trivial
    | succ n ih_4 =>
      intro i v hni ls hl
      have hni_4 := hni
      have hi : i < 10 := by omega
      refine lv_iload_n hx hb dX10_leaveSet_4 rfl (lv_at hl 2 rfl) ?_
      refine lv_bipush (v := 10) hx hb dX10_leaveSet_5 (by decide) ?_
      refine lv_icmp_ge (tgt := 34) hx hb dX10_leaveSet_7 (by decide) (fun c_7 => absurd c_7 (nI_ge hi (by decide))) (fun _ => ?_)
      refine lv_iload_n hx hb dX10_leaveSet_10 rfl (lv_at hl 1 rfl) ?_
      refine lv_aload_n hx hb dX10_leaveSet_11 rfl (lv_at hl 0 rfl) ?_
      refine lv_iload_n hx hb dX10_leaveSet_12 rfl (lv_at hl 2 rfl) ?_
      refine cVR (As := [.int (nI i)]) (rest := [.int v]) (n := 1) (ci := 10) (q0 := 0) X hN hK hP (c_X10_hasLeave l D cI cB h0 a_now a_aside a_kept a_keptFrom a_keptTo a_capOf a_leaveFrom a_leaveTo a_amountOf a_doerMany a_doerOf a_tape a_said a_waitsAt a_saidLetter a_saidFrom a_saidHalf a_saidTo a_codes a_clauseOf a_codeFrom a_codeHalf a_codeTo a_stack a_facts a_lineChore a_lineMany a_lineDoer a_newFrom a_newTo a_goFrom a_goTo a_idleFrom a_idleTo a_moreOf a_firstOf a_leftOf a_didOf a_costBy a_gainBy a_hiredOf a_hiredBest a_hiredTo a_turnOf a_turnWho pe ch rt pl le0 fa nu op_ cm wt sm cs li rv du cl gd sd ik T i fl hi) (gV k_1408 k_1410 k_57 k_103 k_1411) (by decide +kernel) ⟨Nat.le_of_ble_eq_true rfl, Nat.le_of_ble_eq_true rfl⟩ ⟨rfl, rfl⟩ [0, 1] rfl rfl rfl rfl rfl rfl hl.1 (Nat.le_of_ble_eq_true rfl) dX10_leaveSet_13 ⟨Nat.le_of_ble_eq_true rfl, Nat.le_of_ble_eq_true rfl⟩ (fun r_1 hr_1 => ?_)
      refine lv_if_eq (tgt := 25) hx hb dX10_leaveSet_16 (by decide) (fun c_16 => ?_) (fun c_16 => ?_)
      · refine lv_iconst (v := 0) hx hb dX10_leaveSet_25 (by decide) ?_
        refine lv_ior hx hb dX10_leaveSet_26 ?_
        refine lv_topi (fun x_2 ex_2 => ?_)
        refine lv_istore_n (lv' := [(1, .int x_2), (0, .ref h0), (2, .int (nI i))]) hx hb dX10_leaveSet_27 rfl hl (by decide) rfl (fun ls hl => ?_)
        refine lv_iinc (v := (nI (i + 1))) (lv' := [(2, .int (nI (i + 1))), (1, .int x_2), (0, .ref h0)]) hx hb dX10_leaveSet_28 hl (k := 2) rfl (nI_1 i) (by decide) rfl (fun ls hl => ?_)
        refine lv_goto (tgt := 4) hx hb dX10_leaveSet_31 (by decide) ?_
        exact ih_4 (i + 1) x_2 (by omega) _ (lv_sub hl [2, 1, 0] rfl)
      · refine lv_iconst (v := 1) hx hb dX10_leaveSet_19 (by decide) ?_
        refine lv_iload_n hx hb dX10_leaveSet_20 rfl (lv_at hl 2 rfl) ?_
        refine lv_ishl hx hb dX10_leaveSet_21 ?_
        refine lv_goto (tgt := 26) hx hb dX10_leaveSet_22 (by decide) ?_
        refine lv_ior hx hb dX10_leaveSet_26 ?_
        refine lv_topi (fun x_3 ex_3 => ?_)
        refine lv_istore_n (lv' := [(1, .int x_3), (0, .ref h0), (2, .int (nI i))]) hx hb dX10_leaveSet_27 rfl hl (by decide) rfl (fun ls hl => ?_)
        refine lv_iinc (v := (nI (i + 1))) (lv' := [(2, .int (nI (i + 1))), (1, .int x_3), (0, .ref h0)]) hx hb dX10_leaveSet_28 hl (k := 2) rfl (nI_1 i) (by decide) rfl (fun ls hl => ?_)
        refine lv_goto (tgt := 4) hx hb dX10_leaveSet_31 (by decide) ?_
        exact ih_4 (i + 1) x_3 (by omega) _ (lv_sub hl [2, 1, 0] rfl)
  exact loop_4 10 0 0 (by omega) _ (lv_sub hl [2, 1, 0] rfl)

set_option maxRecDepth 100000 in
set_option maxHeartbeats 4000000 in
theorem c_X10_isAway (l : Launch) (D : va_G) (cI cB : ClassId) (h0 : Nat) (a_now : Nat) (a_aside : Nat) (a_kept : Nat) (a_keptFrom : Nat) (a_keptTo : Nat) (a_capOf : Nat) (a_leaveFrom : Nat) (a_leaveTo : Nat) (a_amountOf : Nat) (a_doerMany : Nat) (a_doerOf : Nat) (a_tape : Nat) (a_said : Nat) (a_waitsAt : Nat) (a_saidLetter : Nat) (a_saidFrom : Nat) (a_saidHalf : Nat) (a_saidTo : Nat) (a_codes : Nat) (a_clauseOf : Nat) (a_codeFrom : Nat) (a_codeHalf : Nat) (a_codeTo : Nat) (a_stack : Nat) (a_facts : Nat) (a_lineChore : Nat) (a_lineMany : Nat) (a_lineDoer : Nat) (a_newFrom : Nat) (a_newTo : Nat) (a_goFrom : Nat) (a_goTo : Nat) (a_idleFrom : Nat) (a_idleTo : Nat) (a_moreOf : Nat) (a_firstOf : Nat) (a_leftOf : Nat) (a_didOf : Nat) (a_costBy : Nat) (a_gainBy : Nat) (a_hiredOf : Nat) (a_hiredBest : Nat) (a_hiredTo : Nat) (a_turnOf : Nat) (a_turnWho : Nat) (pe : Int32) (ch : Int32) (rt : Int32) (pl : Int32) (le0 : Int32) (fa : Int32) (nu : Int32) (op_ : Int32) (cm : Int32) (wt : Int32) (sm : Int32) (cs : Int32) (li : Int32) (rv : Int32) (du : Int32) (cl : Int32) (gd : Int32) (sd : Int32) (ik : Int32) (T : Nat) (k : Nat) (d : Int32) (fg0 : Nat → Int32) (fg1 : Nat → Int32) (hk : k < 10) : MR l D cI cB yX10_isAway cX10_isAway 3 .boolean (rm 1 22) [.ref h0, .int (nI k), .int d] [(h0, .inr (10, [.ref a_now, .ref a_aside, .ref a_kept, .ref a_keptFrom, .ref a_keptTo, .ref a_capOf, .ref a_leaveFrom, .ref a_leaveTo, .ref a_amountOf, .ref a_doerMany, .ref a_doerOf, .int pe, .int ch, .int rt, .ref a_tape, .int (nI T), .int pl, .int le0, .int fa, .int nu, .int op_, .int cm, .int wt, .int sm, .int cs, .ref a_said, .ref a_waitsAt, .ref a_saidLetter, .ref a_saidFrom, .ref a_saidHalf, .ref a_saidTo, .ref a_codes, .ref a_clauseOf, .ref a_codeFrom, .ref a_codeHalf, .ref a_codeTo, .ref a_stack, .ref a_facts, .ref a_lineChore, .ref a_lineMany, .ref a_lineDoer, .ref a_newFrom, .ref a_newTo, .int li, .ref a_goFrom, .ref a_goTo, .ref a_idleFrom, .ref a_idleTo, .ref a_moreOf, .ref a_firstOf, .ref a_leftOf, .ref a_didOf, .int rv, .int du, .int cl, .int gd, .ref a_costBy, .int sd, .ref a_gainBy, .ref a_hiredOf, .ref a_hiredBest, .ref a_hiredTo, .ref a_turnOf, .ref a_turnWho, .int ik])), (a_goFrom, .inl (cI, 10, .inl fg0)), (a_goTo, .inl (cI, 10, .inl fg1))] (fun r : Int32 => r = 0 ∨ r = 1) := by
  refine MR.of (by decide) (Nat.le_of_ble_eq_true rfl) ?_
  intro p e s m below meth c Q ls X hN hP hK hl ret
  obtain ⟨hx, hb, hml, hown, htb⟩ := id X
  have hl : lv_has ls 3 [(0, .ref h0), (1, .int (nI k)), (2, .int d)] := hl
  refine lv_iload_n hx hb dX10_isAway_0 rfl (lv_at hl 2 rfl) ?_
  refine lv_aload_n hx hb dX10_isAway_1 rfl (lv_at hl 0 rfl) ?_
  refine va_get (D := D) (ci := 10) (v := .ref a_goFrom) (C := RX10) (T := TX10) (N := 65) hx hb htb itX10 hown hK hP 0 rfl rfl 44 (by decide) (htb _ k_1112) (fun _ h9 => h9) rfl dX10_isAway_2 ?_
  refine lv_iload_n hx hb dX10_isAway_5 rfl (lv_at hl 1 rfl) ?_
  refine va_iald hx hb hK hP 1 0 rfl rfl (vp_in_nI (by omega) (by decide)) dX10_isAway_6 ?_
  refine lv_aload_n hx hb dX10_isAway_7 rfl (lv_at hl 0 rfl) ?_
  refine va_get (D := D) (ci := 10) (v := .ref a_goTo) (C := RX10) (T := TX10) (N := 65) hx hb htb itX10 hown hK hP 0 rfl rfl 45 (by decide) (htb _ k_1113) (fun _ h9 => h9) rfl dX10_isAway_8 ?_
  refine lv_iload_n hx hb dX10_isAway_11 rfl (lv_at hl 1 rfl) ?_
  refine va_iald hx hb hK hP 2 0 rfl rfl (vp_in_nI (by omega) (by decide)) dX10_isAway_12 ?_
  refine cSR (As := [.int d, .int (fg0 (Int32.toNatClampNeg (nI k))), .int (fg1 (Int32.toNatClampNeg (nI k)))]) (rest := []) (n := 3) X hN hK hP (c_X10_in l D cI cB d (fg0 (Int32.toNatClampNeg (nI k))) (fg1 (Int32.toNatClampNeg (nI k)))) k_1268 k_1269 k_103 k_1270 (by decide +kernel) ⟨Nat.le_of_ble_eq_true rfl, Nat.le_of_ble_eq_true rfl⟩ ⟨rfl, rfl⟩ [] rfl rfl rfl hl.1 (Nat.le_of_ble_eq_true rfl) dX10_isAway_13 ⟨Nat.le_of_ble_eq_true rfl, Nat.le_of_ble_eq_true rfl⟩ (fun r_1 hr_1 => ?_)
  subst hr_1
  exact ret _ _ (bI ((fg0 (Int32.toNatClampNeg (nI k))) ≤ d ∧ d ≤ (fg1 (Int32.toNatClampNeg (nI k))))) dX10_isAway_16 (bIn _) (bI01 _)

set_option maxRecDepth 100000 in
set_option maxHeartbeats 4000000 in
theorem c_X10_awayOn (l : Launch) (D : va_G) (cI cB : ClassId) (h0 : Nat) (a_now : Nat) (a_aside : Nat) (a_kept : Nat) (a_keptFrom : Nat) (a_keptTo : Nat) (a_capOf : Nat) (a_leaveFrom : Nat) (a_leaveTo : Nat) (a_amountOf : Nat) (a_doerMany : Nat) (a_doerOf : Nat) (a_tape : Nat) (a_said : Nat) (a_waitsAt : Nat) (a_saidLetter : Nat) (a_saidFrom : Nat) (a_saidHalf : Nat) (a_saidTo : Nat) (a_codes : Nat) (a_clauseOf : Nat) (a_codeFrom : Nat) (a_codeHalf : Nat) (a_codeTo : Nat) (a_stack : Nat) (a_facts : Nat) (a_lineChore : Nat) (a_lineMany : Nat) (a_lineDoer : Nat) (a_newFrom : Nat) (a_newTo : Nat) (a_goFrom : Nat) (a_goTo : Nat) (a_idleFrom : Nat) (a_idleTo : Nat) (a_moreOf : Nat) (a_firstOf : Nat) (a_leftOf : Nat) (a_didOf : Nat) (a_costBy : Nat) (a_gainBy : Nat) (a_hiredOf : Nat) (a_hiredBest : Nat) (a_hiredTo : Nat) (a_turnOf : Nat) (a_turnWho : Nat) (pe : Int32) (ch : Int32) (rt : Int32) (pl : Int32) (le0 : Int32) (fa : Int32) (nu : Int32) (op_ : Int32) (cm : Int32) (wt : Int32) (sm : Int32) (cs : Int32) (li : Int32) (rv : Int32) (du : Int32) (cl : Int32) (gd : Int32) (sd : Int32) (ik : Int32) (T : Nat) (d : Int32) (fg0 : Nat → Int32) (fg1 : Nat → Int32)  : MR l D cI cB yX10_awayOn cX10_awayOn 4 .int (rm 2 44) [.ref h0, .int d] [(h0, .inr (10, [.ref a_now, .ref a_aside, .ref a_kept, .ref a_keptFrom, .ref a_keptTo, .ref a_capOf, .ref a_leaveFrom, .ref a_leaveTo, .ref a_amountOf, .ref a_doerMany, .ref a_doerOf, .int pe, .int ch, .int rt, .ref a_tape, .int (nI T), .int pl, .int le0, .int fa, .int nu, .int op_, .int cm, .int wt, .int sm, .int cs, .ref a_said, .ref a_waitsAt, .ref a_saidLetter, .ref a_saidFrom, .ref a_saidHalf, .ref a_saidTo, .ref a_codes, .ref a_clauseOf, .ref a_codeFrom, .ref a_codeHalf, .ref a_codeTo, .ref a_stack, .ref a_facts, .ref a_lineChore, .ref a_lineMany, .ref a_lineDoer, .ref a_newFrom, .ref a_newTo, .int li, .ref a_goFrom, .ref a_goTo, .ref a_idleFrom, .ref a_idleTo, .ref a_moreOf, .ref a_firstOf, .ref a_leftOf, .ref a_didOf, .int rv, .int du, .int cl, .int gd, .ref a_costBy, .int sd, .ref a_gainBy, .ref a_hiredOf, .ref a_hiredBest, .ref a_hiredTo, .ref a_turnOf, .ref a_turnWho, .int ik])), (a_goFrom, .inl (cI, 10, .inl fg0)), (a_goTo, .inl (cI, 10, .inl fg1))] (fun r : Int32 => True) := by
  refine MR.of (by decide) (Nat.le_of_ble_eq_true rfl) ?_
  intro p e s m below meth c Q ls X hN hP hK hl ret
  obtain ⟨hx, hb, hml, hown, htb⟩ := id X
  have hl : lv_has ls 4 [(0, .ref h0), (1, .int d)] := hl
  refine lv_iconst (v := 0) hx hb dX10_awayOn_0 (by decide) ?_
  refine lv_istore_n (lv' := [(2, .int 0), (0, .ref h0), (1, .int d)]) hx hb dX10_awayOn_1 rfl hl (by decide) rfl (fun ls hl => ?_)
  refine lv_iconst (v := 0) hx hb dX10_awayOn_2 (by decide) ?_
  refine lv_istore_n (lv' := [(3, .int 0), (2, .int 0), (0, .ref h0), (1, .int d)]) hx hb dX10_awayOn_3 rfl hl (by decide) rfl (fun ls hl => ?_)
  have loop_4 : ∀ (n i : Nat) (v : Int32), n + i = 10 → ∀ (ls : Array Slot), lv_has ls 4 [(0, .ref h0), (1, .int d), (2, .int v), (3, .int (nI i))] → W p l e (rm 2 44) s m ([.ref h0, .int d] : List Value).toArray below meth c s.heap [] 0 0 Q (F0 m 4 ls []) := by
    intro n
    induction n with
    | zero =>
      intro i v hni ls hl
      have hni_4 := hni
      have hi : i = 10 := by omega
      refine lv_iload_n hx hb dX10_awayOn_4 rfl (lv_at hl 3 rfl) ?_
      refine lv_bipush (v := 10) hx hb dX10_awayOn_5 (by decide) ?_
      refine lv_icmp_ge (tgt := 43) hx hb dX10_awayOn_7 (by decide) (fun _ => ?_) (fun c_7 => absurd (by rw [hi]; decide) c_7)
      refine lv_iload_n hx hb dX10_awayOn_43 rfl (lv_at hl 2 rfl) ?_
      exact ret _ _ v dX10_awayOn_44 rfl trivial
    | succ n ih_4 =>
      intro i v hni ls hl
      have hni_4 := hni
      have hi : i < 10 := by omega
      refine lv_iload_n hx hb dX10_awayOn_4 rfl (lv_at hl 3 rfl) ?_
      refine lv_bipush (v := 10) hx hb dX10_awayOn_5 (by decide) ?_
      refine lv_icmp_ge (tgt := 43) hx hb dX10_awayOn_7 (by decide) (fun c_7 => absurd c_7 (nI_ge hi (by decide))) (fun _ => ?_)
      refine lv_iload_n hx hb dX10_awayOn_10 rfl (lv_at hl 2 rfl) ?_
      refine lv_aload_n hx hb dX10_awayOn_11 rfl (lv_at hl 0 rfl) ?_
      refine lv_iload_n hx hb dX10_awayOn_12 rfl (lv_at hl 3 rfl) ?_
      refine cVR (As := [.int (nI i)]) (rest := [.int v]) (n := 1) (ci := 10) (q0 := 0) X hN hK hP (c_X10_isPerson l D cI cB h0 a_now a_aside a_kept a_keptFrom a_keptTo a_capOf a_leaveFrom a_leaveTo a_amountOf a_doerMany a_doerOf a_tape a_said a_waitsAt a_saidLetter a_saidFrom a_saidHalf a_saidTo a_codes a_clauseOf a_codeFrom a_codeHalf a_codeTo a_stack a_facts a_lineChore a_lineMany a_lineDoer a_newFrom a_newTo a_goFrom a_goTo a_idleFrom a_idleTo a_moreOf a_firstOf a_leftOf a_didOf a_costBy a_gainBy a_hiredOf a_hiredBest a_hiredTo a_turnOf a_turnWho pe ch rt pl le0 fa nu op_ cm wt sm cs li rv du cl gd sd ik T (nI i)) (gV k_1451 k_1453 k_65 k_103 k_1454) (by decide +kernel) ⟨Nat.le_of_ble_eq_true rfl, Nat.le_of_ble_eq_true rfl⟩ ⟨rfl, rfl⟩ [0] rfl rfl rfl rfl rfl rfl hl.1 (Nat.le_of_ble_eq_true rfl) dX10_awayOn_13 ⟨Nat.le_of_ble_eq_true rfl, Nat.le_of_ble_eq_true rfl⟩ (fun r_1 hr_1 => ?_)
      refine lv_if_eq (tgt := 34) hx hb dX10_awayOn_16 (by decide) (fun c_16 => ?_) (fun c_16 => ?_)
      · refine lv_iconst (v := 0) hx hb dX10_awayOn_34 (by decide) ?_
        refine lv_ior hx hb dX10_awayOn_35 ?_
        refine lv_topi (fun x_2 ex_2 => ?_)
        refine lv_istore_n (lv' := [(2, .int x_2), (0, .ref h0), (1, .int d), (3, .int (nI i))]) hx hb dX10_awayOn_36 rfl hl (by decide) rfl (fun ls hl => ?_)
        refine lv_iinc (v := (nI (i + 1))) (lv' := [(3, .int (nI (i + 1))), (2, .int x_2), (0, .ref h0), (1, .int d)]) hx hb dX10_awayOn_37 hl (k := 3) rfl (nI_1 i) (by decide) rfl (fun ls hl => ?_)
        refine lv_goto (tgt := 4) hx hb dX10_awayOn_40 (by decide) ?_
        exact ih_4 (i + 1) x_2 (by omega) _ (lv_sub hl [2, 3, 1, 0] rfl)
      · refine lv_aload_n hx hb dX10_awayOn_19 rfl (lv_at hl 0 rfl) ?_
        refine lv_iload_n hx hb dX10_awayOn_20 rfl (lv_at hl 3 rfl) ?_
        refine lv_iload_n hx hb dX10_awayOn_21 rfl (lv_at hl 1 rfl) ?_
        refine cVR (As := [.int (nI i), .int d]) (rest := [.int v]) (n := 2) (ci := 10) (q0 := 0) X hN hK hP (c_X10_isAway l D cI cB h0 a_now a_aside a_kept a_keptFrom a_keptTo a_capOf a_leaveFrom a_leaveTo a_amountOf a_doerMany a_doerOf a_tape a_said a_waitsAt a_saidLetter a_saidFrom a_saidHalf a_saidTo a_codes a_clauseOf a_codeFrom a_codeHalf a_codeTo a_stack a_facts a_lineChore a_lineMany a_lineDoer a_newFrom a_newTo a_goFrom a_goTo a_idleFrom a_idleTo a_moreOf a_firstOf a_leftOf a_didOf a_costBy a_gainBy a_hiredOf a_hiredBest a_hiredTo a_turnOf a_turnWho pe ch rt pl le0 fa nu op_ cm wt sm cs li rv du cl gd sd ik T i d fg0 fg1 hi) (gV k_1455 k_1457 k_66 k_103 k_1458) (by decide +kernel) ⟨Nat.le_of_ble_eq_true rfl, Nat.le_of_ble_eq_true rfl⟩ ⟨rfl, rfl⟩ [0, 1, 2] rfl rfl rfl rfl rfl rfl hl.1 (Nat.le_of_ble_eq_true rfl) dX10_awayOn_22 ⟨Nat.le_of_ble_eq_true rfl, Nat.le_of_ble_eq_true rfl⟩ (fun r_3 hr_3 => ?_)
        refine lv_if_eq (tgt := 34) hx hb dX10_awayOn_25 (by decide) (fun c_25 => ?_) (fun c_25 => ?_)
        · refine lv_iconst (v := 0) hx hb dX10_awayOn_34 (by decide) ?_
          refine lv_ior hx hb dX10_awayOn_35 ?_
          refine lv_topi (fun x_4 ex_4 => ?_)
          refine lv_istore_n (lv' := [(2, .int x_4), (0, .ref h0), (1, .int d), (3, .int (nI i))]) hx hb dX10_awayOn_36 rfl hl (by decide) rfl (fun ls hl => ?_)
          refine lv_iinc (v := (nI (i + 1))) (lv' := [(3, .int (nI (i + 1))), (2, .int x_4), (0, .ref h0), (1, .int d)]) hx hb dX10_awayOn_37 hl (k := 3) rfl (nI_1 i) (by decide) rfl (fun ls hl => ?_)
          refine lv_goto (tgt := 4) hx hb dX10_awayOn_40 (by decide) ?_
          exact ih_4 (i + 1) x_4 (by omega) _ (lv_sub hl [2, 3, 1, 0] rfl)
        · refine lv_iconst (v := 1) hx hb dX10_awayOn_28 (by decide) ?_
          refine lv_iload_n hx hb dX10_awayOn_29 rfl (lv_at hl 3 rfl) ?_
          refine lv_ishl hx hb dX10_awayOn_30 ?_
          refine lv_goto (tgt := 35) hx hb dX10_awayOn_31 (by decide) ?_
          refine lv_ior hx hb dX10_awayOn_35 ?_
          refine lv_topi (fun x_5 ex_5 => ?_)
          refine lv_istore_n (lv' := [(2, .int x_5), (0, .ref h0), (1, .int d), (3, .int (nI i))]) hx hb dX10_awayOn_36 rfl hl (by decide) rfl (fun ls hl => ?_)
          refine lv_iinc (v := (nI (i + 1))) (lv' := [(3, .int (nI (i + 1))), (2, .int x_5), (0, .ref h0), (1, .int d)]) hx hb dX10_awayOn_37 hl (k := 3) rfl (nI_1 i) (by decide) rfl (fun ls hl => ?_)
          refine lv_goto (tgt := 4) hx hb dX10_awayOn_40 (by decide) ?_
          exact ih_4 (i + 1) x_5 (by omega) _ (lv_sub hl [2, 3, 1, 0] rfl)
  exact loop_4 10 0 0 (by omega) _ (lv_sub hl [2, 3, 1, 0] rfl)

set_option maxRecDepth 100000 in
set_option maxHeartbeats 4000000 in
theorem c_X10_feels (l : Launch) (D : va_G) (cI cB : ClassId) (sz : Nat) (h0 : Nat) (a_now : Nat) (a_aside : Nat) (a_kept : Nat) (a_keptFrom : Nat) (a_keptTo : Nat) (a_capOf : Nat) (a_leaveFrom : Nat) (a_leaveTo : Nat) (a_amountOf : Nat) (a_doerMany : Nat) (a_doerOf : Nat) (a_tape : Nat) (a_said : Nat) (a_waitsAt : Nat) (a_saidLetter : Nat) (a_saidFrom : Nat) (a_saidHalf : Nat) (a_saidTo : Nat) (a_codes : Nat) (a_clauseOf : Nat) (a_codeFrom : Nat) (a_codeHalf : Nat) (a_codeTo : Nat) (a_stack : Nat) (a_facts : Nat) (a_lineChore : Nat) (a_lineMany : Nat) (a_lineDoer : Nat) (a_newFrom : Nat) (a_newTo : Nat) (a_goFrom : Nat) (a_goTo : Nat) (a_idleFrom : Nat) (a_idleTo : Nat) (a_moreOf : Nat) (a_firstOf : Nat) (a_leftOf : Nat) (a_didOf : Nat) (a_costBy : Nat) (a_gainBy : Nat) (a_hiredOf : Nat) (a_hiredBest : Nat) (a_hiredTo : Nat) (a_turnOf : Nat) (a_turnWho : Nat) (pe : Int32) (ch : Int32) (rt : Int32) (pl : Int32) (le0 : Int32) (fa : Int32) (nu : Int32) (op_ : Int32) (cm : Int32) (wt : Int32) (sm : Int32) (cs : Int32) (li : Int32) (rv : Int32) (du : Int32) (cl : Int32) (gd : Int32) (sd : Int32) (ik : Int32) (T : Nat) (b : Int32) (fw : Nat → Int32) (fx : Nat → Int32) (fg0 : Nat → Int32) (fg1 : Nat → Int32)  : MV (S := ((Nat → Int32))) l D cI cB yX10_feels cX10_feels 3 (rm 3 67) [.ref h0, .int b] [(h0, .inr (10, [.ref a_now, .ref a_aside, .ref a_kept, .ref a_keptFrom, .ref a_keptTo, .ref a_capOf, .ref a_leaveFrom, .ref a_leaveTo, .ref a_amountOf, .ref a_doerMany, .ref a_doerOf, .int pe, .int ch, .int rt, .ref a_tape, .int (nI T), .int pl, .int le0, .int fa, .int nu, .int op_, .int cm, .int wt, .int sm, .int cs, .ref a_said, .ref a_waitsAt, .ref a_saidLetter, .ref a_saidFrom, .ref a_saidHalf, .ref a_saidTo, .ref a_codes, .ref a_clauseOf, .ref a_codeFrom, .ref a_codeHalf, .ref a_codeTo, .ref a_stack, .ref a_facts, .ref a_lineChore, .ref a_lineMany, .ref a_lineDoer, .ref a_newFrom, .ref a_newTo, .int li, .ref a_goFrom, .ref a_goTo, .ref a_idleFrom, .ref a_idleTo, .ref a_moreOf, .ref a_firstOf, .ref a_leftOf, .ref a_didOf, .int rv, .int du, .int cl, .int gd, .ref a_costBy, .int sd, .ref a_gainBy, .ref a_hiredOf, .ref a_hiredBest, .ref a_hiredTo, .ref a_turnOf, .ref a_turnWho, .int ik])), (a_now, .inl (cI, 15, .inl fw)), (a_facts, .inl (cI, 8, .inl fx)), (a_goFrom, .inl (cI, 10, .inl fg0)), (a_goTo, .inl (cI, 10, .inl fg1))] sz (fun u => True) (fun u : ((Nat → Int32)) => [(h0, .inr (10, [.ref a_now, .ref a_aside, .ref a_kept, .ref a_keptFrom, .ref a_keptTo, .ref a_capOf, .ref a_leaveFrom, .ref a_leaveTo, .ref a_amountOf, .ref a_doerMany, .ref a_doerOf, .int pe, .int ch, .int rt, .ref a_tape, .int (nI T), .int pl, .int le0, .int fa, .int nu, .int op_, .int cm, .int wt, .int sm, .int cs, .ref a_said, .ref a_waitsAt, .ref a_saidLetter, .ref a_saidFrom, .ref a_saidHalf, .ref a_saidTo, .ref a_codes, .ref a_clauseOf, .ref a_codeFrom, .ref a_codeHalf, .ref a_codeTo, .ref a_stack, .ref a_facts, .ref a_lineChore, .ref a_lineMany, .ref a_lineDoer, .ref a_newFrom, .ref a_newTo, .int li, .ref a_goFrom, .ref a_goTo, .ref a_idleFrom, .ref a_idleTo, .ref a_moreOf, .ref a_firstOf, .ref a_leftOf, .ref a_didOf, .int rv, .int du, .int cl, .int gd, .ref a_costBy, .int sd, .ref a_gainBy, .ref a_hiredOf, .ref a_hiredBest, .ref a_hiredTo, .ref a_turnOf, .ref a_turnWho, .int ik])), (a_now, .inl (cI, 15, .inl fw)), (a_facts, .inl (cI, 8, .inl u)), (a_goFrom, .inl (cI, 10, .inl fg0)), (a_goTo, .inl (cI, 10, .inl fg1))]) := by
  refine MV.of (by decide) (Nat.le_of_ble_eq_true rfl) ?_
  intro p e s m below meth c Q ls A X hin hN hP hK hD hA hl ret
  have hS : va_S A s.heap s.heap [] := va_S.rf
  obtain ⟨hx, hb, hml, hown, htb⟩ := id X
  have hl : lv_has ls 3 [(0, .ref h0), (1, .int b)] := hl
  refine lv_iconst (v := 0) hx hb dX10_feels_0 (by decide) ?_
  refine lv_istore_n (lv' := [(2, .int 0), (0, .ref h0), (1, .int b)]) hx hb dX10_feels_1 rfl hl (by decide) rfl (fun ls hl => ?_)
  have loop_2 : ∀ (n i : Nat) (k1_0 : Nat → Int32), n + i = 8 → ∀ (H : Heap) (locs : List Loc), va_P D vwCl [(h0, .inr (10, [.ref a_now, .ref a_aside, .ref a_kept, .ref a_keptFrom, .ref a_keptTo, .ref a_capOf, .ref a_leaveFrom, .ref a_leaveTo, .ref a_amountOf, .ref a_doerMany, .ref a_doerOf, .int pe, .int ch, .int rt, .ref a_tape, .int (nI T), .int pl, .int le0, .int fa, .int nu, .int op_, .int cm, .int wt, .int sm, .int cs, .ref a_said, .ref a_waitsAt, .ref a_saidLetter, .ref a_saidFrom, .ref a_saidHalf, .ref a_saidTo, .ref a_codes, .ref a_clauseOf, .ref a_codeFrom, .ref a_codeHalf, .ref a_codeTo, .ref a_stack, .ref a_facts, .ref a_lineChore, .ref a_lineMany, .ref a_lineDoer, .ref a_newFrom, .ref a_newTo, .int li, .ref a_goFrom, .ref a_goTo, .ref a_idleFrom, .ref a_idleTo, .ref a_moreOf, .ref a_firstOf, .ref a_leftOf, .ref a_didOf, .int rv, .int du, .int cl, .int gd, .ref a_costBy, .int sd, .ref a_gainBy, .ref a_hiredOf, .ref a_hiredBest, .ref a_hiredTo, .ref a_turnOf, .ref a_turnWho, .int ik])), (a_now, .inl (cI, 15, .inl fw)), (a_facts, .inl (cI, 8, .inl k1_0)), (a_goFrom, .inl (cI, 10, .inl fg0)), (a_goTo, .inl (cI, 10, .inl fg1))] H → va_D A [(h0, .inr (10, [.ref a_now, .ref a_aside, .ref a_kept, .ref a_keptFrom, .ref a_keptTo, .ref a_capOf, .ref a_leaveFrom, .ref a_leaveTo, .ref a_amountOf, .ref a_doerMany, .ref a_doerOf, .int pe, .int ch, .int rt, .ref a_tape, .int (nI T), .int pl, .int le0, .int fa, .int nu, .int op_, .int cm, .int wt, .int sm, .int cs, .ref a_said, .ref a_waitsAt, .ref a_saidLetter, .ref a_saidFrom, .ref a_saidHalf, .ref a_saidTo, .ref a_codes, .ref a_clauseOf, .ref a_codeFrom, .ref a_codeHalf, .ref a_codeTo, .ref a_stack, .ref a_facts, .ref a_lineChore, .ref a_lineMany, .ref a_lineDoer, .ref a_newFrom, .ref a_newTo, .int li, .ref a_goFrom, .ref a_goTo, .ref a_idleFrom, .ref a_idleTo, .ref a_moreOf, .ref a_firstOf, .ref a_leftOf, .ref a_didOf, .int rv, .int du, .int cl, .int gd, .ref a_costBy, .int sd, .ref a_gainBy, .ref a_hiredOf, .ref a_hiredBest, .ref a_hiredTo, .ref a_turnOf, .ref a_turnWho, .int ik])), (a_now, .inl (cI, 15, .inl fw)), (a_facts, .inl (cI, 8, .inl k1_0)), (a_goFrom, .inl (cI, 10, .inl fg0)), (a_goTo, .inl (cI, 10, .inl fg1))] → va_S A s.heap H locs → ∀ (ls : Array Slot), lv_has ls 3 [(0, .ref h0), (1, .int b), (2, .int (nI i))] → W p l e (rm 3 67) s m ([.ref h0, .int b] : List Value).toArray below meth c H locs 0 0 Q (F0 m 2 ls []) := by
    intro n
    induction n with
    | zero =>
      intro i k1_0 hni H locs hP hD hS ls hl
      have hni_2 := hni
      have hi : i = 8 := by omega
      refine lv_iload_n hx hb dX10_feels_2 rfl (lv_at hl 2 rfl) ?_
      refine lv_bipush (v := 8) hx hb dX10_feels_3 (by decide) ?_
      refine lv_icmp_ge (tgt := 21) hx hb dX10_feels_5 (by decide) (fun _ => ?_) (fun c_5 => absurd (by rw [hi]; decide) c_5)
      refine lv_aload_n hx hb dX10_feels_21 rfl (lv_at hl 0 rfl) ?_
      refine va_get (D := D) (ci := 10) (v := .ref a_facts) (C := RX10) (T := TX10) (N := 65) hx hb htb itX10 hown hK hP 0 rfl rfl 37 (by decide) (htb _ k_1105) (fun _ h9 => h9) rfl dX10_feels_22 ?_
      refine lv_iconst (v := 3) hx hb dX10_feels_25 (by decide) ?_
      refine lv_aload_n hx hb dX10_feels_26 rfl (lv_at hl 0 rfl) ?_
      refine va_get (D := D) (ci := 10) (v := .ref a_now) (C := RX10) (T := TX10) (N := 65) hx hb htb itX10 hown hK hP 0 rfl rfl 0 (by decide) (htb _ k_1068) (fun _ h9 => h9) rfl dX10_feels_27 ?_
      refine lv_bipush (v := 13) hx hb dX10_feels_30 (by decide) ?_
      refine va_iald hx hb hK hP 1 0 rfl rfl (by unfold vp_in; decide) dX10_feels_32 ?_
      refine lv_topi (fun x_1 ex_1 => ?_)
      refine va_iast hx hb hK hP hD hS 2 0 rfl rfl (by unfold vp_in; decide) dX10_feels_33 (fun H locs hP hD hS => ?_)
      obtain ⟨f_2, ef_2⟩ : ∃ g : Nat → Int32, g = upd k1_0 (Int32.toNatClampNeg 3) x_1 := ⟨_, rfl⟩
      rw [← ef_2] at hP hD
      have hP : va_P D vwCl [(h0, .inr (10, [.ref a_now, .ref a_aside, .ref a_kept, .ref a_keptFrom, .ref a_keptTo, .ref a_capOf, .ref a_leaveFrom, .ref a_leaveTo, .ref a_amountOf, .ref a_doerMany, .ref a_doerOf, .int pe, .int ch, .int rt, .ref a_tape, .int (nI T), .int pl, .int le0, .int fa, .int nu, .int op_, .int cm, .int wt, .int sm, .int cs, .ref a_said, .ref a_waitsAt, .ref a_saidLetter, .ref a_saidFrom, .ref a_saidHalf, .ref a_saidTo, .ref a_codes, .ref a_clauseOf, .ref a_codeFrom, .ref a_codeHalf, .ref a_codeTo, .ref a_stack, .ref a_facts, .ref a_lineChore, .ref a_lineMany, .ref a_lineDoer, .ref a_newFrom, .ref a_newTo, .int li, .ref a_goFrom, .ref a_goTo, .ref a_idleFrom, .ref a_idleTo, .ref a_moreOf, .ref a_firstOf, .ref a_leftOf, .ref a_didOf, .int rv, .int du, .int cl, .int gd, .ref a_costBy, .int sd, .ref a_gainBy, .ref a_hiredOf, .ref a_hiredBest, .ref a_hiredTo, .ref a_turnOf, .ref a_turnWho, .int ik])), (a_now, .inl (cI, 15, .inl fw)), (a_facts, .inl (cI, 8, .inl f_2)), (a_goFrom, .inl (cI, 10, .inl fg0)), (a_goTo, .inl (cI, 10, .inl fg1))] H := hP
      have hD : va_D A [(h0, .inr (10, [.ref a_now, .ref a_aside, .ref a_kept, .ref a_keptFrom, .ref a_keptTo, .ref a_capOf, .ref a_leaveFrom, .ref a_leaveTo, .ref a_amountOf, .ref a_doerMany, .ref a_doerOf, .int pe, .int ch, .int rt, .ref a_tape, .int (nI T), .int pl, .int le0, .int fa, .int nu, .int op_, .int cm, .int wt, .int sm, .int cs, .ref a_said, .ref a_waitsAt, .ref a_saidLetter, .ref a_saidFrom, .ref a_saidHalf, .ref a_saidTo, .ref a_codes, .ref a_clauseOf, .ref a_codeFrom, .ref a_codeHalf, .ref a_codeTo, .ref a_stack, .ref a_facts, .ref a_lineChore, .ref a_lineMany, .ref a_lineDoer, .ref a_newFrom, .ref a_newTo, .int li, .ref a_goFrom, .ref a_goTo, .ref a_idleFrom, .ref a_idleTo, .ref a_moreOf, .ref a_firstOf, .ref a_leftOf, .ref a_didOf, .int rv, .int du, .int cl, .int gd, .ref a_costBy, .int sd, .ref a_gainBy, .ref a_hiredOf, .ref a_hiredBest, .ref a_hiredTo, .ref a_turnOf, .ref a_turnWho, .int ik])), (a_now, .inl (cI, 15, .inl fw)), (a_facts, .inl (cI, 8, .inl f_2)), (a_goFrom, .inl (cI, 10, .inl fg0)), (a_goTo, .inl (cI, 10, .inl fg1))] := hD
      refine lv_aload_n hx hb dX10_feels_34 rfl (lv_at hl 0 rfl) ?_
      refine va_get (D := D) (ci := 10) (v := .ref a_facts) (C := RX10) (T := TX10) (N := 65) hx hb htb itX10 hown hK hP 0 rfl rfl 37 (by decide) (htb _ k_1105) (fun _ h9 => h9) rfl dX10_feels_35 ?_
      refine lv_iconst (v := 4) hx hb dX10_feels_38 (by decide) ?_
      refine lv_aload_n hx hb dX10_feels_39 rfl (lv_at hl 0 rfl) ?_
      refine va_get (D := D) (ci := 10) (v := .ref a_now) (C := RX10) (T := TX10) (N := 65) hx hb htb itX10 hown hK hP 0 rfl rfl 0 (by decide) (htb _ k_1068) (fun _ h9 => h9) rfl dX10_feels_40 ?_
      refine lv_bipush (v := 13) hx hb dX10_feels_43 (by decide) ?_
      refine va_iald hx hb hK hP 1 0 rfl rfl (by unfold vp_in; decide) dX10_feels_45 ?_
      refine lv_bipush (v := 7) hx hb dX10_feels_46 (by decide) ?_
      refine lv_irem hx hb dX10_feels_48 (by decide) ?_
      refine lv_topi (fun x_3 ex_3 => ?_)
      refine va_iast hx hb hK hP hD hS 2 0 rfl rfl (by unfold vp_in; decide) dX10_feels_49 (fun H locs hP hD hS => ?_)
      obtain ⟨f_4, ef_4⟩ : ∃ g : Nat → Int32, g = upd f_2 (Int32.toNatClampNeg 4) x_3 := ⟨_, rfl⟩
      rw [← ef_4] at hP hD
      have hP : va_P D vwCl [(h0, .inr (10, [.ref a_now, .ref a_aside, .ref a_kept, .ref a_keptFrom, .ref a_keptTo, .ref a_capOf, .ref a_leaveFrom, .ref a_leaveTo, .ref a_amountOf, .ref a_doerMany, .ref a_doerOf, .int pe, .int ch, .int rt, .ref a_tape, .int (nI T), .int pl, .int le0, .int fa, .int nu, .int op_, .int cm, .int wt, .int sm, .int cs, .ref a_said, .ref a_waitsAt, .ref a_saidLetter, .ref a_saidFrom, .ref a_saidHalf, .ref a_saidTo, .ref a_codes, .ref a_clauseOf, .ref a_codeFrom, .ref a_codeHalf, .ref a_codeTo, .ref a_stack, .ref a_facts, .ref a_lineChore, .ref a_lineMany, .ref a_lineDoer, .ref a_newFrom, .ref a_newTo, .int li, .ref a_goFrom, .ref a_goTo, .ref a_idleFrom, .ref a_idleTo, .ref a_moreOf, .ref a_firstOf, .ref a_leftOf, .ref a_didOf, .int rv, .int du, .int cl, .int gd, .ref a_costBy, .int sd, .ref a_gainBy, .ref a_hiredOf, .ref a_hiredBest, .ref a_hiredTo, .ref a_turnOf, .ref a_turnWho, .int ik])), (a_now, .inl (cI, 15, .inl fw)), (a_facts, .inl (cI, 8, .inl f_4)), (a_goFrom, .inl (cI, 10, .inl fg0)), (a_goTo, .inl (cI, 10, .inl fg1))] H := hP
      have hD : va_D A [(h0, .inr (10, [.ref a_now, .ref a_aside, .ref a_kept, .ref a_keptFrom, .ref a_keptTo, .ref a_capOf, .ref a_leaveFrom, .ref a_leaveTo, .ref a_amountOf, .ref a_doerMany, .ref a_doerOf, .int pe, .int ch, .int rt, .ref a_tape, .int (nI T), .int pl, .int le0, .int fa, .int nu, .int op_, .int cm, .int wt, .int sm, .int cs, .ref a_said, .ref a_waitsAt, .ref a_saidLetter, .ref a_saidFrom, .ref a_saidHalf, .ref a_saidTo, .ref a_codes, .ref a_clauseOf, .ref a_codeFrom, .ref a_codeHalf, .ref a_codeTo, .ref a_stack, .ref a_facts, .ref a_lineChore, .ref a_lineMany, .ref a_lineDoer, .ref a_newFrom, .ref a_newTo, .int li, .ref a_goFrom, .ref a_goTo, .ref a_idleFrom, .ref a_idleTo, .ref a_moreOf, .ref a_firstOf, .ref a_leftOf, .ref a_didOf, .int rv, .int du, .int cl, .int gd, .ref a_costBy, .int sd, .ref a_gainBy, .ref a_hiredOf, .ref a_hiredBest, .ref a_hiredTo, .ref a_turnOf, .ref a_turnWho, .int ik])), (a_now, .inl (cI, 15, .inl fw)), (a_facts, .inl (cI, 8, .inl f_4)), (a_goFrom, .inl (cI, 10, .inl fg0)), (a_goTo, .inl (cI, 10, .inl fg1))] := hD
      refine lv_aload_n hx hb dX10_feels_50 rfl (lv_at hl 0 rfl) ?_
      refine va_get (D := D) (ci := 10) (v := .ref a_facts) (C := RX10) (T := TX10) (N := 65) hx hb htb itX10 hown hK hP 0 rfl rfl 37 (by decide) (htb _ k_1105) (fun _ h9 => h9) rfl dX10_feels_51 ?_
      refine lv_iconst (v := 5) hx hb dX10_feels_54 (by decide) ?_
      refine lv_iload_n hx hb dX10_feels_55 rfl (lv_at hl 1 rfl) ?_
      refine lv_if_eq (tgt := 63) hx hb dX10_feels_56 (by decide) (fun c_56 => ?_) (fun c_56 => ?_)
      · refine lv_iconst (v := 0) hx hb dX10_feels_63 (by decide) ?_
        refine va_iast hx hb hK hP hD hS 2 0 rfl rfl (by unfold vp_in; decide) dX10_feels_64 (fun H locs hP hD hS => ?_)
        obtain ⟨f_5, ef_5⟩ : ∃ g : Nat → Int32, g = upd f_4 (Int32.toNatClampNeg 5) 0 := ⟨_, rfl⟩
        rw [← ef_5] at hP hD
        have hP : va_P D vwCl [(h0, .inr (10, [.ref a_now, .ref a_aside, .ref a_kept, .ref a_keptFrom, .ref a_keptTo, .ref a_capOf, .ref a_leaveFrom, .ref a_leaveTo, .ref a_amountOf, .ref a_doerMany, .ref a_doerOf, .int pe, .int ch, .int rt, .ref a_tape, .int (nI T), .int pl, .int le0, .int fa, .int nu, .int op_, .int cm, .int wt, .int sm, .int cs, .ref a_said, .ref a_waitsAt, .ref a_saidLetter, .ref a_saidFrom, .ref a_saidHalf, .ref a_saidTo, .ref a_codes, .ref a_clauseOf, .ref a_codeFrom, .ref a_codeHalf, .ref a_codeTo, .ref a_stack, .ref a_facts, .ref a_lineChore, .ref a_lineMany, .ref a_lineDoer, .ref a_newFrom, .ref a_newTo, .int li, .ref a_goFrom, .ref a_goTo, .ref a_idleFrom, .ref a_idleTo, .ref a_moreOf, .ref a_firstOf, .ref a_leftOf, .ref a_didOf, .int rv, .int du, .int cl, .int gd, .ref a_costBy, .int sd, .ref a_gainBy, .ref a_hiredOf, .ref a_hiredBest, .ref a_hiredTo, .ref a_turnOf, .ref a_turnWho, .int ik])), (a_now, .inl (cI, 15, .inl fw)), (a_facts, .inl (cI, 8, .inl f_5)), (a_goFrom, .inl (cI, 10, .inl fg0)), (a_goTo, .inl (cI, 10, .inl fg1))] H := hP
        have hD : va_D A [(h0, .inr (10, [.ref a_now, .ref a_aside, .ref a_kept, .ref a_keptFrom, .ref a_keptTo, .ref a_capOf, .ref a_leaveFrom, .ref a_leaveTo, .ref a_amountOf, .ref a_doerMany, .ref a_doerOf, .int pe, .int ch, .int rt, .ref a_tape, .int (nI T), .int pl, .int le0, .int fa, .int nu, .int op_, .int cm, .int wt, .int sm, .int cs, .ref a_said, .ref a_waitsAt, .ref a_saidLetter, .ref a_saidFrom, .ref a_saidHalf, .ref a_saidTo, .ref a_codes, .ref a_clauseOf, .ref a_codeFrom, .ref a_codeHalf, .ref a_codeTo, .ref a_stack, .ref a_facts, .ref a_lineChore, .ref a_lineMany, .ref a_lineDoer, .ref a_newFrom, .ref a_newTo, .int li, .ref a_goFrom, .ref a_goTo, .ref a_idleFrom, .ref a_idleTo, .ref a_moreOf, .ref a_firstOf, .ref a_leftOf, .ref a_didOf, .int rv, .int du, .int cl, .int gd, .ref a_costBy, .int sd, .ref a_gainBy, .ref a_hiredOf, .ref a_hiredBest, .ref a_hiredTo, .ref a_turnOf, .ref a_turnWho, .int ik])), (a_now, .inl (cI, 15, .inl fw)), (a_facts, .inl (cI, 8, .inl f_5)), (a_goFrom, .inl (cI, 10, .inl fg0)), (a_goTo, .inl (cI, 10, .inl fg1))] := hD
        refine lv_aload_n hx hb dX10_feels_65 rfl (lv_at hl 0 rfl) ?_
        refine va_get (D := D) (ci := 10) (v := .ref a_facts) (C := RX10) (T := TX10) (N := 65) hx hb htb itX10 hown hK hP 0 rfl rfl 37 (by decide) (htb _ k_1105) (fun _ h9 => h9) rfl dX10_feels_66 ?_
        refine lv_bipush (v := 6) hx hb dX10_feels_69 (by decide) ?_
        refine lv_aload_n hx hb dX10_feels_71 rfl (lv_at hl 0 rfl) ?_
        refine lv_aload_n hx hb dX10_feels_72 rfl (lv_at hl 0 rfl) ?_
        refine va_get (D := D) (ci := 10) (v := .ref a_now) (C := RX10) (T := TX10) (N := 65) hx hb htb itX10 hown hK hP 0 rfl rfl 0 (by decide) (htb _ k_1068) (fun _ h9 => h9) rfl dX10_feels_73 ?_
        refine lv_bipush (v := 13) hx hb dX10_feels_76 (by decide) ?_
        refine va_iald hx hb hK hP 1 0 rfl rfl (by unfold vp_in; decide) dX10_feels_78 ?_
        refine cVR (As := [.int (fw (Int32.toNatClampNeg 13))]) (rest := [.int 6, .ref a_facts]) (n := 1) (ci := 10) (q0 := 0) X hN hK hP (c_X10_awayOn l D cI cB h0 a_now a_aside a_kept a_keptFrom a_keptTo a_capOf a_leaveFrom a_leaveTo a_amountOf a_doerMany a_doerOf a_tape a_said a_waitsAt a_saidLetter a_saidFrom a_saidHalf a_saidTo a_codes a_clauseOf a_codeFrom a_codeHalf a_codeTo a_stack a_facts a_lineChore a_lineMany a_lineDoer a_newFrom a_newTo a_goFrom a_goTo a_idleFrom a_idleTo a_moreOf a_firstOf a_leftOf a_didOf a_costBy a_gainBy a_hiredOf a_hiredBest a_hiredTo a_turnOf a_turnWho pe ch rt pl le0 fa nu op_ cm wt sm cs li rv du cl gd sd ik T (fw (Int32.toNatClampNeg 13)) fg0 fg1) (gV k_1447 k_1449 k_64 k_103 k_1450) (by decide +kernel) ⟨Nat.le_of_ble_eq_true rfl, Nat.le_of_ble_eq_true rfl⟩ ⟨rfl, rfl⟩ [0, 3, 4] rfl rfl rfl rfl rfl rfl hl.1 (Nat.le_of_ble_eq_true rfl) dX10_feels_79 ⟨Nat.le_of_ble_eq_true rfl, Nat.le_of_ble_eq_true rfl⟩ (fun r_6 hr_6 => ?_)
        refine cSR (As := [.int r_6]) (rest := [.int 6, .ref a_facts]) (n := 1) X hN hK hP (c_X10_bits l D cI cB r_6) k_1412 k_1413 k_103 k_1414 (by decide +kernel) ⟨Nat.le_of_ble_eq_true rfl, Nat.le_of_ble_eq_true rfl⟩ ⟨rfl, rfl⟩ [] rfl rfl rfl hl.1 (Nat.le_of_ble_eq_true rfl) dX10_feels_82 ⟨Nat.le_of_ble_eq_true rfl, Nat.le_of_ble_eq_true rfl⟩ (fun r_7 hr_7 => ?_)
        refine va_iast hx hb hK hP hD hS 2 0 rfl rfl (by unfold vp_in; decide) dX10_feels_85 (fun H locs hP hD hS => ?_)
        obtain ⟨f_8, ef_8⟩ : ∃ g : Nat → Int32, g = upd f_5 (Int32.toNatClampNeg 6) r_7 := ⟨_, rfl⟩
        rw [← ef_8] at hP hD
        have hP : va_P D vwCl [(h0, .inr (10, [.ref a_now, .ref a_aside, .ref a_kept, .ref a_keptFrom, .ref a_keptTo, .ref a_capOf, .ref a_leaveFrom, .ref a_leaveTo, .ref a_amountOf, .ref a_doerMany, .ref a_doerOf, .int pe, .int ch, .int rt, .ref a_tape, .int (nI T), .int pl, .int le0, .int fa, .int nu, .int op_, .int cm, .int wt, .int sm, .int cs, .ref a_said, .ref a_waitsAt, .ref a_saidLetter, .ref a_saidFrom, .ref a_saidHalf, .ref a_saidTo, .ref a_codes, .ref a_clauseOf, .ref a_codeFrom, .ref a_codeHalf, .ref a_codeTo, .ref a_stack, .ref a_facts, .ref a_lineChore, .ref a_lineMany, .ref a_lineDoer, .ref a_newFrom, .ref a_newTo, .int li, .ref a_goFrom, .ref a_goTo, .ref a_idleFrom, .ref a_idleTo, .ref a_moreOf, .ref a_firstOf, .ref a_leftOf, .ref a_didOf, .int rv, .int du, .int cl, .int gd, .ref a_costBy, .int sd, .ref a_gainBy, .ref a_hiredOf, .ref a_hiredBest, .ref a_hiredTo, .ref a_turnOf, .ref a_turnWho, .int ik])), (a_now, .inl (cI, 15, .inl fw)), (a_facts, .inl (cI, 8, .inl f_8)), (a_goFrom, .inl (cI, 10, .inl fg0)), (a_goTo, .inl (cI, 10, .inl fg1))] H := hP
        have hD : va_D A [(h0, .inr (10, [.ref a_now, .ref a_aside, .ref a_kept, .ref a_keptFrom, .ref a_keptTo, .ref a_capOf, .ref a_leaveFrom, .ref a_leaveTo, .ref a_amountOf, .ref a_doerMany, .ref a_doerOf, .int pe, .int ch, .int rt, .ref a_tape, .int (nI T), .int pl, .int le0, .int fa, .int nu, .int op_, .int cm, .int wt, .int sm, .int cs, .ref a_said, .ref a_waitsAt, .ref a_saidLetter, .ref a_saidFrom, .ref a_saidHalf, .ref a_saidTo, .ref a_codes, .ref a_clauseOf, .ref a_codeFrom, .ref a_codeHalf, .ref a_codeTo, .ref a_stack, .ref a_facts, .ref a_lineChore, .ref a_lineMany, .ref a_lineDoer, .ref a_newFrom, .ref a_newTo, .int li, .ref a_goFrom, .ref a_goTo, .ref a_idleFrom, .ref a_idleTo, .ref a_moreOf, .ref a_firstOf, .ref a_leftOf, .ref a_didOf, .int rv, .int du, .int cl, .int gd, .ref a_costBy, .int sd, .ref a_gainBy, .ref a_hiredOf, .ref a_hiredBest, .ref a_hiredTo, .ref a_turnOf, .ref a_turnWho, .int ik])), (a_now, .inl (cI, 15, .inl fw)), (a_facts, .inl (cI, 8, .inl f_8)), (a_goFrom, .inl (cI, 10, .inl fg0)), (a_goTo, .inl (cI, 10, .inl fg1))] := hD
        exact ret _ _ _ _ f_8 dX10_feels_86 trivial (hP.sub [0, 1, 2, 3, 4] rfl) (hD.sub [0, 1, 2, 3, 4] (by decide) rfl) hS
      · refine lv_iconst (v := 1) hx hb dX10_feels_59 (by decide) ?_
        refine lv_goto (tgt := 64) hx hb dX10_feels_60 (by decide) ?_
        refine va_iast hx hb hK hP hD hS 2 0 rfl rfl (by unfold vp_in; decide) dX10_feels_64 (fun H locs hP hD hS => ?_)
        obtain ⟨f_9, ef_9⟩ : ∃ g : Nat → Int32, g = upd f_4 (Int32.toNatClampNeg 5) 1 := ⟨_, rfl⟩
        rw [← ef_9] at hP hD
        have hP : va_P D vwCl [(h0, .inr (10, [.ref a_now, .ref a_aside, .ref a_kept, .ref a_keptFrom, .ref a_keptTo, .ref a_capOf, .ref a_leaveFrom, .ref a_leaveTo, .ref a_amountOf, .ref a_doerMany, .ref a_doerOf, .int pe, .int ch, .int rt, .ref a_tape, .int (nI T), .int pl, .int le0, .int fa, .int nu, .int op_, .int cm, .int wt, .int sm, .int cs, .ref a_said, .ref a_waitsAt, .ref a_saidLetter, .ref a_saidFrom, .ref a_saidHalf, .ref a_saidTo, .ref a_codes, .ref a_clauseOf, .ref a_codeFrom, .ref a_codeHalf, .ref a_codeTo, .ref a_stack, .ref a_facts, .ref a_lineChore, .ref a_lineMany, .ref a_lineDoer, .ref a_newFrom, .ref a_newTo, .int li, .ref a_goFrom, .ref a_goTo, .ref a_idleFrom, .ref a_idleTo, .ref a_moreOf, .ref a_firstOf, .ref a_leftOf, .ref a_didOf, .int rv, .int du, .int cl, .int gd, .ref a_costBy, .int sd, .ref a_gainBy, .ref a_hiredOf, .ref a_hiredBest, .ref a_hiredTo, .ref a_turnOf, .ref a_turnWho, .int ik])), (a_now, .inl (cI, 15, .inl fw)), (a_facts, .inl (cI, 8, .inl f_9)), (a_goFrom, .inl (cI, 10, .inl fg0)), (a_goTo, .inl (cI, 10, .inl fg1))] H := hP
        have hD : va_D A [(h0, .inr (10, [.ref a_now, .ref a_aside, .ref a_kept, .ref a_keptFrom, .ref a_keptTo, .ref a_capOf, .ref a_leaveFrom, .ref a_leaveTo, .ref a_amountOf, .ref a_doerMany, .ref a_doerOf, .int pe, .int ch, .int rt, .ref a_tape, .int (nI T), .int pl, .int le0, .int fa, .int nu, .int op_, .int cm, .int wt, .int sm, .int cs, .ref a_said, .ref a_waitsAt, .ref a_saidLetter, .ref a_saidFrom, .ref a_saidHalf, .ref a_saidTo, .ref a_codes, .ref a_clauseOf, .ref a_codeFrom, .ref a_codeHalf, .ref a_codeTo, .ref a_stack, .ref a_facts, .ref a_lineChore, .ref a_lineMany, .ref a_lineDoer, .ref a_newFrom, .ref a_newTo, .int li, .ref a_goFrom, .ref a_goTo, .ref a_idleFrom, .ref a_idleTo, .ref a_moreOf, .ref a_firstOf, .ref a_leftOf, .ref a_didOf, .int rv, .int du, .int cl, .int gd, .ref a_costBy, .int sd, .ref a_gainBy, .ref a_hiredOf, .ref a_hiredBest, .ref a_hiredTo, .ref a_turnOf, .ref a_turnWho, .int ik])), (a_now, .inl (cI, 15, .inl fw)), (a_facts, .inl (cI, 8, .inl f_9)), (a_goFrom, .inl (cI, 10, .inl fg0)), (a_goTo, .inl (cI, 10, .inl fg1))] := hD
        refine lv_aload_n hx hb dX10_feels_65 rfl (lv_at hl 0 rfl) ?_
        refine va_get (D := D) (ci := 10) (v := .ref a_facts) (C := RX10) (T := TX10) (N := 65) hx hb htb itX10 hown hK hP 0 rfl rfl 37 (by decide) (htb _ k_1105) (fun _ h9 => h9) rfl dX10_feels_66 ?_
        refine lv_bipush (v := 6) hx hb dX10_feels_69 (by decide) ?_
        refine lv_aload_n hx hb dX10_feels_71 rfl (lv_at hl 0 rfl) ?_
        refine lv_aload_n hx hb dX10_feels_72 rfl (lv_at hl 0 rfl) ?_
        refine va_get (D := D) (ci := 10) (v := .ref a_now) (C := RX10) (T := TX10) (N := 65) hx hb htb itX10 hown hK hP 0 rfl rfl 0 (by decide) (htb _ k_1068) (fun _ h9 => h9) rfl dX10_feels_73 ?_
        refine lv_bipush (v := 13) hx hb dX10_feels_76 (by decide) ?_
        refine va_iald hx hb hK hP 1 0 rfl rfl (by unfold vp_in; decide) dX10_feels_78 ?_
        refine cVR (As := [.int (fw (Int32.toNatClampNeg 13))]) (rest := [.int 6, .ref a_facts]) (n := 1) (ci := 10) (q0 := 0) X hN hK hP (c_X10_awayOn l D cI cB h0 a_now a_aside a_kept a_keptFrom a_keptTo a_capOf a_leaveFrom a_leaveTo a_amountOf a_doerMany a_doerOf a_tape a_said a_waitsAt a_saidLetter a_saidFrom a_saidHalf a_saidTo a_codes a_clauseOf a_codeFrom a_codeHalf a_codeTo a_stack a_facts a_lineChore a_lineMany a_lineDoer a_newFrom a_newTo a_goFrom a_goTo a_idleFrom a_idleTo a_moreOf a_firstOf a_leftOf a_didOf a_costBy a_gainBy a_hiredOf a_hiredBest a_hiredTo a_turnOf a_turnWho pe ch rt pl le0 fa nu op_ cm wt sm cs li rv du cl gd sd ik T (fw (Int32.toNatClampNeg 13)) fg0 fg1) (gV k_1447 k_1449 k_64 k_103 k_1450) (by decide +kernel) ⟨Nat.le_of_ble_eq_true rfl, Nat.le_of_ble_eq_true rfl⟩ ⟨rfl, rfl⟩ [0, 3, 4] rfl rfl rfl rfl rfl rfl hl.1 (Nat.le_of_ble_eq_true rfl) dX10_feels_79 ⟨Nat.le_of_ble_eq_true rfl, Nat.le_of_ble_eq_true rfl⟩ (fun r_10 hr_10 => ?_)
        refine cSR (As := [.int r_10]) (rest := [.int 6, .ref a_facts]) (n := 1) X hN hK hP (c_X10_bits l D cI cB r_10) k_1412 k_1413 k_103 k_1414 (by decide +kernel) ⟨Nat.le_of_ble_eq_true rfl, Nat.le_of_ble_eq_true rfl⟩ ⟨rfl, rfl⟩ [] rfl rfl rfl hl.1 (Nat.le_of_ble_eq_true rfl) dX10_feels_82 ⟨Nat.le_of_ble_eq_true rfl, Nat.le_of_ble_eq_true rfl⟩ (fun r_11 hr_11 => ?_)
        refine va_iast hx hb hK hP hD hS 2 0 rfl rfl (by unfold vp_in; decide) dX10_feels_85 (fun H locs hP hD hS => ?_)
        obtain ⟨f_12, ef_12⟩ : ∃ g : Nat → Int32, g = upd f_9 (Int32.toNatClampNeg 6) r_11 := ⟨_, rfl⟩
        rw [← ef_12] at hP hD
        have hP : va_P D vwCl [(h0, .inr (10, [.ref a_now, .ref a_aside, .ref a_kept, .ref a_keptFrom, .ref a_keptTo, .ref a_capOf, .ref a_leaveFrom, .ref a_leaveTo, .ref a_amountOf, .ref a_doerMany, .ref a_doerOf, .int pe, .int ch, .int rt, .ref a_tape, .int (nI T), .int pl, .int le0, .int fa, .int nu, .int op_, .int cm, .int wt, .int sm, .int cs, .ref a_said, .ref a_waitsAt, .ref a_saidLetter, .ref a_saidFrom, .ref a_saidHalf, .ref a_saidTo, .ref a_codes, .ref a_clauseOf, .ref a_codeFrom, .ref a_codeHalf, .ref a_codeTo, .ref a_stack, .ref a_facts, .ref a_lineChore, .ref a_lineMany, .ref a_lineDoer, .ref a_newFrom, .ref a_newTo, .int li, .ref a_goFrom, .ref a_goTo, .ref a_idleFrom, .ref a_idleTo, .ref a_moreOf, .ref a_firstOf, .ref a_leftOf, .ref a_didOf, .int rv, .int du, .int cl, .int gd, .ref a_costBy, .int sd, .ref a_gainBy, .ref a_hiredOf, .ref a_hiredBest, .ref a_hiredTo, .ref a_turnOf, .ref a_turnWho, .int ik])), (a_now, .inl (cI, 15, .inl fw)), (a_facts, .inl (cI, 8, .inl f_12)), (a_goFrom, .inl (cI, 10, .inl fg0)), (a_goTo, .inl (cI, 10, .inl fg1))] H := hP
        have hD : va_D A [(h0, .inr (10, [.ref a_now, .ref a_aside, .ref a_kept, .ref a_keptFrom, .ref a_keptTo, .ref a_capOf, .ref a_leaveFrom, .ref a_leaveTo, .ref a_amountOf, .ref a_doerMany, .ref a_doerOf, .int pe, .int ch, .int rt, .ref a_tape, .int (nI T), .int pl, .int le0, .int fa, .int nu, .int op_, .int cm, .int wt, .int sm, .int cs, .ref a_said, .ref a_waitsAt, .ref a_saidLetter, .ref a_saidFrom, .ref a_saidHalf, .ref a_saidTo, .ref a_codes, .ref a_clauseOf, .ref a_codeFrom, .ref a_codeHalf, .ref a_codeTo, .ref a_stack, .ref a_facts, .ref a_lineChore, .ref a_lineMany, .ref a_lineDoer, .ref a_newFrom, .ref a_newTo, .int li, .ref a_goFrom, .ref a_goTo, .ref a_idleFrom, .ref a_idleTo, .ref a_moreOf, .ref a_firstOf, .ref a_leftOf, .ref a_didOf, .int rv, .int du, .int cl, .int gd, .ref a_costBy, .int sd, .ref a_gainBy, .ref a_hiredOf, .ref a_hiredBest, .ref a_hiredTo, .ref a_turnOf, .ref a_turnWho, .int ik])), (a_now, .inl (cI, 15, .inl fw)), (a_facts, .inl (cI, 8, .inl f_12)), (a_goFrom, .inl (cI, 10, .inl fg0)), (a_goTo, .inl (cI, 10, .inl fg1))] := hD
        exact ret _ _ _ _ f_12 dX10_feels_86 trivial (hP.sub [0, 1, 2, 3, 4] rfl) (hD.sub [0, 1, 2, 3, 4] (by decide) rfl) hS
    | succ n ih_2 =>
      intro i k1_0 hni H locs hP hD hS ls hl
      have hni_2 := hni
      have hi : i < 8 := by omega
      refine lv_iload_n hx hb dX10_feels_2 rfl (lv_at hl 2 rfl) ?_
      refine lv_bipush (v := 8) hx hb dX10_feels_3 (by decide) ?_
      refine lv_icmp_ge (tgt := 21) hx hb dX10_feels_5 (by decide) (fun c_5 => absurd c_5 (nI_ge hi (by decide))) (fun _ => ?_)
      refine lv_aload_n hx hb dX10_feels_8 rfl (lv_at hl 0 rfl) ?_
      refine va_get (D := D) (ci := 10) (v := .ref a_facts) (C := RX10) (T := TX10) (N := 65) hx hb htb itX10 hown hK hP 0 rfl rfl 37 (by decide) (htb _ k_1105) (fun _ h9 => h9) rfl dX10_feels_9 ?_
      refine lv_iload_n hx hb dX10_feels_12 rfl (lv_at hl 2 rfl) ?_
      refine lv_iconst (v := 0) hx hb dX10_feels_13 (by decide) ?_
      refine va_iast hx hb hK hP hD hS 2 0 rfl rfl (vp_in_nI (by omega) (by decide)) dX10_feels_14 (fun H locs hP hD hS => ?_)
      obtain ⟨f_13, ef_13⟩ : ∃ g : Nat → Int32, g = upd k1_0 (Int32.toNatClampNeg (nI i)) 0 := ⟨_, rfl⟩
      rw [← ef_13] at hP hD
      have hP : va_P D vwCl [(h0, .inr (10, [.ref a_now, .ref a_aside, .ref a_kept, .ref a_keptFrom, .ref a_keptTo, .ref a_capOf, .ref a_leaveFrom, .ref a_leaveTo, .ref a_amountOf, .ref a_doerMany, .ref a_doerOf, .int pe, .int ch, .int rt, .ref a_tape, .int (nI T), .int pl, .int le0, .int fa, .int nu, .int op_, .int cm, .int wt, .int sm, .int cs, .ref a_said, .ref a_waitsAt, .ref a_saidLetter, .ref a_saidFrom, .ref a_saidHalf, .ref a_saidTo, .ref a_codes, .ref a_clauseOf, .ref a_codeFrom, .ref a_codeHalf, .ref a_codeTo, .ref a_stack, .ref a_facts, .ref a_lineChore, .ref a_lineMany, .ref a_lineDoer, .ref a_newFrom, .ref a_newTo, .int li, .ref a_goFrom, .ref a_goTo, .ref a_idleFrom, .ref a_idleTo, .ref a_moreOf, .ref a_firstOf, .ref a_leftOf, .ref a_didOf, .int rv, .int du, .int cl, .int gd, .ref a_costBy, .int sd, .ref a_gainBy, .ref a_hiredOf, .ref a_hiredBest, .ref a_hiredTo, .ref a_turnOf, .ref a_turnWho, .int ik])), (a_now, .inl (cI, 15, .inl fw)), (a_facts, .inl (cI, 8, .inl f_13)), (a_goFrom, .inl (cI, 10, .inl fg0)), (a_goTo, .inl (cI, 10, .inl fg1))] H := hP
      have hD : va_D A [(h0, .inr (10, [.ref a_now, .ref a_aside, .ref a_kept, .ref a_keptFrom, .ref a_keptTo, .ref a_capOf, .ref a_leaveFrom, .ref a_leaveTo, .ref a_amountOf, .ref a_doerMany, .ref a_doerOf, .int pe, .int ch, .int rt, .ref a_tape, .int (nI T), .int pl, .int le0, .int fa, .int nu, .int op_, .int cm, .int wt, .int sm, .int cs, .ref a_said, .ref a_waitsAt, .ref a_saidLetter, .ref a_saidFrom, .ref a_saidHalf, .ref a_saidTo, .ref a_codes, .ref a_clauseOf, .ref a_codeFrom, .ref a_codeHalf, .ref a_codeTo, .ref a_stack, .ref a_facts, .ref a_lineChore, .ref a_lineMany, .ref a_lineDoer, .ref a_newFrom, .ref a_newTo, .int li, .ref a_goFrom, .ref a_goTo, .ref a_idleFrom, .ref a_idleTo, .ref a_moreOf, .ref a_firstOf, .ref a_leftOf, .ref a_didOf, .int rv, .int du, .int cl, .int gd, .ref a_costBy, .int sd, .ref a_gainBy, .ref a_hiredOf, .ref a_hiredBest, .ref a_hiredTo, .ref a_turnOf, .ref a_turnWho, .int ik])), (a_now, .inl (cI, 15, .inl fw)), (a_facts, .inl (cI, 8, .inl f_13)), (a_goFrom, .inl (cI, 10, .inl fg0)), (a_goTo, .inl (cI, 10, .inl fg1))] := hD
      refine lv_iinc (v := (nI (i + 1))) (lv' := [(2, .int (nI (i + 1))), (0, .ref h0), (1, .int b)]) hx hb dX10_feels_15 hl (k := 2) rfl (nI_1 i) (by decide) rfl (fun ls hl => ?_)
      refine lv_goto (tgt := 2) hx hb dX10_feels_18 (by decide) ?_
      exact ih_2 (i + 1) f_13 (by omega) _ _ (hP.sub [0, 1, 2, 3, 4] rfl) (hD.sub [0, 1, 2, 3, 4] (by decide) rfl) hS _ (lv_sub hl [1, 2, 0] rfl)
  exact loop_2 8 0 fx (by omega) _ _ (hP.sub [0, 1, 2, 3, 4] rfl) (hD.sub [0, 1, 2, 3, 4] (by decide) rfl) hS _ (lv_sub hl [1, 2, 0] rfl)

set_option maxRecDepth 100000 in
set_option maxHeartbeats 4000000 in
theorem c_X10_undoneAll (l : Launch) (D : va_G) (cI cB : ClassId) (h0 : Nat) (a_now : Nat) (a_aside : Nat) (a_kept : Nat) (a_keptFrom : Nat) (a_keptTo : Nat) (a_capOf : Nat) (a_leaveFrom : Nat) (a_leaveTo : Nat) (a_amountOf : Nat) (a_doerMany : Nat) (a_doerOf : Nat) (a_tape : Nat) (a_said : Nat) (a_waitsAt : Nat) (a_saidLetter : Nat) (a_saidFrom : Nat) (a_saidHalf : Nat) (a_saidTo : Nat) (a_codes : Nat) (a_clauseOf : Nat) (a_codeFrom : Nat) (a_codeHalf : Nat) (a_codeTo : Nat) (a_stack : Nat) (a_facts : Nat) (a_lineChore : Nat) (a_lineMany : Nat) (a_lineDoer : Nat) (a_newFrom : Nat) (a_newTo : Nat) (a_goFrom : Nat) (a_goTo : Nat) (a_idleFrom : Nat) (a_idleTo : Nat) (a_moreOf : Nat) (a_firstOf : Nat) (a_leftOf : Nat) (a_didOf : Nat) (a_costBy : Nat) (a_gainBy : Nat) (a_hiredOf : Nat) (a_hiredBest : Nat) (a_hiredTo : Nat) (a_turnOf : Nat) (a_turnWho : Nat) (pe : Int32) (ch : Int32) (rt : Int32) (pl : Int32) (le0 : Int32) (fa : Int32) (nu : Int32) (op_ : Int32) (cm : Int32) (wt : Int32) (sm : Int32) (cs : Int32) (li : Int32) (rv : Int32) (du : Int32) (cl : Int32) (gd : Int32) (sd : Int32) (ik : Int32) (T : Nat) (fw : Nat → Int32)  : MR l D cI cB yX10_undoneAll cX10_undoneAll 3 .int (rm 2 42) [.ref h0] [(h0, .inr (10, [.ref a_now, .ref a_aside, .ref a_kept, .ref a_keptFrom, .ref a_keptTo, .ref a_capOf, .ref a_leaveFrom, .ref a_leaveTo, .ref a_amountOf, .ref a_doerMany, .ref a_doerOf, .int pe, .int ch, .int rt, .ref a_tape, .int (nI T), .int pl, .int le0, .int fa, .int nu, .int op_, .int cm, .int wt, .int sm, .int cs, .ref a_said, .ref a_waitsAt, .ref a_saidLetter, .ref a_saidFrom, .ref a_saidHalf, .ref a_saidTo, .ref a_codes, .ref a_clauseOf, .ref a_codeFrom, .ref a_codeHalf, .ref a_codeTo, .ref a_stack, .ref a_facts, .ref a_lineChore, .ref a_lineMany, .ref a_lineDoer, .ref a_newFrom, .ref a_newTo, .int li, .ref a_goFrom, .ref a_goTo, .ref a_idleFrom, .ref a_idleTo, .ref a_moreOf, .ref a_firstOf, .ref a_leftOf, .ref a_didOf, .int rv, .int du, .int cl, .int gd, .ref a_costBy, .int sd, .ref a_gainBy, .ref a_hiredOf, .ref a_hiredBest, .ref a_hiredTo, .ref a_turnOf, .ref a_turnWho, .int ik])), (a_now, .inl (cI, 15, .inl fw))] (fun r : Int32 => True) := by
  refine MR.of (by decide) (Nat.le_of_ble_eq_true rfl) ?_
  intro p e s m below meth c Q ls X hN hP hK hl ret
  obtain ⟨hx, hb, hml, hown, htb⟩ := id X
  have hl : lv_has ls 3 [(0, .ref h0)] := hl
  refine lv_iconst (v := 0) hx hb dX10_undoneAll_0 (by decide) ?_
  refine lv_istore_n (lv' := [(1, .int 0), (0, .ref h0)]) hx hb dX10_undoneAll_1 rfl hl (by decide) rfl (fun ls hl => ?_)
  refine lv_iconst (v := 0) hx hb dX10_undoneAll_2 (by decide) ?_
  refine lv_istore_n (lv' := [(2, .int 0), (1, .int 0), (0, .ref h0)]) hx hb dX10_undoneAll_3 rfl hl (by decide) rfl (fun ls hl => ?_)
  have loop_4 : ∀ (n i : Nat) (v : Int32), n + i = 12 → ∀ (ls : Array Slot), lv_has ls 3 [(0, .ref h0), (1, .int v), (2, .int (nI i))] → W p l e (rm 2 42) s m ([.ref h0] : List Value).toArray below meth c s.heap [] 0 0 Q (F0 m 4 ls []) := by
    intro n
    induction n with
    | zero =>
      intro i v hni ls hl
      have hni_4 := hni
      have hi : i = 12 := by omega
      refine lv_iload_n hx hb dX10_undoneAll_4 rfl (lv_at hl 2 rfl) ?_
      refine lv_bipush (v := 12) hx hb dX10_undoneAll_5 (by decide) ?_
      refine lv_icmp_ge (tgt := 37) hx hb dX10_undoneAll_7 (by decide) (fun _ => ?_) (fun c_7 => absurd (by rw [hi]; decide) c_7)
      refine lv_iload_n hx hb dX10_undoneAll_37 rfl (lv_at hl 1 rfl) ?_
      exact ret _ _ v dX10_undoneAll_38 rfl trivial
    | succ n ih_4 =>
      intro i v hni ls hl
      have hni_4 := hni
      have hi : i < 12 := by omega
      refine lv_iload_n hx hb dX10_undoneAll_4 rfl (lv_at hl 2 rfl) ?_
      refine lv_bipush (v := 12) hx hb dX10_undoneAll_5 (by decide) ?_
      refine lv_icmp_ge (tgt := 37) hx hb dX10_undoneAll_7 (by decide) (fun c_7 => absurd c_7 (nI_ge hi (by decide))) (fun _ => ?_)
      refine lv_iload_n hx hb dX10_undoneAll_10 rfl (lv_at hl 1 rfl) ?_
      refine lv_aload_n hx hb dX10_undoneAll_11 rfl (lv_at hl 0 rfl) ?_
      refine lv_iload_n hx hb dX10_undoneAll_12 rfl (lv_at hl 2 rfl) ?_
      refine cVR (As := [.int (nI i)]) (rest := [.int v]) (n := 1) (ci := 10) (q0 := 0) X hN hK hP (c_X10_isChore l D cI cB h0 a_now a_aside a_kept a_keptFrom a_keptTo a_capOf a_leaveFrom a_leaveTo a_amountOf a_doerMany a_doerOf a_tape a_said a_waitsAt a_saidLetter a_saidFrom a_saidHalf a_saidTo a_codes a_clauseOf a_codeFrom a_codeHalf a_codeTo a_stack a_facts a_lineChore a_lineMany a_lineDoer a_newFrom a_newTo a_goFrom a_goTo a_idleFrom a_idleTo a_moreOf a_firstOf a_leftOf a_didOf a_costBy a_gainBy a_hiredOf a_hiredBest a_hiredTo a_turnOf a_turnWho pe ch rt pl le0 fa nu op_ cm wt sm cs li rv du cl gd sd ik T (nI i)) (gV k_1474 k_1476 k_70 k_103 k_1477) (by decide +kernel) ⟨Nat.le_of_ble_eq_true rfl, Nat.le_of_ble_eq_true rfl⟩ ⟨rfl, rfl⟩ [0] rfl rfl rfl rfl rfl rfl hl.1 (Nat.le_of_ble_eq_true rfl) dX10_undoneAll_13 ⟨Nat.le_of_ble_eq_true rfl, Nat.le_of_ble_eq_true rfl⟩ (fun r_1 hr_1 => ?_)
      refine lv_if_eq (tgt := 28) hx hb dX10_undoneAll_16 (by decide) (fun c_16 => ?_) (fun c_16 => ?_)
      · refine lv_iconst (v := 0) hx hb dX10_undoneAll_28 (by decide) ?_
        refine lv_iadd hx hb dX10_undoneAll_29 ?_
        refine lv_topi (fun x_2 ex_2 => ?_)
        refine lv_istore_n (lv' := [(1, .int x_2), (0, .ref h0), (2, .int (nI i))]) hx hb dX10_undoneAll_30 rfl hl (by decide) rfl (fun ls hl => ?_)
        refine lv_iinc (v := (nI (i + 1))) (lv' := [(2, .int (nI (i + 1))), (1, .int x_2), (0, .ref h0)]) hx hb dX10_undoneAll_31 hl (k := 2) rfl (nI_1 i) (by decide) rfl (fun ls hl => ?_)
        refine lv_goto (tgt := 4) hx hb dX10_undoneAll_34 (by decide) ?_
        exact ih_4 (i + 1) x_2 (by omega) _ (lv_sub hl [2, 1, 0] rfl)
      · refine lv_aload_n hx hb dX10_undoneAll_19 rfl (lv_at hl 0 rfl) ?_
        refine va_get (D := D) (ci := 10) (v := .ref a_now) (C := RX10) (T := TX10) (N := 65) hx hb htb itX10 hown hK hP 0 rfl rfl 0 (by decide) (htb _ k_1068) (fun _ h9 => h9) rfl dX10_undoneAll_20 ?_
        refine lv_iload_n hx hb dX10_undoneAll_23 rfl (lv_at hl 2 rfl) ?_
        refine va_iald hx hb hK hP 1 0 rfl rfl (by have a0 := mt Int32.toInt_inj.mp c_16; have a1 : (0 : Int32).toInt = 0 := (by decide); exact vp_in_nI (by omega) (by decide)) dX10_undoneAll_24 ?_
        refine lv_goto (tgt := 29) hx hb dX10_undoneAll_25 (by decide) ?_
        refine lv_iadd hx hb dX10_undoneAll_29 ?_
        refine lv_topi (fun x_3 ex_3 => ?_)
        refine lv_istore_n (lv' := [(1, .int x_3), (0, .ref h0), (2, .int (nI i))]) hx hb dX10_undoneAll_30 rfl hl (by decide) rfl (fun ls hl => ?_)
        refine lv_iinc (v := (nI (i + 1))) (lv' := [(2, .int (nI (i + 1))), (1, .int x_3), (0, .ref h0)]) hx hb dX10_undoneAll_31 hl (k := 2) rfl (nI_1 i) (by decide) rfl (fun ls hl => ?_)
        refine lv_goto (tgt := 4) hx hb dX10_undoneAll_34 (by decide) ?_
        exact ih_4 (i + 1) x_3 (by omega) _ (lv_sub hl [2, 1, 0] rfl)
  exact loop_4 12 0 0 (by omega) _ (lv_sub hl [2, 1, 0] rfl)

set_option maxRecDepth 100000 in
set_option maxHeartbeats 4000000 in
theorem c_X10_goes (l : Launch) (D : va_G) (cI cB : ClassId) (sz : Nat) (h0 : Nat) (a_now : Nat) (a_aside : Nat) (a_kept : Nat) (a_keptFrom : Nat) (a_keptTo : Nat) (a_capOf : Nat) (a_leaveFrom : Nat) (a_leaveTo : Nat) (a_amountOf : Nat) (a_doerMany : Nat) (a_doerOf : Nat) (a_tape : Nat) (a_said : Nat) (a_waitsAt : Nat) (a_saidLetter : Nat) (a_saidFrom : Nat) (a_saidHalf : Nat) (a_saidTo : Nat) (a_codes : Nat) (a_clauseOf : Nat) (a_codeFrom : Nat) (a_codeHalf : Nat) (a_codeTo : Nat) (a_stack : Nat) (a_facts : Nat) (a_lineChore : Nat) (a_lineMany : Nat) (a_lineDoer : Nat) (a_newFrom : Nat) (a_newTo : Nat) (a_goFrom : Nat) (a_goTo : Nat) (a_idleFrom : Nat) (a_idleTo : Nat) (a_moreOf : Nat) (a_firstOf : Nat) (a_leftOf : Nat) (a_didOf : Nat) (a_costBy : Nat) (a_gainBy : Nat) (a_hiredOf : Nat) (a_hiredBest : Nat) (a_hiredTo : Nat) (a_turnOf : Nat) (a_turnWho : Nat) (pe : Int32) (ch : Int32) (rt : Int32) (pl : Int32) (le0 : Int32) (fa : Int32) (nu : Int32) (op_ : Int32) (cm : Int32) (wt : Int32) (sm : Int32) (cs : Int32) (li : Int32) (rv : Int32) (du : Int32) (cl : Int32) (gd : Int32) (sd : Int32) (ik : Int32) (T : Nat) (k : Nat) (x : Int32) (y : Int32) (fg0 : Nat → Int32) (fg1 : Nat → Int32) (hk : k < 10) : MV (S := ((Nat → Int32) × (Nat → Int32))) l D cI cB yX10_goes cX10_goes 4 (rm 0 0) [.ref h0, .int (nI k), .int x, .int y] [(h0, .inr (10, [.ref a_now, .ref a_aside, .ref a_kept, .ref a_keptFrom, .ref a_keptTo, .ref a_capOf, .ref a_leaveFrom, .ref a_leaveTo, .ref a_amountOf, .ref a_doerMany, .ref a_doerOf, .int pe, .int ch, .int rt, .ref a_tape, .int (nI T), .int pl, .int le0, .int fa, .int nu, .int op_, .int cm, .int wt, .int sm, .int cs, .ref a_said, .ref a_waitsAt, .ref a_saidLetter, .ref a_saidFrom, .ref a_saidHalf, .ref a_saidTo, .ref a_codes, .ref a_clauseOf, .ref a_codeFrom, .ref a_codeHalf, .ref a_codeTo, .ref a_stack, .ref a_facts, .ref a_lineChore, .ref a_lineMany, .ref a_lineDoer, .ref a_newFrom, .ref a_newTo, .int li, .ref a_goFrom, .ref a_goTo, .ref a_idleFrom, .ref a_idleTo, .ref a_moreOf, .ref a_firstOf, .ref a_leftOf, .ref a_didOf, .int rv, .int du, .int cl, .int gd, .ref a_costBy, .int sd, .ref a_gainBy, .ref a_hiredOf, .ref a_hiredBest, .ref a_hiredTo, .ref a_turnOf, .ref a_turnWho, .int ik])), (a_goFrom, .inl (cI, 10, .inl fg0)), (a_goTo, .inl (cI, 10, .inl fg1))] sz (fun u => True) (fun u : ((Nat → Int32) × (Nat → Int32)) => [(h0, .inr (10, [.ref a_now, .ref a_aside, .ref a_kept, .ref a_keptFrom, .ref a_keptTo, .ref a_capOf, .ref a_leaveFrom, .ref a_leaveTo, .ref a_amountOf, .ref a_doerMany, .ref a_doerOf, .int pe, .int ch, .int rt, .ref a_tape, .int (nI T), .int pl, .int le0, .int fa, .int nu, .int op_, .int cm, .int wt, .int sm, .int cs, .ref a_said, .ref a_waitsAt, .ref a_saidLetter, .ref a_saidFrom, .ref a_saidHalf, .ref a_saidTo, .ref a_codes, .ref a_clauseOf, .ref a_codeFrom, .ref a_codeHalf, .ref a_codeTo, .ref a_stack, .ref a_facts, .ref a_lineChore, .ref a_lineMany, .ref a_lineDoer, .ref a_newFrom, .ref a_newTo, .int li, .ref a_goFrom, .ref a_goTo, .ref a_idleFrom, .ref a_idleTo, .ref a_moreOf, .ref a_firstOf, .ref a_leftOf, .ref a_didOf, .int rv, .int du, .int cl, .int gd, .ref a_costBy, .int sd, .ref a_gainBy, .ref a_hiredOf, .ref a_hiredBest, .ref a_hiredTo, .ref a_turnOf, .ref a_turnWho, .int ik])), (a_goFrom, .inl (cI, 10, .inl u.1)), (a_goTo, .inl (cI, 10, .inl u.2))]) := by
  refine MV.of (by decide) (Nat.le_of_ble_eq_true rfl) ?_
  intro p e s m below meth c Q ls A X hin hN hP hK hD hA hl ret
  have hS : va_S A s.heap s.heap [] := va_S.rf
  obtain ⟨hx, hb, hml, hown, htb⟩ := id X
  have hl : lv_has ls 4 [(0, .ref h0), (1, .int (nI k)), (2, .int x), (3, .int y)] := hl
  refine lv_aload_n hx hb dX10_goes_0 rfl (lv_at hl 0 rfl) ?_
  refine va_get (D := D) (ci := 10) (v := .ref a_goFrom) (C := RX10) (T := TX10) (N := 65) hx hb htb itX10 hown hK hP 0 rfl rfl 44 (by decide) (htb _ k_1112) (fun _ h9 => h9) rfl dX10_goes_1 ?_
  refine lv_iload_n hx hb dX10_goes_4 rfl (lv_at hl 1 rfl) ?_
  refine lv_iload_n hx hb dX10_goes_5 rfl (lv_at hl 2 rfl) ?_
  refine va_iast hx hb hK hP hD hS 1 0 rfl rfl (vp_in_nI (by omega) (by decide)) dX10_goes_6 (fun H locs hP hD hS => ?_)
  obtain ⟨f_1, ef_1⟩ : ∃ g : Nat → Int32, g = upd fg0 (Int32.toNatClampNeg (nI k)) x := ⟨_, rfl⟩
  rw [← ef_1] at hP hD
  have hP : va_P D vwCl [(h0, .inr (10, [.ref a_now, .ref a_aside, .ref a_kept, .ref a_keptFrom, .ref a_keptTo, .ref a_capOf, .ref a_leaveFrom, .ref a_leaveTo, .ref a_amountOf, .ref a_doerMany, .ref a_doerOf, .int pe, .int ch, .int rt, .ref a_tape, .int (nI T), .int pl, .int le0, .int fa, .int nu, .int op_, .int cm, .int wt, .int sm, .int cs, .ref a_said, .ref a_waitsAt, .ref a_saidLetter, .ref a_saidFrom, .ref a_saidHalf, .ref a_saidTo, .ref a_codes, .ref a_clauseOf, .ref a_codeFrom, .ref a_codeHalf, .ref a_codeTo, .ref a_stack, .ref a_facts, .ref a_lineChore, .ref a_lineMany, .ref a_lineDoer, .ref a_newFrom, .ref a_newTo, .int li, .ref a_goFrom, .ref a_goTo, .ref a_idleFrom, .ref a_idleTo, .ref a_moreOf, .ref a_firstOf, .ref a_leftOf, .ref a_didOf, .int rv, .int du, .int cl, .int gd, .ref a_costBy, .int sd, .ref a_gainBy, .ref a_hiredOf, .ref a_hiredBest, .ref a_hiredTo, .ref a_turnOf, .ref a_turnWho, .int ik])), (a_goFrom, .inl (cI, 10, .inl f_1)), (a_goTo, .inl (cI, 10, .inl fg1))] H := hP
  have hD : va_D A [(h0, .inr (10, [.ref a_now, .ref a_aside, .ref a_kept, .ref a_keptFrom, .ref a_keptTo, .ref a_capOf, .ref a_leaveFrom, .ref a_leaveTo, .ref a_amountOf, .ref a_doerMany, .ref a_doerOf, .int pe, .int ch, .int rt, .ref a_tape, .int (nI T), .int pl, .int le0, .int fa, .int nu, .int op_, .int cm, .int wt, .int sm, .int cs, .ref a_said, .ref a_waitsAt, .ref a_saidLetter, .ref a_saidFrom, .ref a_saidHalf, .ref a_saidTo, .ref a_codes, .ref a_clauseOf, .ref a_codeFrom, .ref a_codeHalf, .ref a_codeTo, .ref a_stack, .ref a_facts, .ref a_lineChore, .ref a_lineMany, .ref a_lineDoer, .ref a_newFrom, .ref a_newTo, .int li, .ref a_goFrom, .ref a_goTo, .ref a_idleFrom, .ref a_idleTo, .ref a_moreOf, .ref a_firstOf, .ref a_leftOf, .ref a_didOf, .int rv, .int du, .int cl, .int gd, .ref a_costBy, .int sd, .ref a_gainBy, .ref a_hiredOf, .ref a_hiredBest, .ref a_hiredTo, .ref a_turnOf, .ref a_turnWho, .int ik])), (a_goFrom, .inl (cI, 10, .inl f_1)), (a_goTo, .inl (cI, 10, .inl fg1))] := hD
  refine lv_aload_n hx hb dX10_goes_7 rfl (lv_at hl 0 rfl) ?_
  refine va_get (D := D) (ci := 10) (v := .ref a_goTo) (C := RX10) (T := TX10) (N := 65) hx hb htb itX10 hown hK hP 0 rfl rfl 45 (by decide) (htb _ k_1113) (fun _ h9 => h9) rfl dX10_goes_8 ?_
  refine lv_iload_n hx hb dX10_goes_11 rfl (lv_at hl 1 rfl) ?_
  refine lv_iload_n hx hb dX10_goes_12 rfl (lv_at hl 3 rfl) ?_
  refine va_iast hx hb hK hP hD hS 2 0 rfl rfl (vp_in_nI (by omega) (by decide)) dX10_goes_13 (fun H locs hP hD hS => ?_)
  obtain ⟨f_2, ef_2⟩ : ∃ g : Nat → Int32, g = upd fg1 (Int32.toNatClampNeg (nI k)) y := ⟨_, rfl⟩
  rw [← ef_2] at hP hD
  have hP : va_P D vwCl [(h0, .inr (10, [.ref a_now, .ref a_aside, .ref a_kept, .ref a_keptFrom, .ref a_keptTo, .ref a_capOf, .ref a_leaveFrom, .ref a_leaveTo, .ref a_amountOf, .ref a_doerMany, .ref a_doerOf, .int pe, .int ch, .int rt, .ref a_tape, .int (nI T), .int pl, .int le0, .int fa, .int nu, .int op_, .int cm, .int wt, .int sm, .int cs, .ref a_said, .ref a_waitsAt, .ref a_saidLetter, .ref a_saidFrom, .ref a_saidHalf, .ref a_saidTo, .ref a_codes, .ref a_clauseOf, .ref a_codeFrom, .ref a_codeHalf, .ref a_codeTo, .ref a_stack, .ref a_facts, .ref a_lineChore, .ref a_lineMany, .ref a_lineDoer, .ref a_newFrom, .ref a_newTo, .int li, .ref a_goFrom, .ref a_goTo, .ref a_idleFrom, .ref a_idleTo, .ref a_moreOf, .ref a_firstOf, .ref a_leftOf, .ref a_didOf, .int rv, .int du, .int cl, .int gd, .ref a_costBy, .int sd, .ref a_gainBy, .ref a_hiredOf, .ref a_hiredBest, .ref a_hiredTo, .ref a_turnOf, .ref a_turnWho, .int ik])), (a_goFrom, .inl (cI, 10, .inl f_1)), (a_goTo, .inl (cI, 10, .inl f_2))] H := hP
  have hD : va_D A [(h0, .inr (10, [.ref a_now, .ref a_aside, .ref a_kept, .ref a_keptFrom, .ref a_keptTo, .ref a_capOf, .ref a_leaveFrom, .ref a_leaveTo, .ref a_amountOf, .ref a_doerMany, .ref a_doerOf, .int pe, .int ch, .int rt, .ref a_tape, .int (nI T), .int pl, .int le0, .int fa, .int nu, .int op_, .int cm, .int wt, .int sm, .int cs, .ref a_said, .ref a_waitsAt, .ref a_saidLetter, .ref a_saidFrom, .ref a_saidHalf, .ref a_saidTo, .ref a_codes, .ref a_clauseOf, .ref a_codeFrom, .ref a_codeHalf, .ref a_codeTo, .ref a_stack, .ref a_facts, .ref a_lineChore, .ref a_lineMany, .ref a_lineDoer, .ref a_newFrom, .ref a_newTo, .int li, .ref a_goFrom, .ref a_goTo, .ref a_idleFrom, .ref a_idleTo, .ref a_moreOf, .ref a_firstOf, .ref a_leftOf, .ref a_didOf, .int rv, .int du, .int cl, .int gd, .ref a_costBy, .int sd, .ref a_gainBy, .ref a_hiredOf, .ref a_hiredBest, .ref a_hiredTo, .ref a_turnOf, .ref a_turnWho, .int ik])), (a_goFrom, .inl (cI, 10, .inl f_1)), (a_goTo, .inl (cI, 10, .inl f_2))] := hD
  exact ret _ _ _ _ (f_1, f_2) dX10_goes_14 trivial (hP.sub [0, 1, 2] rfl) (hD.sub [0, 1, 2] (by decide) rfl) hS
