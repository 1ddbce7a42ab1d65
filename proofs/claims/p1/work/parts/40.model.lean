set_option maxRecDepth 100000 in
set_option maxHeartbeats 4000000 in
theorem c_X10_bits (l : Launch) (D : va_G) (cI cB : ClassId) (a : Int32)  : MR l D cI cB yX10_bits cX10_bits 3 .int (rm 0 0) [.int a] [] (fun r : Int32 => a = 0 → r = 0) := by
  refine MR.of (by decide) (Nat.le_of_ble_eq_true rfl) ?_
  intro p e s m below meth c Q ls X hN hP hK hl ret
  obtain ⟨hx, hb, hml, hown, htb⟩ := id X
  have hl : lv_has ls 3 [(0, .int a)] := hl
  refine lv_iconst (v := 0) hx hb dX10_bits_0 (by decide) ?_
  refine lv_istore_n (lv' := [(1, .int 0), (0, .int a)]) hx hb dX10_bits_1 rfl hl (by decide) rfl (fun ls hl => ?_)
  refine lv_iconst (v := 0) hx hb dX10_bits_2 (by decide) ?_
  refine lv_istore_n (lv' := [(2, .int 0), (1, .int 0), (0, .int a)]) hx hb dX10_bits_3 rfl hl (by decide) rfl (fun ls hl => ?_)
  have loop_4 : ∀ (n i : Nat) (v : Int32), n + i = 12 → (a = 0 → v = 0) → ∀ (ls : Array Slot), lv_has ls 3 [(0, .int a), (1, .int v), (2, .int (nI i))] → W p l e (rm 0 0) s m ([.int a] : List Value).toArray below meth c s.heap [] 0 0 Q (F0 m 4 ls []) := by
    intro n
    induction n with
    | zero =>
      intro i v hni hv ls hl
      have hi : i = 12 := by omega
      subst hi
      refine lv_iload_n hx hb dX10_bits_4 rfl (lv_at hl 2 rfl) ?_
      refine lv_bipush (v := 12) hx hb dX10_bits_5 (by decide) ?_
      refine lv_icmp_ge (tgt := 24) hx hb dX10_bits_7 (by decide) (fun _ => ?_) (fun c_7 => absurd (by decide) c_7)
      refine lv_iload_n hx hb dX10_bits_24 rfl (lv_at hl 1 rfl) ?_
      exact ret _ _ v dX10_bits_25 rfl hv
    | succ n ih =>
      intro i v hni hv ls hl
      have hi : i < 12 := by omega
      refine lv_iload_n hx hb dX10_bits_4 rfl (lv_at hl 2 rfl) ?_
      refine lv_bipush (v := 12) hx hb dX10_bits_5 (by decide) ?_
      refine lv_icmp_ge (tgt := 24) hx hb dX10_bits_7 (by decide) (fun c_7 => absurd c_7 (nI_ge hi (by decide))) (fun _ => ?_)
      refine lv_iload_n hx hb dX10_bits_10 rfl (lv_at hl 1 rfl) ?_
      refine lv_iload_n hx hb dX10_bits_11 rfl (lv_at hl 0 rfl) ?_
      refine lv_iload_n hx hb dX10_bits_12 rfl (lv_at hl 2 rfl) ?_
      refine lv_ishr hx hb dX10_bits_13 ?_
      refine lv_iconst (v := 1) hx hb dX10_bits_14 (by decide) ?_
      refine lv_iand hx hb dX10_bits_15 ?_
      refine lv_iadd hx hb dX10_bits_16 ?_
      refine lv_topi (fun x_1 ex_1 => ?_)
      refine lv_istore_n (lv' := [(1, .int x_1), (0, .int a), (2, .int (nI i))]) hx hb dX10_bits_17 rfl hl (by decide) rfl (fun ls hl => ?_)
      refine lv_iinc (v := (nI (i + 1))) (lv' := [(2, .int (nI (i + 1))), (1, .int x_1), (0, .int a)]) hx hb dX10_bits_18 hl (k := 2) rfl (nI_1 i) (by decide) rfl (fun ls hl => ?_)
      refine lv_goto (tgt := 4) hx hb dX10_bits_21 (by decide) ?_
      exact ih (i + 1) x_1 (by omega) (fun h => by rw [ex_1, hv h, h, sz0]; decide) _ (lv_sub hl [2, 1, 0] rfl)
  exact loop_4 12 0 0 (by omega) (fun _ => rfl) _ (lv_sub hl [2, 1, 0] rfl)

set_option maxRecDepth 100000 in
set_option maxHeartbeats 4000000 in
theorem c_X10_areDays (l : Launch) (D : va_G) (cI cB : ClassId) (x : Int32)  : MR l D cI cB yX10_areDays cX10_areDays 1 .boolean (rm 1 22) [.int x] [] (fun r : Int32 => r = bI (1 ≤ x ∧ x ≤ 60)) := by
  refine MR.of (by decide) (Nat.le_of_ble_eq_true rfl) ?_
  intro p e s m below meth c Q ls X hN hP hK hl ret
  obtain ⟨hx, hb, hml, hown, htb⟩ := id X
  have hl : lv_has ls 1 [(0, .int x)] := hl
  refine lv_iload_n hx hb dX10_areDays_0 rfl (lv_at hl 0 rfl) ?_
  refine lv_iconst (v := 1) hx hb dX10_areDays_1 (by decide) ?_
  refine lv_bipush (v := 60) hx hb dX10_areDays_2 (by decide) ?_
  refine cSR (As := [.int x, .int 1, .int 60]) (rest := []) (n := 3) X hN hK hP (c_X10_in l D cI cB x 1 60) k_1268 k_1269 k_103 k_1270 (by decide +kernel) ⟨Nat.le_of_ble_eq_true rfl, Nat.le_of_ble_eq_true rfl⟩ ⟨rfl, rfl⟩ [] rfl rfl rfl hl.1 (Nat.le_of_ble_eq_true rfl) dX10_areDays_4 ⟨Nat.le_of_ble_eq_true rfl, Nat.le_of_ble_eq_true rfl⟩ (fun r_1 hr_1 => ?_)
  subst hr_1
  exact ret _ _ (bI (1 ≤ x ∧ x ≤ 60)) dX10_areDays_7 (bIn _) rfl

set_option maxRecDepth 100000 in
set_option maxHeartbeats 4000000 in
theorem c_X10_isPerson (l : Launch) (D : va_G) (cI cB : ClassId) (h0 : Nat) (a_now : Nat) (a_aside : Nat) (a_kept : Nat) (a_keptFrom : Nat) (a_keptTo : Nat) (a_capOf : Nat) (a_leaveFrom : Nat) (a_leaveTo : Nat) (a_amountOf : Nat) (a_doerMany : Nat) (a_doerOf : Nat) (a_tape : Nat) (a_said : Nat) (a_waitsAt : Nat) (a_saidLetter : Nat) (a_saidFrom : Nat) (a_saidHalf : Nat) (a_saidTo : Nat) (a_codes : Nat) (a_clauseOf : Nat) (a_codeFrom : Nat) (a_codeHalf : Nat) (a_codeTo : Nat) (a_stack : Nat) (a_facts : Nat) (a_lineChore : Nat) (a_lineMany : Nat) (a_lineDoer : Nat) (a_newFrom : Nat) (a_newTo : Nat) (a_goFrom : Nat) (a_goTo : Nat) (a_idleFrom : Nat) (a_idleTo : Nat) (a_moreOf : Nat) (a_firstOf : Nat) (a_leftOf : Nat) (a_didOf : Nat) (a_costBy : Nat) (a_gainBy : Nat) (a_hiredOf : Nat) (a_hiredBest : Nat) (a_hiredTo : Nat) (a_turnOf : Nat) (a_turnWho : Nat) (rv : Int32) (du : Int32) (cl : Int32) (gd : Int32) (k : Int32)  : MR l D cI cB yX10_isPerson cX10_isPerson 2 .boolean (rm 1 21) [.ref h0, .int k] [(h0, .inr (10, [.ref a_now, .ref a_aside, .ref a_kept, .ref a_keptFrom, .ref a_keptTo, .ref a_capOf, .ref a_leaveFrom, .ref a_leaveTo, .ref a_amountOf, .ref a_doerMany, .ref a_doerOf, .int 0, .int 0, .int 0, .ref a_tape, .int 0, .int 0, .int 0, .int 0, .int 0, .int 0, .int 0, .int 0, .int 0, .int 0, .ref a_said, .ref a_waitsAt, .ref a_saidLetter, .ref a_saidFrom, .ref a_saidHalf, .ref a_saidTo, .ref a_codes, .ref a_clauseOf, .ref a_codeFrom, .ref a_codeHalf, .ref a_codeTo, .ref a_stack, .ref a_facts, .ref a_lineChore, .ref a_lineMany, .ref a_lineDoer, .ref a_newFrom, .ref a_newTo, .int 0, .ref a_goFrom, .ref a_goTo, .ref a_idleFrom, .ref a_idleTo, .ref a_moreOf, .ref a_firstOf, .ref a_leftOf, .ref a_didOf, .int rv, .int du, .int cl, .int gd, .ref a_costBy, .int 0, .ref a_gainBy, .ref a_hiredOf, .ref a_hiredBest, .ref a_hiredTo, .ref a_turnOf, .ref a_turnWho, .int 0]))] (fun r : Int32 => r = 0) := by
  refine MR.of (by decide) (Nat.le_of_ble_eq_true rfl) ?_
  intro p e s m below meth c Q ls X hN hP hK hl ret
  obtain ⟨hx, hb, hml, hown, htb⟩ := id X
  have hl : lv_has ls 2 [(0, .ref h0), (1, .int k)] := hl
  refine lv_iload_n hx hb dX10_isPerson_0 rfl (lv_at hl 1 rfl) ?_
  refine lv_if_lt (tgt := 25) hx hb dX10_isPerson_1 (by decide) (fun c_1 => ?_) (fun c_1 => ?_)
  · refine lv_iconst (v := 0) hx hb dX10_isPerson_25 (by decide) ?_
    exact ret _ _ 0 dX10_isPerson_26 rfl rfl
  · refine lv_iload_n hx hb dX10_isPerson_4 rfl (lv_at hl 1 rfl) ?_
    refine lv_bipush (v := 10) hx hb dX10_isPerson_5 (by decide) ?_
    refine lv_icmp_ge (tgt := 25) hx hb dX10_isPerson_7 (by decide) (fun c_7 => ?_) (fun c_7 => ?_)
    · refine lv_iconst (v := 0) hx hb dX10_isPerson_25 (by decide) ?_
      exact ret _ _ 0 dX10_isPerson_26 rfl rfl
    · refine lv_aload_n hx hb dX10_isPerson_10 rfl (lv_at hl 0 rfl) ?_
      refine va_get (D := D) (ci := 10) (v := .int 0) (C := RX10) (T := TX10) (N := 65) hx hb htb itX10 hown hK hP 0 rfl rfl 11 (by decide) (htb _ k_1079) (fun _ h9 => h9) rfl dX10_isPerson_11 ?_
      refine lv_iload_n hx hb dX10_isPerson_14 rfl (lv_at hl 1 rfl) ?_
      refine cSR (As := [.int 0, .int k]) (rest := []) (n := 2) X hN hK hP (c_X10_has l D cI cB 0 k) k_1385 k_1386 k_103 k_1387 (by decide +kernel) ⟨Nat.le_of_ble_eq_true rfl, Nat.le_of_ble_eq_true rfl⟩ ⟨rfl, rfl⟩ [] rfl rfl rfl hl.1 (Nat.le_of_ble_eq_true rfl) dX10_isPerson_15 ⟨Nat.le_of_ble_eq_true rfl, Nat.le_of_ble_eq_true rfl⟩ (fun r_1 hr_1 => ?_)
      subst hr_1
      refine lv_if_eq (tgt := 25) hx hb dX10_isPerson_18 (by decide) (fun _ => ?_) (fun c_18 => absurd ((bI0 (sh0 _)).symm) c_18)
      refine lv_iconst (v := 0) hx hb dX10_isPerson_25 (by decide) ?_
      exact ret _ _ 0 dX10_isPerson_26 rfl rfl

set_option maxRecDepth 100000 in
set_option maxHeartbeats 4000000 in
theorem c_X10_isChore (l : Launch) (D : va_G) (cI cB : ClassId) (h0 : Nat) (a_now : Nat) (a_aside : Nat) (a_kept : Nat) (a_keptFrom : Nat) (a_keptTo : Nat) (a_capOf : Nat) (a_leaveFrom : Nat) (a_leaveTo : Nat) (a_amountOf : Nat) (a_doerMany : Nat) (a_doerOf : Nat) (a_tape : Nat) (a_said : Nat) (a_waitsAt : Nat) (a_saidLetter : Nat) (a_saidFrom : Nat) (a_saidHalf : Nat) (a_saidTo : Nat) (a_codes : Nat) (a_clauseOf : Nat) (a_codeFrom : Nat) (a_codeHalf : Nat) (a_codeTo : Nat) (a_stack : Nat) (a_facts : Nat) (a_lineChore : Nat) (a_lineMany : Nat) (a_lineDoer : Nat) (a_newFrom : Nat) (a_newTo : Nat) (a_goFrom : Nat) (a_goTo : Nat) (a_idleFrom : Nat) (a_idleTo : Nat) (a_moreOf : Nat) (a_firstOf : Nat) (a_leftOf : Nat) (a_didOf : Nat) (a_costBy : Nat) (a_gainBy : Nat) (a_hiredOf : Nat) (a_hiredBest : Nat) (a_hiredTo : Nat) (a_turnOf : Nat) (a_turnWho : Nat) (rv : Int32) (du : Int32) (cl : Int32) (gd : Int32) (k : Int32)  : MR l D cI cB yX10_isChore cX10_isChore 2 .boolean (rm 1 21) [.ref h0, .int k] [(h0, .inr (10, [.ref a_now, .ref a_aside, .ref a_kept, .ref a_keptFrom, .ref a_keptTo, .ref a_capOf, .ref a_leaveFrom, .ref a_leaveTo, .ref a_amountOf, .ref a_doerMany, .ref a_doerOf, .int 0, .int 0, .int 0, .ref a_tape, .int 0, .int 0, .int 0, .int 0, .int 0, .int 0, .int 0, .int 0, .int 0, .int 0, .ref a_said, .ref a_waitsAt, .ref a_saidLetter, .ref a_saidFrom, .ref a_saidHalf, .ref a_saidTo, .ref a_codes, .ref a_clauseOf, .ref a_codeFrom, .ref a_codeHalf, .ref a_codeTo, .ref a_stack, .ref a_facts, .ref a_lineChore, .ref a_lineMany, .ref a_lineDoer, .ref a_newFrom, .ref a_newTo, .int 0, .ref a_goFrom, .ref a_goTo, .ref a_idleFrom, .ref a_idleTo, .ref a_moreOf, .ref a_firstOf, .ref a_leftOf, .ref a_didOf, .int rv, .int du, .int cl, .int gd, .ref a_costBy, .int 0, .ref a_gainBy, .ref a_hiredOf, .ref a_hiredBest, .ref a_hiredTo, .ref a_turnOf, .ref a_turnWho, .int 0]))] (fun r : Int32 => r = 0) := by
  refine MR.of (by decide) (Nat.le_of_ble_eq_true rfl) ?_
  intro p e s m below meth c Q ls X hN hP hK hl ret
  obtain ⟨hx, hb, hml, hown, htb⟩ := id X
  have hl : lv_has ls 2 [(0, .ref h0), (1, .int k)] := hl
  refine lv_iload_n hx hb dX10_isChore_0 rfl (lv_at hl 1 rfl) ?_
  refine lv_if_lt (tgt := 25) hx hb dX10_isChore_1 (by decide) (fun c_1 => ?_) (fun c_1 => ?_)
  · refine lv_iconst (v := 0) hx hb dX10_isChore_25 (by decide) ?_
    exact ret _ _ 0 dX10_isChore_26 rfl rfl
  · refine lv_iload_n hx hb dX10_isChore_4 rfl (lv_at hl 1 rfl) ?_
    refine lv_bipush (v := 12) hx hb dX10_isChore_5 (by decide) ?_
    refine lv_icmp_ge (tgt := 25) hx hb dX10_isChore_7 (by decide) (fun c_7 => ?_) (fun c_7 => ?_)
    · refine lv_iconst (v := 0) hx hb dX10_isChore_25 (by decide) ?_
      exact ret _ _ 0 dX10_isChore_26 rfl rfl
    · refine lv_aload_n hx hb dX10_isChore_10 rfl (lv_at hl 0 rfl) ?_
      refine va_get (D := D) (ci := 10) (v := .int 0) (C := RX10) (T := TX10) (N := 65) hx hb htb itX10 hown hK hP 0 rfl rfl 12 (by decide) (htb _ k_1080) (fun _ h9 => h9) rfl dX10_isChore_11 ?_
      refine lv_iload_n hx hb dX10_isChore_14 rfl (lv_at hl 1 rfl) ?_
      refine cSR (As := [.int 0, .int k]) (rest := []) (n := 2) X hN hK hP (c_X10_has l D cI cB 0 k) k_1385 k_1386 k_103 k_1387 (by decide +kernel) ⟨Nat.le_of_ble_eq_true rfl, Nat.le_of_ble_eq_true rfl⟩ ⟨rfl, rfl⟩ [] rfl rfl rfl hl.1 (Nat.le_of_ble_eq_true rfl) dX10_isChore_15 ⟨Nat.le_of_ble_eq_true rfl, Nat.le_of_ble_eq_true rfl⟩ (fun r_1 hr_1 => ?_)
      subst hr_1
      refine lv_if_eq (tgt := 25) hx hb dX10_isChore_18 (by decide) (fun _ => ?_) (fun c_18 => absurd ((bI0 (sh0 _)).symm) c_18)
      refine lv_iconst (v := 0) hx hb dX10_isChore_25 (by decide) ?_
      exact ret _ _ 0 dX10_isChore_26 rfl rfl

set_option maxRecDepth 100000 in
set_option maxHeartbeats 4000000 in
theorem c_X10_hasLeave (l : Launch) (D : va_G) (cI cB : ClassId) (h0 : Nat) (a_now : Nat) (a_aside : Nat) (a_kept : Nat) (a_keptFrom : Nat) (a_keptTo : Nat) (a_capOf : Nat) (a_leaveFrom : Nat) (a_leaveTo : Nat) (a_amountOf : Nat) (a_doerMany : Nat) (a_doerOf : Nat) (a_tape : Nat) (a_said : Nat) (a_waitsAt : Nat) (a_saidLetter : Nat) (a_saidFrom : Nat) (a_saidHalf : Nat) (a_saidTo : Nat) (a_codes : Nat) (a_clauseOf : Nat) (a_codeFrom : Nat) (a_codeHalf : Nat) (a_codeTo : Nat) (a_stack : Nat) (a_facts : Nat) (a_lineChore : Nat) (a_lineMany : Nat) (a_lineDoer : Nat) (a_newFrom : Nat) (a_newTo : Nat) (a_goFrom : Nat) (a_goTo : Nat) (a_idleFrom : Nat) (a_idleTo : Nat) (a_moreOf : Nat) (a_firstOf : Nat) (a_leftOf : Nat) (a_didOf : Nat) (a_costBy : Nat) (a_gainBy : Nat) (a_hiredOf : Nat) (a_hiredBest : Nat) (a_hiredTo : Nat) (a_turnOf : Nat) (a_turnWho : Nat) (rv : Int32) (du : Int32) (cl : Int32) (gd : Int32) (k : Nat) (fl : Nat → Int32) (hk : k < 10) (hf : ∀ j, j < 10 → fl j = -2) : MR l D cI cB yX10_hasLeave cX10_hasLeave 2 .boolean (rm 0 0) [.ref h0, .int (nI k)] [(h0, .inr (10, [.ref a_now, .ref a_aside, .ref a_kept, .ref a_keptFrom, .ref a_keptTo, .ref a_capOf, .ref a_leaveFrom, .ref a_leaveTo, .ref a_amountOf, .ref a_doerMany, .ref a_doerOf, .int 0, .int 0, .int 0, .ref a_tape, .int 0, .int 0, .int 0, .int 0, .int 0, .int 0, .int 0, .int 0, .int 0, .int 0, .ref a_said, .ref a_waitsAt, .ref a_saidLetter, .ref a_saidFrom, .ref a_saidHalf, .ref a_saidTo, .ref a_codes, .ref a_clauseOf, .ref a_codeFrom, .ref a_codeHalf, .ref a_codeTo, .ref a_stack, .ref a_facts, .ref a_lineChore, .ref a_lineMany, .ref a_lineDoer, .ref a_newFrom, .ref a_newTo, .int 0, .ref a_goFrom, .ref a_goTo, .ref a_idleFrom, .ref a_idleTo, .ref a_moreOf, .ref a_firstOf, .ref a_leftOf, .ref a_didOf, .int rv, .int du, .int cl, .int gd, .ref a_costBy, .int 0, .ref a_gainBy, .ref a_hiredOf, .ref a_hiredBest, .ref a_hiredTo, .ref a_turnOf, .ref a_turnWho, .int 0])), (a_leaveFrom, .inl (cI, 10, .inl fl))] (fun r : Int32 => r = 0) := by
  refine MR.of (by decide) (Nat.le_of_ble_eq_true rfl) ?_
  intro p e s m below meth c Q ls X hN hP hK hl ret
  obtain ⟨hx, hb, hml, hown, htb⟩ := id X
  have hl : lv_has ls 2 [(0, .ref h0), (1, .int (nI k))] := hl
  refine lv_aload_n hx hb dX10_hasLeave_0 rfl (lv_at hl 0 rfl) ?_
  refine va_get (D := D) (ci := 10) (v := .ref a_leaveFrom) (C := RX10) (T := TX10) (N := 65) hx hb htb itX10 hown hK hP 0 rfl rfl 6 (by decide) (htb _ k_1074) (fun _ h9 => h9) rfl dX10_hasLeave_1 ?_
  refine lv_iload_n hx hb dX10_hasLeave_4 rfl (lv_at hl 1 rfl) ?_
  refine va_iald hx hb hK hP 1 0 rfl rfl (vp_in_nI (by omega) (by decide)) dX10_hasLeave_5 ?_
  refine tv (z := (-2)) (by rw [nI_clamp (by omega)]; exact hf _ hk) ?_
  refine lv_bipush (v := (-2)) hx hb dX10_hasLeave_6 (by decide) ?_
  refine lv_icmp_eq (tgt := 15) hx hb dX10_hasLeave_8 (by decide) (fun _ => ?_) (fun c_8 => absurd (by decide) c_8)
  refine lv_iconst (v := 0) hx hb dX10_hasLeave_15 (by decide) ?_
  exact ret _ _ 0 dX10_hasLeave_16 rfl rfl

set_option maxRecDepth 100000 in
set_option maxHeartbeats 4000000 in
theorem c_X10_isGoer (l : Launch) (D : va_G) (cI cB : ClassId) (h0 : Nat) (a_now : Nat) (a_aside : Nat) (a_kept : Nat) (a_keptFrom : Nat) (a_keptTo : Nat) (a_capOf : Nat) (a_leaveFrom : Nat) (a_leaveTo : Nat) (a_amountOf : Nat) (a_doerMany : Nat) (a_doerOf : Nat) (a_tape : Nat) (a_said : Nat) (a_waitsAt : Nat) (a_saidLetter : Nat) (a_saidFrom : Nat) (a_saidHalf : Nat) (a_saidTo : Nat) (a_codes : Nat) (a_clauseOf : Nat) (a_codeFrom : Nat) (a_codeHalf : Nat) (a_codeTo : Nat) (a_stack : Nat) (a_facts : Nat) (a_lineChore : Nat) (a_lineMany : Nat) (a_lineDoer : Nat) (a_newFrom : Nat) (a_newTo : Nat) (a_goFrom : Nat) (a_goTo : Nat) (a_idleFrom : Nat) (a_idleTo : Nat) (a_moreOf : Nat) (a_firstOf : Nat) (a_leftOf : Nat) (a_didOf : Nat) (a_costBy : Nat) (a_gainBy : Nat) (a_hiredOf : Nat) (a_hiredBest : Nat) (a_hiredTo : Nat) (a_turnOf : Nat) (a_turnWho : Nat) (rv : Int32) (du : Int32) (cl : Int32) (gd : Int32) (k : Int32)  : MR l D cI cB yX10_isGoer cX10_isGoer 2 .boolean (rm 2 42) [.ref h0, .int k] [(h0, .inr (10, [.ref a_now, .ref a_aside, .ref a_kept, .ref a_keptFrom, .ref a_keptTo, .ref a_capOf, .ref a_leaveFrom, .ref a_leaveTo, .ref a_amountOf, .ref a_doerMany, .ref a_doerOf, .int 0, .int 0, .int 0, .ref a_tape, .int 0, .int 0, .int 0, .int 0, .int 0, .int 0, .int 0, .int 0, .int 0, .int 0, .ref a_said, .ref a_waitsAt, .ref a_saidLetter, .ref a_saidFrom, .ref a_saidHalf, .ref a_saidTo, .ref a_codes, .ref a_clauseOf, .ref a_codeFrom, .ref a_codeHalf, .ref a_codeTo, .ref a_stack, .ref a_facts, .ref a_lineChore, .ref a_lineMany, .ref a_lineDoer, .ref a_newFrom, .ref a_newTo, .int 0, .ref a_goFrom, .ref a_goTo, .ref a_idleFrom, .ref a_idleTo, .ref a_moreOf, .ref a_firstOf, .ref a_leftOf, .ref a_didOf, .int rv, .int du, .int cl, .int gd, .ref a_costBy, .int 0, .ref a_gainBy, .ref a_hiredOf, .ref a_hiredBest, .ref a_hiredTo, .ref a_turnOf, .ref a_turnWho, .int 0]))] (fun r : Int32 => r = 0) := by
  refine MR.of (by decide) (Nat.le_of_ble_eq_true rfl) ?_
  intro p e s m below meth c Q ls X hN hP hK hl ret
  obtain ⟨hx, hb, hml, hown, htb⟩ := id X
  have hl : lv_has ls 2 [(0, .ref h0), (1, .int k)] := hl
  refine lv_aload_n hx hb dX10_isGoer_0 rfl (lv_at hl 0 rfl) ?_
  refine lv_iload_n hx hb dX10_isGoer_1 rfl (lv_at hl 1 rfl) ?_
  refine cVR (As := [.int k]) (rest := []) (n := 1) (ci := 10) (q0 := 0) X hN hK hP (c_X10_isPerson l D cI cB h0 a_now a_aside a_kept a_keptFrom a_keptTo a_capOf a_leaveFrom a_leaveTo a_amountOf a_doerMany a_doerOf a_tape a_said a_waitsAt a_saidLetter a_saidFrom a_saidHalf a_saidTo a_codes a_clauseOf a_codeFrom a_codeHalf a_codeTo a_stack a_facts a_lineChore a_lineMany a_lineDoer a_newFrom a_newTo a_goFrom a_goTo a_idleFrom a_idleTo a_moreOf a_firstOf a_leftOf a_didOf a_costBy a_gainBy a_hiredOf a_hiredBest a_hiredTo a_turnOf a_turnWho rv du cl gd k) (gV k_1451 k_1453 k_65 k_103 k_1454) (by decide +kernel) ⟨Nat.le_of_ble_eq_true rfl, Nat.le_of_ble_eq_true rfl⟩ ⟨rfl, rfl⟩ [0] rfl rfl rfl rfl rfl rfl hl.1 (Nat.le_of_ble_eq_true rfl) dX10_isGoer_2 ⟨Nat.le_of_ble_eq_true rfl, Nat.le_of_ble_eq_true rfl⟩ (fun r_1 hr_1 => ?_)
  subst hr_1
  refine lv_if_eq (tgt := 20) hx hb dX10_isGoer_5 (by decide) (fun _ => ?_) (fun c_5 => absurd (by decide) c_5)
  refine lv_iconst (v := 0) hx hb dX10_isGoer_20 (by decide) ?_
  exact ret _ _ 0 dX10_isGoer_21 rfl rfl

set_option maxRecDepth 100000 in
set_option maxHeartbeats 4000000 in
theorem c_X10_leaveSet (l : Launch) (D : va_G) (cI cB : ClassId) (h0 : Nat) (a_now : Nat) (a_aside : Nat) (a_kept : Nat) (a_keptFrom : Nat) (a_keptTo : Nat) (a_capOf : Nat) (a_leaveFrom : Nat) (a_leaveTo : Nat) (a_amountOf : Nat) (a_doerMany : Nat) (a_doerOf : Nat) (a_tape : Nat) (a_said : Nat) (a_waitsAt : Nat) (a_saidLetter : Nat) (a_saidFrom : Nat) (a_saidHalf : Nat) (a_saidTo : Nat) (a_codes : Nat) (a_clauseOf : Nat) (a_codeFrom : Nat) (a_codeHalf : Nat) (a_codeTo : Nat) (a_stack : Nat) (a_facts : Nat) (a_lineChore : Nat) (a_lineMany : Nat) (a_lineDoer : Nat) (a_newFrom : Nat) (a_newTo : Nat) (a_goFrom : Nat) (a_goTo : Nat) (a_idleFrom : Nat) (a_idleTo : Nat) (a_moreOf : Nat) (a_firstOf : Nat) (a_leftOf : Nat) (a_didOf : Nat) (a_costBy : Nat) (a_gainBy : Nat) (a_hiredOf : Nat) (a_hiredBest : Nat) (a_hiredTo : Nat) (a_turnOf : Nat) (a_turnWho : Nat) (rv : Int32) (du : Int32) (cl : Int32) (gd : Int32) (fl : Nat → Int32) (hf : ∀ j, j < 10 → fl j = -2) : MR l D cI cB yX10_leaveSet cX10_leaveSet 3 .int (rm 1 21) [.ref h0] [(h0, .inr (10, [.ref a_now, .ref a_aside, .ref a_kept, .ref a_keptFrom, .ref a_keptTo, .ref a_capOf, .ref a_leaveFrom, .ref a_leaveTo, .ref a_amountOf, .ref a_doerMany, .ref a_doerOf, .int 0, .int 0, .int 0, .ref a_tape, .int 0, .int 0, .int 0, .int 0, .int 0, .int 0, .int 0, .int 0, .int 0, .int 0, .ref a_said, .ref a_waitsAt, .ref a_saidLetter, .ref a_saidFrom, .ref a_saidHalf, .ref a_saidTo, .ref a_codes, .ref a_clauseOf, .ref a_codeFrom, .ref a_codeHalf, .ref a_codeTo, .ref a_stack, .ref a_facts, .ref a_lineChore, .ref a_lineMany, .ref a_lineDoer, .ref a_newFrom, .ref a_newTo, .int 0, .ref a_goFrom, .ref a_goTo, .ref a_idleFrom, .ref a_idleTo, .ref a_moreOf, .ref a_firstOf, .ref a_leftOf, .ref a_didOf, .int rv, .int du, .int cl, .int gd, .ref a_costBy, .int 0, .ref a_gainBy, .ref a_hiredOf, .ref a_hiredBest, .ref a_hiredTo, .ref a_turnOf, .ref a_turnWho, .int 0])), (a_leaveFrom, .inl (cI, 10, .inl fl))] (fun r : Int32 => r = 0) := by
  refine MR.of (by decide) (Nat.le_of_ble_eq_true rfl) ?_
  intro p e s m below meth c Q ls X hN hP hK hl ret
  obtain ⟨hx, hb, hml, hown, htb⟩ := id X
  have hl : lv_has ls 3 [(0, .ref h0)] := hl
  refine lv_iconst (v := 0) hx hb dX10_leaveSet_0 (by decide) ?_
  refine lv_istore_n (lv' := [(1, .int 0), (0, .ref h0)]) hx hb dX10_leaveSet_1 rfl hl (by decide) rfl (fun ls hl => ?_)
  refine lv_iconst (v := 0) hx hb dX10_leaveSet_2 (by decide) ?_
  refine lv_istore_n (lv' := [(2, .int 0), (1, .int 0), (0, .ref h0)]) hx hb dX10_leaveSet_3 rfl hl (by decide) rfl (fun ls hl => ?_)
  have loop_4 : ∀ (n i : Nat), n + i = 10 → ∀ (ls : Array Slot), lv_has ls 3 [(0, .ref h0), (1, .int 0), (2, .int (nI i))] → W p l e (rm 1 21) s m ([.ref h0] : List Value).toArray below meth c s.heap [] 0 0 Q (F0 m 4 ls []) := by
    intro n
    induction n with
    | zero =>
      intro i hni ls hl
      have hi : i = 10 := by omega
      subst hi
      refine lv_iload_n hx hb dX10_leaveSet_4 rfl (lv_at hl 2 rfl) ?_
      refine lv_bipush (v := 10) hx hb dX10_leaveSet_5 (by decide) ?_
      refine lv_icmp_ge (tgt := 34) hx hb dX10_leaveSet_7 (by decide) (fun _ => ?_) (fun c_7 => absurd (by decide) c_7)
      refine lv_iload_n hx hb dX10_leaveSet_34 rfl (lv_at hl 1 rfl) ?_
      exact ret _ _ 0 dX10_leaveSet_35 rfl rfl
    | succ n ih =>
      intro i hni ls hl
      have hi : i < 10 := by omega
      refine lv_iload_n hx hb dX10_leaveSet_4 rfl (lv_at hl 2 rfl) ?_
      refine lv_bipush (v := 10) hx hb dX10_leaveSet_5 (by decide) ?_
      refine lv_icmp_ge (tgt := 34) hx hb dX10_leaveSet_7 (by decide) (fun c_7 => absurd c_7 (nI_ge hi (by decide))) (fun _ => ?_)
      refine lv_iload_n hx hb dX10_leaveSet_10 rfl (lv_at hl 1 rfl) ?_
      refine lv_aload_n hx hb dX10_leaveSet_11 rfl (lv_at hl 0 rfl) ?_
      refine lv_iload_n hx hb dX10_leaveSet_12 rfl (lv_at hl 2 rfl) ?_
      refine cVR (As := [.int (nI i)]) (rest := [.int 0]) (n := 1) (ci := 10) (q0 := 0) X hN hK hP (c_X10_hasLeave l D cI cB h0 a_now a_aside a_kept a_keptFrom a_keptTo a_capOf a_leaveFrom a_leaveTo a_amountOf a_doerMany a_doerOf a_tape a_said a_waitsAt a_saidLetter a_saidFrom a_saidHalf a_saidTo a_codes a_clauseOf a_codeFrom a_codeHalf a_codeTo a_stack a_facts a_lineChore a_lineMany a_lineDoer a_newFrom a_newTo a_goFrom a_goTo a_idleFrom a_idleTo a_moreOf a_firstOf a_leftOf a_didOf a_costBy a_gainBy a_hiredOf a_hiredBest a_hiredTo a_turnOf a_turnWho rv du cl gd i fl hi hf) (gV k_1408 k_1410 k_57 k_103 k_1411) (by decide +kernel) ⟨Nat.le_of_ble_eq_true rfl, Nat.le_of_ble_eq_true rfl⟩ ⟨rfl, rfl⟩ [0, 1] rfl rfl rfl rfl rfl rfl hl.1 (Nat.le_of_ble_eq_true rfl) dX10_leaveSet_13 ⟨Nat.le_of_ble_eq_true rfl, Nat.le_of_ble_eq_true rfl⟩ (fun r_1 hr_1 => ?_)
      subst hr_1
      refine lv_if_eq (tgt := 25) hx hb dX10_leaveSet_16 (by decide) (fun _ => ?_) (fun c_16 => absurd (by decide) c_16)
      refine lv_iconst (v := 0) hx hb dX10_leaveSet_25 (by decide) ?_
      refine lv_ior hx hb dX10_leaveSet_26 ?_
      refine tv (z := 0) (by decide) ?_
      refine lv_istore_n (lv' := [(1, .int 0), (0, .ref h0), (2, .int (nI i))]) hx hb dX10_leaveSet_27 rfl hl (by decide) rfl (fun ls hl => ?_)
      refine lv_iinc (v := (nI (i + 1))) (lv' := [(2, .int (nI (i + 1))), (1, .int 0), (0, .ref h0)]) hx hb dX10_leaveSet_28 hl (k := 2) rfl (nI_1 i) (by decide) rfl (fun ls hl => ?_)
      refine lv_goto (tgt := 4) hx hb dX10_leaveSet_31 (by decide) ?_
      exact ih (i + 1) (by omega) _ (lv_sub hl [2, 1, 0] rfl)
  exact loop_4 10 0 (by omega) _ (lv_sub hl [2, 1, 0] rfl)

set_option maxRecDepth 100000 in
set_option maxHeartbeats 4000000 in
theorem c_X10_awayOn (l : Launch) (D : va_G) (cI cB : ClassId) (h0 : Nat) (a_now : Nat) (a_aside : Nat) (a_kept : Nat) (a_keptFrom : Nat) (a_keptTo : Nat) (a_capOf : Nat) (a_leaveFrom : Nat) (a_leaveTo : Nat) (a_amountOf : Nat) (a_doerMany : Nat) (a_doerOf : Nat) (a_tape : Nat) (a_said : Nat) (a_waitsAt : Nat) (a_saidLetter : Nat) (a_saidFrom : Nat) (a_saidHalf : Nat) (a_saidTo : Nat) (a_codes : Nat) (a_clauseOf : Nat) (a_codeFrom : Nat) (a_codeHalf : Nat) (a_codeTo : Nat) (a_stack : Nat) (a_facts : Nat) (a_lineChore : Nat) (a_lineMany : Nat) (a_lineDoer : Nat) (a_newFrom : Nat) (a_newTo : Nat) (a_goFrom : Nat) (a_goTo : Nat) (a_idleFrom : Nat) (a_idleTo : Nat) (a_moreOf : Nat) (a_firstOf : Nat) (a_leftOf : Nat) (a_didOf : Nat) (a_costBy : Nat) (a_gainBy : Nat) (a_hiredOf : Nat) (a_hiredBest : Nat) (a_hiredTo : Nat) (a_turnOf : Nat) (a_turnWho : Nat) (rv : Int32) (du : Int32) (cl : Int32) (gd : Int32) (dd : Int32)  : MR l D cI cB yX10_awayOn cX10_awayOn 4 .int (rm 2 42) [.ref h0, .int dd] [(h0, .inr (10, [.ref a_now, .ref a_aside, .ref a_kept, .ref a_keptFrom, .ref a_keptTo, .ref a_capOf, .ref a_leaveFrom, .ref a_leaveTo, .ref a_amountOf, .ref a_doerMany, .ref a_doerOf, .int 0, .int 0, .int 0, .ref a_tape, .int 0, .int 0, .int 0, .int 0, .int 0, .int 0, .int 0, .int 0, .int 0, .int 0, .ref a_said, .ref a_waitsAt, .ref a_saidLetter, .ref a_saidFrom, .ref a_saidHalf, .ref a_saidTo, .ref a_codes, .ref a_clauseOf, .ref a_codeFrom, .ref a_codeHalf, .ref a_codeTo, .ref a_stack, .ref a_facts, .ref a_lineChore, .ref a_lineMany, .ref a_lineDoer, .ref a_newFrom, .ref a_newTo, .int 0, .ref a_goFrom, .ref a_goTo, .ref a_idleFrom, .ref a_idleTo, .ref a_moreOf, .ref a_firstOf, .ref a_leftOf, .ref a_didOf, .int rv, .int du, .int cl, .int gd, .ref a_costBy, .int 0, .ref a_gainBy, .ref a_hiredOf, .ref a_hiredBest, .ref a_hiredTo, .ref a_turnOf, .ref a_turnWho, .int 0]))] (fun r : Int32 => r = 0) := by
  refine MR.of (by decide) (Nat.le_of_ble_eq_true rfl) ?_
  intro p e s m below meth c Q ls X hN hP hK hl ret
  obtain ⟨hx, hb, hml, hown, htb⟩ := id X
  have hl : lv_has ls 4 [(0, .ref h0), (1, .int dd)] := hl
  refine lv_iconst (v := 0) hx hb dX10_awayOn_0 (by decide) ?_
  refine lv_istore_n (lv' := [(2, .int 0), (0, .ref h0), (1, .int dd)]) hx hb dX10_awayOn_1 rfl hl (by decide) rfl (fun ls hl => ?_)
  refine lv_iconst (v := 0) hx hb dX10_awayOn_2 (by decide) ?_
  refine lv_istore_n (lv' := [(3, .int 0), (2, .int 0), (0, .ref h0), (1, .int dd)]) hx hb dX10_awayOn_3 rfl hl (by decide) rfl (fun ls hl => ?_)
  have loop_4 : ∀ (n i : Nat), n + i = 10 → ∀ (ls : Array Slot), lv_has ls 4 [(0, .ref h0), (1, .int dd), (2, .int 0), (3, .int (nI i))] → W p l e (rm 2 42) s m ([.ref h0, .int dd] : List Value).toArray below meth c s.heap [] 0 0 Q (F0 m 4 ls []) := by
    intro n
    induction n with
    | zero =>
      intro i hni ls hl
      have hi : i = 10 := by omega
      subst hi
      refine lv_iload_n hx hb dX10_awayOn_4 rfl (lv_at hl 3 rfl) ?_
      refine lv_bipush (v := 10) hx hb dX10_awayOn_5 (by decide) ?_
      refine lv_icmp_ge (tgt := 43) hx hb dX10_awayOn_7 (by decide) (fun _ => ?_) (fun c_7 => absurd (by decide) c_7)
      refine lv_iload_n hx hb dX10_awayOn_43 rfl (lv_at hl 2 rfl) ?_
      exact ret _ _ 0 dX10_awayOn_44 rfl rfl
    | succ n ih =>
      intro i hni ls hl
      have hi : i < 10 := by omega
      refine lv_iload_n hx hb dX10_awayOn_4 rfl (lv_at hl 3 rfl) ?_
      refine lv_bipush (v := 10) hx hb dX10_awayOn_5 (by decide) ?_
      refine lv_icmp_ge (tgt := 43) hx hb dX10_awayOn_7 (by decide) (fun c_7 => absurd c_7 (nI_ge hi (by decide))) (fun _ => ?_)
      refine lv_iload_n hx hb dX10_awayOn_10 rfl (lv_at hl 2 rfl) ?_
      refine lv_aload_n hx hb dX10_awayOn_11 rfl (lv_at hl 0 rfl) ?_
      refine lv_iload_n hx hb dX10_awayOn_12 rfl (lv_at hl 3 rfl) ?_
      refine cVR (As := [.int (nI i)]) (rest := [.int 0]) (n := 1) (ci := 10) (q0 := 0) X hN hK hP (c_X10_isPerson l D cI cB h0 a_now a_aside a_kept a_keptFrom a_keptTo a_capOf a_leaveFrom a_leaveTo a_amountOf a_doerMany a_doerOf a_tape a_said a_waitsAt a_saidLetter a_saidFrom a_saidHalf a_saidTo a_codes a_clauseOf a_codeFrom a_codeHalf a_codeTo a_stack a_facts a_lineChore a_lineMany a_lineDoer a_newFrom a_newTo a_goFrom a_goTo a_idleFrom a_idleTo a_moreOf a_firstOf a_leftOf a_didOf a_costBy a_gainBy a_hiredOf a_hiredBest a_hiredTo a_turnOf a_turnWho rv du cl gd (nI i)) (gV k_1451 k_1453 k_65 k_103 k_1454) (by decide +kernel) ⟨Nat.le_of_ble_eq_true rfl, Nat.le_of_ble_eq_true rfl⟩ ⟨rfl, rfl⟩ [0] rfl rfl rfl rfl rfl rfl hl.1 (Nat.le_of_ble_eq_true rfl) dX10_awayOn_13 ⟨Nat.le_of_ble_eq_true rfl, Nat.le_of_ble_eq_true rfl⟩ (fun r_1 hr_1 => ?_)
      subst hr_1
      refine lv_if_eq (tgt := 34) hx hb dX10_awayOn_16 (by decide) (fun _ => ?_) (fun c_16 => absurd (by decide) c_16)
      refine lv_iconst (v := 0) hx hb dX10_awayOn_34 (by decide) ?_
      refine lv_ior hx hb dX10_awayOn_35 ?_
      refine tv (z := 0) (by decide) ?_
      refine lv_istore_n (lv' := [(2, .int 0), (0, .ref h0), (1, .int dd), (3, .int (nI i))]) hx hb dX10_awayOn_36 rfl hl (by decide) rfl (fun ls hl => ?_)
      refine lv_iinc (v := (nI (i + 1))) (lv' := [(3, .int (nI (i + 1))), (2, .int 0), (0, .ref h0), (1, .int dd)]) hx hb dX10_awayOn_37 hl (k := 3) rfl (nI_1 i) (by decide) rfl (fun ls hl => ?_)
      refine lv_goto (tgt := 4) hx hb dX10_awayOn_40 (by decide) ?_
      exact ih (i + 1) (by omega) _ (lv_sub hl [2, 3, 1, 0] rfl)
  exact loop_4 10 0 (by omega) _ (lv_sub hl [2, 3, 1, 0] rfl)

set_option maxRecDepth 100000 in
set_option maxHeartbeats 4000000 in
theorem c_X10_unitsOf (l : Launch) (D : va_G) (cI cB : ClassId) (h0 : Nat) (a_now : Nat) (a_aside : Nat) (a_kept : Nat) (a_keptFrom : Nat) (a_keptTo : Nat) (a_capOf : Nat) (a_leaveFrom : Nat) (a_leaveTo : Nat) (a_amountOf : Nat) (a_doerMany : Nat) (a_doerOf : Nat) (a_tape : Nat) (a_said : Nat) (a_waitsAt : Nat) (a_saidLetter : Nat) (a_saidFrom : Nat) (a_saidHalf : Nat) (a_saidTo : Nat) (a_codes : Nat) (a_clauseOf : Nat) (a_codeFrom : Nat) (a_codeHalf : Nat) (a_codeTo : Nat) (a_stack : Nat) (a_facts : Nat) (a_lineChore : Nat) (a_lineMany : Nat) (a_lineDoer : Nat) (a_newFrom : Nat) (a_newTo : Nat) (a_goFrom : Nat) (a_goTo : Nat) (a_idleFrom : Nat) (a_idleTo : Nat) (a_moreOf : Nat) (a_firstOf : Nat) (a_leftOf : Nat) (a_didOf : Nat) (a_costBy : Nat) (a_gainBy : Nat) (a_hiredOf : Nat) (a_hiredBest : Nat) (a_hiredTo : Nat) (a_turnOf : Nat) (a_turnWho : Nat) (rv : Int32) (du : Int32) (cl : Int32) (gd : Int32) (k : Int32)  : MR l D cI cB yX10_unitsOf cX10_unitsOf 2 .int (rm 2 42) [.ref h0, .int k] [(h0, .inr (10, [.ref a_now, .ref a_aside, .ref a_kept, .ref a_keptFrom, .ref a_keptTo, .ref a_capOf, .ref a_leaveFrom, .ref a_leaveTo, .ref a_amountOf, .ref a_doerMany, .ref a_doerOf, .int 0, .int 0, .int 0, .ref a_tape, .int 0, .int 0, .int 0, .int 0, .int 0, .int 0, .int 0, .int 0, .int 0, .int 0, .ref a_said, .ref a_waitsAt, .ref a_saidLetter, .ref a_saidFrom, .ref a_saidHalf, .ref a_saidTo, .ref a_codes, .ref a_clauseOf, .ref a_codeFrom, .ref a_codeHalf, .ref a_codeTo, .ref a_stack, .ref a_facts, .ref a_lineChore, .ref a_lineMany, .ref a_lineDoer, .ref a_newFrom, .ref a_newTo, .int 0, .ref a_goFrom, .ref a_goTo, .ref a_idleFrom, .ref a_idleTo, .ref a_moreOf, .ref a_firstOf, .ref a_leftOf, .ref a_didOf, .int rv, .int du, .int cl, .int gd, .ref a_costBy, .int 0, .ref a_gainBy, .ref a_hiredOf, .ref a_hiredBest, .ref a_hiredTo, .ref a_turnOf, .ref a_turnWho, .int 0]))] (fun r : Int32 => r = 0) := by
  refine MR.of (by decide) (Nat.le_of_ble_eq_true rfl) ?_
  intro p e s m below meth c Q ls X hN hP hK hl ret
  obtain ⟨hx, hb, hml, hown, htb⟩ := id X
  have hl : lv_has ls 2 [(0, .ref h0), (1, .int k)] := hl
  refine lv_aload_n hx hb dX10_unitsOf_0 rfl (lv_at hl 0 rfl) ?_
  refine lv_iload_n hx hb dX10_unitsOf_1 rfl (lv_at hl 1 rfl) ?_
  refine cVR (As := [.int k]) (rest := []) (n := 1) (ci := 10) (q0 := 0) X hN hK hP (c_X10_isPerson l D cI cB h0 a_now a_aside a_kept a_keptFrom a_keptTo a_capOf a_leaveFrom a_leaveTo a_amountOf a_doerMany a_doerOf a_tape a_said a_waitsAt a_saidLetter a_saidFrom a_saidHalf a_saidTo a_codes a_clauseOf a_codeFrom a_codeHalf a_codeTo a_stack a_facts a_lineChore a_lineMany a_lineDoer a_newFrom a_newTo a_goFrom a_goTo a_idleFrom a_idleTo a_moreOf a_firstOf a_leftOf a_didOf a_costBy a_gainBy a_hiredOf a_hiredBest a_hiredTo a_turnOf a_turnWho rv du cl gd k) (gV k_1451 k_1453 k_65 k_103 k_1454) (by decide +kernel) ⟨Nat.le_of_ble_eq_true rfl, Nat.le_of_ble_eq_true rfl⟩ ⟨rfl, rfl⟩ [0] rfl rfl rfl rfl rfl rfl hl.1 (Nat.le_of_ble_eq_true rfl) dX10_unitsOf_2 ⟨Nat.le_of_ble_eq_true rfl, Nat.le_of_ble_eq_true rfl⟩ (fun r_1 hr_1 => ?_)
  subst hr_1
  refine lv_if_eq (tgt := 48) hx hb dX10_unitsOf_5 (by decide) (fun _ => ?_) (fun c_5 => absurd (by decide) c_5)
  refine lv_iconst (v := 0) hx hb dX10_unitsOf_48 (by decide) ?_
  exact ret _ _ 0 dX10_unitsOf_49 rfl rfl

set_option maxRecDepth 100000 in
set_option maxHeartbeats 4000000 in
theorem c_X10_undoneAll (l : Launch) (D : va_G) (cI cB : ClassId) (h0 : Nat) (a_now : Nat) (a_aside : Nat) (a_kept : Nat) (a_keptFrom : Nat) (a_keptTo : Nat) (a_capOf : Nat) (a_leaveFrom : Nat) (a_leaveTo : Nat) (a_amountOf : Nat) (a_doerMany : Nat) (a_doerOf : Nat) (a_tape : Nat) (a_said : Nat) (a_waitsAt : Nat) (a_saidLetter : Nat) (a_saidFrom : Nat) (a_saidHalf : Nat) (a_saidTo : Nat) (a_codes : Nat) (a_clauseOf : Nat) (a_codeFrom : Nat) (a_codeHalf : Nat) (a_codeTo : Nat) (a_stack : Nat) (a_facts : Nat) (a_lineChore : Nat) (a_lineMany : Nat) (a_lineDoer : Nat) (a_newFrom : Nat) (a_newTo : Nat) (a_goFrom : Nat) (a_goTo : Nat) (a_idleFrom : Nat) (a_idleTo : Nat) (a_moreOf : Nat) (a_firstOf : Nat) (a_leftOf : Nat) (a_didOf : Nat) (a_costBy : Nat) (a_gainBy : Nat) (a_hiredOf : Nat) (a_hiredBest : Nat) (a_hiredTo : Nat) (a_turnOf : Nat) (a_turnWho : Nat) (rv : Int32) (du : Int32) (cl : Int32) (gd : Int32)  : MR l D cI cB yX10_undoneAll cX10_undoneAll 3 .int (rm 2 42) [.ref h0] [(h0, .inr (10, [.ref a_now, .ref a_aside, .ref a_kept, .ref a_keptFrom, .ref a_keptTo, .ref a_capOf, .ref a_leaveFrom, .ref a_leaveTo, .ref a_amountOf, .ref a_doerMany, .ref a_doerOf, .int 0, .int 0, .int 0, .ref a_tape, .int 0, .int 0, .int 0, .int 0, .int 0, .int 0, .int 0, .int 0, .int 0, .int 0, .ref a_said, .ref a_waitsAt, .ref a_saidLetter, .ref a_saidFrom, .ref a_saidHalf, .ref a_saidTo, .ref a_codes, .ref a_clauseOf, .ref a_codeFrom, .ref a_codeHalf, .ref a_codeTo, .ref a_stack, .ref a_facts, .ref a_lineChore, .ref a_lineMany, .ref a_lineDoer, .ref a_newFrom, .ref a_newTo, .int 0, .ref a_goFrom, .ref a_goTo, .ref a_idleFrom, .ref a_idleTo, .ref a_moreOf, .ref a_firstOf, .ref a_leftOf, .ref a_didOf, .int rv, .int du, .int cl, .int gd, .ref a_costBy, .int 0, .ref a_gainBy, .ref a_hiredOf, .ref a_hiredBest, .ref a_hiredTo, .ref a_turnOf, .ref a_turnWho, .int 0]))] (fun r : Int32 => r = 0) := by
  refine MR.of (by decide) (Nat.le_of_ble_eq_true rfl) ?_
  intro p e s m below meth c Q ls X hN hP hK hl ret
  obtain ⟨hx, hb, hml, hown, htb⟩ := id X
  have hl : lv_has ls 3 [(0, .ref h0)] := hl
  refine lv_iconst (v := 0) hx hb dX10_undoneAll_0 (by decide) ?_
  refine lv_istore_n (lv' := [(1, .int 0), (0, .ref h0)]) hx hb dX10_undoneAll_1 rfl hl (by decide) rfl (fun ls hl => ?_)
  refine lv_iconst (v := 0) hx hb dX10_undoneAll_2 (by decide) ?_
  refine lv_istore_n (lv' := [(2, .int 0), (1, .int 0), (0, .ref h0)]) hx hb dX10_undoneAll_3 rfl hl (by decide) rfl (fun ls hl => ?_)
  have loop_4 : ∀ (n i : Nat), n + i = 12 → ∀ (ls : Array Slot), lv_has ls 3 [(0, .ref h0), (1, .int 0), (2, .int (nI i))] → W p l e (rm 2 42) s m ([.ref h0] : List Value).toArray below meth c s.heap [] 0 0 Q (F0 m 4 ls []) := by
    intro n
    induction n with
    | zero =>
      intro i hni ls hl
      have hi : i = 12 := by omega
      subst hi
      refine lv_iload_n hx hb dX10_undoneAll_4 rfl (lv_at hl 2 rfl) ?_
      refine lv_bipush (v := 12) hx hb dX10_undoneAll_5 (by decide) ?_
      refine lv_icmp_ge (tgt := 37) hx hb dX10_undoneAll_7 (by decide) (fun _ => ?_) (fun c_7 => absurd (by decide) c_7)
      refine lv_iload_n hx hb dX10_undoneAll_37 rfl (lv_at hl 1 rfl) ?_
      exact ret _ _ 0 dX10_undoneAll_38 rfl rfl
    | succ n ih =>
      intro i hni ls hl
      have hi : i < 12 := by omega
      refine lv_iload_n hx hb dX10_undoneAll_4 rfl (lv_at hl 2 rfl) ?_
      refine lv_bipush (v := 12) hx hb dX10_undoneAll_5 (by decide) ?_
      refine lv_icmp_ge (tgt := 37) hx hb dX10_undoneAll_7 (by decide) (fun c_7 => absurd c_7 (nI_ge hi (by decide))) (fun _ => ?_)
      refine lv_iload_n hx hb dX10_undoneAll_10 rfl (lv_at hl 1 rfl) ?_
      refine lv_aload_n hx hb dX10_undoneAll_11 rfl (lv_at hl 0 rfl) ?_
      refine lv_iload_n hx hb dX10_undoneAll_12 rfl (lv_at hl 2 rfl) ?_
      refine cVR (As := [.int (nI i)]) (rest := [.int 0]) (n := 1) (ci := 10) (q0 := 0) X hN hK hP (c_X10_isChore l D cI cB h0 a_now a_aside a_kept a_keptFrom a_keptTo a_capOf a_leaveFrom a_leaveTo a_amountOf a_doerMany a_doerOf a_tape a_said a_waitsAt a_saidLetter a_saidFrom a_saidHalf a_saidTo a_codes a_clauseOf a_codeFrom a_codeHalf a_codeTo a_stack a_facts a_lineChore a_lineMany a_lineDoer a_newFrom a_newTo a_goFrom a_goTo a_idleFrom a_idleTo a_moreOf a_firstOf a_leftOf a_didOf a_costBy a_gainBy a_hiredOf a_hiredBest a_hiredTo a_turnOf a_turnWho rv du cl gd (nI i)) (gV k_1474 k_1476 k_70 k_103 k_1477) (by decide +kernel) ⟨Nat.le_of_ble_eq_true rfl, Nat.le_of_ble_eq_true rfl⟩ ⟨rfl, rfl⟩ [0] rfl rfl rfl rfl rfl rfl hl.1 (Nat.le_of_ble_eq_true rfl) dX10_undoneAll_13 ⟨Nat.le_of_ble_eq_true rfl, Nat.le_of_ble_eq_true rfl⟩ (fun r_1 hr_1 => ?_)
      subst hr_1
      refine lv_if_eq (tgt := 28) hx hb dX10_undoneAll_16 (by decide) (fun _ => ?_) (fun c_16 => absurd (by decide) c_16)
      refine lv_iconst (v := 0) hx hb dX10_undoneAll_28 (by decide) ?_
      refine lv_iadd hx hb dX10_undoneAll_29 ?_
      refine tv (z := 0) (by decide) ?_
      refine lv_istore_n (lv' := [(1, .int 0), (0, .ref h0), (2, .int (nI i))]) hx hb dX10_undoneAll_30 rfl hl (by decide) rfl (fun ls hl => ?_)
      refine lv_iinc (v := (nI (i + 1))) (lv' := [(2, .int (nI (i + 1))), (1, .int 0), (0, .ref h0)]) hx hb dX10_undoneAll_31 hl (k := 2) rfl (nI_1 i) (by decide) rfl (fun ls hl => ?_)
      refine lv_goto (tgt := 4) hx hb dX10_undoneAll_34 (by decide) ?_
      exact ih (i + 1) (by omega) _ (lv_sub hl [2, 1, 0] rfl)
  exact loop_4 12 0 (by omega) _ (lv_sub hl [2, 1, 0] rfl)

set_option maxRecDepth 100000 in
set_option maxHeartbeats 4000000 in
theorem c_X10_copies (l : Launch) (D : va_G) (cI cB : ClassId) (sz : Nat) (a0 : Nat) (a1 : Nat) (ff : Nat → Int32) (gg : Nat → Int32)  : MV (S := ((Nat → Int32))) l D cI cB yX10_copies cX10_copies 4 (rm 0 0) [.ref a0, .ref a1, .int 15] [(a0, .inl (cI, 15, .inl ff)), (a1, .inl (cI, 15, .inl gg))] sz (fun u => ∀ j, j < 15 → u j = ff j) (fun u : ((Nat → Int32)) => [(a0, .inl (cI, 15, .inl ff)), (a1, .inl (cI, 15, .inl u))]) := by
  refine MV.of (by decide) (Nat.le_of_ble_eq_true rfl) ?_
  intro p e s m below meth c Q ls A X hin hN hP hK hD hA hl ret
  have hS : va_S A s.heap s.heap [] := va_S.rf
  obtain ⟨hx, hb, hml, hown, htb⟩ := id X
  have hl : lv_has ls 4 [(0, .ref a0), (1, .ref a1), (2, .int 15)] := hl
  refine lv_iconst (v := 0) hx hb dX10_copies_0 (by decide) ?_
  refine lv_istore_n (lv' := [(3, .int 0), (0, .ref a0), (1, .ref a1), (2, .int 15)]) hx hb dX10_copies_1 rfl hl (by decide) rfl (fun ls hl => ?_)
  have loop_2 : ∀ (n i : Nat) (ga : Nat → Int32), n + i = 15 → (∀ j, j < i → ga j = ff j) → ∀ (H : Heap) (locs : List Loc), va_P D vwCl [(a0, .inl (cI, 15, .inl ff)), (a1, .inl (cI, 15, .inl ga))] H → va_D A [(a0, .inl (cI, 15, .inl ff)), (a1, .inl (cI, 15, .inl ga))] → va_S A s.heap H locs → ∀ (ls : Array Slot), lv_has ls 4 [(0, .ref a0), (1, .ref a1), (2, .int 15), (3, .int (nI i))] → W p l e (rm 0 0) s m ([.ref a0, .ref a1, .int 15] : List Value).toArray below meth c H locs 0 0 Q (F0 m 2 ls []) := by
    intro n
    induction n with
    | zero =>
      intro i ga hni hga H locs hP hD hS ls hl
      have hi : i = 15 := by omega
      subst hi
      refine lv_iload_n hx hb dX10_copies_2 rfl (lv_at hl 3 rfl) ?_
      refine lv_iload_n hx hb dX10_copies_3 rfl (lv_at hl 2 rfl) ?_
      refine lv_icmp_ge (tgt := 19) hx hb dX10_copies_4 (by decide) (fun _ => ?_) (fun c_4 => absurd (by decide) c_4)
      exact ret _ _ _ _ ga dX10_copies_19 hga (hP.sub [0, 1] rfl) (hD.sub [0, 1] (by decide) rfl) hS
    | succ n ih =>
      intro i ga hni hga H locs hP hD hS ls hl
      have hi : i < 15 := by omega
      refine lv_iload_n hx hb dX10_copies_2 rfl (lv_at hl 3 rfl) ?_
      refine lv_iload_n hx hb dX10_copies_3 rfl (lv_at hl 2 rfl) ?_
      refine lv_icmp_ge (tgt := 19) hx hb dX10_copies_4 (by decide) (fun c_4 => absurd c_4 (nI_ge hi (by decide))) (fun _ => ?_)
      refine lv_aload_n hx hb dX10_copies_7 rfl (lv_at hl 1 rfl) ?_
      refine lv_iload_n hx hb dX10_copies_8 rfl (lv_at hl 3 rfl) ?_
      refine lv_aload_n hx hb dX10_copies_9 rfl (lv_at hl 0 rfl) ?_
      refine lv_iload_n hx hb dX10_copies_10 rfl (lv_at hl 3 rfl) ?_
      refine va_iald hx hb hK hP 0 0 rfl rfl (vp_in_nI (by omega) (by decide)) dX10_copies_11 ?_
      refine tv (z := (ff i)) (by rw [nI_clamp (by omega)]) ?_
      refine lv_topi (fun x_1 ex_1 => ?_)
      refine va_iast hx hb hK hP hD hS 1 0 rfl rfl (vp_in_nI (by omega) (by decide)) dX10_copies_12 (fun H locs hP hD hS => ?_)
      obtain ⟨f_2, ef_2⟩ : ∃ g : Nat → Int32, g = upd ga (Int32.toNatClampNeg (nI i)) x_1 := ⟨_, rfl⟩
      rw [← ef_2] at hP hD
      have hP : va_P D vwCl [(a0, .inl (cI, 15, .inl ff)), (a1, .inl (cI, 15, .inl f_2))] H := hP
      have hD : va_D A [(a0, .inl (cI, 15, .inl ff)), (a1, .inl (cI, 15, .inl f_2))] := hD
      refine lv_iinc (v := (nI (i + 1))) (lv' := [(3, .int (nI (i + 1))), (0, .ref a0), (1, .ref a1), (2, .int 15)]) hx hb dX10_copies_13 hl (k := 3) rfl (nI_1 i) (by decide) rfl (fun ls hl => ?_)
      refine lv_goto (tgt := 2) hx hb dX10_copies_16 (by decide) ?_
      exact ih (i + 1) f_2 (by omega) (by rw [ef_2, nI_clamp (by omega)]; exact updC hga ex_1) _ _ (hP.sub [0, 1] rfl) (hD.sub [0, 1] (by decide) rfl) hS _ (lv_sub hl [1, 2, 3, 0] rfl)
  exact loop_2 15 0 gg (by omega) (fun j hj => absurd hj (Nat.not_lt_zero j)) _ _ (hP.sub [0, 1] rfl) (hD.sub [0, 1] (by decide) rfl) hS _ (lv_sub hl [1, 2, 3, 0] rfl)

set_option maxRecDepth 100000 in
set_option maxHeartbeats 4000000 in
theorem c_X10_copies_10 (l : Launch) (D : va_G) (cI cB : ClassId) (sz : Nat) (a0 : Nat) (a1 : Nat) (ff : Nat → Int32) (gg : Nat → Int32)  : MV (S := ((Nat → Int32))) l D cI cB yX10_copies cX10_copies 4 (rm 0 0) [.ref a0, .ref a1, .int 10] [(a0, .inl (cI, 10, .inl ff)), (a1, .inl (cI, 10, .inl gg))] sz (fun u => ∀ j, j < 10 → u j = ff j) (fun u : ((Nat → Int32)) => [(a0, .inl (cI, 10, .inl ff)), (a1, .inl (cI, 10, .inl u))]) := by
  refine MV.of (by decide) (Nat.le_of_ble_eq_true rfl) ?_
  intro p e s m below meth c Q ls A X hin hN hP hK hD hA hl ret
  have hS : va_S A s.heap s.heap [] := va_S.rf
  obtain ⟨hx, hb, hml, hown, htb⟩ := id X
  have hl : lv_has ls 4 [(0, .ref a0), (1, .ref a1), (2, .int 10)] := hl
  refine lv_iconst (v := 0) hx hb dX10_copies_0 (by decide) ?_
  refine lv_istore_n (lv' := [(3, .int 0), (0, .ref a0), (1, .ref a1), (2, .int 10)]) hx hb dX10_copies_1 rfl hl (by decide) rfl (fun ls hl => ?_)
  have loop_2 : ∀ (n i : Nat) (ga : Nat → Int32), n + i = 10 → (∀ j, j < i → ga j = ff j) → ∀ (H : Heap) (locs : List Loc), va_P D vwCl [(a0, .inl (cI, 10, .inl ff)), (a1, .inl (cI, 10, .inl ga))] H → va_D A [(a0, .inl (cI, 10, .inl ff)), (a1, .inl (cI, 10, .inl ga))] → va_S A s.heap H locs → ∀ (ls : Array Slot), lv_has ls 4 [(0, .ref a0), (1, .ref a1), (2, .int 10), (3, .int (nI i))] → W p l e (rm 0 0) s m ([.ref a0, .ref a1, .int 10] : List Value).toArray below meth c H locs 0 0 Q (F0 m 2 ls []) := by
    intro n
    induction n with
    | zero =>
      intro i ga hni hga H locs hP hD hS ls hl
      have hi : i = 10 := by omega
      subst hi
      refine lv_iload_n hx hb dX10_copies_2 rfl (lv_at hl 3 rfl) ?_
      refine lv_iload_n hx hb dX10_copies_3 rfl (lv_at hl 2 rfl) ?_
      refine lv_icmp_ge (tgt := 19) hx hb dX10_copies_4 (by decide) (fun _ => ?_) (fun c_4 => absurd (by decide) c_4)
      exact ret _ _ _ _ ga dX10_copies_19 hga (hP.sub [0, 1] rfl) (hD.sub [0, 1] (by decide) rfl) hS
    | succ n ih =>
      intro i ga hni hga H locs hP hD hS ls hl
      have hi : i < 10 := by omega
      refine lv_iload_n hx hb dX10_copies_2 rfl (lv_at hl 3 rfl) ?_
      refine lv_iload_n hx hb dX10_copies_3 rfl (lv_at hl 2 rfl) ?_
      refine lv_icmp_ge (tgt := 19) hx hb dX10_copies_4 (by decide) (fun c_4 => absurd c_4 (nI_ge hi (by decide))) (fun _ => ?_)
      refine lv_aload_n hx hb dX10_copies_7 rfl (lv_at hl 1 rfl) ?_
      refine lv_iload_n hx hb dX10_copies_8 rfl (lv_at hl 3 rfl) ?_
      refine lv_aload_n hx hb dX10_copies_9 rfl (lv_at hl 0 rfl) ?_
      refine lv_iload_n hx hb dX10_copies_10 rfl (lv_at hl 3 rfl) ?_
      refine va_iald hx hb hK hP 0 0 rfl rfl (vp_in_nI (by omega) (by decide)) dX10_copies_11 ?_
      refine tv (z := (ff i)) (by rw [nI_clamp (by omega)]) ?_
      refine lv_topi (fun x_1 ex_1 => ?_)
      refine va_iast hx hb hK hP hD hS 1 0 rfl rfl (vp_in_nI (by omega) (by decide)) dX10_copies_12 (fun H locs hP hD hS => ?_)
      obtain ⟨f_2, ef_2⟩ : ∃ g : Nat → Int32, g = upd ga (Int32.toNatClampNeg (nI i)) x_1 := ⟨_, rfl⟩
      rw [← ef_2] at hP hD
      have hP : va_P D vwCl [(a0, .inl (cI, 10, .inl ff)), (a1, .inl (cI, 10, .inl f_2))] H := hP
      have hD : va_D A [(a0, .inl (cI, 10, .inl ff)), (a1, .inl (cI, 10, .inl f_2))] := hD
      refine lv_iinc (v := (nI (i + 1))) (lv' := [(3, .int (nI (i + 1))), (0, .ref a0), (1, .ref a1), (2, .int 10)]) hx hb dX10_copies_13 hl (k := 3) rfl (nI_1 i) (by decide) rfl (fun ls hl => ?_)
      refine lv_goto (tgt := 2) hx hb dX10_copies_16 (by decide) ?_
      exact ih (i + 1) f_2 (by omega) (by rw [ef_2, nI_clamp (by omega)]; exact updC hga ex_1) _ _ (hP.sub [0, 1] rfl) (hD.sub [0, 1] (by decide) rfl) hS _ (lv_sub hl [1, 2, 3, 0] rfl)
  exact loop_2 10 0 gg (by omega) (fun j hj => absurd hj (Nat.not_lt_zero j)) _ _ (hP.sub [0, 1] rfl) (hD.sub [0, 1] (by decide) rfl) hS _ (lv_sub hl [1, 2, 3, 0] rfl)

set_option maxRecDepth 100000 in
set_option maxHeartbeats 4000000 in
theorem c_X10_laysNobody (l : Launch) (D : va_G) (cI cB : ClassId) (sz : Nat) (h0 : Nat) (a_now : Nat) (a_aside : Nat) (a_kept : Nat) (a_keptFrom : Nat) (a_keptTo : Nat) (a_capOf : Nat) (a_leaveFrom : Nat) (a_leaveTo : Nat) (a_amountOf : Nat) (a_doerMany : Nat) (a_doerOf : Nat) (a_tape : Nat) (a_said : Nat) (a_waitsAt : Nat) (a_saidLetter : Nat) (a_saidFrom : Nat) (a_saidHalf : Nat) (a_saidTo : Nat) (a_codes : Nat) (a_clauseOf : Nat) (a_codeFrom : Nat) (a_codeHalf : Nat) (a_codeTo : Nat) (a_stack : Nat) (a_facts : Nat) (a_lineChore : Nat) (a_lineMany : Nat) (a_lineDoer : Nat) (a_newFrom : Nat) (a_newTo : Nat) (a_goFrom : Nat) (a_goTo : Nat) (a_idleFrom : Nat) (a_idleTo : Nat) (a_moreOf : Nat) (a_firstOf : Nat) (a_leftOf : Nat) (a_didOf : Nat) (a_costBy : Nat) (a_gainBy : Nat) (a_hiredOf : Nat) (a_hiredBest : Nat) (a_hiredTo : Nat) (a_turnOf : Nat) (a_turnWho : Nat) (rv : Int32) (du : Int32) (cl : Int32) (gd : Int32) (fa0 : Nat → Int32) (fa1 : Nat → Int32) (fa2 : Nat → Int32) (fa3 : Nat → Int32) (fa4 : Nat → Int32) (fa5 : Nat → Int32)  : MV (S := ((Nat → Int32) × (Nat → Int32) × (Nat → Int32) × (Nat → Int32) × (Nat → Int32) × (Nat → Int32))) l D cI cB yX10_laysNobody cX10_laysNobody 2 (rm 0 0) [.ref h0] [(h0, .inr (10, [.ref a_now, .ref a_aside, .ref a_kept, .ref a_keptFrom, .ref a_keptTo, .ref a_capOf, .ref a_leaveFrom, .ref a_leaveTo, .ref a_amountOf, .ref a_doerMany, .ref a_doerOf, .int 0, .int 0, .int 0, .ref a_tape, .int 0, .int 0, .int 0, .int 0, .int 0, .int 0, .int 0, .int 0, .int 0, .int 0, .ref a_said, .ref a_waitsAt, .ref a_saidLetter, .ref a_saidFrom, .ref a_saidHalf, .ref a_saidTo, .ref a_codes, .ref a_clauseOf, .ref a_codeFrom, .ref a_codeHalf, .ref a_codeTo, .ref a_stack, .ref a_facts, .ref a_lineChore, .ref a_lineMany, .ref a_lineDoer, .ref a_newFrom, .ref a_newTo, .int 0, .ref a_goFrom, .ref a_goTo, .ref a_idleFrom, .ref a_idleTo, .ref a_moreOf, .ref a_firstOf, .ref a_leftOf, .ref a_didOf, .int rv, .int du, .int cl, .int gd, .ref a_costBy, .int 0, .ref a_gainBy, .ref a_hiredOf, .ref a_hiredBest, .ref a_hiredTo, .ref a_turnOf, .ref a_turnWho, .int 0])), (a_goFrom, .inl (cI, 10, .inl fa0)), (a_goTo, .inl (cI, 10, .inl fa1)), (a_idleFrom, .inl (cI, 10, .inl fa2)), (a_idleTo, .inl (cI, 10, .inl fa3)), (a_moreOf, .inl (cI, 10, .inl fa4)), (a_firstOf, .inl (cI, 12, .inl fa5))] sz (fun u => True) (fun u : ((Nat → Int32) × (Nat → Int32) × (Nat → Int32) × (Nat → Int32) × (Nat → Int32) × (Nat → Int32)) => [(h0, .inr (10, [.ref a_now, .ref a_aside, .ref a_kept, .ref a_keptFrom, .ref a_keptTo, .ref a_capOf, .ref a_leaveFrom, .ref a_leaveTo, .ref a_amountOf, .ref a_doerMany, .ref a_doerOf, .int 0, .int 0, .int 0, .ref a_tape, .int 0, .int 0, .int 0, .int 0, .int 0, .int 0, .int 0, .int 0, .int 0, .int 0, .ref a_said, .ref a_waitsAt, .ref a_saidLetter, .ref a_saidFrom, .ref a_saidHalf, .ref a_saidTo, .ref a_codes, .ref a_clauseOf, .ref a_codeFrom, .ref a_codeHalf, .ref a_codeTo, .ref a_stack, .ref a_facts, .ref a_lineChore, .ref a_lineMany, .ref a_lineDoer, .ref a_newFrom, .ref a_newTo, .int 0, .ref a_goFrom, .ref a_goTo, .ref a_idleFrom, .ref a_idleTo, .ref a_moreOf, .ref a_firstOf, .ref a_leftOf, .ref a_didOf, .int rv, .int du, .int cl, .int gd, .ref a_costBy, .int 0, .ref a_gainBy, .ref a_hiredOf, .ref a_hiredBest, .ref a_hiredTo, .ref a_turnOf, .ref a_turnWho, .int 0])), (a_goFrom, .inl (cI, 10, .inl u.1)), (a_goTo, .inl (cI, 10, .inl u.2.1)), (a_idleFrom, .inl (cI, 10, .inl u.2.2.1)), (a_idleTo, .inl (cI, 10, .inl u.2.2.2.1)), (a_moreOf, .inl (cI, 10, .inl u.2.2.2.2.1)), (a_firstOf, .inl (cI, 12, .inl u.2.2.2.2.2))]) := by
  refine MV.of (by decide) (Nat.le_of_ble_eq_true rfl) ?_
  intro p e s m below meth c Q ls A X hin hN hP hK hD hA hl ret
  have hS : va_S A s.heap s.heap [] := va_S.rf
  obtain ⟨hx, hb, hml, hown, htb⟩ := id X
  have hl : lv_has ls 2 [(0, .ref h0)] := hl
  refine lv_iconst (v := 0) hx hb dX10_laysNobody_0 (by decide) ?_
  refine lv_istore_n (lv' := [(1, .int 0), (0, .ref h0)]) hx hb dX10_laysNobody_1 rfl hl (by decide) rfl (fun ls hl => ?_)
  have loop_2 : ∀ (n i : Nat) (fb0 : Nat → Int32) (fb1 : Nat → Int32) (fb2 : Nat → Int32) (fb3 : Nat → Int32) (fb4 : Nat → Int32), n + i = 10 → ∀ (H : Heap) (locs : List Loc), va_P D vwCl [(h0, .inr (10, [.ref a_now, .ref a_aside, .ref a_kept, .ref a_keptFrom, .ref a_keptTo, .ref a_capOf, .ref a_leaveFrom, .ref a_leaveTo, .ref a_amountOf, .ref a_doerMany, .ref a_doerOf, .int 0, .int 0, .int 0, .ref a_tape, .int 0, .int 0, .int 0, .int 0, .int 0, .int 0, .int 0, .int 0, .int 0, .int 0, .ref a_said, .ref a_waitsAt, .ref a_saidLetter, .ref a_saidFrom, .ref a_saidHalf, .ref a_saidTo, .ref a_codes, .ref a_clauseOf, .ref a_codeFrom, .ref a_codeHalf, .ref a_codeTo, .ref a_stack, .ref a_facts, .ref a_lineChore, .ref a_lineMany, .ref a_lineDoer, .ref a_newFrom, .ref a_newTo, .int 0, .ref a_goFrom, .ref a_goTo, .ref a_idleFrom, .ref a_idleTo, .ref a_moreOf, .ref a_firstOf, .ref a_leftOf, .ref a_didOf, .int rv, .int du, .int cl, .int gd, .ref a_costBy, .int 0, .ref a_gainBy, .ref a_hiredOf, .ref a_hiredBest, .ref a_hiredTo, .ref a_turnOf, .ref a_turnWho, .int 0])), (a_goFrom, .inl (cI, 10, .inl fb0)), (a_goTo, .inl (cI, 10, .inl fb1)), (a_idleFrom, .inl (cI, 10, .inl fb2)), (a_idleTo, .inl (cI, 10, .inl fb3)), (a_moreOf, .inl (cI, 10, .inl fb4)), (a_firstOf, .inl (cI, 12, .inl fa5))] H → va_D A [(h0, .inr (10, [.ref a_now, .ref a_aside, .ref a_kept, .ref a_keptFrom, .ref a_keptTo, .ref a_capOf, .ref a_leaveFrom, .ref a_leaveTo, .ref a_amountOf, .ref a_doerMany, .ref a_doerOf, .int 0, .int 0, .int 0, .ref a_tape, .int 0, .int 0, .int 0, .int 0, .int 0, .int 0, .int 0, .int 0, .int 0, .int 0, .ref a_said, .ref a_waitsAt, .ref a_saidLetter, .ref a_saidFrom, .ref a_saidHalf, .ref a_saidTo, .ref a_codes, .ref a_clauseOf, .ref a_codeFrom, .ref a_codeHalf, .ref a_codeTo, .ref a_stack, .ref a_facts, .ref a_lineChore, .ref a_lineMany, .ref a_lineDoer, .ref a_newFrom, .ref a_newTo, .int 0, .ref a_goFrom, .ref a_goTo, .ref a_idleFrom, .ref a_idleTo, .ref a_moreOf, .ref a_firstOf, .ref a_leftOf, .ref a_didOf, .int rv, .int du, .int cl, .int gd, .ref a_costBy, .int 0, .ref a_gainBy, .ref a_hiredOf, .ref a_hiredBest, .ref a_hiredTo, .ref a_turnOf, .ref a_turnWho, .int 0])), (a_goFrom, .inl (cI, 10, .inl fb0)), (a_goTo, .inl (cI, 10, .inl fb1)), (a_idleFrom, .inl (cI, 10, .inl fb2)), (a_idleTo, .inl (cI, 10, .inl fb3)), (a_moreOf, .inl (cI, 10, .inl fb4)), (a_firstOf, .inl (cI, 12, .inl fa5))] → va_S A s.heap H locs → ∀ (ls : Array Slot), lv_has ls 2 [(0, .ref h0), (1, .int (nI i))] → W p l e (rm 0 0) s m ([.ref h0] : List Value).toArray below meth c H locs 0 0 Q (F0 m 2 ls []) := by
    intro n
    induction n with
    | zero =>
      intro i fb0 fb1 fb2 fb3 fb4 hni H locs hP hD hS ls hl
      have hi : i = 10 := by omega
      subst hi
      refine lv_iload_n hx hb dX10_laysNobody_2 rfl (lv_at hl 1 rfl) ?_
      refine lv_bipush (v := 10) hx hb dX10_laysNobody_3 (by decide) ?_
      refine lv_icmp_ge (tgt := 53) hx hb dX10_laysNobody_5 (by decide) (fun _ => ?_) (fun c_5 => absurd (by decide) c_5)
      refine lv_iconst (v := 0) hx hb dX10_laysNobody_53 (by decide) ?_
      refine lv_istore_n (lv' := [(1, .int 0), (0, .ref h0)]) hx hb dX10_laysNobody_54 rfl hl (by decide) rfl (fun ls hl => ?_)
      have loop_55 : ∀ (n i : Nat) (fb5 : Nat → Int32), n + i = 12 → ∀ (H : Heap) (locs : List Loc), va_P D vwCl [(h0, .inr (10, [.ref a_now, .ref a_aside, .ref a_kept, .ref a_keptFrom, .ref a_keptTo, .ref a_capOf, .ref a_leaveFrom, .ref a_leaveTo, .ref a_amountOf, .ref a_doerMany, .ref a_doerOf, .int 0, .int 0, .int 0, .ref a_tape, .int 0, .int 0, .int 0, .int 0, .int 0, .int 0, .int 0, .int 0, .int 0, .int 0, .ref a_said, .ref a_waitsAt, .ref a_saidLetter, .ref a_saidFrom, .ref a_saidHalf, .ref a_saidTo, .ref a_codes, .ref a_clauseOf, .ref a_codeFrom, .ref a_codeHalf, .ref a_codeTo, .ref a_stack, .ref a_facts, .ref a_lineChore, .ref a_lineMany, .ref a_lineDoer, .ref a_newFrom, .ref a_newTo, .int 0, .ref a_goFrom, .ref a_goTo, .ref a_idleFrom, .ref a_idleTo, .ref a_moreOf, .ref a_firstOf, .ref a_leftOf, .ref a_didOf, .int rv, .int du, .int cl, .int gd, .ref a_costBy, .int 0, .ref a_gainBy, .ref a_hiredOf, .ref a_hiredBest, .ref a_hiredTo, .ref a_turnOf, .ref a_turnWho, .int 0])), (a_goFrom, .inl (cI, 10, .inl fb0)), (a_goTo, .inl (cI, 10, .inl fb1)), (a_idleFrom, .inl (cI, 10, .inl fb2)), (a_idleTo, .inl (cI, 10, .inl fb3)), (a_moreOf, .inl (cI, 10, .inl fb4)), (a_firstOf, .inl (cI, 12, .inl fb5))] H → va_D A [(h0, .inr (10, [.ref a_now, .ref a_aside, .ref a_kept, .ref a_keptFrom, .ref a_keptTo, .ref a_capOf, .ref a_leaveFrom, .ref a_leaveTo, .ref a_amountOf, .ref a_doerMany, .ref a_doerOf, .int 0, .int 0, .int 0, .ref a_tape, .int 0, .int 0, .int 0, .int 0, .int 0, .int 0, .int 0, .int 0, .int 0, .int 0, .ref a_said, .ref a_waitsAt, .ref a_saidLetter, .ref a_saidFrom, .ref a_saidHalf, .ref a_saidTo, .ref a_codes, .ref a_clauseOf, .ref a_codeFrom, .ref a_codeHalf, .ref a_codeTo, .ref a_stack, .ref a_facts, .ref a_lineChore, .ref a_lineMany, .ref a_lineDoer, .ref a_newFrom, .ref a_newTo, .int 0, .ref a_goFrom, .ref a_goTo, .ref a_idleFrom, .ref a_idleTo, .ref a_moreOf, .ref a_firstOf, .ref a_leftOf, .ref a_didOf, .int rv, .int du, .int cl, .int gd, .ref a_costBy, .int 0, .ref a_gainBy, .ref a_hiredOf, .ref a_hiredBest, .ref a_hiredTo, .ref a_turnOf, .ref a_turnWho, .int 0])), (a_goFrom, .inl (cI, 10, .inl fb0)), (a_goTo, .inl (cI, 10, .inl fb1)), (a_idleFrom, .inl (cI, 10, .inl fb2)), (a_idleTo, .inl (cI, 10, .inl fb3)), (a_moreOf, .inl (cI, 10, .inl fb4)), (a_firstOf, .inl (cI, 12, .inl fb5))] → va_S A s.heap H locs → ∀ (ls : Array Slot), lv_has ls 2 [(0, .ref h0), (1, .int (nI i))] → W p l e (rm 0 0) s m ([.ref h0] : List Value).toArray below meth c H locs 0 0 Q (F0 m 55 ls []) := by
        intro n
        induction n with
        | zero =>
          intro i fb5 hni H locs hP hD hS ls hl
          have hi : i = 12 := by omega
          subst hi
          refine lv_iload_n hx hb dX10_laysNobody_55 rfl (lv_at hl 1 rfl) ?_
          refine lv_bipush (v := 12) hx hb dX10_laysNobody_56 (by decide) ?_
          refine lv_icmp_ge (tgt := 74) hx hb dX10_laysNobody_58 (by decide) (fun _ => ?_) (fun c_58 => absurd (by decide) c_58)
          exact ret _ _ _ _ (fb0, fb1, fb2, fb3, fb4, fb5) dX10_laysNobody_74 trivial (hP.sub [0, 1, 2, 3, 4, 5, 6] rfl) (hD.sub [0, 1, 2, 3, 4, 5, 6] (by decide) rfl) hS
        | succ n ih =>
          intro i fb5 hni H locs hP hD hS ls hl
          have hi : i < 12 := by omega
          refine lv_iload_n hx hb dX10_laysNobody_55 rfl (lv_at hl 1 rfl) ?_
          refine lv_bipush (v := 12) hx hb dX10_laysNobody_56 (by decide) ?_
          refine lv_icmp_ge (tgt := 74) hx hb dX10_laysNobody_58 (by decide) (fun c_58 => absurd c_58 (nI_ge hi (by decide))) (fun _ => ?_)
          refine lv_aload_n hx hb dX10_laysNobody_61 rfl (lv_at hl 0 rfl) ?_
          refine va_get (D := D) (ci := 10) (v := .ref a_firstOf) (C := RX10) (T := TX10) (N := 65) hx hb htb itX10 hown hK hP 0 rfl rfl 49 (by decide) (htb _ k_1117) (fun _ h9 => h9) rfl dX10_laysNobody_62 ?_
          refine lv_iload_n hx hb dX10_laysNobody_65 rfl (lv_at hl 1 rfl) ?_
          refine lv_iconst (v := (-1)) hx hb dX10_laysNobody_66 (by decide) ?_
          refine va_iast hx hb hK hP hD hS 6 0 rfl rfl (vp_in_nI (by omega) (by decide)) dX10_laysNobody_67 (fun H locs hP hD hS => ?_)
          obtain ⟨f_1, ef_1⟩ : ∃ g : Nat → Int32, g = upd fb5 (Int32.toNatClampNeg (nI i)) (-1) := ⟨_, rfl⟩
          rw [← ef_1] at hP hD
          have hP : va_P D vwCl [(h0, .inr (10, [.ref a_now, .ref a_aside, .ref a_kept, .ref a_keptFrom, .ref a_keptTo, .ref a_capOf, .ref a_leaveFrom, .ref a_leaveTo, .ref a_amountOf, .ref a_doerMany, .ref a_doerOf, .int 0, .int 0, .int 0, .ref a_tape, .int 0, .int 0, .int 0, .int 0, .int 0, .int 0, .int 0, .int 0, .int 0, .int 0, .ref a_said, .ref a_waitsAt, .ref a_saidLetter, .ref a_saidFrom, .ref a_saidHalf, .ref a_saidTo, .ref a_codes, .ref a_clauseOf, .ref a_codeFrom, .ref a_codeHalf, .ref a_codeTo, .ref a_stack, .ref a_facts, .ref a_lineChore, .ref a_lineMany, .ref a_lineDoer, .ref a_newFrom, .ref a_newTo, .int 0, .ref a_goFrom, .ref a_goTo, .ref a_idleFrom, .ref a_idleTo, .ref a_moreOf, .ref a_firstOf, .ref a_leftOf, .ref a_didOf, .int rv, .int du, .int cl, .int gd, .ref a_costBy, .int 0, .ref a_gainBy, .ref a_hiredOf, .ref a_hiredBest, .ref a_hiredTo, .ref a_turnOf, .ref a_turnWho, .int 0])), (a_goFrom, .inl (cI, 10, .inl fb0)), (a_goTo, .inl (cI, 10, .inl fb1)), (a_idleFrom, .inl (cI, 10, .inl fb2)), (a_idleTo, .inl (cI, 10, .inl fb3)), (a_moreOf, .inl (cI, 10, .inl fb4)), (a_firstOf, .inl (cI, 12, .inl f_1))] H := hP
          have hD : va_D A [(h0, .inr (10, [.ref a_now, .ref a_aside, .ref a_kept, .ref a_keptFrom, .ref a_keptTo, .ref a_capOf, .ref a_leaveFrom, .ref a_leaveTo, .ref a_amountOf, .ref a_doerMany, .ref a_doerOf, .int 0, .int 0, .int 0, .ref a_tape, .int 0, .int 0, .int 0, .int 0, .int 0, .int 0, .int 0, .int 0, .int 0, .int 0, .ref a_said, .ref a_waitsAt, .ref a_saidLetter, .ref a_saidFrom, .ref a_saidHalf, .ref a_saidTo, .ref a_codes, .ref a_clauseOf, .ref a_codeFrom, .ref a_codeHalf, .ref a_codeTo, .ref a_stack, .ref a_facts, .ref a_lineChore, .ref a_lineMany, .ref a_lineDoer, .ref a_newFrom, .ref a_newTo, .int 0, .ref a_goFrom, .ref a_goTo, .ref a_idleFrom, .ref a_idleTo, .ref a_moreOf, .ref a_firstOf, .ref a_leftOf, .ref a_didOf, .int rv, .int du, .int cl, .int gd, .ref a_costBy, .int 0, .ref a_gainBy, .ref a_hiredOf, .ref a_hiredBest, .ref a_hiredTo, .ref a_turnOf, .ref a_turnWho, .int 0])), (a_goFrom, .inl (cI, 10, .inl fb0)), (a_goTo, .inl (cI, 10, .inl fb1)), (a_idleFrom, .inl (cI, 10, .inl fb2)), (a_idleTo, .inl (cI, 10, .inl fb3)), (a_moreOf, .inl (cI, 10, .inl fb4)), (a_firstOf, .inl (cI, 12, .inl f_1))] := hD
          refine lv_iinc (v := (nI (i + 1))) (lv' := [(1, .int (nI (i + 1))), (0, .ref h0)]) hx hb dX10_laysNobody_68 hl (k := 1) rfl (nI_1 i) (by decide) rfl (fun ls hl => ?_)
          refine lv_goto (tgt := 55) hx hb dX10_laysNobody_71 (by decide) ?_
          exact ih (i + 1) f_1 (by omega) _ _ (hP.sub [0, 1, 2, 3, 4, 5, 6] rfl) (hD.sub [0, 1, 2, 3, 4, 5, 6] (by decide) rfl) hS _ (lv_sub hl [1, 0] rfl)
      exact loop_55 12 0 fa5 (by omega) _ _ (hP.sub [0, 1, 2, 3, 4, 5, 6] rfl) (hD.sub [0, 1, 2, 3, 4, 5, 6] (by decide) rfl) hS _ (lv_sub hl [1, 0] rfl)
    | succ n ih =>
      intro i fb0 fb1 fb2 fb3 fb4 hni H locs hP hD hS ls hl
      have hi : i < 10 := by omega
      refine lv_iload_n hx hb dX10_laysNobody_2 rfl (lv_at hl 1 rfl) ?_
      refine lv_bipush (v := 10) hx hb dX10_laysNobody_3 (by decide) ?_
      refine lv_icmp_ge (tgt := 53) hx hb dX10_laysNobody_5 (by decide) (fun c_5 => absurd c_5 (nI_ge hi (by decide))) (fun _ => ?_)
      refine lv_aload_n hx hb dX10_laysNobody_8 rfl (lv_at hl 0 rfl) ?_
      refine va_get (D := D) (ci := 10) (v := .ref a_goFrom) (C := RX10) (T := TX10) (N := 65) hx hb htb itX10 hown hK hP 0 rfl rfl 44 (by decide) (htb _ k_1112) (fun _ h9 => h9) rfl dX10_laysNobody_9 ?_
      refine lv_iload_n hx hb dX10_laysNobody_12 rfl (lv_at hl 1 rfl) ?_
      refine lv_bipush (v := (-2)) hx hb dX10_laysNobody_13 (by decide) ?_
      refine va_iast hx hb hK hP hD hS 1 0 rfl rfl (vp_in_nI (by omega) (by decide)) dX10_laysNobody_15 (fun H locs hP hD hS => ?_)
      obtain ⟨f_2, ef_2⟩ : ∃ g : Nat → Int32, g = upd fb0 (Int32.toNatClampNeg (nI i)) (-2) := ⟨_, rfl⟩
      rw [← ef_2] at hP hD
      have hP : va_P D vwCl [(h0, .inr (10, [.ref a_now, .ref a_aside, .ref a_kept, .ref a_keptFrom, .ref a_keptTo, .ref a_capOf, .ref a_leaveFrom, .ref a_leaveTo, .ref a_amountOf, .ref a_doerMany, .ref a_doerOf, .int 0, .int 0, .int 0, .ref a_tape, .int 0, .int 0, .int 0, .int 0, .int 0, .int 0, .int 0, .int 0, .int 0, .int 0, .ref a_said, .ref a_waitsAt, .ref a_saidLetter, .ref a_saidFrom, .ref a_saidHalf, .ref a_saidTo, .ref a_codes, .ref a_clauseOf, .ref a_codeFrom, .ref a_codeHalf, .ref a_codeTo, .ref a_stack, .ref a_facts, .ref a_lineChore, .ref a_lineMany, .ref a_lineDoer, .ref a_newFrom, .ref a_newTo, .int 0, .ref a_goFrom, .ref a_goTo, .ref a_idleFrom, .ref a_idleTo, .ref a_moreOf, .ref a_firstOf, .ref a_leftOf, .ref a_didOf, .int rv, .int du, .int cl, .int gd, .ref a_costBy, .int 0, .ref a_gainBy, .ref a_hiredOf, .ref a_hiredBest, .ref a_hiredTo, .ref a_turnOf, .ref a_turnWho, .int 0])), (a_goFrom, .inl (cI, 10, .inl f_2)), (a_goTo, .inl (cI, 10, .inl fb1)), (a_idleFrom, .inl (cI, 10, .inl fb2)), (a_idleTo, .inl (cI, 10, .inl fb3)), (a_moreOf, .inl (cI, 10, .inl fb4)), (a_firstOf, .inl (cI, 12, .inl fa5))] H := hP
      have hD : va_D A [(h0, .inr (10, [.ref a_now, .ref a_aside, .ref a_kept, .ref a_keptFrom, .ref a_keptTo, .ref a_capOf, .ref a_leaveFrom, .ref a_leaveTo, .ref a_amountOf, .ref a_doerMany, .ref a_doerOf, .int 0, .int 0, .int 0, .ref a_tape, .int 0, .int 0, .int 0, .int 0, .int 0, .int 0, .int 0, .int 0, .int 0, .int 0, .ref a_said, .ref a_waitsAt, .ref a_saidLetter, .ref a_saidFrom, .ref a_saidHalf, .ref a_saidTo, .ref a_codes, .ref a_clauseOf, .ref a_codeFrom, .ref a_codeHalf, .ref a_codeTo, .ref a_stack, .ref a_facts, .ref a_lineChore, .ref a_lineMany, .ref a_lineDoer, .ref a_newFrom, .ref a_newTo, .int 0, .ref a_goFrom, .ref a_goTo, .ref a_idleFrom, .ref a_idleTo, .ref a_moreOf, .ref a_firstOf, .ref a_leftOf, .ref a_didOf, .int rv, .int du, .int cl, .int gd, .ref a_costBy, .int 0, .ref a_gainBy, .ref a_hiredOf, .ref a_hiredBest, .ref a_hiredTo, .ref a_turnOf, .ref a_turnWho, .int 0])), (a_goFrom, .inl (cI, 10, .inl f_2)), (a_goTo, .inl (cI, 10, .inl fb1)), (a_idleFrom, .inl (cI, 10, .inl fb2)), (a_idleTo, .inl (cI, 10, .inl fb3)), (a_moreOf, .inl (cI, 10, .inl fb4)), (a_firstOf, .inl (cI, 12, .inl fa5))] := hD
      refine lv_aload_n hx hb dX10_laysNobody_16 rfl (lv_at hl 0 rfl) ?_
      refine va_get (D := D) (ci := 10) (v := .ref a_goTo) (C := RX10) (T := TX10) (N := 65) hx hb htb itX10 hown hK hP 0 rfl rfl 45 (by decide) (htb _ k_1113) (fun _ h9 => h9) rfl dX10_laysNobody_17 ?_
      refine lv_iload_n hx hb dX10_laysNobody_20 rfl (lv_at hl 1 rfl) ?_
      refine lv_bipush (v := (-3)) hx hb dX10_laysNobody_21 (by decide) ?_
      refine va_iast hx hb hK hP hD hS 2 0 rfl rfl (vp_in_nI (by omega) (by decide)) dX10_laysNobody_23 (fun H locs hP hD hS => ?_)
      obtain ⟨f_3, ef_3⟩ : ∃ g : Nat → Int32, g = upd fb1 (Int32.toNatClampNeg (nI i)) (-3) := ⟨_, rfl⟩
      rw [← ef_3] at hP hD
      have hP : va_P D vwCl [(h0, .inr (10, [.ref a_now, .ref a_aside, .ref a_kept, .ref a_keptFrom, .ref a_keptTo, .ref a_capOf, .ref a_leaveFrom, .ref a_leaveTo, .ref a_amountOf, .ref a_doerMany, .ref a_doerOf, .int 0, .int 0, .int 0, .ref a_tape, .int 0, .int 0, .int 0, .int 0, .int 0, .int 0, .int 0, .int 0, .int 0, .int 0, .ref a_said, .ref a_waitsAt, .ref a_saidLetter, .ref a_saidFrom, .ref a_saidHalf, .ref a_saidTo, .ref a_codes, .ref a_clauseOf, .ref a_codeFrom, .ref a_codeHalf, .ref a_codeTo, .ref a_stack, .ref a_facts, .ref a_lineChore, .ref a_lineMany, .ref a_lineDoer, .ref a_newFrom, .ref a_newTo, .int 0, .ref a_goFrom, .ref a_goTo, .ref a_idleFrom, .ref a_idleTo, .ref a_moreOf, .ref a_firstOf, .ref a_leftOf, .ref a_didOf, .int rv, .int du, .int cl, .int gd, .ref a_costBy, .int 0, .ref a_gainBy, .ref a_hiredOf, .ref a_hiredBest, .ref a_hiredTo, .ref a_turnOf, .ref a_turnWho, .int 0])), (a_goFrom, .inl (cI, 10, .inl f_2)), (a_goTo, .inl (cI, 10, .inl f_3)), (a_idleFrom, .inl (cI, 10, .inl fb2)), (a_idleTo, .inl (cI, 10, .inl fb3)), (a_moreOf, .inl (cI, 10, .inl fb4)), (a_firstOf, .inl (cI, 12, .inl fa5))] H := hP
      have hD : va_D A [(h0, .inr (10, [.ref a_now, .ref a_aside, .ref a_kept, .ref a_keptFrom, .ref a_keptTo, .ref a_capOf, .ref a_leaveFrom, .ref a_leaveTo, .ref a_amountOf, .ref a_doerMany, .ref a_doerOf, .int 0, .int 0, .int 0, .ref a_tape, .int 0, .int 0, .int 0, .int 0, .int 0, .int 0, .int 0, .int 0, .int 0, .int 0, .ref a_said, .ref a_waitsAt, .ref a_saidLetter, .ref a_saidFrom, .ref a_saidHalf, .ref a_saidTo, .ref a_codes, .ref a_clauseOf, .ref a_codeFrom, .ref a_codeHalf, .ref a_codeTo, .ref a_stack, .ref a_facts, .ref a_lineChore, .ref a_lineMany, .ref a_lineDoer, .ref a_newFrom, .ref a_newTo, .int 0, .ref a_goFrom, .ref a_goTo, .ref a_idleFrom, .ref a_idleTo, .ref a_moreOf, .ref a_firstOf, .ref a_leftOf, .ref a_didOf, .int rv, .int du, .int cl, .int gd, .ref a_costBy, .int 0, .ref a_gainBy, .ref a_hiredOf, .ref a_hiredBest, .ref a_hiredTo, .ref a_turnOf, .ref a_turnWho, .int 0])), (a_goFrom, .inl (cI, 10, .inl f_2)), (a_goTo, .inl (cI, 10, .inl f_3)), (a_idleFrom, .inl (cI, 10, .inl fb2)), (a_idleTo, .inl (cI, 10, .inl fb3)), (a_moreOf, .inl (cI, 10, .inl fb4)), (a_firstOf, .inl (cI, 12, .inl fa5))] := hD
      refine lv_aload_n hx hb dX10_laysNobody_24 rfl (lv_at hl 0 rfl) ?_
      refine va_get (D := D) (ci := 10) (v := .ref a_idleFrom) (C := RX10) (T := TX10) (N := 65) hx hb htb itX10 hown hK hP 0 rfl rfl 46 (by decide) (htb _ k_1114) (fun _ h9 => h9) rfl dX10_laysNobody_25 ?_
      refine lv_iload_n hx hb dX10_laysNobody_28 rfl (lv_at hl 1 rfl) ?_
      refine lv_bipush (v := (-2)) hx hb dX10_laysNobody_29 (by decide) ?_
      refine va_iast hx hb hK hP hD hS 3 0 rfl rfl (vp_in_nI (by omega) (by decide)) dX10_laysNobody_31 (fun H locs hP hD hS => ?_)
      obtain ⟨f_4, ef_4⟩ : ∃ g : Nat → Int32, g = upd fb2 (Int32.toNatClampNeg (nI i)) (-2) := ⟨_, rfl⟩
      rw [← ef_4] at hP hD
      have hP : va_P D vwCl [(h0, .inr (10, [.ref a_now, .ref a_aside, .ref a_kept, .ref a_keptFrom, .ref a_keptTo, .ref a_capOf, .ref a_leaveFrom, .ref a_leaveTo, .ref a_amountOf, .ref a_doerMany, .ref a_doerOf, .int 0, .int 0, .int 0, .ref a_tape, .int 0, .int 0, .int 0, .int 0, .int 0, .int 0, .int 0, .int 0, .int 0, .int 0, .ref a_said, .ref a_waitsAt, .ref a_saidLetter, .ref a_saidFrom, .ref a_saidHalf, .ref a_saidTo, .ref a_codes, .ref a_clauseOf, .ref a_codeFrom, .ref a_codeHalf, .ref a_codeTo, .ref a_stack, .ref a_facts, .ref a_lineChore, .ref a_lineMany, .ref a_lineDoer, .ref a_newFrom, .ref a_newTo, .int 0, .ref a_goFrom, .ref a_goTo, .ref a_idleFrom, .ref a_idleTo, .ref a_moreOf, .ref a_firstOf, .ref a_leftOf, .ref a_didOf, .int rv, .int du, .int cl, .int gd, .ref a_costBy, .int 0, .ref a_gainBy, .ref a_hiredOf, .ref a_hiredBest, .ref a_hiredTo, .ref a_turnOf, .ref a_turnWho, .int 0])), (a_goFrom, .inl (cI, 10, .inl f_2)), (a_goTo, .inl (cI, 10, .inl f_3)), (a_idleFrom, .inl (cI, 10, .inl f_4)), (a_idleTo, .inl (cI, 10, .inl fb3)), (a_moreOf, .inl (cI, 10, .inl fb4)), (a_firstOf, .inl (cI, 12, .inl fa5))] H := hP
      have hD : va_D A [(h0, .inr (10, [.ref a_now, .ref a_aside, .ref a_kept, .ref a_keptFrom, .ref a_keptTo, .ref a_capOf, .ref a_leaveFrom, .ref a_leaveTo, .ref a_amountOf, .ref a_doerMany, .ref a_doerOf, .int 0, .int 0, .int 0, .ref a_tape, .int 0, .int 0, .int 0, .int 0, .int 0, .int 0, .int 0, .int 0, .int 0, .int 0, .ref a_said, .ref a_waitsAt, .ref a_saidLetter, .ref a_saidFrom, .ref a_saidHalf, .ref a_saidTo, .ref a_codes, .ref a_clauseOf, .ref a_codeFrom, .ref a_codeHalf, .ref a_codeTo, .ref a_stack, .ref a_facts, .ref a_lineChore, .ref a_lineMany, .ref a_lineDoer, .ref a_newFrom, .ref a_newTo, .int 0, .ref a_goFrom, .ref a_goTo, .ref a_idleFrom, .ref a_idleTo, .ref a_moreOf, .ref a_firstOf, .ref a_leftOf, .ref a_didOf, .int rv, .int du, .int cl, .int gd, .ref a_costBy, .int 0, .ref a_gainBy, .ref a_hiredOf, .ref a_hiredBest, .ref a_hiredTo, .ref a_turnOf, .ref a_turnWho, .int 0])), (a_goFrom, .inl (cI, 10, .inl f_2)), (a_goTo, .inl (cI, 10, .inl f_3)), (a_idleFrom, .inl (cI, 10, .inl f_4)), (a_idleTo, .inl (cI, 10, .inl fb3)), (a_moreOf, .inl (cI, 10, .inl fb4)), (a_firstOf, .inl (cI, 12, .inl fa5))] := hD
      refine lv_aload_n hx hb dX10_laysNobody_32 rfl (lv_at hl 0 rfl) ?_
      refine va_get (D := D) (ci := 10) (v := .ref a_idleTo) (C := RX10) (T := TX10) (N := 65) hx hb htb itX10 hown hK hP 0 rfl rfl 47 (by decide) (htb _ k_1115) (fun _ h9 => h9) rfl dX10_laysNobody_33 ?_
      refine lv_iload_n hx hb dX10_laysNobody_36 rfl (lv_at hl 1 rfl) ?_
      refine lv_bipush (v := (-3)) hx hb dX10_laysNobody_37 (by decide) ?_
      refine va_iast hx hb hK hP hD hS 4 0 rfl rfl (vp_in_nI (by omega) (by decide)) dX10_laysNobody_39 (fun H locs hP hD hS => ?_)
      obtain ⟨f_5, ef_5⟩ : ∃ g : Nat → Int32, g = upd fb3 (Int32.toNatClampNeg (nI i)) (-3) := ⟨_, rfl⟩
      rw [← ef_5] at hP hD
      have hP : va_P D vwCl [(h0, .inr (10, [.ref a_now, .ref a_aside, .ref a_kept, .ref a_keptFrom, .ref a_keptTo, .ref a_capOf, .ref a_leaveFrom, .ref a_leaveTo, .ref a_amountOf, .ref a_doerMany, .ref a_doerOf, .int 0, .int 0, .int 0, .ref a_tape, .int 0, .int 0, .int 0, .int 0, .int 0, .int 0, .int 0, .int 0, .int 0, .int 0, .ref a_said, .ref a_waitsAt, .ref a_saidLetter, .ref a_saidFrom, .ref a_saidHalf, .ref a_saidTo, .ref a_codes, .ref a_clauseOf, .ref a_codeFrom, .ref a_codeHalf, .ref a_codeTo, .ref a_stack, .ref a_facts, .ref a_lineChore, .ref a_lineMany, .ref a_lineDoer, .ref a_newFrom, .ref a_newTo, .int 0, .ref a_goFrom, .ref a_goTo, .ref a_idleFrom, .ref a_idleTo, .ref a_moreOf, .ref a_firstOf, .ref a_leftOf, .ref a_didOf, .int rv, .int du, .int cl, .int gd, .ref a_costBy, .int 0, .ref a_gainBy, .ref a_hiredOf, .ref a_hiredBest, .ref a_hiredTo, .ref a_turnOf, .ref a_turnWho, .int 0])), (a_goFrom, .inl (cI, 10, .inl f_2)), (a_goTo, .inl (cI, 10, .inl f_3)), (a_idleFrom, .inl (cI, 10, .inl f_4)), (a_idleTo, .inl (cI, 10, .inl f_5)), (a_moreOf, .inl (cI, 10, .inl fb4)), (a_firstOf, .inl (cI, 12, .inl fa5))] H := hP
      have hD : va_D A [(h0, .inr (10, [.ref a_now, .ref a_aside, .ref a_kept, .ref a_keptFrom, .ref a_keptTo, .ref a_capOf, .ref a_leaveFrom, .ref a_leaveTo, .ref a_amountOf, .ref a_doerMany, .ref a_doerOf, .int 0, .int 0, .int 0, .ref a_tape, .int 0, .int 0, .int 0, .int 0, .int 0, .int 0, .int 0, .int 0, .int 0, .int 0, .ref a_said, .ref a_waitsAt, .ref a_saidLetter, .ref a_saidFrom, .ref a_saidHalf, .ref a_saidTo, .ref a_codes, .ref a_clauseOf, .ref a_codeFrom, .ref a_codeHalf, .ref a_codeTo, .ref a_stack, .ref a_facts, .ref a_lineChore, .ref a_lineMany, .ref a_lineDoer, .ref a_newFrom, .ref a_newTo, .int 0, .ref a_goFrom, .ref a_goTo, .ref a_idleFrom, .ref a_idleTo, .ref a_moreOf, .ref a_firstOf, .ref a_leftOf, .ref a_didOf, .int rv, .int du, .int cl, .int gd, .ref a_costBy, .int 0, .ref a_gainBy, .ref a_hiredOf, .ref a_hiredBest, .ref a_hiredTo, .ref a_turnOf, .ref a_turnWho, .int 0])), (a_goFrom, .inl (cI, 10, .inl f_2)), (a_goTo, .inl (cI, 10, .inl f_3)), (a_idleFrom, .inl (cI, 10, .inl f_4)), (a_idleTo, .inl (cI, 10, .inl f_5)), (a_moreOf, .inl (cI, 10, .inl fb4)), (a_firstOf, .inl (cI, 12, .inl fa5))] := hD
      refine lv_aload_n hx hb dX10_laysNobody_40 rfl (lv_at hl 0 rfl) ?_
      refine va_get (D := D) (ci := 10) (v := .ref a_moreOf) (C := RX10) (T := TX10) (N := 65) hx hb htb itX10 hown hK hP 0 rfl rfl 48 (by decide) (htb _ k_1116) (fun _ h9 => h9) rfl dX10_laysNobody_41 ?_
      refine lv_iload_n hx hb dX10_laysNobody_44 rfl (lv_at hl 1 rfl) ?_
      refine lv_iconst (v := 0) hx hb dX10_laysNobody_45 (by decide) ?_
      refine va_iast hx hb hK hP hD hS 5 0 rfl rfl (vp_in_nI (by omega) (by decide)) dX10_laysNobody_46 (fun H locs hP hD hS => ?_)
      obtain ⟨f_6, ef_6⟩ : ∃ g : Nat → Int32, g = upd fb4 (Int32.toNatClampNeg (nI i)) 0 := ⟨_, rfl⟩
      rw [← ef_6] at hP hD
      have hP : va_P D vwCl [(h0, .inr (10, [.ref a_now, .ref a_aside, .ref a_kept, .ref a_keptFrom, .ref a_keptTo, .ref a_capOf, .ref a_leaveFrom, .ref a_leaveTo, .ref a_amountOf, .ref a_doerMany, .ref a_doerOf, .int 0, .int 0, .int 0, .ref a_tape, .int 0, .int 0, .int 0, .int 0, .int 0, .int 0, .int 0, .int 0, .int 0, .int 0, .ref a_said, .ref a_waitsAt, .ref a_saidLetter, .ref a_saidFrom, .ref a_saidHalf, .ref a_saidTo, .ref a_codes, .ref a_clauseOf, .ref a_codeFrom, .ref a_codeHalf, .ref a_codeTo, .ref a_stack, .ref a_facts, .ref a_lineChore, .ref a_lineMany, .ref a_lineDoer, .ref a_newFrom, .ref a_newTo, .int 0, .ref a_goFrom, .ref a_goTo, .ref a_idleFrom, .ref a_idleTo, .ref a_moreOf, .ref a_firstOf, .ref a_leftOf, .ref a_didOf, .int rv, .int du, .int cl, .int gd, .ref a_costBy, .int 0, .ref a_gainBy, .ref a_hiredOf, .ref a_hiredBest, .ref a_hiredTo, .ref a_turnOf, .ref a_turnWho, .int 0])), (a_goFrom, .inl (cI, 10, .inl f_2)), (a_goTo, .inl (cI, 10, .inl f_3)), (a_idleFrom, .inl (cI, 10, .inl f_4)), (a_idleTo, .inl (cI, 10, .inl f_5)), (a_moreOf, .inl (cI, 10, .inl f_6)), (a_firstOf, .inl (cI, 12, .inl fa5))] H := hP
      have hD : va_D A [(h0, .inr (10, [.ref a_now, .ref a_aside, .ref a_kept, .ref a_keptFrom, .ref a_keptTo, .ref a_capOf, .ref a_leaveFrom, .ref a_leaveTo, .ref a_amountOf, .ref a_doerMany, .ref a_doerOf, .int 0, .int 0, .int 0, .ref a_tape, .int 0, .int 0, .int 0, .int 0, .int 0, .int 0, .int 0, .int 0, .int 0, .int 0, .ref a_said, .ref a_waitsAt, .ref a_saidLetter, .ref a_saidFrom, .ref a_saidHalf, .ref a_saidTo, .ref a_codes, .ref a_clauseOf, .ref a_codeFrom, .ref a_codeHalf, .ref a_codeTo, .ref a_stack, .ref a_facts, .ref a_lineChore, .ref a_lineMany, .ref a_lineDoer, .ref a_newFrom, .ref a_newTo, .int 0, .ref a_goFrom, .ref a_goTo, .ref a_idleFrom, .ref a_idleTo, .ref a_moreOf, .ref a_firstOf, .ref a_leftOf, .ref a_didOf, .int rv, .int du, .int cl, .int gd, .ref a_costBy, .int 0, .ref a_gainBy, .ref a_hiredOf, .ref a_hiredBest, .ref a_hiredTo, .ref a_turnOf, .ref a_turnWho, .int 0])), (a_goFrom, .inl (cI, 10, .inl f_2)), (a_goTo, .inl (cI, 10, .inl f_3)), (a_idleFrom, .inl (cI, 10, .inl f_4)), (a_idleTo, .inl (cI, 10, .inl f_5)), (a_moreOf, .inl (cI, 10, .inl f_6)), (a_firstOf, .inl (cI, 12, .inl fa5))] := hD
      refine lv_iinc (v := (nI (i + 1))) (lv' := [(1, .int (nI (i + 1))), (0, .ref h0)]) hx hb dX10_laysNobody_47 hl (k := 1) rfl (nI_1 i) (by decide) rfl (fun ls hl => ?_)
      refine lv_goto (tgt := 2) hx hb dX10_laysNobody_50 (by decide) ?_
      exact ih (i + 1) f_2 f_3 f_4 f_5 f_6 (by omega) _ _ (hP.sub [0, 1, 2, 3, 4, 5, 6] rfl) (hD.sub [0, 1, 2, 3, 4, 5, 6] (by decide) rfl) hS _ (lv_sub hl [1, 0] rfl)
  exact loop_2 10 0 fa0 fa1 fa2 fa3 fa4 (by omega) _ _ (hP.sub [0, 1, 2, 3, 4, 5, 6] rfl) (hD.sub [0, 1, 2, 3, 4, 5, 6] (by decide) rfl) hS _ (lv_sub hl [1, 0] rfl)

set_option maxRecDepth 100000 in
set_option maxHeartbeats 4000000 in
theorem c_X10_laysGoing (l : Launch) (D : va_G) (cI cB : ClassId) (sz : Nat) (h0 : Nat) (a_now : Nat) (a_aside : Nat) (a_kept : Nat) (a_keptFrom : Nat) (a_keptTo : Nat) (a_capOf : Nat) (a_leaveFrom : Nat) (a_leaveTo : Nat) (a_amountOf : Nat) (a_doerMany : Nat) (a_doerOf : Nat) (a_tape : Nat) (a_said : Nat) (a_waitsAt : Nat) (a_saidLetter : Nat) (a_saidFrom : Nat) (a_saidHalf : Nat) (a_saidTo : Nat) (a_codes : Nat) (a_clauseOf : Nat) (a_codeFrom : Nat) (a_codeHalf : Nat) (a_codeTo : Nat) (a_stack : Nat) (a_facts : Nat) (a_lineChore : Nat) (a_lineMany : Nat) (a_lineDoer : Nat) (a_newFrom : Nat) (a_newTo : Nat) (a_goFrom : Nat) (a_goTo : Nat) (a_idleFrom : Nat) (a_idleTo : Nat) (a_moreOf : Nat) (a_firstOf : Nat) (a_leftOf : Nat) (a_didOf : Nat) (a_costBy : Nat) (a_gainBy : Nat) (a_hiredOf : Nat) (a_hiredBest : Nat) (a_hiredTo : Nat) (a_turnOf : Nat) (a_turnWho : Nat) (rv : Int32) (du : Int32) (cl : Int32) (gd : Int32) (fa0 : Nat → Int32) (fa1 : Nat → Int32) (fa2 : Nat → Int32) (fa3 : Nat → Int32) (fa4 : Nat → Int32) (fa5 : Nat → Int32) (fl : Nat → Int32) (a : Int32) (hf : ∀ j, j < 10 → fl j = -2) : MV (S := ((Nat → Int32) × (Nat → Int32) × (Nat → Int32) × (Nat → Int32) × (Nat → Int32) × (Nat → Int32))) l D cI cB yX10_laysGoing cX10_laysGoing 3 (rm 1 21) [.ref h0, .int a] [(h0, .inr (10, [.ref a_now, .ref a_aside, .ref a_kept, .ref a_keptFrom, .ref a_keptTo, .ref a_capOf, .ref a_leaveFrom, .ref a_leaveTo, .ref a_amountOf, .ref a_doerMany, .ref a_doerOf, .int 0, .int 0, .int 0, .ref a_tape, .int 0, .int 0, .int 0, .int 0, .int 0, .int 0, .int 0, .int 0, .int 0, .int 0, .ref a_said, .ref a_waitsAt, .ref a_saidLetter, .ref a_saidFrom, .ref a_saidHalf, .ref a_saidTo, .ref a_codes, .ref a_clauseOf, .ref a_codeFrom, .ref a_codeHalf, .ref a_codeTo, .ref a_stack, .ref a_facts, .ref a_lineChore, .ref a_lineMany, .ref a_lineDoer, .ref a_newFrom, .ref a_newTo, .int 0, .ref a_goFrom, .ref a_goTo, .ref a_idleFrom, .ref a_idleTo, .ref a_moreOf, .ref a_firstOf, .ref a_leftOf, .ref a_didOf, .int rv, .int du, .int cl, .int gd, .ref a_costBy, .int 0, .ref a_gainBy, .ref a_hiredOf, .ref a_hiredBest, .ref a_hiredTo, .ref a_turnOf, .ref a_turnWho, .int 0])), (a_goFrom, .inl (cI, 10, .inl fa0)), (a_goTo, .inl (cI, 10, .inl fa1)), (a_idleFrom, .inl (cI, 10, .inl fa2)), (a_idleTo, .inl (cI, 10, .inl fa3)), (a_moreOf, .inl (cI, 10, .inl fa4)), (a_firstOf, .inl (cI, 12, .inl fa5)), (a_leaveFrom, .inl (cI, 10, .inl fl))] sz (fun u => True) (fun u : ((Nat → Int32) × (Nat → Int32) × (Nat → Int32) × (Nat → Int32) × (Nat → Int32) × (Nat → Int32)) => [(h0, .inr (10, [.ref a_now, .ref a_aside, .ref a_kept, .ref a_keptFrom, .ref a_keptTo, .ref a_capOf, .ref a_leaveFrom, .ref a_leaveTo, .ref a_amountOf, .ref a_doerMany, .ref a_doerOf, .int 0, .int 0, .int 0, .ref a_tape, .int 0, .int 0, .int 0, .int 0, .int 0, .int 0, .int 0, .int 0, .int 0, .int 0, .ref a_said, .ref a_waitsAt, .ref a_saidLetter, .ref a_saidFrom, .ref a_saidHalf, .ref a_saidTo, .ref a_codes, .ref a_clauseOf, .ref a_codeFrom, .ref a_codeHalf, .ref a_codeTo, .ref a_stack, .ref a_facts, .ref a_lineChore, .ref a_lineMany, .ref a_lineDoer, .ref a_newFrom, .ref a_newTo, .int 0, .ref a_goFrom, .ref a_goTo, .ref a_idleFrom, .ref a_idleTo, .ref a_moreOf, .ref a_firstOf, .ref a_leftOf, .ref a_didOf, .int rv, .int du, .int cl, .int gd, .ref a_costBy, .int 0, .ref a_gainBy, .ref a_hiredOf, .ref a_hiredBest, .ref a_hiredTo, .ref a_turnOf, .ref a_turnWho, .int 0])), (a_goFrom, .inl (cI, 10, .inl u.1)), (a_goTo, .inl (cI, 10, .inl u.2.1)), (a_idleFrom, .inl (cI, 10, .inl u.2.2.1)), (a_idleTo, .inl (cI, 10, .inl u.2.2.2.1)), (a_moreOf, .inl (cI, 10, .inl u.2.2.2.2.1)), (a_firstOf, .inl (cI, 12, .inl u.2.2.2.2.2)), (a_leaveFrom, .inl (cI, 10, .inl fl))]) := by
  refine MV.of (by decide) (Nat.le_of_ble_eq_true rfl) ?_
  intro p e s m below meth c Q ls A X hin hN hP hK hD hA hl ret
  have hS : va_S A s.heap s.heap [] := va_S.rf
  obtain ⟨hx, hb, hml, hown, htb⟩ := id X
  have hl : lv_has ls 3 [(0, .ref h0), (1, .int a)] := hl
  refine lv_aload_n hx hb dX10_laysGoing_0 rfl (lv_at hl 0 rfl) ?_
  refine cVV (As := []) (rest := []) (n := 0) (ci := 10) (q0 := 0) (wr := [(a_leaveFrom, .inl (cI, 10, .inl fl))]) X hN hK hP hD hS hA (c_X10_laysNobody l D cI cB _ h0 a_now a_aside a_kept a_keptFrom a_keptTo a_capOf a_leaveFrom a_leaveTo a_amountOf a_doerMany a_doerOf a_tape a_said a_waitsAt a_saidLetter a_saidFrom a_saidHalf a_saidTo a_codes a_clauseOf a_codeFrom a_codeHalf a_codeTo a_stack a_facts a_lineChore a_lineMany a_lineDoer a_newFrom a_newTo a_goFrom a_goTo a_idleFrom a_idleTo a_moreOf a_firstOf a_leftOf a_didOf a_costBy a_gainBy a_hiredOf a_hiredBest a_hiredTo a_turnOf a_turnWho rv du cl gd fa0 fa1 fa2 fa3 fa4 fa5) (gV k_1426 k_1428 k_59 k_103 k_1429) (by decide +kernel) ⟨Nat.le_of_ble_eq_true rfl, Nat.le_of_ble_eq_true rfl⟩ ⟨rfl, rfl⟩ [0, 1, 2, 3, 4, 5, 6] [7] rfl rfl (by decide) (by decide) rfl rfl rfl rfl rfl hl.1 (Nat.le_of_ble_eq_true rfl) dX10_laysGoing_1 ⟨Nat.le_of_ble_eq_true rfl, Nat.le_of_ble_eq_true rfl⟩ (fun u H locs hw_8 hP hD hS => ?_)
  obtain ⟨go0_2, go1_3, go2_4, go3_5, go4_6, go5_7⟩ := u
  try dsimp only at hw_8
  have hP : va_P D vwCl [(a_leaveFrom, .inl (cI, 10, .inl fl)), (h0, .inr (10, [.ref a_now, .ref a_aside, .ref a_kept, .ref a_keptFrom, .ref a_keptTo, .ref a_capOf, .ref a_leaveFrom, .ref a_leaveTo, .ref a_amountOf, .ref a_doerMany, .ref a_doerOf, .int 0, .int 0, .int 0, .ref a_tape, .int 0, .int 0, .int 0, .int 0, .int 0, .int 0, .int 0, .int 0, .int 0, .int 0, .ref a_said, .ref a_waitsAt, .ref a_saidLetter, .ref a_saidFrom, .ref a_saidHalf, .ref a_saidTo, .ref a_codes, .ref a_clauseOf, .ref a_codeFrom, .ref a_codeHalf, .ref a_codeTo, .ref a_stack, .ref a_facts, .ref a_lineChore, .ref a_lineMany, .ref a_lineDoer, .ref a_newFrom, .ref a_newTo, .int 0, .ref a_goFrom, .ref a_goTo, .ref a_idleFrom, .ref a_idleTo, .ref a_moreOf, .ref a_firstOf, .ref a_leftOf, .ref a_didOf, .int rv, .int du, .int cl, .int gd, .ref a_costBy, .int 0, .ref a_gainBy, .ref a_hiredOf, .ref a_hiredBest, .ref a_hiredTo, .ref a_turnOf, .ref a_turnWho, .int 0])), (a_goFrom, .inl (cI, 10, .inl go0_2)), (a_goTo, .inl (cI, 10, .inl go1_3)), (a_idleFrom, .inl (cI, 10, .inl go2_4)), (a_idleTo, .inl (cI, 10, .inl go3_5)), (a_moreOf, .inl (cI, 10, .inl go4_6)), (a_firstOf, .inl (cI, 12, .inl go5_7))] H := hP
  have hD : va_D A [(a_leaveFrom, .inl (cI, 10, .inl fl)), (h0, .inr (10, [.ref a_now, .ref a_aside, .ref a_kept, .ref a_keptFrom, .ref a_keptTo, .ref a_capOf, .ref a_leaveFrom, .ref a_leaveTo, .ref a_amountOf, .ref a_doerMany, .ref a_doerOf, .int 0, .int 0, .int 0, .ref a_tape, .int 0, .int 0, .int 0, .int 0, .int 0, .int 0, .int 0, .int 0, .int 0, .int 0, .ref a_said, .ref a_waitsAt, .ref a_saidLetter, .ref a_saidFrom, .ref a_saidHalf, .ref a_saidTo, .ref a_codes, .ref a_clauseOf, .ref a_codeFrom, .ref a_codeHalf, .ref a_codeTo, .ref a_stack, .ref a_facts, .ref a_lineChore, .ref a_lineMany, .ref a_lineDoer, .ref a_newFrom, .ref a_newTo, .int 0, .ref a_goFrom, .ref a_goTo, .ref a_idleFrom, .ref a_idleTo, .ref a_moreOf, .ref a_firstOf, .ref a_leftOf, .ref a_didOf, .int rv, .int du, .int cl, .int gd, .ref a_costBy, .int 0, .ref a_gainBy, .ref a_hiredOf, .ref a_hiredBest, .ref a_hiredTo, .ref a_turnOf, .ref a_turnWho, .int 0])), (a_goFrom, .inl (cI, 10, .inl go0_2)), (a_goTo, .inl (cI, 10, .inl go1_3)), (a_idleFrom, .inl (cI, 10, .inl go2_4)), (a_idleTo, .inl (cI, 10, .inl go3_5)), (a_moreOf, .inl (cI, 10, .inl go4_6)), (a_firstOf, .inl (cI, 12, .inl go5_7))] := hD
  refine lv_iconst (v := 0) hx hb dX10_laysGoing_4 (by decide) ?_
  refine lv_istore_n (lv' := [(2, .int 0), (0, .ref h0), (1, .int a)]) hx hb dX10_laysGoing_5 rfl hl (by decide) rfl (fun ls hl => ?_)
  have loop_6 : ∀ (n i : Nat), n + i = 10 → ∀ (H : Heap) (locs : List Loc), va_P D vwCl [(a_leaveFrom, .inl (cI, 10, .inl fl)), (h0, .inr (10, [.ref a_now, .ref a_aside, .ref a_kept, .ref a_keptFrom, .ref a_keptTo, .ref a_capOf, .ref a_leaveFrom, .ref a_leaveTo, .ref a_amountOf, .ref a_doerMany, .ref a_doerOf, .int 0, .int 0, .int 0, .ref a_tape, .int 0, .int 0, .int 0, .int 0, .int 0, .int 0, .int 0, .int 0, .int 0, .int 0, .ref a_said, .ref a_waitsAt, .ref a_saidLetter, .ref a_saidFrom, .ref a_saidHalf, .ref a_saidTo, .ref a_codes, .ref a_clauseOf, .ref a_codeFrom, .ref a_codeHalf, .ref a_codeTo, .ref a_stack, .ref a_facts, .ref a_lineChore, .ref a_lineMany, .ref a_lineDoer, .ref a_newFrom, .ref a_newTo, .int 0, .ref a_goFrom, .ref a_goTo, .ref a_idleFrom, .ref a_idleTo, .ref a_moreOf, .ref a_firstOf, .ref a_leftOf, .ref a_didOf, .int rv, .int du, .int cl, .int gd, .ref a_costBy, .int 0, .ref a_gainBy, .ref a_hiredOf, .ref a_hiredBest, .ref a_hiredTo, .ref a_turnOf, .ref a_turnWho, .int 0])), (a_goFrom, .inl (cI, 10, .inl go0_2)), (a_goTo, .inl (cI, 10, .inl go1_3)), (a_idleFrom, .inl (cI, 10, .inl go2_4)), (a_idleTo, .inl (cI, 10, .inl go3_5)), (a_moreOf, .inl (cI, 10, .inl go4_6)), (a_firstOf, .inl (cI, 12, .inl go5_7))] H → va_D A [(a_leaveFrom, .inl (cI, 10, .inl fl)), (h0, .inr (10, [.ref a_now, .ref a_aside, .ref a_kept, .ref a_keptFrom, .ref a_keptTo, .ref a_capOf, .ref a_leaveFrom, .ref a_leaveTo, .ref a_amountOf, .ref a_doerMany, .ref a_doerOf, .int 0, .int 0, .int 0, .ref a_tape, .int 0, .int 0, .int 0, .int 0, .int 0, .int 0, .int 0, .int 0, .int 0, .int 0, .ref a_said, .ref a_waitsAt, .ref a_saidLetter, .ref a_saidFrom, .ref a_saidHalf, .ref a_saidTo, .ref a_codes, .ref a_clauseOf, .ref a_codeFrom, .ref a_codeHalf, .ref a_codeTo, .ref a_stack, .ref a_facts, .ref a_lineChore, .ref a_lineMany, .ref a_lineDoer, .ref a_newFrom, .ref a_newTo, .int 0, .ref a_goFrom, .ref a_goTo, .ref a_idleFrom, .ref a_idleTo, .ref a_moreOf, .ref a_firstOf, .ref a_leftOf, .ref a_didOf, .int rv, .int du, .int cl, .int gd, .ref a_costBy, .int 0, .ref a_gainBy, .ref a_hiredOf, .ref a_hiredBest, .ref a_hiredTo, .ref a_turnOf, .ref a_turnWho, .int 0])), (a_goFrom, .inl (cI, 10, .inl go0_2)), (a_goTo, .inl (cI, 10, .inl go1_3)), (a_idleFrom, .inl (cI, 10, .inl go2_4)), (a_idleTo, .inl (cI, 10, .inl go3_5)), (a_moreOf, .inl (cI, 10, .inl go4_6)), (a_firstOf, .inl (cI, 12, .inl go5_7))] → va_S A s.heap H locs → ∀ (ls : Array Slot), lv_has ls 3 [(0, .ref h0), (1, .int a), (2, .int (nI i))] → W p l e (rm 1 21) s m ([.ref h0, .int a] : List Value).toArray below meth c H locs 0 0 Q (F0 m 6 ls []) := by
    intro n
    induction n with
    | zero =>
      intro i hni H locs hP hD hS ls hl
      have hi : i = 10 := by omega
      subst hi
      refine lv_iload_n hx hb dX10_laysGoing_6 rfl (lv_at hl 2 rfl) ?_
      refine lv_bipush (v := 10) hx hb dX10_laysGoing_7 (by decide) ?_
      refine lv_icmp_ge (tgt := 51) hx hb dX10_laysGoing_9 (by decide) (fun _ => ?_) (fun c_9 => absurd (by decide) c_9)
      exact ret _ _ _ _ (go0_2, go1_3, go2_4, go3_5, go4_6, go5_7) dX10_laysGoing_51 trivial (hP.sub [1, 2, 3, 4, 5, 6, 7, 0] rfl) (hD.sub [1, 2, 3, 4, 5, 6, 7, 0] (by decide) rfl) hS
    | succ n ih =>
      intro i hni H locs hP hD hS ls hl
      have hi : i < 10 := by omega
      refine lv_iload_n hx hb dX10_laysGoing_6 rfl (lv_at hl 2 rfl) ?_
      refine lv_bipush (v := 10) hx hb dX10_laysGoing_7 (by decide) ?_
      refine lv_icmp_ge (tgt := 51) hx hb dX10_laysGoing_9 (by decide) (fun c_9 => absurd c_9 (nI_ge hi (by decide))) (fun _ => ?_)
      refine lv_iload_n hx hb dX10_laysGoing_12 rfl (lv_at hl 1 rfl) ?_
      refine lv_iload_n hx hb dX10_laysGoing_13 rfl (lv_at hl 2 rfl) ?_
      refine cSR (As := [.int a, .int (nI i)]) (rest := []) (n := 2) X hN hK hP (c_X10_has l D cI cB a (nI i)) k_1385 k_1386 k_103 k_1387 (by decide +kernel) ⟨Nat.le_of_ble_eq_true rfl, Nat.le_of_ble_eq_true rfl⟩ ⟨rfl, rfl⟩ [] rfl rfl rfl hl.1 (Nat.le_of_ble_eq_true rfl) dX10_laysGoing_14 ⟨Nat.le_of_ble_eq_true rfl, Nat.le_of_ble_eq_true rfl⟩ (fun r_9 hr_9 => ?_)
      subst hr_9
      refine lv_if_eq (tgt := 45) hx hb dX10_laysGoing_17 (by decide) (fun c_17 => ?_) (fun c_17 => ?_)
      · refine lv_iinc (v := (nI (i + 1))) (lv' := [(2, .int (nI (i + 1))), (0, .ref h0), (1, .int a)]) hx hb dX10_laysGoing_45 hl (k := 2) rfl (nI_1 i) (by decide) rfl (fun ls hl => ?_)
        refine lv_goto (tgt := 6) hx hb dX10_laysGoing_48 (by decide) ?_
        exact ih (i + 1) (by omega) _ _ (hP.sub [0, 1, 2, 3, 4, 5, 6, 7] rfl) (hD.sub [0, 1, 2, 3, 4, 5, 6, 7] (by decide) rfl) hS _ (lv_sub hl [1, 2, 0] rfl)
      · refine lv_aload_n hx hb dX10_laysGoing_20 rfl (lv_at hl 0 rfl) ?_
        refine lv_iload_n hx hb dX10_laysGoing_21 rfl (lv_at hl 2 rfl) ?_
        refine cVR (As := [.int (nI i)]) (rest := []) (n := 1) (ci := 10) (q0 := 0) X hN hK hP (c_X10_hasLeave l D cI cB h0 a_now a_aside a_kept a_keptFrom a_keptTo a_capOf a_leaveFrom a_leaveTo a_amountOf a_doerMany a_doerOf a_tape a_said a_waitsAt a_saidLetter a_saidFrom a_saidHalf a_saidTo a_codes a_clauseOf a_codeFrom a_codeHalf a_codeTo a_stack a_facts a_lineChore a_lineMany a_lineDoer a_newFrom a_newTo a_goFrom a_goTo a_idleFrom a_idleTo a_moreOf a_firstOf a_leftOf a_didOf a_costBy a_gainBy a_hiredOf a_hiredBest a_hiredTo a_turnOf a_turnWho rv du cl gd i fl hi hf) (gV k_1408 k_1410 k_57 k_103 k_1411) (by decide +kernel) ⟨Nat.le_of_ble_eq_true rfl, Nat.le_of_ble_eq_true rfl⟩ ⟨rfl, rfl⟩ [1, 0] rfl rfl rfl rfl rfl rfl hl.1 (Nat.le_of_ble_eq_true rfl) dX10_laysGoing_22 ⟨Nat.le_of_ble_eq_true rfl, Nat.le_of_ble_eq_true rfl⟩ (fun r_10 hr_10 => ?_)
        subst hr_10
        refine lv_if_eq (tgt := 45) hx hb dX10_laysGoing_25 (by decide) (fun _ => ?_) (fun c_25 => absurd (by decide) c_25)
        refine lv_iinc (v := (nI (i + 1))) (lv' := [(2, .int (nI (i + 1))), (0, .ref h0), (1, .int a)]) hx hb dX10_laysGoing_45 hl (k := 2) rfl (nI_1 i) (by decide) rfl (fun ls hl => ?_)
        refine lv_goto (tgt := 6) hx hb dX10_laysGoing_48 (by decide) ?_
        exact ih (i + 1) (by omega) _ _ (hP.sub [0, 1, 2, 3, 4, 5, 6, 7] rfl) (hD.sub [0, 1, 2, 3, 4, 5, 6, 7] (by decide) rfl) hS _ (lv_sub hl [1, 2, 0] rfl)
  exact loop_6 10 0 (by omega) _ _ (hP.sub [0, 1, 2, 3, 4, 5, 6, 7] rfl) (hD.sub [0, 1, 2, 3, 4, 5, 6, 7] (by decide) rfl) hS _ (lv_sub hl [1, 2, 0] rfl)

set_option maxRecDepth 100000 in
set_option maxHeartbeats 4000000 in
theorem c_X10_feels (l : Launch) (D : va_G) (cI cB : ClassId) (sz : Nat) (h0 : Nat) (a_now : Nat) (a_aside : Nat) (a_kept : Nat) (a_keptFrom : Nat) (a_keptTo : Nat) (a_capOf : Nat) (a_leaveFrom : Nat) (a_leaveTo : Nat) (a_amountOf : Nat) (a_doerMany : Nat) (a_doerOf : Nat) (a_tape : Nat) (a_said : Nat) (a_waitsAt : Nat) (a_saidLetter : Nat) (a_saidFrom : Nat) (a_saidHalf : Nat) (a_saidTo : Nat) (a_codes : Nat) (a_clauseOf : Nat) (a_codeFrom : Nat) (a_codeHalf : Nat) (a_codeTo : Nat) (a_stack : Nat) (a_facts : Nat) (a_lineChore : Nat) (a_lineMany : Nat) (a_lineDoer : Nat) (a_newFrom : Nat) (a_newTo : Nat) (a_goFrom : Nat) (a_goTo : Nat) (a_idleFrom : Nat) (a_idleTo : Nat) (a_moreOf : Nat) (a_firstOf : Nat) (a_leftOf : Nat) (a_didOf : Nat) (a_costBy : Nat) (a_gainBy : Nat) (a_hiredOf : Nat) (a_hiredBest : Nat) (a_hiredTo : Nat) (a_turnOf : Nat) (a_turnWho : Nat) (rv : Int32) (du : Int32) (cl : Int32) (gd : Int32) (fw : Nat → Int32) (fx : Nat → Int32)  : MV (S := ((Nat → Int32))) l D cI cB yX10_feels cX10_feels 3 (rm 3 65) [.ref h0, .int 0] [(h0, .inr (10, [.ref a_now, .ref a_aside, .ref a_kept, .ref a_keptFrom, .ref a_keptTo, .ref a_capOf, .ref a_leaveFrom, .ref a_leaveTo, .ref a_amountOf, .ref a_doerMany, .ref a_doerOf, .int 0, .int 0, .int 0, .ref a_tape, .int 0, .int 0, .int 0, .int 0, .int 0, .int 0, .int 0, .int 0, .int 0, .int 0, .ref a_said, .ref a_waitsAt, .ref a_saidLetter, .ref a_saidFrom, .ref a_saidHalf, .ref a_saidTo, .ref a_codes, .ref a_clauseOf, .ref a_codeFrom, .ref a_codeHalf, .ref a_codeTo, .ref a_stack, .ref a_facts, .ref a_lineChore, .ref a_lineMany, .ref a_lineDoer, .ref a_newFrom, .ref a_newTo, .int 0, .ref a_goFrom, .ref a_goTo, .ref a_idleFrom, .ref a_idleTo, .ref a_moreOf, .ref a_firstOf, .ref a_leftOf, .ref a_didOf, .int rv, .int du, .int cl, .int gd, .ref a_costBy, .int 0, .ref a_gainBy, .ref a_hiredOf, .ref a_hiredBest, .ref a_hiredTo, .ref a_turnOf, .ref a_turnWho, .int 0])), (a_now, .inl (cI, 15, .inl fw)), (a_facts, .inl (cI, 8, .inl fx))] sz (fun u => True) (fun u : ((Nat → Int32)) => [(h0, .inr (10, [.ref a_now, .ref a_aside, .ref a_kept, .ref a_keptFrom, .ref a_keptTo, .ref a_capOf, .ref a_leaveFrom, .ref a_leaveTo, .ref a_amountOf, .ref a_doerMany, .ref a_doerOf, .int 0, .int 0, .int 0, .ref a_tape, .int 0, .int 0, .int 0, .int 0, .int 0, .int 0, .int 0, .int 0, .int 0, .int 0, .ref a_said, .ref a_waitsAt, .ref a_saidLetter, .ref a_saidFrom, .ref a_saidHalf, .ref a_saidTo, .ref a_codes, .ref a_clauseOf, .ref a_codeFrom, .ref a_codeHalf, .ref a_codeTo, .ref a_stack, .ref a_facts, .ref a_lineChore, .ref a_lineMany, .ref a_lineDoer, .ref a_newFrom, .ref a_newTo, .int 0, .ref a_goFrom, .ref a_goTo, .ref a_idleFrom, .ref a_idleTo, .ref a_moreOf, .ref a_firstOf, .ref a_leftOf, .ref a_didOf, .int rv, .int du, .int cl, .int gd, .ref a_costBy, .int 0, .ref a_gainBy, .ref a_hiredOf, .ref a_hiredBest, .ref a_hiredTo, .ref a_turnOf, .ref a_turnWho, .int 0])), (a_now, .inl (cI, 15, .inl fw)), (a_facts, .inl (cI, 8, .inl u))]) := by
  refine MV.of (by decide) (Nat.le_of_ble_eq_true rfl) ?_
  intro p e s m below meth c Q ls A X hin hN hP hK hD hA hl ret
  have hS : va_S A s.heap s.heap [] := va_S.rf
  obtain ⟨hx, hb, hml, hown, htb⟩ := id X
  have hl : lv_has ls 3 [(0, .ref h0), (1, .int 0)] := hl
  refine lv_iconst (v := 0) hx hb dX10_feels_0 (by decide) ?_
  refine lv_istore_n (lv' := [(2, .int 0), (0, .ref h0), (1, .int 0)]) hx hb dX10_feels_1 rfl hl (by decide) rfl (fun ls hl => ?_)
  have loop_2 : ∀ (n i : Nat) (fxa : Nat → Int32), n + i = 8 → ∀ (H : Heap) (locs : List Loc), va_P D vwCl [(h0, .inr (10, [.ref a_now, .ref a_aside, .ref a_kept, .ref a_keptFrom, .ref a_keptTo, .ref a_capOf, .ref a_leaveFrom, .ref a_leaveTo, .ref a_amountOf, .ref a_doerMany, .ref a_doerOf, .int 0, .int 0, .int 0, .ref a_tape, .int 0, .int 0, .int 0, .int 0, .int 0, .int 0, .int 0, .int 0, .int 0, .int 0, .ref a_said, .ref a_waitsAt, .ref a_saidLetter, .ref a_saidFrom, .ref a_saidHalf, .ref a_saidTo, .ref a_codes, .ref a_clauseOf, .ref a_codeFrom, .ref a_codeHalf, .ref a_codeTo, .ref a_stack, .ref a_facts, .ref a_lineChore, .ref a_lineMany, .ref a_lineDoer, .ref a_newFrom, .ref a_newTo, .int 0, .ref a_goFrom, .ref a_goTo, .ref a_idleFrom, .ref a_idleTo, .ref a_moreOf, .ref a_firstOf, .ref a_leftOf, .ref a_didOf, .int rv, .int du, .int cl, .int gd, .ref a_costBy, .int 0, .ref a_gainBy, .ref a_hiredOf, .ref a_hiredBest, .ref a_hiredTo, .ref a_turnOf, .ref a_turnWho, .int 0])), (a_now, .inl (cI, 15, .inl fw)), (a_facts, .inl (cI, 8, .inl fxa))] H → va_D A [(h0, .inr (10, [.ref a_now, .ref a_aside, .ref a_kept, .ref a_keptFrom, .ref a_keptTo, .ref a_capOf, .ref a_leaveFrom, .ref a_leaveTo, .ref a_amountOf, .ref a_doerMany, .ref a_doerOf, .int 0, .int 0, .int 0, .ref a_tape, .int 0, .int 0, .int 0, .int 0, .int 0, .int 0, .int 0, .int 0, .int 0, .int 0, .ref a_said, .ref a_waitsAt, .ref a_saidLetter, .ref a_saidFrom, .ref a_saidHalf, .ref a_saidTo, .ref a_codes, .ref a_clauseOf, .ref a_codeFrom, .ref a_codeHalf, .ref a_codeTo, .ref a_stack, .ref a_facts, .ref a_lineChore, .ref a_lineMany, .ref a_lineDoer, .ref a_newFrom, .ref a_newTo, .int 0, .ref a_goFrom, .ref a_goTo, .ref a_idleFrom, .ref a_idleTo, .ref a_moreOf, .ref a_firstOf, .ref a_leftOf, .ref a_didOf, .int rv, .int du, .int cl, .int gd, .ref a_costBy, .int 0, .ref a_gainBy, .ref a_hiredOf, .ref a_hiredBest, .ref a_hiredTo, .ref a_turnOf, .ref a_turnWho, .int 0])), (a_now, .inl (cI, 15, .inl fw)), (a_facts, .inl (cI, 8, .inl fxa))] → va_S A s.heap H locs → ∀ (ls : Array Slot), lv_has ls 3 [(0, .ref h0), (1, .int 0), (2, .int (nI i))] → W p l e (rm 3 65) s m ([.ref h0, .int 0] : List Value).toArray below meth c H locs 0 0 Q (F0 m 2 ls []) := by
    intro n
    induction n with
    | zero =>
      intro i fxa hni H locs hP hD hS ls hl
      have hi : i = 8 := by omega
      subst hi
      refine lv_iload_n hx hb dX10_feels_2 rfl (lv_at hl 2 rfl) ?_
      refine lv_bipush (v := 8) hx hb dX10_feels_3 (by decide) ?_
      refine lv_icmp_ge (tgt := 21) hx hb dX10_feels_5 (by decide) (fun _ => ?_) (fun c_5 => absurd (by decide) c_5)
      refine lv_aload_n hx hb dX10_feels_21 rfl (lv_at hl 0 rfl) ?_
      refine va_get (D := D) (ci := 10) (v := .ref a_facts) (C := RX10) (T := TX10) (N := 65) hx hb htb itX10 hown hK hP 0 rfl rfl 37 (by decide) (htb _ k_1105) (fun _ h9 => h9) rfl dX10_feels_22 ?_
      refine lv_iconst (v := 3) hx hb dX10_feels_25 (by decide) ?_
      refine lv_aload_n hx hb dX10_feels_26 rfl (lv_at hl 0 rfl) ?_
      refine va_get (D := D) (ci := 10) (v := .ref a_now) (C := RX10) (T := TX10) (N := 65) hx hb htb itX10 hown hK hP 0 rfl rfl 0 (by decide) (htb _ k_1068) (fun _ h9 => h9) rfl dX10_feels_27 ?_
      refine lv_bipush (v := 13) hx hb dX10_feels_30 (by decide) ?_
      refine va_iald hx hb hK hP 1 0 rfl rfl (by unfold vp_in; decide) dX10_feels_32 ?_
      refine lv_topi (fun x_1 ex_1 => ?_)
      refine va_iast hx hb hK hP hD hS 2 0 rfl rfl (by unfold vp_in; decide) dX10_feels_33 (fun H locs hP hD hS => ?_)
      obtain ⟨f_2, ef_2⟩ : ∃ g : Nat → Int32, g = upd fxa (Int32.toNatClampNeg 3) x_1 := ⟨_, rfl⟩
      rw [← ef_2] at hP hD
      have hP : va_P D vwCl [(h0, .inr (10, [.ref a_now, .ref a_aside, .ref a_kept, .ref a_keptFrom, .ref a_keptTo, .ref a_capOf, .ref a_leaveFrom, .ref a_leaveTo, .ref a_amountOf, .ref a_doerMany, .ref a_doerOf, .int 0, .int 0, .int 0, .ref a_tape, .int 0, .int 0, .int 0, .int 0, .int 0, .int 0, .int 0, .int 0, .int 0, .int 0, .ref a_said, .ref a_waitsAt, .ref a_saidLetter, .ref a_saidFrom, .ref a_saidHalf, .ref a_saidTo, .ref a_codes, .ref a_clauseOf, .ref a_codeFrom, .ref a_codeHalf, .ref a_codeTo, .ref a_stack, .ref a_facts, .ref a_lineChore, .ref a_lineMany, .ref a_lineDoer, .ref a_newFrom, .ref a_newTo, .int 0, .ref a_goFrom, .ref a_goTo, .ref a_idleFrom, .ref a_idleTo, .ref a_moreOf, .ref a_firstOf, .ref a_leftOf, .ref a_didOf, .int rv, .int du, .int cl, .int gd, .ref a_costBy, .int 0, .ref a_gainBy, .ref a_hiredOf, .ref a_hiredBest, .ref a_hiredTo, .ref a_turnOf, .ref a_turnWho, .int 0])), (a_now, .inl (cI, 15, .inl fw)), (a_facts, .inl (cI, 8, .inl f_2))] H := hP
      have hD : va_D A [(h0, .inr (10, [.ref a_now, .ref a_aside, .ref a_kept, .ref a_keptFrom, .ref a_keptTo, .ref a_capOf, .ref a_leaveFrom, .ref a_leaveTo, .ref a_amountOf, .ref a_doerMany, .ref a_doerOf, .int 0, .int 0, .int 0, .ref a_tape, .int 0, .int 0, .int 0, .int 0, .int 0, .int 0, .int 0, .int 0, .int 0, .int 0, .ref a_said, .ref a_waitsAt, .ref a_saidLetter, .ref a_saidFrom, .ref a_saidHalf, .ref a_saidTo, .ref a_codes, .ref a_clauseOf, .ref a_codeFrom, .ref a_codeHalf, .ref a_codeTo, .ref a_stack, .ref a_facts, .ref a_lineChore, .ref a_lineMany, .ref a_lineDoer, .ref a_newFrom, .ref a_newTo, .int 0, .ref a_goFrom, .ref a_goTo, .ref a_idleFrom, .ref a_idleTo, .ref a_moreOf, .ref a_firstOf, .ref a_leftOf, .ref a_didOf, .int rv, .int du, .int cl, .int gd, .ref a_costBy, .int 0, .ref a_gainBy, .ref a_hiredOf, .ref a_hiredBest, .ref a_hiredTo, .ref a_turnOf, .ref a_turnWho, .int 0])), (a_now, .inl (cI, 15, .inl fw)), (a_facts, .inl (cI, 8, .inl f_2))] := hD
      refine lv_aload_n hx hb dX10_feels_34 rfl (lv_at hl 0 rfl) ?_
      refine va_get (D := D) (ci := 10) (v := .ref a_facts) (C := RX10) (T := TX10) (N := 65) hx hb htb itX10 hown hK hP 0 rfl rfl 37 (by decide) (htb _ k_1105) (fun _ h9 => h9) rfl dX10_feels_35 ?_
      refine lv_iconst (v := 4) hx hb dX10_feels_38 (by decide) ?_
      refine lv_aload_n hx hb dX10_feels_39 rfl (lv_at hl 0 rfl) ?_
      refine va_get (D := D) (ci := 10) (v := .ref a_now) (C := RX10) (T := TX10) (N := 65) hx hb htb itX10 hown hK hP 0 rfl rfl 0 (by decide) (htb _ k_1068) (fun _ h9 => h9) rfl dX10_feels_40 ?_
      refine lv_bipush (v := 13) hx hb dX10_feels_43 (by decide) ?_
      refine va_iald hx hb hK hP 1 0 rfl rfl (by unfold vp_in; decide) dX10_feels_45 ?_
      refine lv_bipush (v := 7) hx hb dX10_feels_46 (by decide) ?_
      refine lv_irem hx hb dX10_feels_48 (by decide) ?_
      refine lv_topi (fun x_3 ex_3 => ?_)
      refine va_iast hx hb hK hP hD hS 2 0 rfl rfl (by unfold vp_in; decide) dX10_feels_49 (fun H locs hP hD hS => ?_)
      obtain ⟨f_4, ef_4⟩ : ∃ g : Nat → Int32, g = upd f_2 (Int32.toNatClampNeg 4) x_3 := ⟨_, rfl⟩
      rw [← ef_4] at hP hD
      have hP : va_P D vwCl [(h0, .inr (10, [.ref a_now, .ref a_aside, .ref a_kept, .ref a_keptFrom, .ref a_keptTo, .ref a_capOf, .ref a_leaveFrom, .ref a_leaveTo, .ref a_amountOf, .ref a_doerMany, .ref a_doerOf, .int 0, .int 0, .int 0, .ref a_tape, .int 0, .int 0, .int 0, .int 0, .int 0, .int 0, .int 0, .int 0, .int 0, .int 0, .ref a_said, .ref a_waitsAt, .ref a_saidLetter, .ref a_saidFrom, .ref a_saidHalf, .ref a_saidTo, .ref a_codes, .ref a_clauseOf, .ref a_codeFrom, .ref a_codeHalf, .ref a_codeTo, .ref a_stack, .ref a_facts, .ref a_lineChore, .ref a_lineMany, .ref a_lineDoer, .ref a_newFrom, .ref a_newTo, .int 0, .ref a_goFrom, .ref a_goTo, .ref a_idleFrom, .ref a_idleTo, .ref a_moreOf, .ref a_firstOf, .ref a_leftOf, .ref a_didOf, .int rv, .int du, .int cl, .int gd, .ref a_costBy, .int 0, .ref a_gainBy, .ref a_hiredOf, .ref a_hiredBest, .ref a_hiredTo, .ref a_turnOf, .ref a_turnWho, .int 0])), (a_now, .inl (cI, 15, .inl fw)), (a_facts, .inl (cI, 8, .inl f_4))] H := hP
      have hD : va_D A [(h0, .inr (10, [.ref a_now, .ref a_aside, .ref a_kept, .ref a_keptFrom, .ref a_keptTo, .ref a_capOf, .ref a_leaveFrom, .ref a_leaveTo, .ref a_amountOf, .ref a_doerMany, .ref a_doerOf, .int 0, .int 0, .int 0, .ref a_tape, .int 0, .int 0, .int 0, .int 0, .int 0, .int 0, .int 0, .int 0, .int 0, .int 0, .ref a_said, .ref a_waitsAt, .ref a_saidLetter, .ref a_saidFrom, .ref a_saidHalf, .ref a_saidTo, .ref a_codes, .ref a_clauseOf, .ref a_codeFrom, .ref a_codeHalf, .ref a_codeTo, .ref a_stack, .ref a_facts, .ref a_lineChore, .ref a_lineMany, .ref a_lineDoer, .ref a_newFrom, .ref a_newTo, .int 0, .ref a_goFrom, .ref a_goTo, .ref a_idleFrom, .ref a_idleTo, .ref a_moreOf, .ref a_firstOf, .ref a_leftOf, .ref a_didOf, .int rv, .int du, .int cl, .int gd, .ref a_costBy, .int 0, .ref a_gainBy, .ref a_hiredOf, .ref a_hiredBest, .ref a_hiredTo, .ref a_turnOf, .ref a_turnWho, .int 0])), (a_now, .inl (cI, 15, .inl fw)), (a_facts, .inl (cI, 8, .inl f_4))] := hD
      refine lv_aload_n hx hb dX10_feels_50 rfl (lv_at hl 0 rfl) ?_
      refine va_get (D := D) (ci := 10) (v := .ref a_facts) (C := RX10) (T := TX10) (N := 65) hx hb htb itX10 hown hK hP 0 rfl rfl 37 (by decide) (htb _ k_1105) (fun _ h9 => h9) rfl dX10_feels_51 ?_
      refine lv_iconst (v := 5) hx hb dX10_feels_54 (by decide) ?_
      refine lv_iload_n hx hb dX10_feels_55 rfl (lv_at hl 1 rfl) ?_
      refine lv_if_eq (tgt := 63) hx hb dX10_feels_56 (by decide) (fun _ => ?_) (fun c_56 => absurd (by decide) c_56)
      refine lv_iconst (v := 0) hx hb dX10_feels_63 (by decide) ?_
      refine va_iast hx hb hK hP hD hS 2 0 rfl rfl (by unfold vp_in; decide) dX10_feels_64 (fun H locs hP hD hS => ?_)
      obtain ⟨f_5, ef_5⟩ : ∃ g : Nat → Int32, g = upd f_4 (Int32.toNatClampNeg 5) 0 := ⟨_, rfl⟩
      rw [← ef_5] at hP hD
      have hP : va_P D vwCl [(h0, .inr (10, [.ref a_now, .ref a_aside, .ref a_kept, .ref a_keptFrom, .ref a_keptTo, .ref a_capOf, .ref a_leaveFrom, .ref a_leaveTo, .ref a_amountOf, .ref a_doerMany, .ref a_doerOf, .int 0, .int 0, .int 0, .ref a_tape, .int 0, .int 0, .int 0, .int 0, .int 0, .int 0, .int 0, .int 0, .int 0, .int 0, .ref a_said, .ref a_waitsAt, .ref a_saidLetter, .ref a_saidFrom, .ref a_saidHalf, .ref a_saidTo, .ref a_codes, .ref a_clauseOf, .ref a_codeFrom, .ref a_codeHalf, .ref a_codeTo, .ref a_stack, .ref a_facts, .ref a_lineChore, .ref a_lineMany, .ref a_lineDoer, .ref a_newFrom, .ref a_newTo, .int 0, .ref a_goFrom, .ref a_goTo, .ref a_idleFrom, .ref a_idleTo, .ref a_moreOf, .ref a_firstOf, .ref a_leftOf, .ref a_didOf, .int rv, .int du, .int cl, .int gd, .ref a_costBy, .int 0, .ref a_gainBy, .ref a_hiredOf, .ref a_hiredBest, .ref a_hiredTo, .ref a_turnOf, .ref a_turnWho, .int 0])), (a_now, .inl (cI, 15, .inl fw)), (a_facts, .inl (cI, 8, .inl f_5))] H := hP
      have hD : va_D A [(h0, .inr (10, [.ref a_now, .ref a_aside, .ref a_kept, .ref a_keptFrom, .ref a_keptTo, .ref a_capOf, .ref a_leaveFrom, .ref a_leaveTo, .ref a_amountOf, .ref a_doerMany, .ref a_doerOf, .int 0, .int 0, .int 0, .ref a_tape, .int 0, .int 0, .int 0, .int 0, .int 0, .int 0, .int 0, .int 0, .int 0, .int 0, .ref a_said, .ref a_waitsAt, .ref a_saidLetter, .ref a_saidFrom, .ref a_saidHalf, .ref a_saidTo, .ref a_codes, .ref a_clauseOf, .ref a_codeFrom, .ref a_codeHalf, .ref a_codeTo, .ref a_stack, .ref a_facts, .ref a_lineChore, .ref a_lineMany, .ref a_lineDoer, .ref a_newFrom, .ref a_newTo, .int 0, .ref a_goFrom, .ref a_goTo, .ref a_idleFrom, .ref a_idleTo, .ref a_moreOf, .ref a_firstOf, .ref a_leftOf, .ref a_didOf, .int rv, .int du, .int cl, .int gd, .ref a_costBy, .int 0, .ref a_gainBy, .ref a_hiredOf, .ref a_hiredBest, .ref a_hiredTo, .ref a_turnOf, .ref a_turnWho, .int 0])), (a_now, .inl (cI, 15, .inl fw)), (a_facts, .inl (cI, 8, .inl f_5))] := hD
      refine lv_aload_n hx hb dX10_feels_65 rfl (lv_at hl 0 rfl) ?_
      refine va_get (D := D) (ci := 10) (v := .ref a_facts) (C := RX10) (T := TX10) (N := 65) hx hb htb itX10 hown hK hP 0 rfl rfl 37 (by decide) (htb _ k_1105) (fun _ h9 => h9) rfl dX10_feels_66 ?_
      refine lv_bipush (v := 6) hx hb dX10_feels_69 (by decide) ?_
      refine lv_aload_n hx hb dX10_feels_71 rfl (lv_at hl 0 rfl) ?_
      refine lv_aload_n hx hb dX10_feels_72 rfl (lv_at hl 0 rfl) ?_
      refine va_get (D := D) (ci := 10) (v := .ref a_now) (C := RX10) (T := TX10) (N := 65) hx hb htb itX10 hown hK hP 0 rfl rfl 0 (by decide) (htb _ k_1068) (fun _ h9 => h9) rfl dX10_feels_73 ?_
      refine lv_bipush (v := 13) hx hb dX10_feels_76 (by decide) ?_
      refine va_iald hx hb hK hP 1 0 rfl rfl (by unfold vp_in; decide) dX10_feels_78 ?_
      refine cVR (As := [.int (fw (Int32.toNatClampNeg 13))]) (rest := [.int 6, .ref a_facts]) (n := 1) (ci := 10) (q0 := 0) X hN hK hP (c_X10_awayOn l D cI cB h0 a_now a_aside a_kept a_keptFrom a_keptTo a_capOf a_leaveFrom a_leaveTo a_amountOf a_doerMany a_doerOf a_tape a_said a_waitsAt a_saidLetter a_saidFrom a_saidHalf a_saidTo a_codes a_clauseOf a_codeFrom a_codeHalf a_codeTo a_stack a_facts a_lineChore a_lineMany a_lineDoer a_newFrom a_newTo a_goFrom a_goTo a_idleFrom a_idleTo a_moreOf a_firstOf a_leftOf a_didOf a_costBy a_gainBy a_hiredOf a_hiredBest a_hiredTo a_turnOf a_turnWho rv du cl gd (fw (Int32.toNatClampNeg 13))) (gV k_1447 k_1449 k_64 k_103 k_1450) (by decide +kernel) ⟨Nat.le_of_ble_eq_true rfl, Nat.le_of_ble_eq_true rfl⟩ ⟨rfl, rfl⟩ [0] rfl rfl rfl rfl rfl rfl hl.1 (Nat.le_of_ble_eq_true rfl) dX10_feels_79 ⟨Nat.le_of_ble_eq_true rfl, Nat.le_of_ble_eq_true rfl⟩ (fun r_6 hr_6 => ?_)
      subst hr_6
      refine cSR (As := [.int 0]) (rest := [.int 6, .ref a_facts]) (n := 1) X hN hK hP (c_X10_bits l D cI cB 0) k_1412 k_1413 k_103 k_1414 (by decide +kernel) ⟨Nat.le_of_ble_eq_true rfl, Nat.le_of_ble_eq_true rfl⟩ ⟨rfl, rfl⟩ [] rfl rfl rfl hl.1 (Nat.le_of_ble_eq_true rfl) dX10_feels_82 ⟨Nat.le_of_ble_eq_true rfl, Nat.le_of_ble_eq_true rfl⟩ (fun r_7 hr_7 => ?_)
      refine va_iast hx hb hK hP hD hS 2 0 rfl rfl (by unfold vp_in; decide) dX10_feels_85 (fun H locs hP hD hS => ?_)
      obtain ⟨f_8, ef_8⟩ : ∃ g : Nat → Int32, g = upd f_5 (Int32.toNatClampNeg 6) r_7 := ⟨_, rfl⟩
      rw [← ef_8] at hP hD
      have hP : va_P D vwCl [(h0, .inr (10, [.ref a_now, .ref a_aside, .ref a_kept, .ref a_keptFrom, .ref a_keptTo, .ref a_capOf, .ref a_leaveFrom, .ref a_leaveTo, .ref a_amountOf, .ref a_doerMany, .ref a_doerOf, .int 0, .int 0, .int 0, .ref a_tape, .int 0, .int 0, .int 0, .int 0, .int 0, .int 0, .int 0, .int 0, .int 0, .int 0, .ref a_said, .ref a_waitsAt, .ref a_saidLetter, .ref a_saidFrom, .ref a_saidHalf, .ref a_saidTo, .ref a_codes, .ref a_clauseOf, .ref a_codeFrom, .ref a_codeHalf, .ref a_codeTo, .ref a_stack, .ref a_facts, .ref a_lineChore, .ref a_lineMany, .ref a_lineDoer, .ref a_newFrom, .ref a_newTo, .int 0, .ref a_goFrom, .ref a_goTo, .ref a_idleFrom, .ref a_idleTo, .ref a_moreOf, .ref a_firstOf, .ref a_leftOf, .ref a_didOf, .int rv, .int du, .int cl, .int gd, .ref a_costBy, .int 0, .ref a_gainBy, .ref a_hiredOf, .ref a_hiredBest, .ref a_hiredTo, .ref a_turnOf, .ref a_turnWho, .int 0])), (a_now, .inl (cI, 15, .inl fw)), (a_facts, .inl (cI, 8, .inl f_8))] H := hP
      have hD : va_D A [(h0, .inr (10, [.ref a_now, .ref a_aside, .ref a_kept, .ref a_keptFrom, .ref a_keptTo, .ref a_capOf, .ref a_leaveFrom, .ref a_leaveTo, .ref a_amountOf, .ref a_doerMany, .ref a_doerOf, .int 0, .int 0, .int 0, .ref a_tape, .int 0, .int 0, .int 0, .int 0, .int 0, .int 0, .int 0, .int 0, .int 0, .int 0, .ref a_said, .ref a_waitsAt, .ref a_saidLetter, .ref a_saidFrom, .ref a_saidHalf, .ref a_saidTo, .ref a_codes, .ref a_clauseOf, .ref a_codeFrom, .ref a_codeHalf, .ref a_codeTo, .ref a_stack, .ref a_facts, .ref a_lineChore, .ref a_lineMany, .ref a_lineDoer, .ref a_newFrom, .ref a_newTo, .int 0, .ref a_goFrom, .ref a_goTo, .ref a_idleFrom, .ref a_idleTo, .ref a_moreOf, .ref a_firstOf, .ref a_leftOf, .ref a_didOf, .int rv, .int du, .int cl, .int gd, .ref a_costBy, .int 0, .ref a_gainBy, .ref a_hiredOf, .ref a_hiredBest, .ref a_hiredTo, .ref a_turnOf, .ref a_turnWho, .int 0])), (a_now, .inl (cI, 15, .inl fw)), (a_facts, .inl (cI, 8, .inl f_8))] := hD
      exact ret _ _ _ _ f_8 dX10_feels_86 trivial (hP.sub [0, 1, 2] rfl) (hD.sub [0, 1, 2] (by decide) rfl) hS
    | succ n ih =>
      intro i fxa hni H locs hP hD hS ls hl
      have hi : i < 8 := by omega
      refine lv_iload_n hx hb dX10_feels_2 rfl (lv_at hl 2 rfl) ?_
      refine lv_bipush (v := 8) hx hb dX10_feels_3 (by decide) ?_
      refine lv_icmp_ge (tgt := 21) hx hb dX10_feels_5 (by decide) (fun c_5 => absurd c_5 (nI_ge hi (by decide))) (fun _ => ?_)
      refine lv_aload_n hx hb dX10_feels_8 rfl (lv_at hl 0 rfl) ?_
      refine va_get (D := D) (ci := 10) (v := .ref a_facts) (C := RX10) (T := TX10) (N := 65) hx hb htb itX10 hown hK hP 0 rfl rfl 37 (by decide) (htb _ k_1105) (fun _ h9 => h9) rfl dX10_feels_9 ?_
      refine lv_iload_n hx hb dX10_feels_12 rfl (lv_at hl 2 rfl) ?_
      refine lv_iconst (v := 0) hx hb dX10_feels_13 (by decide) ?_
      refine va_iast hx hb hK hP hD hS 2 0 rfl rfl (vp_in_nI (by omega) (by decide)) dX10_feels_14 (fun H locs hP hD hS => ?_)
      obtain ⟨f_9, ef_9⟩ : ∃ g : Nat → Int32, g = upd fxa (Int32.toNatClampNeg (nI i)) 0 := ⟨_, rfl⟩
      rw [← ef_9] at hP hD
      have hP : va_P D vwCl [(h0, .inr (10, [.ref a_now, .ref a_aside, .ref a_kept, .ref a_keptFrom, .ref a_keptTo, .ref a_capOf, .ref a_leaveFrom, .ref a_leaveTo, .ref a_amountOf, .ref a_doerMany, .ref a_doerOf, .int 0, .int 0, .int 0, .ref a_tape, .int 0, .int 0, .int 0, .int 0, .int 0, .int 0, .int 0, .int 0, .int 0, .int 0, .ref a_said, .ref a_waitsAt, .ref a_saidLetter, .ref a_saidFrom, .ref a_saidHalf, .ref a_saidTo, .ref a_codes, .ref a_clauseOf, .ref a_codeFrom, .ref a_codeHalf, .ref a_codeTo, .ref a_stack, .ref a_facts, .ref a_lineChore, .ref a_lineMany, .ref a_lineDoer, .ref a_newFrom, .ref a_newTo, .int 0, .ref a_goFrom, .ref a_goTo, .ref a_idleFrom, .ref a_idleTo, .ref a_moreOf, .ref a_firstOf, .ref a_leftOf, .ref a_didOf, .int rv, .int du, .int cl, .int gd, .ref a_costBy, .int 0, .ref a_gainBy, .ref a_hiredOf, .ref a_hiredBest, .ref a_hiredTo, .ref a_turnOf, .ref a_turnWho, .int 0])), (a_now, .inl (cI, 15, .inl fw)), (a_facts, .inl (cI, 8, .inl f_9))] H := hP
      have hD : va_D A [(h0, .inr (10, [.ref a_now, .ref a_aside, .ref a_kept, .ref a_keptFrom, .ref a_keptTo, .ref a_capOf, .ref a_leaveFrom, .ref a_leaveTo, .ref a_amountOf, .ref a_doerMany, .ref a_doerOf, .int 0, .int 0, .int 0, .ref a_tape, .int 0, .int 0, .int 0, .int 0, .int 0, .int 0, .int 0, .int 0, .int 0, .int 0, .ref a_said, .ref a_waitsAt, .ref a_saidLetter, .ref a_saidFrom, .ref a_saidHalf, .ref a_saidTo, .ref a_codes, .ref a_clauseOf, .ref a_codeFrom, .ref a_codeHalf, .ref a_codeTo, .ref a_stack, .ref a_facts, .ref a_lineChore, .ref a_lineMany, .ref a_lineDoer, .ref a_newFrom, .ref a_newTo, .int 0, .ref a_goFrom, .ref a_goTo, .ref a_idleFrom, .ref a_idleTo, .ref a_moreOf, .ref a_firstOf, .ref a_leftOf, .ref a_didOf, .int rv, .int du, .int cl, .int gd, .ref a_costBy, .int 0, .ref a_gainBy, .ref a_hiredOf, .ref a_hiredBest, .ref a_hiredTo, .ref a_turnOf, .ref a_turnWho, .int 0])), (a_now, .inl (cI, 15, .inl fw)), (a_facts, .inl (cI, 8, .inl f_9))] := hD
      refine lv_iinc (v := (nI (i + 1))) (lv' := [(2, .int (nI (i + 1))), (0, .ref h0), (1, .int 0)]) hx hb dX10_feels_15 hl (k := 2) rfl (nI_1 i) (by decide) rfl (fun ls hl => ?_)
      refine lv_goto (tgt := 2) hx hb dX10_feels_18 (by decide) ?_
      exact ih (i + 1) f_9 (by omega) _ _ (hP.sub [0, 1, 2] rfl) (hD.sub [0, 1, 2] (by decide) rfl) hS _ (lv_sub hl [1, 2, 0] rfl)
  exact loop_2 8 0 fx (by omega) _ _ (hP.sub [0, 1, 2] rfl) (hD.sub [0, 1, 2] (by decide) rfl) hS _ (lv_sub hl [1, 2, 0] rfl)
