set_option maxRecDepth 100000 in
set_option maxHeartbeats 4000000 in
/-- within -/
theorem c_X9_within (l : Launch) (D : va_G) (cI cB : ClassId) (x : Int32) (lo : Int32) (hi : Int32)  : MR l D cI cB yX9_within cX9_within 3 .boolean (rm 0 0) [.int x, .int lo, .int hi] [] (fun r : Int32 => r = bI (lo ≤ x ∧ x ≤ hi)) := by
  refine MR.of (by decide) (Nat.le_of_ble_eq_true rfl) ?_
  intro p e s m below meth c Q ls X hN hP hK hl ret
  obtain ⟨hx, hb, hml, hown, htb⟩ := id X
  have hl : lv_has ls 3 [(0, .int x), (1, .int lo), (2, .int hi)] := hl
  refine lv_iload_n hx hb dX9_within_0 rfl (lv_at hl 0 rfl) ?_
  refine lv_iload_n hx hb dX9_within_1 rfl (lv_at hl 1 rfl) ?_
  refine lv_icmp_lt (tgt := 14) hx hb dX9_within_2 (by decide) (fun c_2 => ?_) (fun c_2 => ?_)
  · refine lv_iconst (v := 0) hx hb dX9_within_14 (by decide) ?_
    exact ret _ _ 0 dX9_within_15 rfl (bI0 (fun h => (Int32.not_lt.mpr h.1) c_2))
  · refine lv_iload_n hx hb dX9_within_5 rfl (lv_at hl 0 rfl) ?_
    refine lv_iload_n hx hb dX9_within_6 rfl (lv_at hl 2 rfl) ?_
    refine lv_icmp_gt (tgt := 14) hx hb dX9_within_7 (by decide) (fun c_7 => ?_) (fun c_7 => ?_)
    · refine lv_iconst (v := 0) hx hb dX9_within_14 (by decide) ?_
      exact ret _ _ 0 dX9_within_15 rfl (bI0 (fun h => (Int32.not_lt.mpr h.2) c_7))
    · refine lv_iconst (v := 1) hx hb dX9_within_10 (by decide) ?_
      refine lv_goto (tgt := 15) hx hb dX9_within_11 (by decide) ?_
      exact ret _ _ 1 dX9_within_15 rfl (bI1 ⟨Int32.not_lt.mp c_2, Int32.not_lt.mp c_7⟩)

set_option maxRecDepth 100000 in
set_option maxHeartbeats 4000000 in
theorem c_X10_in (l : Launch) (D : va_G) (cI cB : ClassId) (x : Int32) (lo : Int32) (hi : Int32)  : MR l D cI cB yX10_in cX10_in 3 .boolean (rm 0 0) [.int x, .int lo, .int hi] [] (fun r : Int32 => r = bI (lo ≤ x ∧ x ≤ hi)) := by
  refine MR.of (by decide) (Nat.le_of_ble_eq_true rfl) ?_
  intro p e s m below meth c Q ls X hN hP hK hl ret
  obtain ⟨hx, hb, hml, hown, htb⟩ := id X
  have hl : lv_has ls 3 [(0, .int x), (1, .int lo), (2, .int hi)] := hl
  refine lv_iload_n hx hb dX10_in_0 rfl (lv_at hl 0 rfl) ?_
  refine lv_iload_n hx hb dX10_in_1 rfl (lv_at hl 1 rfl) ?_
  refine lv_icmp_lt (tgt := 14) hx hb dX10_in_2 (by decide) (fun c_2 => ?_) (fun c_2 => ?_)
  · refine lv_iconst (v := 0) hx hb dX10_in_14 (by decide) ?_
    exact ret _ _ 0 dX10_in_15 rfl (bI0 (fun h => (Int32.not_lt.mpr h.1) c_2))
  · refine lv_iload_n hx hb dX10_in_5 rfl (lv_at hl 0 rfl) ?_
    refine lv_iload_n hx hb dX10_in_6 rfl (lv_at hl 2 rfl) ?_
    refine lv_icmp_gt (tgt := 14) hx hb dX10_in_7 (by decide) (fun c_7 => ?_) (fun c_7 => ?_)
    · refine lv_iconst (v := 0) hx hb dX10_in_14 (by decide) ?_
      exact ret _ _ 0 dX10_in_15 rfl (bI0 (fun h => (Int32.not_lt.mpr h.2) c_7))
    · refine lv_iconst (v := 1) hx hb dX10_in_10 (by decide) ?_
      refine lv_goto (tgt := 15) hx hb dX10_in_11 (by decide) ?_
      exact ret _ _ 1 dX10_in_15 rfl (bI1 ⟨Int32.not_lt.mp c_2, Int32.not_lt.mp c_7⟩)

set_option maxRecDepth 100000 in
set_option maxHeartbeats 4000000 in
theorem c_X9_isDayCount (l : Launch) (D : va_G) (cI cB : ClassId) (x : Int32)  : MR l D cI cB yX9_isDayCount cX9_isDayCount 1 .boolean (rm 0 0) [.int x] [] (fun r : Int32 => r = bI (1 ≤ x ∧ x ≤ 60)) := by
  refine MR.of (by decide) (Nat.le_of_ble_eq_true rfl) ?_
  intro p e s m below meth c Q ls X hN hP hK hl ret
  obtain ⟨hx, hb, hml, hown, htb⟩ := id X
  have hl : lv_has ls 1 [(0, .int x)] := hl
  refine lv_iload_n hx hb dX9_isDayCount_0 rfl (lv_at hl 0 rfl) ?_
  refine lv_iconst (v := 1) hx hb dX9_isDayCount_1 (by decide) ?_
  refine lv_icmp_lt (tgt := 15) hx hb dX9_isDayCount_2 (by decide) (fun c_2 => ?_) (fun c_2 => ?_)
  · refine lv_iconst (v := 0) hx hb dX9_isDayCount_15 (by decide) ?_
    exact ret _ _ 0 dX9_isDayCount_16 rfl (bI0 (fun h => (Int32.not_lt.mpr h.1) c_2))
  · refine lv_iload_n hx hb dX9_isDayCount_5 rfl (lv_at hl 0 rfl) ?_
    refine lv_bipush (v := 60) hx hb dX9_isDayCount_6 (by decide) ?_
    refine lv_icmp_gt (tgt := 15) hx hb dX9_isDayCount_8 (by decide) (fun c_8 => ?_) (fun c_8 => ?_)
    · refine lv_iconst (v := 0) hx hb dX9_isDayCount_15 (by decide) ?_
      exact ret _ _ 0 dX9_isDayCount_16 rfl (bI0 (fun h => (Int32.not_lt.mpr h.2) c_8))
    · refine lv_iconst (v := 1) hx hb dX9_isDayCount_11 (by decide) ?_
      refine lv_goto (tgt := 16) hx hb dX9_isDayCount_12 (by decide) ?_
      exact ret _ _ 1 dX9_isDayCount_16 rfl (bI1 ⟨Int32.not_lt.mp c_2, Int32.not_lt.mp c_8⟩)

set_option maxRecDepth 100000 in
set_option maxHeartbeats 4000000 in
theorem c_X9_isIn (l : Launch) (D : va_G) (cI cB : ClassId) (a : Int32) (k : Int32)  : MR l D cI cB yX9_isIn cX9_isIn 2 .boolean (rm 0 0) [.int a, .int k] [] (fun r : Int32 => (r = 0 ∨ r = 1) ∧ (a = 0 → r = 0)) := by
  refine MR.of (by decide) (Nat.le_of_ble_eq_true rfl) ?_
  intro p e s m below meth c Q ls X hN hP hK hl ret
  obtain ⟨hx, hb, hml, hown, htb⟩ := id X
  have hl : lv_has ls 2 [(0, .int a), (1, .int k)] := hl
  refine lv_iload_n hx hb dX9_isIn_0 rfl (lv_at hl 1 rfl) ?_
  refine lv_if_lt (tgt := 23) hx hb dX9_isIn_1 (by decide) (fun c_1 => ?_) (fun c_1 => ?_)
  · refine lv_iconst (v := 0) hx hb dX9_isIn_23 (by decide) ?_
    exact ret _ _ 0 dX9_isIn_24 rfl (⟨Or.inl rfl, fun _ => rfl⟩)
  · refine lv_iload_n hx hb dX9_isIn_4 rfl (lv_at hl 1 rfl) ?_
    refine lv_bipush (v := 31) hx hb dX9_isIn_5 (by decide) ?_
    refine lv_icmp_ge (tgt := 23) hx hb dX9_isIn_7 (by decide) (fun c_7 => ?_) (fun c_7 => ?_)
    · refine lv_iconst (v := 0) hx hb dX9_isIn_23 (by decide) ?_
      exact ret _ _ 0 dX9_isIn_24 rfl (⟨Or.inl rfl, fun _ => rfl⟩)
    · refine lv_iload_n hx hb dX9_isIn_10 rfl (lv_at hl 0 rfl) ?_
      refine lv_iload_n hx hb dX9_isIn_11 rfl (lv_at hl 1 rfl) ?_
      refine lv_ishr hx hb dX9_isIn_12 ?_
      refine lv_iconst (v := 1) hx hb dX9_isIn_13 (by decide) ?_
      refine lv_iand hx hb dX9_isIn_14 ?_
      refine lv_iconst (v := 1) hx hb dX9_isIn_15 (by decide) ?_
      refine lv_icmp_ne (tgt := 23) hx hb dX9_isIn_16 (by decide) (fun c_16 => ?_) (fun c_16 => ?_)
      · refine lv_iconst (v := 0) hx hb dX9_isIn_23 (by decide) ?_
        exact ret _ _ 0 dX9_isIn_24 rfl (⟨Or.inl rfl, fun _ => rfl⟩)
      · refine lv_iconst (v := 1) hx hb dX9_isIn_19 (by decide) ?_
        refine lv_goto (tgt := 24) hx hb dX9_isIn_20 (by decide) ?_
        exact ret _ _ 1 dX9_isIn_24 rfl (⟨Or.inr rfl, fun h => absurd c_16 (by rw [h]; exact sh0 _)⟩)

set_option maxRecDepth 100000 in
set_option maxHeartbeats 4000000 in
theorem c_X10_has (l : Launch) (D : va_G) (cI cB : ClassId) (a : Int32) (k : Int32)  : MR l D cI cB yX10_has cX10_has 2 .boolean (rm 0 0) [.int a, .int k] [] (fun r : Int32 => r = bI (a >>> (k &&& 31) &&& 1 = 1)) := by
  refine MR.of (by decide) (Nat.le_of_ble_eq_true rfl) ?_
  intro p e s m below meth c Q ls X hN hP hK hl ret
  obtain ⟨hx, hb, hml, hown, htb⟩ := id X
  have hl : lv_has ls 2 [(0, .int a), (1, .int k)] := hl
  refine lv_iload_n hx hb dX10_has_0 rfl (lv_at hl 0 rfl) ?_
  refine lv_iload_n hx hb dX10_has_1 rfl (lv_at hl 1 rfl) ?_
  refine lv_ishr hx hb dX10_has_2 ?_
  refine lv_iconst (v := 1) hx hb dX10_has_3 (by decide) ?_
  refine lv_iand hx hb dX10_has_4 ?_
  refine lv_iconst (v := 1) hx hb dX10_has_5 (by decide) ?_
  refine lv_icmp_ne (tgt := 13) hx hb dX10_has_6 (by decide) (fun c_6 => ?_) (fun c_6 => ?_)
  · refine lv_iconst (v := 0) hx hb dX10_has_13 (by decide) ?_
    exact ret _ _ 0 dX10_has_14 rfl (bI0 c_6)
  · refine lv_iconst (v := 1) hx hb dX10_has_9 (by decide) ?_
    refine lv_goto (tgt := 14) hx hb dX10_has_10 (by decide) ?_
    exact ret _ _ 1 dX10_has_14 rfl (bI1 c_6)

set_option maxRecDepth 100000 in
set_option maxHeartbeats 4000000 in
theorem c_J6_bitCount_0f7a4 (l : Launch) (D : va_G) (cI cB : ClassId) (a : Int32)  : MR l D cI cB yJ6_bitCount_0f7a4 cJ6_bitCount_0f7a4 1 .int (rm 0 0) [.int a] [] (fun r : Int32 => a = 0 → r = 0) := by
  refine MR.of (by decide) (Nat.le_of_ble_eq_true rfl) ?_
  intro p e s m below meth c Q ls X hN hP hK hl ret
  obtain ⟨hx, hb, hml, hown, htb⟩ := id X
  have hl : lv_has ls 1 [(0, .int a)] := hl
  refine lv_iload_n hx hb dJ6_bitCount_0f7a4_0 rfl (lv_at hl 0 rfl) ?_
  refine lv_iload_n hx hb dJ6_bitCount_0f7a4_1 rfl (lv_at hl 0 rfl) ?_
  refine lv_iconst (v := 1) hx hb dJ6_bitCount_0f7a4_2 (by decide) ?_
  refine lv_iushr hx hb dJ6_bitCount_0f7a4_3 rfl ?_
  refine lv_ldcw (v := 1431655765) hx hb hown (htb _ k_757) dJ6_bitCount_0f7a4_4 ?_
  refine lv_iand hx hb dJ6_bitCount_0f7a4_7 ?_
  refine lv_isub hx hb dJ6_bitCount_0f7a4_8 ?_
  refine lv_topi (fun x_1 ex_1 => ?_)
  refine lv_istore_n (lv' := [(0, .int x_1)]) hx hb dJ6_bitCount_0f7a4_9 rfl hl (by decide) rfl (fun ls hl => ?_)
  refine lv_iload_n hx hb dJ6_bitCount_0f7a4_10 rfl (lv_at hl 0 rfl) ?_
  refine lv_ldcw (v := 858993459) hx hb hown (htb _ k_758) dJ6_bitCount_0f7a4_11 ?_
  refine lv_iand hx hb dJ6_bitCount_0f7a4_14 ?_
  refine lv_iload_n hx hb dJ6_bitCount_0f7a4_15 rfl (lv_at hl 0 rfl) ?_
  refine lv_iconst (v := 2) hx hb dJ6_bitCount_0f7a4_16 (by decide) ?_
  refine lv_iushr hx hb dJ6_bitCount_0f7a4_17 rfl ?_
  refine lv_ldcw (v := 858993459) hx hb hown (htb _ k_758) dJ6_bitCount_0f7a4_18 ?_
  refine lv_iand hx hb dJ6_bitCount_0f7a4_21 ?_
  refine lv_iadd hx hb dJ6_bitCount_0f7a4_22 ?_
  refine lv_topi (fun x_2 ex_2 => ?_)
  refine lv_istore_n (lv' := [(0, .int x_2)]) hx hb dJ6_bitCount_0f7a4_23 rfl hl (by decide) rfl (fun ls hl => ?_)
  refine lv_iload_n hx hb dJ6_bitCount_0f7a4_24 rfl (lv_at hl 0 rfl) ?_
  refine lv_iload_n hx hb dJ6_bitCount_0f7a4_25 rfl (lv_at hl 0 rfl) ?_
  refine lv_iconst (v := 4) hx hb dJ6_bitCount_0f7a4_26 (by decide) ?_
  refine lv_iushr hx hb dJ6_bitCount_0f7a4_27 rfl ?_
  refine lv_iadd hx hb dJ6_bitCount_0f7a4_28 ?_
  refine lv_ldcw (v := 252645135) hx hb hown (htb _ k_759) dJ6_bitCount_0f7a4_29 ?_
  refine lv_iand hx hb dJ6_bitCount_0f7a4_32 ?_
  refine lv_topi (fun x_3 ex_3 => ?_)
  refine lv_istore_n (lv' := [(0, .int x_3)]) hx hb dJ6_bitCount_0f7a4_33 rfl hl (by decide) rfl (fun ls hl => ?_)
  refine lv_iload_n hx hb dJ6_bitCount_0f7a4_34 rfl (lv_at hl 0 rfl) ?_
  refine lv_iload_n hx hb dJ6_bitCount_0f7a4_35 rfl (lv_at hl 0 rfl) ?_
  refine lv_bipush (v := 8) hx hb dJ6_bitCount_0f7a4_36 (by decide) ?_
  refine lv_iushr hx hb dJ6_bitCount_0f7a4_38 rfl ?_
  refine lv_iadd hx hb dJ6_bitCount_0f7a4_39 ?_
  refine lv_topi (fun x_4 ex_4 => ?_)
  refine lv_istore_n (lv' := [(0, .int x_4)]) hx hb dJ6_bitCount_0f7a4_40 rfl hl (by decide) rfl (fun ls hl => ?_)
  refine lv_iload_n hx hb dJ6_bitCount_0f7a4_41 rfl (lv_at hl 0 rfl) ?_
  refine lv_iload_n hx hb dJ6_bitCount_0f7a4_42 rfl (lv_at hl 0 rfl) ?_
  refine lv_bipush (v := 16) hx hb dJ6_bitCount_0f7a4_43 (by decide) ?_
  refine lv_iushr hx hb dJ6_bitCount_0f7a4_45 rfl ?_
  refine lv_iadd hx hb dJ6_bitCount_0f7a4_46 ?_
  refine lv_topi (fun x_5 ex_5 => ?_)
  refine lv_istore_n (lv' := [(0, .int x_5)]) hx hb dJ6_bitCount_0f7a4_47 rfl hl (by decide) rfl (fun ls hl => ?_)
  refine lv_iload_n hx hb dJ6_bitCount_0f7a4_48 rfl (lv_at hl 0 rfl) ?_
  refine lv_bipush (v := 63) hx hb dJ6_bitCount_0f7a4_49 (by decide) ?_
  refine lv_iand hx hb dJ6_bitCount_0f7a4_51 ?_
  exact ret _ _ (x_5 &&& 63) dJ6_bitCount_0f7a4_52 rfl (fun h => by subst h; subst ex_1; subst ex_2; subst ex_3; subst ex_4; subst ex_5; decide +kernel)

set_option maxRecDepth 100000 in
set_option maxHeartbeats 4000000 in
theorem c_X7_hasPerson (l : Launch) (D : va_G) (cI cB : ClassId) (h0 : Nat) (rt : Int32) (t1 : Nat) (t2 : Nat) (t3 : Nat) (t4 : Nat) (k : Int32)  : MR l D cI cB yX7_hasPerson cX7_hasPerson 2 .boolean (rm 1 21) [.ref h0, .int k] [(h0, .inr (7, [.int 0, .int 0, .int rt, .ref t1, .ref t2, .ref t3, .ref t4]))] (fun r : Int32 => r = 0) := by
  refine MR.of (by decide) (Nat.le_of_ble_eq_true rfl) ?_
  intro p e s m below meth c Q ls X hN hP hK hl ret
  obtain ⟨hx, hb, hml, hown, htb⟩ := id X
  have hl : lv_has ls 2 [(0, .ref h0), (1, .int k)] := hl
  refine lv_iload_n hx hb dX7_hasPerson_0 rfl (lv_at hl 1 rfl) ?_
  refine lv_if_lt (tgt := 25) hx hb dX7_hasPerson_1 (by decide) (fun c_1 => ?_) (fun c_1 => ?_)
  · refine lv_iconst (v := 0) hx hb dX7_hasPerson_25 (by decide) ?_
    exact ret _ _ 0 dX7_hasPerson_26 rfl rfl
  · refine lv_iload_n hx hb dX7_hasPerson_4 rfl (lv_at hl 1 rfl) ?_
    refine lv_bipush (v := 10) hx hb dX7_hasPerson_5 (by decide) ?_
    refine lv_icmp_ge (tgt := 25) hx hb dX7_hasPerson_7 (by decide) (fun c_7 => ?_) (fun c_7 => ?_)
    · refine lv_iconst (v := 0) hx hb dX7_hasPerson_25 (by decide) ?_
      exact ret _ _ 0 dX7_hasPerson_26 rfl rfl
    · refine lv_aload_n hx hb dX7_hasPerson_10 rfl (lv_at hl 0 rfl) ?_
      refine va_get (D := D) (ci := 7) (v := .int 0) (C := RX7) (T := TX7) (N := 7) hx hb htb itX7 hown hK hP 0 rfl rfl 0 (by decide) (htb _ k_143) (fun _ h9 => h9) rfl dX7_hasPerson_11 ?_
      refine lv_iload_n hx hb dX7_hasPerson_14 rfl (lv_at hl 1 rfl) ?_
      refine cSNR (As := [.int 0, .int k]) (rest := []) (n := 2) X hN hK hP (c_X9_isIn l D cI cB 0 k) n_858 k_696 k_92 k_697 (by decide +kernel) ⟨Nat.le_of_ble_eq_true rfl, Nat.le_of_ble_eq_true rfl⟩ ⟨rfl, rfl⟩ [] rfl rfl rfl hl.1 (Nat.le_of_ble_eq_true rfl) dX7_hasPerson_15 ⟨Nat.le_of_ble_eq_true rfl, Nat.le_of_ble_eq_true rfl⟩ (fun r hr => ?_)
      refine lv_if_eq (tgt := 25) hx hb dX7_hasPerson_18 (by decide) (fun _ => ?_) (fun c_18 => absurd (hr.2 rfl) c_18)
      refine lv_iconst (v := 0) hx hb dX7_hasPerson_25 (by decide) ?_
      exact ret _ _ 0 dX7_hasPerson_26 rfl rfl

set_option maxRecDepth 100000 in
set_option maxHeartbeats 4000000 in
theorem c_X7_hasChore (l : Launch) (D : va_G) (cI cB : ClassId) (h0 : Nat) (rt : Int32) (t1 : Nat) (t2 : Nat) (t3 : Nat) (t4 : Nat) (k : Int32)  : MR l D cI cB yX7_hasChore cX7_hasChore 2 .boolean (rm 1 21) [.ref h0, .int k] [(h0, .inr (7, [.int 0, .int 0, .int rt, .ref t1, .ref t2, .ref t3, .ref t4]))] (fun r : Int32 => r = 0) := by
  refine MR.of (by decide) (Nat.le_of_ble_eq_true rfl) ?_
  intro p e s m below meth c Q ls X hN hP hK hl ret
  obtain ⟨hx, hb, hml, hown, htb⟩ := id X
  have hl : lv_has ls 2 [(0, .ref h0), (1, .int k)] := hl
  refine lv_iload_n hx hb dX7_hasChore_0 rfl (lv_at hl 1 rfl) ?_
  refine lv_if_lt (tgt := 25) hx hb dX7_hasChore_1 (by decide) (fun c_1 => ?_) (fun c_1 => ?_)
  · refine lv_iconst (v := 0) hx hb dX7_hasChore_25 (by decide) ?_
    exact ret _ _ 0 dX7_hasChore_26 rfl rfl
  · refine lv_iload_n hx hb dX7_hasChore_4 rfl (lv_at hl 1 rfl) ?_
    refine lv_bipush (v := 12) hx hb dX7_hasChore_5 (by decide) ?_
    refine lv_icmp_ge (tgt := 25) hx hb dX7_hasChore_7 (by decide) (fun c_7 => ?_) (fun c_7 => ?_)
    · refine lv_iconst (v := 0) hx hb dX7_hasChore_25 (by decide) ?_
      exact ret _ _ 0 dX7_hasChore_26 rfl rfl
    · refine lv_aload_n hx hb dX7_hasChore_10 rfl (lv_at hl 0 rfl) ?_
      refine va_get (D := D) (ci := 7) (v := .int 0) (C := RX7) (T := TX7) (N := 7) hx hb htb itX7 hown hK hP 0 rfl rfl 1 (by decide) (htb _ k_146) (fun _ h9 => h9) rfl dX7_hasChore_11 ?_
      refine lv_iload_n hx hb dX7_hasChore_14 rfl (lv_at hl 1 rfl) ?_
      refine cSNR (As := [.int 0, .int k]) (rest := []) (n := 2) X hN hK hP (c_X9_isIn l D cI cB 0 k) n_858 k_696 k_92 k_697 (by decide +kernel) ⟨Nat.le_of_ble_eq_true rfl, Nat.le_of_ble_eq_true rfl⟩ ⟨rfl, rfl⟩ [] rfl rfl rfl hl.1 (Nat.le_of_ble_eq_true rfl) dX7_hasChore_15 ⟨Nat.le_of_ble_eq_true rfl, Nat.le_of_ble_eq_true rfl⟩ (fun r hr => ?_)
      refine lv_if_eq (tgt := 25) hx hb dX7_hasChore_18 (by decide) (fun _ => ?_) (fun c_18 => absurd (hr.2 rfl) c_18)
      refine lv_iconst (v := 0) hx hb dX7_hasChore_25 (by decide) ?_
      exact ret _ _ 0 dX7_hasChore_26 rfl rfl

set_option maxRecDepth 100000 in
set_option maxHeartbeats 4000000 in
theorem c_X4_hasLeave (l : Launch) (D : va_G) (cI cB : ClassId) (h0 : Nat) (u1 : Nat) (f1 : Nat) (g1 : Nat) (ms : Int32) (dy : Int32) (dr : Int32) (k : Int32) (ff : Nat → Int32) (hf : ∀ j, j < 10 → ff j = -2) : MR l D cI cB yX4_hasLeave cX4_hasLeave 2 .boolean (rm 0 0) [.ref h0, .int k] [(h0, .inr (4, [.ref u1, .ref f1, .ref g1, .int ms, .int dy, .int dr])), (f1, .inl (cI, 10, .inl ff))] (fun r : Int32 => r = 0) := by
  refine MR.of (by decide) (Nat.le_of_ble_eq_true rfl) ?_
  intro p e s m below meth c Q ls X hN hP hK hl ret
  obtain ⟨hx, hb, hml, hown, htb⟩ := id X
  have hl : lv_has ls 2 [(0, .ref h0), (1, .int k)] := hl
  refine lv_iload_n hx hb dX4_hasLeave_0 rfl (lv_at hl 1 rfl) ?_
  refine lv_if_lt (tgt := 25) hx hb dX4_hasLeave_1 (by decide) (fun c_1 => ?_) (fun c_1 => ?_)
  · refine lv_iconst (v := 0) hx hb dX4_hasLeave_25 (by decide) ?_
    exact ret _ _ 0 dX4_hasLeave_26 rfl rfl
  · refine lv_iload_n hx hb dX4_hasLeave_4 rfl (lv_at hl 1 rfl) ?_
    refine lv_bipush (v := 10) hx hb dX4_hasLeave_5 (by decide) ?_
    refine lv_icmp_ge (tgt := 25) hx hb dX4_hasLeave_7 (by decide) (fun c_7 => ?_) (fun c_7 => ?_)
    · refine lv_iconst (v := 0) hx hb dX4_hasLeave_25 (by decide) ?_
      exact ret _ _ 0 dX4_hasLeave_26 rfl rfl
    · refine lv_aload_n hx hb dX4_hasLeave_10 rfl (lv_at hl 0 rfl) ?_
      refine va_get (D := D) (ci := 4) (v := .ref f1) (C := RX4) (T := TX4) (N := 6) hx hb htb itX4 hown hK hP 0 rfl rfl 1 (by decide) (htb _ k_192) (fun _ h9 => h9) rfl dX4_hasLeave_11 ?_
      refine lv_iload_n hx hb dX4_hasLeave_14 rfl (lv_at hl 1 rfl) ?_
      refine va_iald hx hb hK hP 1 0 rfl rfl (vin c_1 c_7 (by decide)) dX4_hasLeave_15 ?_
      refine tv (z := (-2)) (hf _ (vlt (vin c_1 c_7 (by decide)))) ?_
      refine lv_bipush (v := (-2)) hx hb dX4_hasLeave_16 (by decide) ?_
      refine lv_icmp_eq (tgt := 25) hx hb dX4_hasLeave_18 (by decide) (fun _ => ?_) (fun c_18 => absurd (by decide) c_18)
      refine lv_iconst (v := 0) hx hb dX4_hasLeave_25 (by decide) ?_
      exact ret _ _ 0 dX4_hasLeave_26 rfl rfl

set_option maxRecDepth 100000 in
set_option maxHeartbeats 4000000 in
theorem c_X4_isAway (l : Launch) (D : va_G) (cI cB : ClassId) (h0 : Nat) (u1 : Nat) (f1 : Nat) (g1 : Nat) (ms : Int32) (dy : Int32) (dr : Int32) (k : Int32) (ff : Nat → Int32) (gg : Nat → Int32) (hf : ∀ j, j < 10 → gg j = -2) (hd : 0 ≤ dy) : MR l D cI cB yX4_isAway cX4_isAway 2 .boolean (rm 0 0) [.ref h0, .int k] [(h0, .inr (4, [.ref u1, .ref f1, .ref g1, .int ms, .int dy, .int dr])), (f1, .inl (cI, 10, .inl ff)), (g1, .inl (cI, 10, .inl gg))] (fun r : Int32 => r = 0) := by
  refine MR.of (by decide) (Nat.le_of_ble_eq_true rfl) ?_
  intro p e s m below meth c Q ls X hN hP hK hl ret
  obtain ⟨hx, hb, hml, hown, htb⟩ := id X
  have hl : lv_has ls 2 [(0, .ref h0), (1, .int k)] := hl
  refine lv_iload_n hx hb dX4_isAway_0 rfl (lv_at hl 1 rfl) ?_
  refine lv_if_lt (tgt := 40) hx hb dX4_isAway_1 (by decide) (fun c_1 => ?_) (fun c_1 => ?_)
  · refine lv_iconst (v := 0) hx hb dX4_isAway_40 (by decide) ?_
    exact ret _ _ 0 dX4_isAway_41 rfl rfl
  · refine lv_iload_n hx hb dX4_isAway_4 rfl (lv_at hl 1 rfl) ?_
    refine lv_bipush (v := 10) hx hb dX4_isAway_5 (by decide) ?_
    refine lv_icmp_ge (tgt := 40) hx hb dX4_isAway_7 (by decide) (fun c_7 => ?_) (fun c_7 => ?_)
    · refine lv_iconst (v := 0) hx hb dX4_isAway_40 (by decide) ?_
      exact ret _ _ 0 dX4_isAway_41 rfl rfl
    · refine lv_aload_n hx hb dX4_isAway_10 rfl (lv_at hl 0 rfl) ?_
      refine va_get (D := D) (ci := 4) (v := .ref f1) (C := RX4) (T := TX4) (N := 6) hx hb htb itX4 hown hK hP 0 rfl rfl 1 (by decide) (htb _ k_192) (fun _ h9 => h9) rfl dX4_isAway_11 ?_
      refine lv_iload_n hx hb dX4_isAway_14 rfl (lv_at hl 1 rfl) ?_
      refine va_iald hx hb hK hP 1 0 rfl rfl (vin c_1 c_7 (by decide)) dX4_isAway_15 ?_
      refine lv_aload_n hx hb dX4_isAway_16 rfl (lv_at hl 0 rfl) ?_
      refine va_get (D := D) (ci := 4) (v := .int dy) (C := RX4) (T := TX4) (N := 6) hx hb htb itX4 hown hK hP 0 rfl rfl 4 (by decide) (htb _ k_199) (fun _ h9 => h9) rfl dX4_isAway_17 ?_
      refine lv_icmp_gt (tgt := 40) hx hb dX4_isAway_20 (by decide) (fun c_20 => ?_) (fun c_20 => ?_)
      · refine lv_iconst (v := 0) hx hb dX4_isAway_40 (by decide) ?_
        exact ret _ _ 0 dX4_isAway_41 rfl rfl
      · refine lv_aload_n hx hb dX4_isAway_23 rfl (lv_at hl 0 rfl) ?_
        refine va_get (D := D) (ci := 4) (v := .int dy) (C := RX4) (T := TX4) (N := 6) hx hb htb itX4 hown hK hP 0 rfl rfl 4 (by decide) (htb _ k_199) (fun _ h9 => h9) rfl dX4_isAway_24 ?_
        refine lv_aload_n hx hb dX4_isAway_27 rfl (lv_at hl 0 rfl) ?_
        refine va_get (D := D) (ci := 4) (v := .ref g1) (C := RX4) (T := TX4) (N := 6) hx hb htb itX4 hown hK hP 0 rfl rfl 2 (by decide) (htb _ k_194) (fun _ h9 => h9) rfl dX4_isAway_28 ?_
        refine lv_iload_n hx hb dX4_isAway_31 rfl (lv_at hl 1 rfl) ?_
        refine va_iald hx hb hK hP 2 0 rfl rfl (vin c_1 c_7 (by decide)) dX4_isAway_32 ?_
        refine tv (z := (-2)) (hf _ (vlt (vin c_1 c_7 (by decide)))) ?_
        refine lv_icmp_gt (tgt := 40) hx hb dX4_isAway_33 (by decide) (fun _ => ?_) (fun c_33 => absurd (dlt hd) c_33)
        refine lv_iconst (v := 0) hx hb dX4_isAway_40 (by decide) ?_
        exact ret _ _ 0 dX4_isAway_41 rfl rfl

set_option maxRecDepth 100000 in
set_option maxHeartbeats 4000000 in
theorem c_X4_leaveBits (l : Launch) (D : va_G) (cI cB : ClassId) (h0 : Nat) (u1 : Nat) (f1 : Nat) (g1 : Nat) (ms : Int32) (dy : Int32) (dr : Int32) (ff : Nat → Int32) (hf : ∀ j, j < 10 → ff j = -2) : MR l D cI cB yX4_leaveBits cX4_leaveBits 3 .int (rm 1 21) [.ref h0] [(h0, .inr (4, [.ref u1, .ref f1, .ref g1, .int ms, .int dy, .int dr])), (f1, .inl (cI, 10, .inl ff))] (fun r : Int32 => r = 0) := by
  refine MR.of (by decide) (Nat.le_of_ble_eq_true rfl) ?_
  intro p e s m below meth c Q ls X hN hP hK hl ret
  obtain ⟨hx, hb, hml, hown, htb⟩ := id X
  have hl : lv_has ls 3 [(0, .ref h0)] := hl
  refine lv_iconst (v := 0) hx hb dX4_leaveBits_0 (by decide) ?_
  refine lv_istore_n (lv' := [(1, .int 0), (0, .ref h0)]) hx hb dX4_leaveBits_1 rfl hl (by decide) rfl (fun ls hl => ?_)
  refine lv_iconst (v := 0) hx hb dX4_leaveBits_2 (by decide) ?_
  refine lv_istore_n (lv' := [(2, .int 0), (1, .int 0), (0, .ref h0)]) hx hb dX4_leaveBits_3 rfl hl (by decide) rfl (fun ls hl => ?_)
  have loop_4 : ∀ (n i : Nat), n + i = 10 → ∀ (ls : Array Slot), lv_has ls 3 [(0, .ref h0), (1, .int 0), (2, .int (nI i))] → W p l e (rm 1 21) s m ([.ref h0] : List Value).toArray below meth c s.heap [] 0 0 Q (F0 m 4 ls []) := by
    intro n
    induction n with
    | zero =>
      intro i hni ls hl
      have hi : i = 10 := by omega
      subst hi
      refine lv_iload_n hx hb dX4_leaveBits_4 rfl (lv_at hl 2 rfl) ?_
      refine lv_bipush (v := 10) hx hb dX4_leaveBits_5 (by decide) ?_
      refine lv_icmp_ge (tgt := 34) hx hb dX4_leaveBits_7 (by decide) (fun _ => ?_) (fun c_7 => absurd (by decide) c_7)
      refine lv_iload_n hx hb dX4_leaveBits_34 rfl (lv_at hl 1 rfl) ?_
      exact ret _ _ 0 dX4_leaveBits_35 rfl rfl
    | succ n ih =>
      intro i hni ls hl
      have hi : i < 10 := by omega
      refine lv_iload_n hx hb dX4_leaveBits_4 rfl (lv_at hl 2 rfl) ?_
      refine lv_bipush (v := 10) hx hb dX4_leaveBits_5 (by decide) ?_
      refine lv_icmp_ge (tgt := 34) hx hb dX4_leaveBits_7 (by decide) (fun c_7 => absurd c_7 (nI_ge hi (by decide))) (fun _ => ?_)
      refine lv_iload_n hx hb dX4_leaveBits_10 rfl (lv_at hl 1 rfl) ?_
      refine lv_aload_n hx hb dX4_leaveBits_11 rfl (lv_at hl 0 rfl) ?_
      refine lv_iload_n hx hb dX4_leaveBits_12 rfl (lv_at hl 2 rfl) ?_
      refine cVR (As := [.int (nI i)]) (rest := [.int 0]) (n := 1) (ci := 4) (q0 := 0) X hN hK hP (c_X4_hasLeave l D cI cB h0 u1 f1 g1 ms dy dr (nI i) ff hf) (gV k_750 k_751 k_752 k_95 k_753) (by decide +kernel) ⟨Nat.le_of_ble_eq_true rfl, Nat.le_of_ble_eq_true rfl⟩ ⟨rfl, rfl⟩ [0, 1] rfl rfl rfl rfl rfl rfl hl.1 (Nat.le_of_ble_eq_true rfl) dX4_leaveBits_13 ⟨Nat.le_of_ble_eq_true rfl, Nat.le_of_ble_eq_true rfl⟩ (fun r_1 hr_1 => ?_)
      subst hr_1
      refine lv_if_eq (tgt := 25) hx hb dX4_leaveBits_16 (by decide) (fun _ => ?_) (fun c_16 => absurd (by decide) c_16)
      refine lv_iconst (v := 0) hx hb dX4_leaveBits_25 (by decide) ?_
      refine lv_ior hx hb dX4_leaveBits_26 ?_
      refine tv (z := 0) (by decide) ?_
      refine lv_istore_n (lv' := [(1, .int 0), (0, .ref h0), (2, .int (nI i))]) hx hb dX4_leaveBits_27 rfl hl (by decide) rfl (fun ls hl => ?_)
      refine lv_iinc (v := (nI (i + 1))) (lv' := [(2, .int (nI (i + 1))), (1, .int 0), (0, .ref h0)]) hx hb dX4_leaveBits_28 hl (k := 2) rfl (nI_1 i) (by decide) rfl (fun ls hl => ?_)
      refine lv_goto (tgt := 4) hx hb dX4_leaveBits_31 (by decide) ?_
      exact ih (i + 1) (by omega) _ (lv_sub hl [2, 1, 0] rfl)
  exact loop_4 10 0 (by omega) _ (lv_sub hl [2, 1, 0] rfl)

set_option maxRecDepth 100000 in
set_option maxHeartbeats 4000000 in
theorem c_X4_awayBits (l : Launch) (D : va_G) (cI cB : ClassId) (h0 : Nat) (u1 : Nat) (f1 : Nat) (g1 : Nat) (ms : Int32) (dy : Int32) (dr : Int32) (ff : Nat → Int32) (gg : Nat → Int32) (hf : ∀ j, j < 10 → gg j = -2) (hd : 0 ≤ dy) : MR l D cI cB yX4_awayBits cX4_awayBits 3 .int (rm 1 21) [.ref h0] [(h0, .inr (4, [.ref u1, .ref f1, .ref g1, .int ms, .int dy, .int dr])), (f1, .inl (cI, 10, .inl ff)), (g1, .inl (cI, 10, .inl gg))] (fun r : Int32 => r = 0) := by
  refine MR.of (by decide) (Nat.le_of_ble_eq_true rfl) ?_
  intro p e s m below meth c Q ls X hN hP hK hl ret
  obtain ⟨hx, hb, hml, hown, htb⟩ := id X
  have hl : lv_has ls 3 [(0, .ref h0)] := hl
  refine lv_iconst (v := 0) hx hb dX4_awayBits_0 (by decide) ?_
  refine lv_istore_n (lv' := [(1, .int 0), (0, .ref h0)]) hx hb dX4_awayBits_1 rfl hl (by decide) rfl (fun ls hl => ?_)
  refine lv_iconst (v := 0) hx hb dX4_awayBits_2 (by decide) ?_
  refine lv_istore_n (lv' := [(2, .int 0), (1, .int 0), (0, .ref h0)]) hx hb dX4_awayBits_3 rfl hl (by decide) rfl (fun ls hl => ?_)
  have loop_4 : ∀ (n i : Nat), n + i = 10 → ∀ (ls : Array Slot), lv_has ls 3 [(0, .ref h0), (1, .int 0), (2, .int (nI i))] → W p l e (rm 1 21) s m ([.ref h0] : List Value).toArray below meth c s.heap [] 0 0 Q (F0 m 4 ls []) := by
    intro n
    induction n with
    | zero =>
      intro i hni ls hl
      have hi : i = 10 := by omega
      subst hi
      refine lv_iload_n hx hb dX4_awayBits_4 rfl (lv_at hl 2 rfl) ?_
      refine lv_bipush (v := 10) hx hb dX4_awayBits_5 (by decide) ?_
      refine lv_icmp_ge (tgt := 34) hx hb dX4_awayBits_7 (by decide) (fun _ => ?_) (fun c_7 => absurd (by decide) c_7)
      refine lv_iload_n hx hb dX4_awayBits_34 rfl (lv_at hl 1 rfl) ?_
      exact ret _ _ 0 dX4_awayBits_35 rfl rfl
    | succ n ih =>
      intro i hni ls hl
      have hi : i < 10 := by omega
      refine lv_iload_n hx hb dX4_awayBits_4 rfl (lv_at hl 2 rfl) ?_
      refine lv_bipush (v := 10) hx hb dX4_awayBits_5 (by decide) ?_
      refine lv_icmp_ge (tgt := 34) hx hb dX4_awayBits_7 (by decide) (fun c_7 => absurd c_7 (nI_ge hi (by decide))) (fun _ => ?_)
      refine lv_iload_n hx hb dX4_awayBits_10 rfl (lv_at hl 1 rfl) ?_
      refine lv_aload_n hx hb dX4_awayBits_11 rfl (lv_at hl 0 rfl) ?_
      refine lv_iload_n hx hb dX4_awayBits_12 rfl (lv_at hl 2 rfl) ?_
      refine cVR (As := [.int (nI i)]) (rest := [.int 0]) (n := 1) (ci := 4) (q0 := 0) X hN hK hP (c_X4_isAway l D cI cB h0 u1 f1 g1 ms dy dr (nI i) ff gg hf hd) (gV k_797 k_798 k_799 k_95 k_800) (by decide +kernel) ⟨Nat.le_of_ble_eq_true rfl, Nat.le_of_ble_eq_true rfl⟩ ⟨rfl, rfl⟩ [0, 1, 2] rfl rfl rfl rfl rfl rfl hl.1 (Nat.le_of_ble_eq_true rfl) dX4_awayBits_13 ⟨Nat.le_of_ble_eq_true rfl, Nat.le_of_ble_eq_true rfl⟩ (fun r_1 hr_1 => ?_)
      subst hr_1
      refine lv_if_eq (tgt := 25) hx hb dX4_awayBits_16 (by decide) (fun _ => ?_) (fun c_16 => absurd (by decide) c_16)
      refine lv_iconst (v := 0) hx hb dX4_awayBits_25 (by decide) ?_
      refine lv_ior hx hb dX4_awayBits_26 ?_
      refine tv (z := 0) (by decide) ?_
      refine lv_istore_n (lv' := [(1, .int 0), (0, .ref h0), (2, .int (nI i))]) hx hb dX4_awayBits_27 rfl hl (by decide) rfl (fun ls hl => ?_)
      refine lv_iinc (v := (nI (i + 1))) (lv' := [(2, .int (nI (i + 1))), (1, .int 0), (0, .ref h0)]) hx hb dX4_awayBits_28 hl (k := 2) rfl (nI_1 i) (by decide) rfl (fun ls hl => ?_)
      refine lv_goto (tgt := 4) hx hb dX4_awayBits_31 (by decide) ?_
      exact ih (i + 1) (by omega) _ (lv_sub hl [2, 1, 0] rfl)
  exact loop_4 10 0 (by omega) _ (lv_sub hl [2, 1, 0] rfl)
