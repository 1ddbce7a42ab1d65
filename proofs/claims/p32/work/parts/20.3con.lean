set_option maxRecDepth 100000 in
set_option maxHeartbeats 4000000 in
theorem c_X9_within (l : Launch) (D : va_G) (cI cB : ClassId) (x : Int32) (lo : Int32) (hi : Int32)  : MR l D cI cB yX9_within cX9_within 3 .boolean (rm 0 0) [.int x, .int lo, .int hi] [] (fun r : Int32 => r = bI (lo ≤ x ∧ x ≤ hi)) := by
  refine MR.of (by decide) (Nat.le_of_ble_eq_true rfl) ?_
  intro p e s m below meth c Q ls X hN hP hK hl ret
  obtain ⟨hx, hb, hml, hown, htb⟩ := id X
  have hl : lv_has ls 3 [(0, .int x), (1, .int lo), (2, .int hi)] := hl
  refine lv_iload_n hx hb dX9_within_0 rfl (lv_at hl 0 rfl) ?_
  refine lv_iload_n hx hb dX9_within_1 rfl (lv_at hl 1 rfl) ?_
  refine lv_icmp_lt (tgt := 14) hx hb dX9_within_2 (by decide) (fun c_2 => ?_) (fun c_2 => ?_)
  · refine lv_iconst (v := 0) hx hb dX9_within_14 (by decide) ?_
    exact ret _ _ 0 dX9_within_15 rfl (bI0 (fun h => (Int32.not_lt.mpr h.1) c_2))
  · refine lv_iload_n hx hb dX9_within_5 rfl (lv_at hl 0 rfl) ?_
    refine lv_iload_n hx hb dX9_within_6 rfl (lv_at hl 2 rfl) ?_
    refine lv_icmp_gt (tgt := 14) hx hb dX9_within_7 (by decide) (fun c_7 => ?_) (fun c_7 => ?_)
    · refine lv_iconst (v := 0) hx hb dX9_within_14 (by decide) ?_
      exact ret _ _ 0 dX9_within_15 rfl (bI0 (fun h => (Int32.not_lt.mpr h.2) c_7))
    · refine lv_iconst (v := 1) hx hb dX9_within_10 (by decide) ?_
      refine lv_goto (tgt := 15) hx hb dX9_within_11 (by decide) ?_
      exact ret _ _ 1 dX9_within_15 rfl (bI1 ⟨Int32.not_lt.mp c_2, Int32.not_lt.mp c_7⟩)

set_option maxRecDepth 100000 in
set_option maxHeartbeats 4000000 in
theorem c_X10_in (l : Launch) (D : va_G) (cI cB : ClassId) (x : Int32) (lo : Int32) (hi : Int32)  : MR l D cI cB yX10_in cX10_in 3 .boolean (rm 0 0) [.int x, .int lo, .int hi] [] (fun r : Int32 => r = bI (lo ≤ x ∧ x ≤ hi)) := by
  refine MR.of (by decide) (Nat.le_of_ble_eq_true rfl) ?_
  intro p e s m below meth c Q ls X hN hP hK hl ret
  obtain ⟨hx, hb, hml, hown, htb⟩ := id X
  have hl : lv_has ls 3 [(0, .int x), (1, .int lo), (2, .int hi)] := hl
  refine lv_iload_n hx hb dX10_in_0 rfl (lv_at hl 0 rfl) ?_
  refine lv_iload_n hx hb dX10_in_1 rfl (lv_at hl 1 rfl) ?_
  refine lv_icmp_lt (tgt := 14) hx hb dX10_in_2 (by decide) (fun c_2 => ?_) (fun c_2 => ?_)
  · refine lv_iconst (v := 0) hx hb dX10_in_14 (by decide) ?_
    exact ret _ _ 0 dX10_in_15 rfl (bI0 (fun h => (Int32.not_lt.mpr h.1) c_2))
  · refine lv_iload_n hx hb dX10_in_5 rfl (lv_at hl 0 rfl) ?_
    refine lv_iload_n hx hb dX10_in_6 rfl (lv_at hl 2 rfl) ?_
    refine lv_icmp_gt (tgt := 14) hx hb dX10_in_7 (by decide) (fun c_7 => ?_) (fun c_7 => ?_)
    · refine lv_iconst (v := 0) hx hb dX10_in_14 (by decide) ?_
      exact ret _ _ 0 dX10_in_15 rfl (bI0 (fun h => (Int32.not_lt.mpr h.2) c_7))
    · refine lv_iconst (v := 1) hx hb dX10_in_10 (by decide) ?_
      refine lv_goto (tgt := 15) hx hb dX10_in_11 (by decide) ?_
      exact ret _ _ 1 dX10_in_15 rfl (bI1 ⟨Int32.not_lt.mp c_2, Int32.not_lt.mp c_7⟩)

set_option maxRecDepth 100000 in
set_option maxHeartbeats 4000000 in
theorem c_X9_isDayCount (l : Launch) (D : va_G) (cI cB : ClassId) (x : Int32)  : MR l D cI cB yX9_isDayCount cX9_isDayCount 1 .boolean (rm 0 0) [.int x] [] (fun r : Int32 => r = bI (1 ≤ x ∧ x ≤ 60)) := by
  refine MR.of (by decide) (Nat.le_of_ble_eq_true rfl) ?_
  intro p e s m below meth c Q ls X hN hP hK hl ret
  obtain ⟨hx, hb, hml, hown, htb⟩ := id X
  have hl : lv_has ls 1 [(0, .int x)] := hl
  refine lv_iload_n hx hb dX9_isDayCount_0 rfl (lv_at hl 0 rfl) ?_
  refine lv_iconst (v := 1) hx hb dX9_isDayCount_1 (by decide) ?_
  refine lv_icmp_lt (tgt := 15) hx hb dX9_isDayCount_2 (by decide) (fun c_2 => ?_) (fun c_2 => ?_)
  · refine lv_iconst (v := 0) hx hb dX9_isDayCount_15 (by decide) ?_
    exact ret _ _ 0 dX9_isDayCount_16 rfl (bI0 (fun h => (Int32.not_lt.mpr h.1) c_2))
  · refine lv_iload_n hx hb dX9_isDayCount_5 rfl (lv_at hl 0 rfl) ?_
    refine lv_bipush (v := 60) hx hb dX9_isDayCount_6 (by decide) ?_
    refine lv_icmp_gt (tgt := 15) hx hb dX9_isDayCount_8 (by decide) (fun c_8 => ?_) (fun c_8 => ?_)
    · refine lv_iconst (v := 0) hx hb dX9_isDayCount_15 (by decide) ?_
      exact ret _ _ 0 dX9_isDayCount_16 rfl (bI0 (fun h => (Int32.not_lt.mpr h.2) c_8))
    · refine lv_iconst (v := 1) hx hb dX9_isDayCount_11 (by decide) ?_
      refine lv_goto (tgt := 16) hx hb dX9_isDayCount_12 (by decide) ?_
      exact ret _ _ 1 dX9_isDayCount_16 rfl (bI1 ⟨Int32.not_lt.mp c_2, Int32.not_lt.mp c_8⟩)

set_option maxRecDepth 100000 in
set_option maxHeartbeats 4000000 in
theorem c_X9_isIn (l : Launch) (D : va_G) (cI cB : ClassId) (a : Int32) (k : Int32)  : MR l D cI cB yX9_isIn cX9_isIn 2 .boolean (rm 0 0) [.int a, .int k] [] (fun r : Int32 => r = 0 ∨ r = 1) := by
  refine MR.of (by decide) (Nat.le_of_ble_eq_true rfl) ?_
  intro p e s m below meth c Q ls X hN hP hK hl ret
  obtain ⟨hx, hb, hml, hown, htb⟩ := id X
  have hl : lv_has ls 2 [(0, .int a), (1, .int k)] := hl
  refine lv_iload_n hx hb dX9_isIn_0 rfl (lv_at hl 1 rfl) ?_
  refine lv_if_lt (tgt := 23) hx hb dX9_isIn_1 (by decide) (fun c_1 => ?_) (fun c_1 => ?_)
  · refine lv_iconst (v := 0) hx hb dX9_isIn_23 (by decide) ?_
    exact ret _ _ 0 dX9_isIn_24 rfl (Or.inl rfl)
  · refine lv_iload_n hx hb dX9_isIn_4 rfl (lv_at hl 1 rfl) ?_
    refine lv_bipush (v := 31) hx hb dX9_isIn_5 (by decide) ?_
    refine lv_icmp_ge (tgt := 23) hx hb dX9_isIn_7 (by decide) (fun c_7 => ?_) (fun c_7 => ?_)
    · refine lv_iconst (v := 0) hx hb dX9_isIn_23 (by decide) ?_
      exact ret _ _ 0 dX9_isIn_24 rfl (Or.inl rfl)
    · refine lv_iload_n hx hb dX9_isIn_10 rfl (lv_at hl 0 rfl) ?_
      refine lv_iload_n hx hb dX9_isIn_11 rfl (lv_at hl 1 rfl) ?_
      refine lv_ishr hx hb dX9_isIn_12 ?_
      refine lv_iconst (v := 1) hx hb dX9_isIn_13 (by decide) ?_
      refine lv_iand hx hb dX9_isIn_14 ?_
      refine lv_iconst (v := 1) hx hb dX9_isIn_15 (by decide) ?_
      refine lv_icmp_ne (tgt := 23) hx hb dX9_isIn_16 (by decide) (fun c_16 => ?_) (fun c_16 => ?_)
      · refine lv_iconst (v := 0) hx hb dX9_isIn_23 (by decide) ?_
        exact ret _ _ 0 dX9_isIn_24 rfl (Or.inl rfl)
      · refine lv_iconst (v := 1) hx hb dX9_isIn_19 (by decide) ?_
        refine lv_goto (tgt := 24) hx hb dX9_isIn_20 (by decide) ?_
        exact ret _ _ 1 dX9_isIn_24 rfl (Or.inr rfl)

set_option maxRecDepth 100000 in
set_option maxHeartbeats 4000000 in
theorem c_X10_has (l : Launch) (D : va_G) (cI cB : ClassId) (a : Int32) (k : Int32)  : MR l D cI cB yX10_has cX10_has 2 .boolean (rm 0 0) [.int a, .int k] [] (fun r : Int32 => r = 0 ∨ r = 1) := by
  refine MR.of (by decide) (Nat.le_of_ble_eq_true rfl) ?_
  intro p e s m below meth c Q ls X hN hP hK hl ret
  obtain ⟨hx, hb, hml, hown, htb⟩ := id X
  have hl : lv_has ls 2 [(0, .int a), (1, .int k)] := hl
  refine lv_iload_n hx hb dX10_has_0 rfl (lv_at hl 0 rfl) ?_
  refine lv_iload_n hx hb dX10_has_1 rfl (lv_at hl 1 rfl) ?_
  refine lv_ishr hx hb dX10_has_2 ?_
  refine lv_iconst (v := 1) hx hb dX10_has_3 (by decide) ?_
  refine lv_iand hx hb dX10_has_4 ?_
  refine lv_iconst (v := 1) hx hb dX10_has_5 (by decide) ?_
  refine lv_icmp_ne (tgt := 13) hx hb dX10_has_6 (by decide) (fun c_6 => ?_) (fun c_6 => ?_)
  · refine lv_iconst (v := 0) hx hb dX10_has_13 (by decide) ?_
    exact ret _ _ 0 dX10_has_14 rfl (Or.inl rfl)
  · refine lv_iconst (v := 1) hx hb dX10_has_9 (by decide) ?_
    refine lv_goto (tgt := 14) hx hb dX10_has_10 (by decide) ?_
    exact ret _ _ 1 dX10_has_14 rfl (Or.inr rfl)

set_option maxRecDepth 100000 in
set_option maxHeartbeats 4000000 in
theorem c_J6_bitCount_0f7a4 (l : Launch) (D : va_G) (cI cB : ClassId) (a : Int32)  : MR l D cI cB yJ6_bitCount_0f7a4 cJ6_bitCount_0f7a4 1 .int (rm 0 0) [.int a] [] (fun r : Int32 => True) := by
  refine MR.of (by decide) (Nat.le_of_ble_eq_true rfl) ?_
  intro p e s m below meth c Q ls X hN hP hK hl ret
  obtain ⟨hx, hb, hml, hown, htb⟩ := id X
  have hl : lv_has ls 1 [(0, .int a)] := hl
  refine lv_iload_n hx hb dJ6_bitCount_0f7a4_0 rfl (lv_at hl 0 rfl) ?_
  refine lv_iload_n hx hb dJ6_bitCount_0f7a4_1 rfl (lv_at hl 0 rfl) ?_
  refine lv_iconst (v := 1) hx hb dJ6_bitCount_0f7a4_2 (by decide) ?_
  refine lv_iushr hx hb dJ6_bitCount_0f7a4_3 rfl ?_
  refine lv_ldcw (v := 1431655765) hx hb hown (htb _ k_757) dJ6_bitCount_0f7a4_4 ?_
  refine lv_iand hx hb dJ6_bitCount_0f7a4_7 ?_
  refine lv_isub hx hb dJ6_bitCount_0f7a4_8 ?_
  refine lv_topi (fun x_1 ex_1 => ?_)
  refine lv_istore_n (lv' := [(0, .int x_1)]) hx hb dJ6_bitCount_0f7a4_9 rfl hl (by decide) rfl (fun ls hl => ?_)
  refine lv_iload_n hx hb dJ6_bitCount_0f7a4_10 rfl (lv_at hl 0 rfl) ?_
  refine lv_ldcw (v := 858993459) hx hb hown (htb _ k_758) dJ6_bitCount_0f7a4_11 ?_
  refine lv_iand hx hb dJ6_bitCount_0f7a4_14 ?_
  refine lv_iload_n hx hb dJ6_bitCount_0f7a4_15 rfl (lv_at hl 0 rfl) ?_
  refine lv_iconst (v := 2) hx hb dJ6_bitCount_0f7a4_16 (by decide) ?_
  refine lv_iushr hx hb dJ6_bitCount_0f7a4_17 rfl ?_
  refine lv_ldcw (v := 858993459) hx hb hown (htb _ k_758) dJ6_bitCount_0f7a4_18 ?_
  refine lv_iand hx hb dJ6_bitCount_0f7a4_21 ?_
  refine lv_iadd hx hb dJ6_bitCount_0f7a4_22 ?_
  refine lv_topi (fun x_2 ex_2 => ?_)
  refine lv_istore_n (lv' := [(0, .int x_2)]) hx hb dJ6_bitCount_0f7a4_23 rfl hl (by decide) rfl (fun ls hl => ?_)
  refine lv_iload_n hx hb dJ6_bitCount_0f7a4_24 rfl (lv_at hl 0 rfl) ?_
  refine lv_iload_n hx hb dJ6_bitCount_0f7a4_25 rfl (lv_at hl 0 rfl) ?_
  refine lv_iconst (v := 4) hx hb dJ6_bitCount_0f7a4_26 (by decide) ?_
  refine lv_iushr hx hb dJ6_bitCount_0f7a4_27 rfl ?_
  refine lv_iadd hx hb dJ6_bitCount_0f7a4_28 ?_
  refine lv_ldcw (v := 252645135) hx hb hown (htb _ k_759) dJ6_bitCount_0f7a4_29 ?_
  refine lv_iand hx hb dJ6_bitCount_0f7a4_32 ?_
  refine lv_topi (fun x_3 ex_3 => ?_)
  refine lv_istore_n (lv' := [(0, .int x_3)]) hx hb dJ6_bitCount_0f7a4_33 rfl hl (by decide) rfl (fun ls hl => ?_)
  refine lv_iload_n hx hb dJ6_bitCount_0f7a4_34 rfl (lv_at hl 0 rfl) ?_
  refine lv_iload_n hx hb dJ6_bitCount_0f7a4_35 rfl (lv_at hl 0 rfl) ?_
  refine lv_bipush (v := 8) hx hb dJ6_bitCount_0f7a4_36 (by decide) ?_
  refine lv_iushr hx hb dJ6_bitCount_0f7a4_38 rfl ?_
  refine lv_iadd hx hb dJ6_bitCount_0f7a4_39 ?_
  refine lv_topi (fun x_4 ex_4 => ?_)
  refine lv_istore_n (lv' := [(0, .int x_4)]) hx hb dJ6_bitCount_0f7a4_40 rfl hl (by decide) rfl (fun ls hl => ?_)
  refine lv_iload_n hx hb dJ6_bitCount_0f7a4_41 rfl (lv_at hl 0 rfl) ?_
  refine lv_iload_n hx hb dJ6_bitCount_0f7a4_42 rfl (lv_at hl 0 rfl) ?_
  refine lv_bipush (v := 16) hx hb dJ6_bitCount_0f7a4_43 (by decide) ?_
  refine lv_iushr hx hb dJ6_bitCount_0f7a4_45 rfl ?_
  refine lv_iadd hx hb dJ6_bitCount_0f7a4_46 ?_
  refine lv_topi (fun x_5 ex_5 => ?_)
  refine lv_istore_n (lv' := [(0, .int x_5)]) hx hb dJ6_bitCount_0f7a4_47 rfl hl (by decide) rfl (fun ls hl => ?_)
  refine lv_iload_n hx hb dJ6_bitCount_0f7a4_48 rfl (lv_at hl 0 rfl) ?_
  refine lv_bipush (v := 63) hx hb dJ6_bitCount_0f7a4_49 (by decide) ?_
  refine lv_iand hx hb dJ6_bitCount_0f7a4_51 ?_
  exact ret _ _ (x_5 &&& 63) dJ6_bitCount_0f7a4_52 rfl trivial

set_option maxRecDepth 100000 in
set_option maxHeartbeats 4000000 in
theorem c_X1_joined (l : Launch) (D : va_G) (cI cB : ClassId) (k : Int32) (a : Int32) (b : Int32)  : MR l D cI cB yX1_joined cX1_joined 3 .int (rm 0 0) [.int k, .int a, .int b] [] (fun r : Int32 => True) := by
  refine MR.of (by decide) (Nat.le_of_ble_eq_true rfl) ?_
  intro p e s m below meth c Q ls X hN hP hK hl ret
  obtain ⟨hx, hb, hml, hown, htb⟩ := id X
  have hl : lv_has ls 3 [(0, .int k), (1, .int a), (2, .int b)] := hl
  refine lv_iload_n hx hb dX1_joined_0 rfl (lv_at hl 0 rfl) ?_
  by_cases e1_0 : k = 5
  · subst e1_0
    refine lv_tableIn (off := 43) (tgt := 44) hx hb dX1_joined_1 (by decide) (by decide) (by decide) (by decide) ?_
    refine lv_iload_n hx hb dX1_joined_44 rfl (lv_at hl 1 rfl) ?_
    refine lv_iload_n hx hb dX1_joined_45 rfl (lv_at hl 2 rfl) ?_
    refine lv_iadd hx hb dX1_joined_46 ?_
    exact ret _ _ (a + b) dX1_joined_47 rfl trivial
  by_cases e1_1 : k = 6
  · subst e1_1
    refine lv_tableIn (off := 47) (tgt := 48) hx hb dX1_joined_1 (by decide) (by decide) (by decide) (by decide) ?_
    refine lv_iload_n hx hb dX1_joined_48 rfl (lv_at hl 1 rfl) ?_
    refine lv_iload_n hx hb dX1_joined_49 rfl (lv_at hl 2 rfl) ?_
    refine lv_isub hx hb dX1_joined_50 ?_
    exact ret _ _ (a - b) dX1_joined_51 rfl trivial
  by_cases e1_2 : k = 7
  · subst e1_2
    refine lv_tableIn (off := 51) (tgt := 52) hx hb dX1_joined_1 (by decide) (by decide) (by decide) (by decide) ?_
    refine lv_iload_n hx hb dX1_joined_52 rfl (lv_at hl 1 rfl) ?_
    refine lv_iload_n hx hb dX1_joined_53 rfl (lv_at hl 2 rfl) ?_
    refine lv_imul hx hb dX1_joined_54 ?_
    exact ret _ _ (a * b) dX1_joined_55 rfl trivial
  by_cases e1_3 : k = 8
  · subst e1_3
    refine lv_tableIn (off := 55) (tgt := 56) hx hb dX1_joined_1 (by decide) (by decide) (by decide) (by decide) ?_
    refine lv_iload_n hx hb dX1_joined_56 rfl (lv_at hl 2 rfl) ?_
    refine lv_if_ne (tgt := 64) hx hb dX1_joined_57 (by decide) (fun c_57 => ?_) (fun c_57 => ?_)
    · refine lv_iload_n hx hb dX1_joined_64 rfl (lv_at hl 1 rfl) ?_
      refine lv_iload_n hx hb dX1_joined_65 rfl (lv_at hl 2 rfl) ?_
      refine lv_idiv hx hb dX1_joined_66 c_57 ?_
      exact ret _ _ (a / b) dX1_joined_67 rfl trivial
    · refine lv_iconst (v := 0) hx hb dX1_joined_60 (by decide) ?_
      refine lv_goto (tgt := 67) hx hb dX1_joined_61 (by decide) ?_
      exact ret _ _ 0 dX1_joined_67 rfl trivial
  by_cases e1_4 : k = 9
  · subst e1_4
    refine lv_tableIn (off := 67) (tgt := 68) hx hb dX1_joined_1 (by decide) (by decide) (by decide) (by decide) ?_
    refine lv_iload_n hx hb dX1_joined_68 rfl (lv_at hl 2 rfl) ?_
    refine lv_if_ne (tgt := 76) hx hb dX1_joined_69 (by decide) (fun c_69 => ?_) (fun c_69 => ?_)
    · refine lv_iload_n hx hb dX1_joined_76 rfl (lv_at hl 1 rfl) ?_
      refine lv_iload_n hx hb dX1_joined_77 rfl (lv_at hl 2 rfl) ?_
      refine lv_irem hx hb dX1_joined_78 c_69 ?_
      exact ret _ _ (a - a / b * b) dX1_joined_79 rfl trivial
    · refine lv_iconst (v := 0) hx hb dX1_joined_72 (by decide) ?_
      refine lv_goto (tgt := 79) hx hb dX1_joined_73 (by decide) ?_
      exact ret _ _ 0 dX1_joined_79 rfl trivial
  by_cases e1_5 : k = 10
  · subst e1_5
    refine lv_tableIn (off := 79) (tgt := 80) hx hb dX1_joined_1 (by decide) (by decide) (by decide) (by decide) ?_
    refine lv_iload_n hx hb dX1_joined_80 rfl (lv_at hl 1 rfl) ?_
    refine lv_iload_n hx hb dX1_joined_81 rfl (lv_at hl 2 rfl) ?_
    refine lv_icmp_ge (tgt := 89) hx hb dX1_joined_82 (by decide) (fun c_82 => ?_) (fun c_82 => ?_)
    · refine lv_iconst (v := 0) hx hb dX1_joined_89 (by decide) ?_
      exact ret _ _ 0 dX1_joined_90 rfl trivial
    · refine lv_iconst (v := 1) hx hb dX1_joined_85 (by decide) ?_
      refine lv_goto (tgt := 90) hx hb dX1_joined_86 (by decide) ?_
      exact ret _ _ 1 dX1_joined_90 rfl trivial
  by_cases e1_6 : k = 11
  · subst e1_6
    refine lv_tableIn (off := 90) (tgt := 91) hx hb dX1_joined_1 (by decide) (by decide) (by decide) (by decide) ?_
    refine lv_iload_n hx hb dX1_joined_91 rfl (lv_at hl 1 rfl) ?_
    refine lv_iload_n hx hb dX1_joined_92 rfl (lv_at hl 2 rfl) ?_
    refine lv_icmp_le (tgt := 100) hx hb dX1_joined_93 (by decide) (fun c_93 => ?_) (fun c_93 => ?_)
    · refine lv_iconst (v := 0) hx hb dX1_joined_100 (by decide) ?_
      exact ret _ _ 0 dX1_joined_101 rfl trivial
    · refine lv_iconst (v := 1) hx hb dX1_joined_96 (by decide) ?_
      refine lv_goto (tgt := 101) hx hb dX1_joined_97 (by decide) ?_
      exact ret _ _ 1 dX1_joined_101 rfl trivial
  refine lv_tableOut (tgt := 102) hx hb dX1_joined_1 (by have t0 := lv_neT e1_0 (a := 5) (by decide); have t1 := lv_neT e1_1 (a := 6) (by decide); have t2 := lv_neT e1_2 (a := 7) (by decide); have t3 := lv_neT e1_3 (a := 8) (by decide); have t4 := lv_neT e1_4 (a := 9) (by decide); have t5 := lv_neT e1_5 (a := 10) (by decide); have t6 := lv_neT e1_6 (a := 11) (by decide); omega) (by decide) ?_
  refine lv_iload_n hx hb dX1_joined_102 rfl (lv_at hl 1 rfl) ?_
  refine lv_iload_n hx hb dX1_joined_103 rfl (lv_at hl 2 rfl) ?_
  refine lv_icmp_ne (tgt := 111) hx hb dX1_joined_104 (by decide) (fun c_104 => ?_) (fun c_104 => ?_)
  · refine lv_iconst (v := 0) hx hb dX1_joined_111 (by decide) ?_
    exact ret _ _ 0 dX1_joined_112 rfl trivial
  · refine lv_iconst (v := 1) hx hb dX1_joined_107 (by decide) ?_
    refine lv_goto (tgt := 112) hx hb dX1_joined_108 (by decide) ?_
    exact ret _ _ 1 dX1_joined_112 rfl trivial

set_option maxRecDepth 100000 in
set_option maxHeartbeats 4000000 in
theorem c_X7_hasPerson (l : Launch) (D : va_G) (cI cB : ClassId) (h0 : Nat) (pe : Int32) (ch : Int32) (rt : Int32) (t1 : Nat) (t2 : Nat) (t3 : Nat) (t4 : Nat) (k : Int32)  : MR l D cI cB yX7_hasPerson cX7_hasPerson 2 .boolean (rm 1 21) [.ref h0, .int k] [(h0, .inr (7, [.int pe, .int ch, .int rt, .ref t1, .ref t2, .ref t3, .ref t4]))] (fun r : Int32 => (r = 0 ∨ r = 1) ∧ (r = 1 → 0 ≤ k ∧ k < 10)) := by
  refine MR.of (by decide) (Nat.le_of_ble_eq_true rfl) ?_
  intro p e s m below meth c Q ls X hN hP hK hl ret
  obtain ⟨hx, hb, hml, hown, htb⟩ := id X
  have hl : lv_has ls 2 [(0, .ref h0), (1, .int k)] := hl
  refine lv_iload_n hx hb dX7_hasPerson_0 rfl (lv_at hl 1 rfl) ?_
  refine lv_if_lt (tgt := 25) hx hb dX7_hasPerson_1 (by decide) (fun c_1 => ?_) (fun c_1 => ?_)
  · refine lv_iconst (v := 0) hx hb dX7_hasPerson_25 (by decide) ?_
    exact ret _ _ 0 dX7_hasPerson_26 rfl (⟨Or.inl rfl, fun h => absurd h (by decide)⟩)
  · refine lv_iload_n hx hb dX7_hasPerson_4 rfl (lv_at hl 1 rfl) ?_
    refine lv_bipush (v := 10) hx hb dX7_hasPerson_5 (by decide) ?_
    refine lv_icmp_ge (tgt := 25) hx hb dX7_hasPerson_7 (by decide) (fun c_7 => ?_) (fun c_7 => ?_)
    · refine lv_iconst (v := 0) hx hb dX7_hasPerson_25 (by decide) ?_
      exact ret _ _ 0 dX7_hasPerson_26 rfl (⟨Or.inl rfl, fun h => absurd h (by decide)⟩)
    · refine lv_aload_n hx hb dX7_hasPerson_10 rfl (lv_at hl 0 rfl) ?_
      refine va_get (D := D) (ci := 7) (v := .int pe) (C := RX7) (T := TX7) (N := 7) hx hb htb itX7 hown hK hP 0 rfl rfl 0 (by decide) (htb _ k_143) (fun _ h9 => h9) rfl dX7_hasPerson_11 ?_
      refine lv_iload_n hx hb dX7_hasPerson_14 rfl (lv_at hl 1 rfl) ?_
      refine cSNR (As := [.int pe, .int k]) (rest := []) (n := 2) X hN hK hP (c_X9_isIn l D cI cB pe k) n_858 k_696 k_92 k_697 (by decide +kernel) ⟨Nat.le_of_ble_eq_true rfl, Nat.le_of_ble_eq_true rfl⟩ ⟨rfl, rfl⟩ [] rfl rfl rfl hl.1 (Nat.le_of_ble_eq_true rfl) dX7_hasPerson_15 ⟨Nat.le_of_ble_eq_true rfl, Nat.le_of_ble_eq_true rfl⟩ (fun r_1 hr_1 => ?_)
      refine lv_if_eq (tgt := 25) hx hb dX7_hasPerson_18 (by decide) (fun c_18 => ?_) (fun c_18 => ?_)
      · refine lv_iconst (v := 0) hx hb dX7_hasPerson_25 (by decide) ?_
        exact ret _ _ 0 dX7_hasPerson_26 rfl (⟨Or.inl rfl, fun h => absurd h (by decide)⟩)
      · refine lv_iconst (v := 1) hx hb dX7_hasPerson_21 (by decide) ?_
        refine lv_goto (tgt := 26) hx hb dX7_hasPerson_22 (by decide) ?_
        exact ret _ _ 1 dX7_hasPerson_26 rfl (⟨Or.inr rfl, fun _ => ⟨Int32.not_lt.mp c_1, Int32.not_le.mp c_7⟩⟩)

set_option maxRecDepth 100000 in
set_option maxHeartbeats 4000000 in
theorem c_X7_hasChore (l : Launch) (D : va_G) (cI cB : ClassId) (h0 : Nat) (pe : Int32) (ch : Int32) (rt : Int32) (t1 : Nat) (t2 : Nat) (t3 : Nat) (t4 : Nat) (k : Int32)  : MR l D cI cB yX7_hasChore cX7_hasChore 2 .boolean (rm 1 21) [.ref h0, .int k] [(h0, .inr (7, [.int pe, .int ch, .int rt, .ref t1, .ref t2, .ref t3, .ref t4]))] (fun r : Int32 => (r = 0 ∨ r = 1) ∧ (r = 1 → 0 ≤ k ∧ k < 12)) := by
  refine MR.of (by decide) (Nat.le_of_ble_eq_true rfl) ?_
  intro p e s m below meth c Q ls X hN hP hK hl ret
  obtain ⟨hx, hb, hml, hown, htb⟩ := id X
  have hl : lv_has ls 2 [(0, .ref h0), (1, .int k)] := hl
  refine lv_iload_n hx hb dX7_hasChore_0 rfl (lv_at hl 1 rfl) ?_
  refine lv_if_lt (tgt := 25) hx hb dX7_hasChore_1 (by decide) (fun c_1 => ?_) (fun c_1 => ?_)
  · refine lv_iconst (v := 0) hx hb dX7_hasChore_25 (by decide) ?_
    exact ret _ _ 0 dX7_hasChore_26 rfl (⟨Or.inl rfl, fun h => absurd h (by decide)⟩)
  · refine lv_iload_n hx hb dX7_hasChore_4 rfl (lv_at hl 1 rfl) ?_
    refine lv_bipush (v := 12) hx hb dX7_hasChore_5 (by decide) ?_
    refine lv_icmp_ge (tgt := 25) hx hb dX7_hasChore_7 (by decide) (fun c_7 => ?_) (fun c_7 => ?_)
    · refine lv_iconst (v := 0) hx hb dX7_hasChore_25 (by decide) ?_
      exact ret _ _ 0 dX7_hasChore_26 rfl (⟨Or.inl rfl, fun h => absurd h (by decide)⟩)
    · refine lv_aload_n hx hb dX7_hasChore_10 rfl (lv_at hl 0 rfl) ?_
      refine va_get (D := D) (ci := 7) (v := .int ch) (C := RX7) (T := TX7) (N := 7) hx hb htb itX7 hown hK hP 0 rfl rfl 1 (by decide) (htb _ k_146) (fun _ h9 => h9) rfl dX7_hasChore_11 ?_
      refine lv_iload_n hx hb dX7_hasChore_14 rfl (lv_at hl 1 rfl) ?_
      refine cSNR (As := [.int ch, .int k]) (rest := []) (n := 2) X hN hK hP (c_X9_isIn l D cI cB ch k) n_858 k_696 k_92 k_697 (by decide +kernel) ⟨Nat.le_of_ble_eq_true rfl, Nat.le_of_ble_eq_true rfl⟩ ⟨rfl, rfl⟩ [] rfl rfl rfl hl.1 (Nat.le_of_ble_eq_true rfl) dX7_hasChore_15 ⟨Nat.le_of_ble_eq_true rfl, Nat.le_of_ble_eq_true rfl⟩ (fun r_1 hr_1 => ?_)
      refine lv_if_eq (tgt := 25) hx hb dX7_hasChore_18 (by decide) (fun c_18 => ?_) (fun c_18 => ?_)
      · refine lv_iconst (v := 0) hx hb dX7_hasChore_25 (by decide) ?_
        exact ret _ _ 0 dX7_hasChore_26 rfl (⟨Or.inl rfl, fun h => absurd h (by decide)⟩)
      · refine lv_iconst (v := 1) hx hb dX7_hasChore_21 (by decide) ?_
        refine lv_goto (tgt := 26) hx hb dX7_hasChore_22 (by decide) ?_
        exact ret _ _ 1 dX7_hasChore_26 rfl (⟨Or.inr rfl, fun _ => ⟨Int32.not_lt.mp c_1, Int32.not_le.mp c_7⟩⟩)

set_option maxRecDepth 100000 in
set_option maxHeartbeats 4000000 in
theorem c_X4_hasLeave (l : Launch) (D : va_G) (cI cB : ClassId) (h0 : Nat) (u1 : Nat) (f1 : Nat) (g1 : Nat) (ms : Int32) (dy : Int32) (dr : Int32) (k : Int32) (ff : Nat → Int32)  : MR l D cI cB yX4_hasLeave cX4_hasLeave 2 .boolean (rm 0 0) [.ref h0, .int k] [(h0, .inr (4, [.ref u1, .ref f1, .ref g1, .int ms, .int dy, .int dr])), (f1, .inl (cI, 10, .inl ff))] (fun r : Int32 => r = 0 ∨ r = 1) := by
  refine MR.of (by decide) (Nat.le_of_ble_eq_true rfl) ?_
  intro p e s m below meth c Q ls X hN hP hK hl ret
  obtain ⟨hx, hb, hml, hown, htb⟩ := id X
  have hl : lv_has ls 2 [(0, .ref h0), (1, .int k)] := hl
  refine lv_iload_n hx hb dX4_hasLeave_0 rfl (lv_at hl 1 rfl) ?_
  refine lv_if_lt (tgt := 25) hx hb dX4_hasLeave_1 (by decide) (fun c_1 => ?_) (fun c_1 => ?_)
  · refine lv_iconst (v := 0) hx hb dX4_hasLeave_25 (by decide) ?_
    exact ret _ _ 0 dX4_hasLeave_26 rfl (Or.inl rfl)
  · refine lv_iload_n hx hb dX4_hasLeave_4 rfl (lv_at hl 1 rfl) ?_
    refine lv_bipush (v := 10) hx hb dX4_hasLeave_5 (by decide) ?_
    refine lv_icmp_ge (tgt := 25) hx hb dX4_hasLeave_7 (by decide) (fun c_7 => ?_) (fun c_7 => ?_)
    · refine lv_iconst (v := 0) hx hb dX4_hasLeave_25 (by decide) ?_
      exact ret _ _ 0 dX4_hasLeave_26 rfl (Or.inl rfl)
    · refine lv_aload_n hx hb dX4_hasLeave_10 rfl (lv_at hl 0 rfl) ?_
      refine va_get (D := D) (ci := 4) (v := .ref f1) (C := RX4) (T := TX4) (N := 6) hx hb htb itX4 hown hK hP 0 rfl rfl 1 (by decide) (htb _ k_192) (fun _ h9 => h9) rfl dX4_hasLeave_11 ?_
      refine lv_iload_n hx hb dX4_hasLeave_14 rfl (lv_at hl 1 rfl) ?_
      refine va_iald hx hb hK hP 1 0 rfl rfl (by have a0 := mt Int32.lt_iff_toInt_lt.mpr c_1; have a1 := mt Int32.le_iff_toInt_le.mpr c_7; have a2 : (0 : Int32).toInt = 0 := (by decide); have a3 : (10 : Int32).toInt = 10 := (by decide); exact vinT (by omega) (by omega)) dX4_hasLeave_15 ?_
      refine lv_bipush (v := (-2)) hx hb dX4_hasLeave_16 (by decide) ?_
      refine lv_icmp_eq (tgt := 25) hx hb dX4_hasLeave_18 (by decide) (fun c_18 => ?_) (fun c_18 => ?_)
      · refine lv_iconst (v := 0) hx hb dX4_hasLeave_25 (by decide) ?_
        exact ret _ _ 0 dX4_hasLeave_26 rfl (Or.inl rfl)
      · refine lv_iconst (v := 1) hx hb dX4_hasLeave_21 (by decide) ?_
        refine lv_goto (tgt := 26) hx hb dX4_hasLeave_22 (by decide) ?_
        exact ret _ _ 1 dX4_hasLeave_26 rfl (Or.inr rfl)

set_option maxRecDepth 100000 in
set_option maxHeartbeats 4000000 in
theorem c_X4_isAway (l : Launch) (D : va_G) (cI cB : ClassId) (h0 : Nat) (u1 : Nat) (f1 : Nat) (g1 : Nat) (ms : Int32) (dy : Int32) (dr : Int32) (k : Int32) (ff : Nat → Int32) (fg : Nat → Int32)  : MR l D cI cB yX4_isAway cX4_isAway 2 .boolean (rm 0 0) [.ref h0, .int k] [(h0, .inr (4, [.ref u1, .ref f1, .ref g1, .int ms, .int dy, .int dr])), (f1, .inl (cI, 10, .inl ff)), (g1, .inl (cI, 10, .inl fg))] (fun r : Int32 => r = 0 ∨ r = 1) := by
  refine MR.of (by decide) (Nat.le_of_ble_eq_true rfl) ?_
  intro p e s m below meth c Q ls X hN hP hK hl ret
  obtain ⟨hx, hb, hml, hown, htb⟩ := id X
  have hl : lv_has ls 2 [(0, .ref h0), (1, .int k)] := hl
  refine lv_iload_n hx hb dX4_isAway_0 rfl (lv_at hl 1 rfl) ?_
  refine lv_if_lt (tgt := 40) hx hb dX4_isAway_1 (by decide) (fun c_1 => ?_) (fun c_1 => ?_)
  · refine lv_iconst (v := 0) hx hb dX4_isAway_40 (by decide) ?_
    exact ret _ _ 0 dX4_isAway_41 rfl (Or.inl rfl)
  · refine lv_iload_n hx hb dX4_isAway_4 rfl (lv_at hl 1 rfl) ?_
    refine lv_bipush (v := 10) hx hb dX4_isAway_5 (by decide) ?_
    refine lv_icmp_ge (tgt := 40) hx hb dX4_isAway_7 (by decide) (fun c_7 => ?_) (fun c_7 => ?_)
    · refine lv_iconst (v := 0) hx hb dX4_isAway_40 (by decide) ?_
      exact ret _ _ 0 dX4_isAway_41 rfl (Or.inl rfl)
    · refine lv_aload_n hx hb dX4_isAway_10 rfl (lv_at hl 0 rfl) ?_
      refine va_get (D := D) (ci := 4) (v := .ref f1) (C := RX4) (T := TX4) (N := 6) hx hb htb itX4 hown hK hP 0 rfl rfl 1 (by decide) (htb _ k_192) (fun _ h9 => h9) rfl dX4_isAway_11 ?_
      refine lv_iload_n hx hb dX4_isAway_14 rfl (lv_at hl 1 rfl) ?_
      refine va_iald hx hb hK hP 1 0 rfl rfl (by have a0 := mt Int32.lt_iff_toInt_lt.mpr c_1; have a1 := mt Int32.le_iff_toInt_le.mpr c_7; have a2 : (0 : Int32).toInt = 0 := (by decide); have a3 : (10 : Int32).toInt = 10 := (by decide); exact vinT (by omega) (by omega)) dX4_isAway_15 ?_
      refine lv_aload_n hx hb dX4_isAway_16 rfl (lv_at hl 0 rfl) ?_
      refine va_get (D := D) (ci := 4) (v := .int dy) (C := RX4) (T := TX4) (N := 6) hx hb htb itX4 hown hK hP 0 rfl rfl 4 (by decide) (htb _ k_199) (fun _ h9 => h9) rfl dX4_isAway_17 ?_
      refine lv_icmp_gt (tgt := 40) hx hb dX4_isAway_20 (by decide) (fun c_20 => ?_) (fun c_20 => ?_)
      · refine lv_iconst (v := 0) hx hb dX4_isAway_40 (by decide) ?_
        exact ret _ _ 0 dX4_isAway_41 rfl (Or.inl rfl)
      · refine lv_aload_n hx hb dX4_isAway_23 rfl (lv_at hl 0 rfl) ?_
        refine va_get (D := D) (ci := 4) (v := .int dy) (C := RX4) (T := TX4) (N := 6) hx hb htb itX4 hown hK hP 0 rfl rfl 4 (by decide) (htb _ k_199) (fun _ h9 => h9) rfl dX4_isAway_24 ?_
        refine lv_aload_n hx hb dX4_isAway_27 rfl (lv_at hl 0 rfl) ?_
        refine va_get (D := D) (ci := 4) (v := .ref g1) (C := RX4) (T := TX4) (N := 6) hx hb htb itX4 hown hK hP 0 rfl rfl 2 (by decide) (htb _ k_194) (fun _ h9 => h9) rfl dX4_isAway_28 ?_
        refine lv_iload_n hx hb dX4_isAway_31 rfl (lv_at hl 1 rfl) ?_
        refine va_iald hx hb hK hP 2 0 rfl rfl (by have a0 := mt Int32.lt_iff_toInt_lt.mpr c_1; have a1 := mt Int32.le_iff_toInt_le.mpr c_7; have a2 := mt Int32.lt_iff_toInt_lt.mpr c_20; have a3 : (0 : Int32).toInt = 0 := (by decide); have a4 : (10 : Int32).toInt = 10 := (by decide); exact vinT (by omega) (by omega)) dX4_isAway_32 ?_
        refine lv_icmp_gt (tgt := 40) hx hb dX4_isAway_33 (by decide) (fun c_33 => ?_) (fun c_33 => ?_)
        · refine lv_iconst (v := 0) hx hb dX4_isAway_40 (by decide) ?_
          exact ret _ _ 0 dX4_isAway_41 rfl (Or.inl rfl)
        · refine lv_iconst (v := 1) hx hb dX4_isAway_36 (by decide) ?_
          refine lv_goto (tgt := 41) hx hb dX4_isAway_37 (by decide) ?_
          exact ret _ _ 1 dX4_isAway_41 rfl (Or.inr rfl)

set_option maxRecDepth 100000 in
set_option maxHeartbeats 4000000 in
theorem c_X4_leaveBits (l : Launch) (D : va_G) (cI cB : ClassId) (h0 : Nat) (u1 : Nat) (f1 : Nat) (g1 : Nat) (ms : Int32) (dy : Int32) (dr : Int32) (ff : Nat → Int32)  : MR l D cI cB yX4_leaveBits cX4_leaveBits 3 .int (rm 1 21) [.ref h0] [(h0, .inr (4, [.ref u1, .ref f1, .ref g1, .int ms, .int dy, .int dr])), (f1, .inl (cI, 10, .inl ff))] (fun r : Int32 => True) := by
  refine MR.of (by decide) (Nat.le_of_ble_eq_true rfl) ?_
  intro p e s m below meth c Q ls X hN hP hK hl ret
  obtain ⟨hx, hb, hml, hown, htb⟩ := id X
  have hl : lv_has ls 3 [(0, .ref h0)] := hl
  refine lv_iconst (v := 0) hx hb dX4_leaveBits_0 (by decide) ?_
  refine lv_istore_n (lv' := [(1, .int 0), (0, .ref h0)]) hx hb dX4_leaveBits_1 rfl hl (by decide) rfl (fun ls hl => ?_)
  refine lv_iconst (v := 0) hx hb dX4_leaveBits_2 (by decide) ?_
  refine lv_istore_n (lv' := [(2, .int 0), (1, .int 0), (0, .ref h0)]) hx hb dX4_leaveBits_3 rfl hl (by decide) rfl (fun ls hl => ?_)
  have loop_4 : ∀ (n i : Nat) (v : Int32), n + i = 10 → ∀ (ls : Array Slot), lv_has ls 3 [(0, .ref h0), (1, .int v), (2, .int (nI i))] → W p l e (rm 1 21) s m ([.ref h0] : List Value).toArray below meth c s.heap [] 0 0 Q (F0 m 4 ls []) := by
    intro n
    induction n with
    | zero =>
      intro i v hni ls hl
      have hni_4 := hni
      have hi : i = 10 := by omega
      refine lv_iload_n hx hb dX4_leaveBits_4 rfl (lv_at hl 2 rfl) ?_
      refine lv_bipush (v := 10) hx hb dX4_leaveBits_5 (by decide) ?_
      refine lv_icmp_ge (tgt := 34) hx hb dX4_leaveBits_7 (by decide) (fun _ => ?_) (fun c_7 => absurd (by rw [hi]; decide) c_7)
      refine lv_iload_n hx hb dX4_leaveBits_34 rfl (lv_at hl 1 rfl) ?_
      exact ret _ _ v dX4_leaveBits_35 rfl trivial
    | succ n ih_4 =>
      intro i v hni ls hl
      have hni_4 := hni
      have hi : i < 10 := by omega
      refine lv_iload_n hx hb dX4_leaveBits_4 rfl (lv_at hl 2 rfl) ?_
      refine lv_bipush (v := 10) hx hb dX4_leaveBits_5 (by decide) ?_
      refine lv_icmp_ge (tgt := 34) hx hb dX4_leaveBits_7 (by decide) (fun c_7 => absurd c_7 (nI_ge hi (by decide))) (fun _ => ?_)
      refine lv_iload_n hx hb dX4_leaveBits_10 rfl (lv_at hl 1 rfl) ?_
      refine lv_aload_n hx hb dX4_leaveBits_11 rfl (lv_at hl 0 rfl) ?_
      refine lv_iload_n hx hb dX4_leaveBits_12 rfl (lv_at hl 2 rfl) ?_
      refine cVR (As := [.int (nI i)]) (rest := [.int v]) (n := 1) (ci := 4) (q0 := 0) X hN hK hP (c_X4_hasLeave l D cI cB h0 u1 f1 g1 ms dy dr (nI i) ff) (gV k_750 k_751 k_752 k_95 k_753) (by decide +kernel) ⟨Nat.le_of_ble_eq_true rfl, Nat.le_of_ble_eq_true rfl⟩ ⟨rfl, rfl⟩ [0, 1] rfl rfl rfl rfl rfl rfl hl.1 (Nat.le_of_ble_eq_true rfl) dX4_leaveBits_13 ⟨Nat.le_of_ble_eq_true rfl, Nat.le_of_ble_eq_true rfl⟩ (fun r_1 hr_1 => ?_)
      refine lv_if_eq (tgt := 25) hx hb dX4_leaveBits_16 (by decide) (fun c_16 => ?_) (fun c_16 => ?_)
      · refine lv_iconst (v := 0) hx hb dX4_leaveBits_25 (by decide) ?_
        refine lv_ior hx hb dX4_leaveBits_26 ?_
        refine lv_topi (fun x_2 ex_2 => ?_)
        refine lv_istore_n (lv' := [(1, .int x_2), (0, .ref h0), (2, .int (nI i))]) hx hb dX4_leaveBits_27 rfl hl (by decide) rfl (fun ls hl => ?_)
        refine lv_iinc (v := (nI (i + 1))) (lv' := [(2, .int (nI (i + 1))), (1, .int x_2), (0, .ref h0)]) hx hb dX4_leaveBits_28 hl (k := 2) rfl (nI_1 i) (by decide) rfl (fun ls hl => ?_)
        refine lv_goto (tgt := 4) hx hb dX4_leaveBits_31 (by decide) ?_
        exact ih_4 (i + 1) x_2 (by omega) _ (lv_sub hl [2, 1, 0] rfl)
      · refine lv_iconst (v := 1) hx hb dX4_leaveBits_19 (by decide) ?_
        refine lv_iload_n hx hb dX4_leaveBits_20 rfl (lv_at hl 2 rfl) ?_
        refine lv_ishl hx hb dX4_leaveBits_21 ?_
        refine lv_goto (tgt := 26) hx hb dX4_leaveBits_22 (by decide) ?_
        refine lv_ior hx hb dX4_leaveBits_26 ?_
        refine lv_topi (fun x_3 ex_3 => ?_)
        refine lv_istore_n (lv' := [(1, .int x_3), (0, .ref h0), (2, .int (nI i))]) hx hb dX4_leaveBits_27 rfl hl (by decide) rfl (fun ls hl => ?_)
        refine lv_iinc (v := (nI (i + 1))) (lv' := [(2, .int (nI (i + 1))), (1, .int x_3), (0, .ref h0)]) hx hb dX4_leaveBits_28 hl (k := 2) rfl (nI_1 i) (by decide) rfl (fun ls hl => ?_)
        refine lv_goto (tgt := 4) hx hb dX4_leaveBits_31 (by decide) ?_
        exact ih_4 (i + 1) x_3 (by omega) _ (lv_sub hl [2, 1, 0] rfl)
  exact loop_4 10 0 0 (by omega) _ (lv_sub hl [2, 1, 0] rfl)

set_option maxRecDepth 100000 in
set_option maxHeartbeats 4000000 in
theorem c_X4_awayBits (l : Launch) (D : va_G) (cI cB : ClassId) (h0 : Nat) (u1 : Nat) (f1 : Nat) (g1 : Nat) (ms : Int32) (dy : Int32) (dr : Int32) (ff : Nat → Int32) (fg : Nat → Int32)  : MR l D cI cB yX4_awayBits cX4_awayBits 3 .int (rm 1 21) [.ref h0] [(h0, .inr (4, [.ref u1, .ref f1, .ref g1, .int ms, .int dy, .int dr])), (f1, .inl (cI, 10, .inl ff)), (g1, .inl (cI, 10, .inl fg))] (fun r : Int32 => True) := by
  refine MR.of (by decide) (Nat.le_of_ble_eq_true rfl) ?_
  intro p e s m below meth c Q ls X hN hP hK hl ret
  obtain ⟨hx, hb, hml, hown, htb⟩ := id X
  have hl : lv_has ls 3 [(0, .ref h0)] := hl
  refine lv_iconst (v := 0) hx hb dX4_awayBits_0 (by decide) ?_
  refine lv_istore_n (lv' := [(1, .int 0), (0, .ref h0)]) hx hb dX4_awayBits_1 rfl hl (by decide) rfl (fun ls hl => ?_)
  refine lv_iconst (v := 0) hx hb dX4_awayBits_2 (by decide) ?_
  refine lv_istore_n (lv' := [(2, .int 0), (1, .int 0), (0, .ref h0)]) hx hb dX4_awayBits_3 rfl hl (by decide) rfl (fun ls hl => ?_)
  have loop_4 : ∀ (n i : Nat) (v : Int32), n + i = 10 → ∀ (ls : Array Slot), lv_has ls 3 [(0, .ref h0), (1, .int v), (2, .int (nI i))] → W p l e (rm 1 21) s m ([.ref h0] : List Value).toArray below meth c s.heap [] 0 0 Q (F0 m 4 ls []) := by
    intro n
    induction n with
    | zero =>
      intro i v hni ls hl
      have hni_4 := hni
      have hi : i = 10 := by omega
      refine lv_iload_n hx hb dX4_awayBits_4 rfl (lv_at hl 2 rfl) ?_
      refine lv_bipush (v := 10) hx hb dX4_awayBits_5 (by decide) ?_
      refine lv_icmp_ge (tgt := 34) hx hb dX4_awayBits_7 (by decide) (fun _ => ?_) (fun c_7 => absurd (by rw [hi]; decide) c_7)
      refine lv_iload_n hx hb dX4_awayBits_34 rfl (lv_at hl 1 rfl) ?_
      exact ret _ _ v dX4_awayBits_35 rfl trivial
    | succ n ih_4 =>
      intro i v hni ls hl
      have hni_4 := hni
      have hi : i < 10 := by omega
      refine lv_iload_n hx hb dX4_awayBits_4 rfl (lv_at hl 2 rfl) ?_
      refine lv_bipush (v := 10) hx hb dX4_awayBits_5 (by decide) ?_
      refine lv_icmp_ge (tgt := 34) hx hb dX4_awayBits_7 (by decide) (fun c_7 => absurd c_7 (nI_ge hi (by decide))) (fun _ => ?_)
      refine lv_iload_n hx hb dX4_awayBits_10 rfl (lv_at hl 1 rfl) ?_
      refine lv_aload_n hx hb dX4_awayBits_11 rfl (lv_at hl 0 rfl) ?_
      refine lv_iload_n hx hb dX4_awayBits_12 rfl (lv_at hl 2 rfl) ?_
      refine cVR (As := [.int (nI i)]) (rest := [.int v]) (n := 1) (ci := 4) (q0 := 0) X hN hK hP (c_X4_isAway l D cI cB h0 u1 f1 g1 ms dy dr (nI i) ff fg) (gV k_797 k_798 k_799 k_95 k_800) (by decide +kernel) ⟨Nat.le_of_ble_eq_true rfl, Nat.le_of_ble_eq_true rfl⟩ ⟨rfl, rfl⟩ [0, 1, 2] rfl rfl rfl rfl rfl rfl hl.1 (Nat.le_of_ble_eq_true rfl) dX4_awayBits_13 ⟨Nat.le_of_ble_eq_true rfl, Nat.le_of_ble_eq_true rfl⟩ (fun r_1 hr_1 => ?_)
      refine lv_if_eq (tgt := 25) hx hb dX4_awayBits_16 (by decide) (fun c_16 => ?_) (fun c_16 => ?_)
      · refine lv_iconst (v := 0) hx hb dX4_awayBits_25 (by decide) ?_
        refine lv_ior hx hb dX4_awayBits_26 ?_
        refine lv_topi (fun x_2 ex_2 => ?_)
        refine lv_istore_n (lv' := [(1, .int x_2), (0, .ref h0), (2, .int (nI i))]) hx hb dX4_awayBits_27 rfl hl (by decide) rfl (fun ls hl => ?_)
        refine lv_iinc (v := (nI (i + 1))) (lv' := [(2, .int (nI (i + 1))), (1, .int x_2), (0, .ref h0)]) hx hb dX4_awayBits_28 hl (k := 2) rfl (nI_1 i) (by decide) rfl (fun ls hl => ?_)
        refine lv_goto (tgt := 4) hx hb dX4_awayBits_31 (by decide) ?_
        exact ih_4 (i + 1) x_2 (by omega) _ (lv_sub hl [2, 1, 0] rfl)
      · refine lv_iconst (v := 1) hx hb dX4_awayBits_19 (by decide) ?_
        refine lv_iload_n hx hb dX4_awayBits_20 rfl (lv_at hl 2 rfl) ?_
        refine lv_ishl hx hb dX4_awayBits_21 ?_
        refine lv_goto (tgt := 26) hx hb dX4_awayBits_22 (by decide) ?_
        refine lv_ior hx hb dX4_awayBits_26 ?_
        refine lv_topi (fun x_3 ex_3 => ?_)
        refine lv_istore_n (lv' := [(1, .int x_3), (0, .ref h0), (2, .int (nI i))]) hx hb dX4_awayBits_27 rfl hl (by decide) rfl (fun ls hl => ?_)
        refine lv_iinc (v := (nI (i + 1))) (lv' := [(2, .int (nI (i + 1))), (1, .int x_3), (0, .ref h0)]) hx hb dX4_awayBits_28 hl (k := 2) rfl (nI_1 i) (by decide) rfl (fun ls hl => ?_)
        refine lv_goto (tgt := 4) hx hb dX4_awayBits_31 (by decide) ?_
        exact ih_4 (i + 1) x_3 (by omega) _ (lv_sub hl [2, 1, 0] rfl)
  exact loop_4 10 0 0 (by omega) _ (lv_sub hl [2, 1, 0] rfl)

set_option maxRecDepth 100000 in
set_option maxHeartbeats 4000000 in
theorem c_X4_allUndone (l : Launch) (D : va_G) (cI cB : ClassId) (h0 : Nat) (u1 : Nat) (f1 : Nat) (g1 : Nat) (ms : Int32) (dy : Int32) (dr : Int32) (fu : Nat → Int32)  : MR l D cI cB yX4_allUndone cX4_allUndone 3 .int (rm 0 0) [.ref h0] [(h0, .inr (4, [.ref u1, .ref f1, .ref g1, .int ms, .int dy, .int dr])), (u1, .inl (cI, 12, .inl fu))] (fun r : Int32 => True) := by
  refine MR.of (by decide) (Nat.le_of_ble_eq_true rfl) ?_
  intro p e s m below meth c Q ls X hN hP hK hl ret
  obtain ⟨hx, hb, hml, hown, htb⟩ := id X
  have hl : lv_has ls 3 [(0, .ref h0)] := hl
  refine lv_iconst (v := 0) hx hb dX4_allUndone_0 (by decide) ?_
  refine lv_istore_n (lv' := [(1, .int 0), (0, .ref h0)]) hx hb dX4_allUndone_1 rfl hl (by decide) rfl (fun ls hl => ?_)
  refine lv_iconst (v := 0) hx hb dX4_allUndone_2 (by decide) ?_
  refine lv_istore_n (lv' := [(2, .int 0), (1, .int 0), (0, .ref h0)]) hx hb dX4_allUndone_3 rfl hl (by decide) rfl (fun ls hl => ?_)
  have loop_4 : ∀ (n i : Nat) (v : Int32), n + i = 12 → ∀ (ls : Array Slot), lv_has ls 3 [(0, .ref h0), (1, .int v), (2, .int (nI i))] → W p l e (rm 0 0) s m ([.ref h0] : List Value).toArray below meth c s.heap [] 0 0 Q (F0 m 4 ls []) := by
    intro n
    induction n with
    | zero =>
      intro i v hni ls hl
      have hni_4 := hni
      have hi : i = 12 := by omega
      refine lv_iload_n hx hb dX4_allUndone_4 rfl (lv_at hl 2 rfl) ?_
      refine lv_bipush (v := 12) hx hb dX4_allUndone_5 (by decide) ?_
      refine lv_icmp_ge (tgt := 25) hx hb dX4_allUndone_7 (by decide) (fun _ => ?_) (fun c_7 => absurd (by rw [hi]; decide) c_7)
      refine lv_iload_n hx hb dX4_allUndone_25 rfl (lv_at hl 1 rfl) ?_
      exact ret _ _ v dX4_allUndone_26 rfl trivial
    | succ n ih_4 =>
      intro i v hni ls hl
      have hni_4 := hni
      have hi : i < 12 := by omega
      refine lv_iload_n hx hb dX4_allUndone_4 rfl (lv_at hl 2 rfl) ?_
      refine lv_bipush (v := 12) hx hb dX4_allUndone_5 (by decide) ?_
      refine lv_icmp_ge (tgt := 25) hx hb dX4_allUndone_7 (by decide) (fun c_7 => absurd c_7 (nI_ge hi (by decide))) (fun _ => ?_)
      refine lv_iload_n hx hb dX4_allUndone_10 rfl (lv_at hl 1 rfl) ?_
      refine lv_aload_n hx hb dX4_allUndone_11 rfl (lv_at hl 0 rfl) ?_
      refine va_get (D := D) (ci := 4) (v := .ref u1) (C := RX4) (T := TX4) (N := 6) hx hb htb itX4 hown hK hP 0 rfl rfl 0 (by decide) (htb _ k_189) (fun _ h9 => h9) rfl dX4_allUndone_12 ?_
      refine lv_iload_n hx hb dX4_allUndone_15 rfl (lv_at hl 2 rfl) ?_
      refine va_iald hx hb hK hP 1 0 rfl rfl (vp_in_nI (by omega) (by decide)) dX4_allUndone_16 ?_
      refine lv_iadd hx hb dX4_allUndone_17 ?_
      refine lv_topi (fun x_1 ex_1 => ?_)
      refine lv_istore_n (lv' := [(1, .int x_1), (0, .ref h0), (2, .int (nI i))]) hx hb dX4_allUndone_18 rfl hl (by decide) rfl (fun ls hl => ?_)
      refine lv_iinc (v := (nI (i + 1))) (lv' := [(2, .int (nI (i + 1))), (1, .int x_1), (0, .ref h0)]) hx hb dX4_allUndone_19 hl (k := 2) rfl (nI_1 i) (by decide) rfl (fun ls hl => ?_)
      refine lv_goto (tgt := 4) hx hb dX4_allUndone_22 (by decide) ?_
      exact ih_4 (i + 1) x_1 (by omega) _ (lv_sub hl [2, 1, 0] rfl)
  exact loop_4 12 0 0 (by omega) _ (lv_sub hl [2, 1, 0] rfl)

set_option maxRecDepth 100000 in
set_option maxHeartbeats 4000000 in
theorem c_X4_giveLeave (l : Launch) (D : va_G) (cI cB : ClassId) (sz : Nat) (h0 : Nat) (u1 : Nat) (f1 : Nat) (g1 : Nat) (ms : Int32) (dy : Int32) (dr : Int32) (k : Int32) (a : Int32) (b : Int32) (ff : Nat → Int32) (fg : Nat → Int32)  : MV (S := ((Nat → Int32) × (Nat → Int32))) l D cI cB yX4_giveLeave cX4_giveLeave 4 (rm 0 0) [.ref h0, .int k, .int a, .int b] [(h0, .inr (4, [.ref u1, .ref f1, .ref g1, .int ms, .int dy, .int dr])), (f1, .inl (cI, 10, .inl ff)), (g1, .inl (cI, 10, .inl fg))] sz (fun u => True) (fun u : ((Nat → Int32) × (Nat → Int32)) => [(h0, .inr (4, [.ref u1, .ref f1, .ref g1, .int ms, .int dy, .int dr])), (f1, .inl (cI, 10, .inl u.1)), (g1, .inl (cI, 10, .inl u.2))]) := by
  refine MV.of (by decide) (Nat.le_of_ble_eq_true rfl) ?_
  intro p e s m below meth c Q ls A X hin hN hP hK hD hA hl ret
  have hS : va_S A s.heap s.heap [] := va_S.rf
  obtain ⟨hx, hb, hml, hown, htb⟩ := id X
  have hl : lv_has ls 4 [(0, .ref h0), (1, .int k), (2, .int a), (3, .int b)] := hl
  refine lv_iload_n hx hb dX4_giveLeave_0 rfl (lv_at hl 1 rfl) ?_
  refine lv_if_lt (tgt := 24) hx hb dX4_giveLeave_1 (by decide) (fun c_1 => ?_) (fun c_1 => ?_)
  · exact ret _ _ _ _ (ff, fg) dX4_giveLeave_24 trivial (hP.sub [0, 1, 2] rfl) (hD.sub [0, 1, 2] (by decide) rfl) hS
  · refine lv_iload_n hx hb dX4_giveLeave_4 rfl (lv_at hl 1 rfl) ?_
    refine lv_bipush (v := 10) hx hb dX4_giveLeave_5 (by decide) ?_
    refine lv_icmp_ge (tgt := 24) hx hb dX4_giveLeave_7 (by decide) (fun c_7 => ?_) (fun c_7 => ?_)
    · exact ret _ _ _ _ (ff, fg) dX4_giveLeave_24 trivial (hP.sub [0, 1, 2] rfl) (hD.sub [0, 1, 2] (by decide) rfl) hS
    · refine lv_aload_n hx hb dX4_giveLeave_10 rfl (lv_at hl 0 rfl) ?_
      refine va_get (D := D) (ci := 4) (v := .ref f1) (C := RX4) (T := TX4) (N := 6) hx hb htb itX4 hown hK hP 0 rfl rfl 1 (by decide) (htb _ k_192) (fun _ h9 => h9) rfl dX4_giveLeave_11 ?_
      refine lv_iload_n hx hb dX4_giveLeave_14 rfl (lv_at hl 1 rfl) ?_
      refine lv_iload_n hx hb dX4_giveLeave_15 rfl (lv_at hl 2 rfl) ?_
      refine va_iast hx hb hK hP hD hS 1 0 rfl rfl (by have a0 := mt Int32.lt_iff_toInt_lt.mpr c_1; have a1 := mt Int32.le_iff_toInt_le.mpr c_7; have a2 : (0 : Int32).toInt = 0 := (by decide); have a3 : (10 : Int32).toInt = 10 := (by decide); exact vinT (by omega) (by omega)) dX4_giveLeave_16 (fun H locs hP hD hS => ?_)
      obtain ⟨f_1, ef_1⟩ : ∃ g : Nat → Int32, g = upd ff (Int32.toNatClampNeg k) a := ⟨_, rfl⟩
      rw [← ef_1] at hP hD
      have hP : va_P D vwCl [(h0, .inr (4, [.ref u1, .ref f1, .ref g1, .int ms, .int dy, .int dr])), (f1, .inl (cI, 10, .inl f_1)), (g1, .inl (cI, 10, .inl fg))] H := hP
      have hD : va_D A [(h0, .inr (4, [.ref u1, .ref f1, .ref g1, .int ms, .int dy, .int dr])), (f1, .inl (cI, 10, .inl f_1)), (g1, .inl (cI, 10, .inl fg))] := hD
      refine lv_aload_n hx hb dX4_giveLeave_17 rfl (lv_at hl 0 rfl) ?_
      refine va_get (D := D) (ci := 4) (v := .ref g1) (C := RX4) (T := TX4) (N := 6) hx hb htb itX4 hown hK hP 0 rfl rfl 2 (by decide) (htb _ k_194) (fun _ h9 => h9) rfl dX4_giveLeave_18 ?_
      refine lv_iload_n hx hb dX4_giveLeave_21 rfl (lv_at hl 1 rfl) ?_
      refine lv_iload_n hx hb dX4_giveLeave_22 rfl (lv_at hl 3 rfl) ?_
      refine va_iast hx hb hK hP hD hS 2 0 rfl rfl (by have a0 := mt Int32.lt_iff_toInt_lt.mpr c_1; have a1 := mt Int32.le_iff_toInt_le.mpr c_7; have a2 : (0 : Int32).toInt = 0 := (by decide); have a3 : (10 : Int32).toInt = 10 := (by decide); exact vinT (by omega) (by omega)) dX4_giveLeave_23 (fun H locs hP hD hS => ?_)
      obtain ⟨f_2, ef_2⟩ : ∃ g : Nat → Int32, g = upd fg (Int32.toNatClampNeg k) b := ⟨_, rfl⟩
      rw [← ef_2] at hP hD
      have hP : va_P D vwCl [(h0, .inr (4, [.ref u1, .ref f1, .ref g1, .int ms, .int dy, .int dr])), (f1, .inl (cI, 10, .inl f_1)), (g1, .inl (cI, 10, .inl f_2))] H := hP
      have hD : va_D A [(h0, .inr (4, [.ref u1, .ref f1, .ref g1, .int ms, .int dy, .int dr])), (f1, .inl (cI, 10, .inl f_1)), (g1, .inl (cI, 10, .inl f_2))] := hD
      exact ret _ _ _ _ (f_1, f_2) dX4_giveLeave_24 trivial (hP.sub [0, 1, 2] rfl) (hD.sub [0, 1, 2] (by decide) rfl) hS

set_option maxRecDepth 100000 in
set_option maxHeartbeats 4000000 in
theorem c_X4_copy (l : Launch) (D : va_G) (cI cB : ClassId) (sz : Nat) (h0 : Nat) (u1 : Nat) (f1 : Nat) (g1 : Nat) (ms : Int32) (dy : Int32) (dr : Int32) (h1 : Nat) (u2 : Nat) (f2 : Nat) (g2 : Nat) (ms2 : Int32) (dy2 : Int32) (dr2 : Int32) (fu : Nat → Int32) (ff : Nat → Int32) (fg : Nat → Int32) (fu2 : Nat → Int32) (ff2 : Nat → Int32) (fg2 : Nat → Int32)  : MV (S := ((Int32) × (Int32) × (Int32) × (Nat → Int32) × (Nat → Int32) × (Nat → Int32))) l D cI cB yX4_copy cX4_copy 2 (rm 1 60) [.ref h0, .ref h1] [(h0, .inr (4, [.ref u1, .ref f1, .ref g1, .int ms, .int dy, .int dr])), (u1, .inl (cI, 12, .inl fu)), (f1, .inl (cI, 10, .inl ff)), (g1, .inl (cI, 10, .inl fg)), (h1, .inr (4, [.ref u2, .ref f2, .ref g2, .int ms2, .int dy2, .int dr2])), (u2, .inl (cI, 12, .inl fu2)), (f2, .inl (cI, 10, .inl ff2)), (g2, .inl (cI, 10, .inl fg2))] sz (fun u => u.1 = ms2 ∧ u.2.1 = dy2 ∧ u.2.2.1 = dr2) (fun u : ((Int32) × (Int32) × (Int32) × (Nat → Int32) × (Nat → Int32) × (Nat → Int32)) => [(h0, .inr (4, [.ref u1, .ref f1, .ref g1, .int u.1, .int u.2.1, .int u.2.2.1])), (u1, .inl (cI, 12, .inl u.2.2.2.1)), (f1, .inl (cI, 10, .inl u.2.2.2.2.1)), (g1, .inl (cI, 10, .inl u.2.2.2.2.2)), (h1, .inr (4, [.ref u2, .ref f2, .ref g2, .int ms2, .int dy2, .int dr2])), (u2, .inl (cI, 12, .inl fu2)), (f2, .inl (cI, 10, .inl ff2)), (g2, .inl (cI, 10, .inl fg2))]) := by
  refine MV.of (by decide) (Nat.le_of_ble_eq_true rfl) ?_
  intro p e s m below meth c Q ls A X hin hN hP hK hD hA hl ret
  have hS : va_S A s.heap s.heap [] := va_S.rf
  obtain ⟨hx, hb, hml, hown, htb⟩ := id X
  have hl : lv_has ls 2 [(0, .ref h0), (1, .ref h1)] := hl
  refine lv_aload_n hx hb dX4_copy_0 rfl (lv_at hl 1 rfl) ?_
  refine va_get (D := D) (ci := 4) (v := .ref u2) (C := RX4) (T := TX4) (N := 6) hx hb htb itX4 hown hK hP 4 rfl rfl 0 (by decide) (htb _ k_189) (fun _ h9 => h9) rfl dX4_copy_1 ?_
  refine lv_iconst (v := 0) hx hb dX4_copy_4 (by decide) ?_
  refine lv_aload_n hx hb dX4_copy_5 rfl (lv_at hl 0 rfl) ?_
  refine va_get (D := D) (ci := 4) (v := .ref u1) (C := RX4) (T := TX4) (N := 6) hx hb htb itX4 hown hK hP 0 rfl rfl 0 (by decide) (htb _ k_189) (fun _ h9 => h9) rfl dX4_copy_6 ?_
  refine lv_iconst (v := 0) hx hb dX4_copy_9 (by decide) ?_
  refine lv_bipush (v := 12) hx hb dX4_copy_10 (by decide) ?_
  refine va_copyi (rest := []) hx hb (by rw [hml]; exact hl.1.symm) hown (htb _ k_781) (htb _ k_667) (htb _ k_666) (htb _ k_110) hK hP hD hS 5 1 0 0 rfl rfl rfl rfl rfl (by decide) (by decide) (by decide) (by decide) (by decide) (fun _ _ => rfl) (Nat.le_of_ble_eq_true rfl) (by decide) dX4_copy_12 (fun H locs hP hD hS => ?_)
  obtain ⟨f_1, ef_1⟩ : ∃ g : Nat → Int32, g = va_cpy fu2 fu (Int32.toNatClampNeg 0) (Int32.toNatClampNeg 0) (Int32.toNatClampNeg 12) := ⟨_, rfl⟩
  rw [← ef_1] at hP hD
  have hP : va_P D vwCl [(h0, .inr (4, [.ref u1, .ref f1, .ref g1, .int ms, .int dy, .int dr])), (u1, .inl (cI, 12, .inl f_1)), (f1, .inl (cI, 10, .inl ff)), (g1, .inl (cI, 10, .inl fg)), (h1, .inr (4, [.ref u2, .ref f2, .ref g2, .int ms2, .int dy2, .int dr2])), (u2, .inl (cI, 12, .inl fu2)), (f2, .inl (cI, 10, .inl ff2)), (g2, .inl (cI, 10, .inl fg2))] H := hP
  have hD : va_D A [(h0, .inr (4, [.ref u1, .ref f1, .ref g1, .int ms, .int dy, .int dr])), (u1, .inl (cI, 12, .inl f_1)), (f1, .inl (cI, 10, .inl ff)), (g1, .inl (cI, 10, .inl fg)), (h1, .inr (4, [.ref u2, .ref f2, .ref g2, .int ms2, .int dy2, .int dr2])), (u2, .inl (cI, 12, .inl fu2)), (f2, .inl (cI, 10, .inl ff2)), (g2, .inl (cI, 10, .inl fg2))] := hD
  refine lv_aload_n hx hb dX4_copy_15 rfl (lv_at hl 1 rfl) ?_
  refine va_get (D := D) (ci := 4) (v := .ref f2) (C := RX4) (T := TX4) (N := 6) hx hb htb itX4 hown hK hP 4 rfl rfl 1 (by decide) (htb _ k_192) (fun _ h9 => h9) rfl dX4_copy_16 ?_
  refine lv_iconst (v := 0) hx hb dX4_copy_19 (by decide) ?_
  refine lv_aload_n hx hb dX4_copy_20 rfl (lv_at hl 0 rfl) ?_
  refine va_get (D := D) (ci := 4) (v := .ref f1) (C := RX4) (T := TX4) (N := 6) hx hb htb itX4 hown hK hP 0 rfl rfl 1 (by decide) (htb _ k_192) (fun _ h9 => h9) rfl dX4_copy_21 ?_
  refine lv_iconst (v := 0) hx hb dX4_copy_24 (by decide) ?_
  refine lv_bipush (v := 10) hx hb dX4_copy_25 (by decide) ?_
  refine va_copyi (rest := []) hx hb (by rw [hml]; exact hl.1.symm) hown (htb _ k_781) (htb _ k_667) (htb _ k_666) (htb _ k_110) hK hP hD hS 6 2 0 0 rfl rfl rfl rfl rfl (by decide) (by decide) (by decide) (by decide) (by decide) (fun _ _ => rfl) (Nat.le_of_ble_eq_true rfl) (by decide) dX4_copy_27 (fun H locs hP hD hS => ?_)
  obtain ⟨f_2, ef_2⟩ : ∃ g : Nat → Int32, g = va_cpy ff2 ff (Int32.toNatClampNeg 0) (Int32.toNatClampNeg 0) (Int32.toNatClampNeg 10) := ⟨_, rfl⟩
  rw [← ef_2] at hP hD
  have hP : va_P D vwCl [(h0, .inr (4, [.ref u1, .ref f1, .ref g1, .int ms, .int dy, .int dr])), (u1, .inl (cI, 12, .inl f_1)), (f1, .inl (cI, 10, .inl f_2)), (g1, .inl (cI, 10, .inl fg)), (h1, .inr (4, [.ref u2, .ref f2, .ref g2, .int ms2, .int dy2, .int dr2])), (u2, .inl (cI, 12, .inl fu2)), (f2, .inl (cI, 10, .inl ff2)), (g2, .inl (cI, 10, .inl fg2))] H := hP
  have hD : va_D A [(h0, .inr (4, [.ref u1, .ref f1, .ref g1, .int ms, .int dy, .int dr])), (u1, .inl (cI, 12, .inl f_1)), (f1, .inl (cI, 10, .inl f_2)), (g1, .inl (cI, 10, .inl fg)), (h1, .inr (4, [.ref u2, .ref f2, .ref g2, .int ms2, .int dy2, .int dr2])), (u2, .inl (cI, 12, .inl fu2)), (f2, .inl (cI, 10, .inl ff2)), (g2, .inl (cI, 10, .inl fg2))] := hD
  refine lv_aload_n hx hb dX4_copy_30 rfl (lv_at hl 1 rfl) ?_
  refine va_get (D := D) (ci := 4) (v := .ref g2) (C := RX4) (T := TX4) (N := 6) hx hb htb itX4 hown hK hP 4 rfl rfl 2 (by decide) (htb _ k_194) (fun _ h9 => h9) rfl dX4_copy_31 ?_
  refine lv_iconst (v := 0) hx hb dX4_copy_34 (by decide) ?_
  refine lv_aload_n hx hb dX4_copy_35 rfl (lv_at hl 0 rfl) ?_
  refine va_get (D := D) (ci := 4) (v := .ref g1) (C := RX4) (T := TX4) (N := 6) hx hb htb itX4 hown hK hP 0 rfl rfl 2 (by decide) (htb _ k_194) (fun _ h9 => h9) rfl dX4_copy_36 ?_
  refine lv_iconst (v := 0) hx hb dX4_copy_39 (by decide) ?_
  refine lv_bipush (v := 10) hx hb dX4_copy_40 (by decide) ?_
  refine va_copyi (rest := []) hx hb (by rw [hml]; exact hl.1.symm) hown (htb _ k_781) (htb _ k_667) (htb _ k_666) (htb _ k_110) hK hP hD hS 7 3 0 0 rfl rfl rfl rfl rfl (by decide) (by decide) (by decide) (by decide) (by decide) (fun _ _ => rfl) (Nat.le_of_ble_eq_true rfl) (by decide) dX4_copy_42 (fun H locs hP hD hS => ?_)
  obtain ⟨f_3, ef_3⟩ : ∃ g : Nat → Int32, g = va_cpy fg2 fg (Int32.toNatClampNeg 0) (Int32.toNatClampNeg 0) (Int32.toNatClampNeg 10) := ⟨_, rfl⟩
  rw [← ef_3] at hP hD
  have hP : va_P D vwCl [(h0, .inr (4, [.ref u1, .ref f1, .ref g1, .int ms, .int dy, .int dr])), (u1, .inl (cI, 12, .inl f_1)), (f1, .inl (cI, 10, .inl f_2)), (g1, .inl (cI, 10, .inl f_3)), (h1, .inr (4, [.ref u2, .ref f2, .ref g2, .int ms2, .int dy2, .int dr2])), (u2, .inl (cI, 12, .inl fu2)), (f2, .inl (cI, 10, .inl ff2)), (g2, .inl (cI, 10, .inl fg2))] H := hP
  have hD : va_D A [(h0, .inr (4, [.ref u1, .ref f1, .ref g1, .int ms, .int dy, .int dr])), (u1, .inl (cI, 12, .inl f_1)), (f1, .inl (cI, 10, .inl f_2)), (g1, .inl (cI, 10, .inl f_3)), (h1, .inr (4, [.ref u2, .ref f2, .ref g2, .int ms2, .int dy2, .int dr2])), (u2, .inl (cI, 12, .inl fu2)), (f2, .inl (cI, 10, .inl ff2)), (g2, .inl (cI, 10, .inl fg2))] := hD
  refine lv_aload_n hx hb dX4_copy_45 rfl (lv_at hl 0 rfl) ?_
  refine lv_aload_n hx hb dX4_copy_46 rfl (lv_at hl 1 rfl) ?_
  refine va_get (D := D) (ci := 4) (v := .int ms2) (C := RX4) (T := TX4) (N := 6) hx hb htb itX4 hown hK hP 4 rfl rfl 3 (by decide) (htb _ k_197) (fun _ h9 => h9) rfl dX4_copy_47 ?_
  refine va_put (D := D) (ci := 4) (v := .int ms2) (ty := .int) (C := RX4) (T := TX4) (N := 6) hx hb htb itX4 tyX4 tyX4_ok nmX4 hown hK hP hD hS 0 rfl rfl 3 (by decide) (htb _ k_197) (fun _ h9 => h9) rfl (tyX4_ok 3 (by decide)) rfl rfl (Nat.le_of_ble_eq_true rfl) dX4_copy_50 (fun H locs hP hD hS => ?_)
  have hP : va_P D vwCl [(h0, .inr (4, [.ref u1, .ref f1, .ref g1, .int ms2, .int dy, .int dr])), (u1, .inl (cI, 12, .inl f_1)), (f1, .inl (cI, 10, .inl f_2)), (g1, .inl (cI, 10, .inl f_3)), (h1, .inr (4, [.ref u2, .ref f2, .ref g2, .int ms2, .int dy2, .int dr2])), (u2, .inl (cI, 12, .inl fu2)), (f2, .inl (cI, 10, .inl ff2)), (g2, .inl (cI, 10, .inl fg2))] H := hP
  have hD : va_D A [(h0, .inr (4, [.ref u1, .ref f1, .ref g1, .int ms2, .int dy, .int dr])), (u1, .inl (cI, 12, .inl f_1)), (f1, .inl (cI, 10, .inl f_2)), (g1, .inl (cI, 10, .inl f_3)), (h1, .inr (4, [.ref u2, .ref f2, .ref g2, .int ms2, .int dy2, .int dr2])), (u2, .inl (cI, 12, .inl fu2)), (f2, .inl (cI, 10, .inl ff2)), (g2, .inl (cI, 10, .inl fg2))] := hD
  refine lv_aload_n hx hb dX4_copy_53 rfl (lv_at hl 0 rfl) ?_
  refine lv_aload_n hx hb dX4_copy_54 rfl (lv_at hl 1 rfl) ?_
  refine va_get (D := D) (ci := 4) (v := .int dy2) (C := RX4) (T := TX4) (N := 6) hx hb htb itX4 hown hK hP 4 rfl rfl 4 (by decide) (htb _ k_199) (fun _ h9 => h9) rfl dX4_copy_55 ?_
  refine va_put (D := D) (ci := 4) (v := .int dy2) (ty := .int) (C := RX4) (T := TX4) (N := 6) hx hb htb itX4 tyX4 tyX4_ok nmX4 hown hK hP hD hS 0 rfl rfl 4 (by decide) (htb _ k_199) (fun _ h9 => h9) rfl (tyX4_ok 4 (by decide)) rfl rfl (Nat.le_of_ble_eq_true rfl) dX4_copy_58 (fun H locs hP hD hS => ?_)
  have hP : va_P D vwCl [(h0, .inr (4, [.ref u1, .ref f1, .ref g1, .int ms2, .int dy2, .int dr])), (u1, .inl (cI, 12, .inl f_1)), (f1, .inl (cI, 10, .inl f_2)), (g1, .inl (cI, 10, .inl f_3)), (h1, .inr (4, [.ref u2, .ref f2, .ref g2, .int ms2, .int dy2, .int dr2])), (u2, .inl (cI, 12, .inl fu2)), (f2, .inl (cI, 10, .inl ff2)), (g2, .inl (cI, 10, .inl fg2))] H := hP
  have hD : va_D A [(h0, .inr (4, [.ref u1, .ref f1, .ref g1, .int ms2, .int dy2, .int dr])), (u1, .inl (cI, 12, .inl f_1)), (f1, .inl (cI, 10, .inl f_2)), (g1, .inl (cI, 10, .inl f_3)), (h1, .inr (4, [.ref u2, .ref f2, .ref g2, .int ms2, .int dy2, .int dr2])), (u2, .inl (cI, 12, .inl fu2)), (f2, .inl (cI, 10, .inl ff2)), (g2, .inl (cI, 10, .inl fg2))] := hD
  refine lv_aload_n hx hb dX4_copy_61 rfl (lv_at hl 0 rfl) ?_
  refine lv_aload_n hx hb dX4_copy_62 rfl (lv_at hl 1 rfl) ?_
  refine va_get (D := D) (ci := 4) (v := .int dr2) (C := RX4) (T := TX4) (N := 6) hx hb htb itX4 hown hK hP 4 rfl rfl 5 (by decide) (htb _ k_202) (fun _ h9 => h9) rfl dX4_copy_63 ?_
  refine va_put (D := D) (ci := 4) (v := .int dr2) (ty := .int) (C := RX4) (T := TX4) (N := 6) hx hb htb itX4 tyX4 tyX4_ok nmX4 hown hK hP hD hS 0 rfl rfl 5 (by decide) (htb _ k_202) (fun _ h9 => h9) rfl (tyX4_ok 5 (by decide)) rfl rfl (Nat.le_of_ble_eq_true rfl) dX4_copy_66 (fun H locs hP hD hS => ?_)
  have hP : va_P D vwCl [(h0, .inr (4, [.ref u1, .ref f1, .ref g1, .int ms2, .int dy2, .int dr2])), (u1, .inl (cI, 12, .inl f_1)), (f1, .inl (cI, 10, .inl f_2)), (g1, .inl (cI, 10, .inl f_3)), (h1, .inr (4, [.ref u2, .ref f2, .ref g2, .int ms2, .int dy2, .int dr2])), (u2, .inl (cI, 12, .inl fu2)), (f2, .inl (cI, 10, .inl ff2)), (g2, .inl (cI, 10, .inl fg2))] H := hP
  have hD : va_D A [(h0, .inr (4, [.ref u1, .ref f1, .ref g1, .int ms2, .int dy2, .int dr2])), (u1, .inl (cI, 12, .inl f_1)), (f1, .inl (cI, 10, .inl f_2)), (g1, .inl (cI, 10, .inl f_3)), (h1, .inr (4, [.ref u2, .ref f2, .ref g2, .int ms2, .int dy2, .int dr2])), (u2, .inl (cI, 12, .inl fu2)), (f2, .inl (cI, 10, .inl ff2)), (g2, .inl (cI, 10, .inl fg2))] := hD
  exact ret _ _ _ _ (ms2, dy2, dr2, f_1, f_2, f_3) dX4_copy_69 (⟨rfl, rfl, rfl⟩) (hP.sub [0, 1, 2, 3, 4, 5, 6, 7] rfl) (hD.sub [0, 1, 2, 3, 4, 5, 6, 7] (by decide) rfl) hS

set_option maxRecDepth 100000 in
set_option maxHeartbeats 4000000 in
theorem c_X4_endLeaves (l : Launch) (D : va_G) (cI cB : ClassId) (sz : Nat) (h0 : Nat) (u1 : Nat) (f1 : Nat) (g1 : Nat) (ms : Int32) (dy : Int32) (dr : Int32) (k : Int32) (ff : Nat → Int32) (fg : Nat → Int32)  : MV (S := ((Nat → Int32) × (Nat → Int32))) l D cI cB yX4_endLeaves cX4_endLeaves 3 (rm 1 21) [.ref h0, .int k] [(h0, .inr (4, [.ref u1, .ref f1, .ref g1, .int ms, .int dy, .int dr])), (f1, .inl (cI, 10, .inl ff)), (g1, .inl (cI, 10, .inl fg))] sz (fun u => True) (fun u : ((Nat → Int32) × (Nat → Int32)) => [(h0, .inr (4, [.ref u1, .ref f1, .ref g1, .int ms, .int dy, .int dr])), (f1, .inl (cI, 10, .inl u.1)), (g1, .inl (cI, 10, .inl u.2))]) := by
  refine MV.of (by decide) (Nat.le_of_ble_eq_true rfl) ?_
  intro p e s m below meth c Q ls A X hin hN hP hK hD hA hl ret
  have hS : va_S A s.heap s.heap [] := va_S.rf
  obtain ⟨hx, hb, hml, hown, htb⟩ := id X
  have hl : lv_has ls 3 [(0, .ref h0), (1, .int k)] := hl
  refine lv_iconst (v := 0) hx hb dX4_endLeaves_0 (by decide) ?_
  refine lv_istore_n (lv' := [(2, .int 0), (0, .ref h0), (1, .int k)]) hx hb dX4_endLeaves_1 rfl hl (by decide) rfl (fun ls hl => ?_)
  have loop_2 : ∀ (n i : Nat) (fa : Nat → Int32) (ga : Nat → Int32), n + i = 10 → ∀ (H : Heap) (locs : List Loc), va_P D vwCl [(h0, .inr (4, [.ref u1, .ref f1, .ref g1, .int ms, .int dy, .int dr])), (f1, .inl (cI, 10, .inl fa)), (g1, .inl (cI, 10, .inl ga))] H → va_D A [(h0, .inr (4, [.ref u1, .ref f1, .ref g1, .int ms, .int dy, .int dr])), (f1, .inl (cI, 10, .inl fa)), (g1, .inl (cI, 10, .inl ga))] → va_S A s.heap H locs → ∀ (ls : Array Slot), lv_has ls 3 [(0, .ref h0), (1, .int k), (2, .int (nI i))] → W p l e (rm 1 21) s m ([.ref h0, .int k] : List Value).toArray below meth c H locs 0 0 Q (F0 m 2 ls []) := by
    intro n
    induction n with
    | zero =>
      intro i fa ga hni H locs hP hD hS ls hl
      have hni_2 := hni
      have hi : i = 10 := by omega
      refine lv_iload_n hx hb dX4_endLeaves_2 rfl (lv_at hl 2 rfl) ?_
      refine lv_bipush (v := 10) hx hb dX4_endLeaves_3 (by decide) ?_
      refine lv_icmp_ge (tgt := 38) hx hb dX4_endLeaves_5 (by decide) (fun _ => ?_) (fun c_5 => absurd (by rw [hi]; decide) c_5)
      exact ret _ _ _ _ (fa, ga) dX4_endLeaves_38 trivial (hP.sub [0, 1, 2] rfl) (hD.sub [0, 1, 2] (by decide) rfl) hS
    | succ n ih_2 =>
      intro i fa ga hni H locs hP hD hS ls hl
      have hni_2 := hni
      have hi : i < 10 := by omega
      refine lv_iload_n hx hb dX4_endLeaves_2 rfl (lv_at hl 2 rfl) ?_
      refine lv_bipush (v := 10) hx hb dX4_endLeaves_3 (by decide) ?_
      refine lv_icmp_ge (tgt := 38) hx hb dX4_endLeaves_5 (by decide) (fun c_5 => absurd c_5 (nI_ge hi (by decide))) (fun _ => ?_)
      refine lv_iload_n hx hb dX4_endLeaves_8 rfl (lv_at hl 1 rfl) ?_
      refine lv_iload_n hx hb dX4_endLeaves_9 rfl (lv_at hl 2 rfl) ?_
      refine cSNR (As := [.int k, .int (nI i)]) (rest := []) (n := 2) X hN hK hP (c_X9_isIn l D cI cB k (nI i)) n_737 k_696 k_92 k_697 (by decide +kernel) ⟨Nat.le_of_ble_eq_true rfl, Nat.le_of_ble_eq_true rfl⟩ ⟨rfl, rfl⟩ [] rfl rfl rfl hl.1 (Nat.le_of_ble_eq_true rfl) dX4_endLeaves_10 ⟨Nat.le_of_ble_eq_true rfl, Nat.le_of_ble_eq_true rfl⟩ (fun r_1 hr_1 => ?_)
      refine lv_if_eq (tgt := 32) hx hb dX4_endLeaves_13 (by decide) (fun c_13 => ?_) (fun c_13 => ?_)
      · refine lv_iinc (v := (nI (i + 1))) (lv' := [(2, .int (nI (i + 1))), (0, .ref h0), (1, .int k)]) hx hb dX4_endLeaves_32 hl (k := 2) rfl (nI_1 i) (by decide) rfl (fun ls hl => ?_)
        refine lv_goto (tgt := 2) hx hb dX4_endLeaves_35 (by decide) ?_
        exact ih_2 (i + 1) fa ga (by omega) _ _ (hP.sub [0, 1, 2] rfl) (hD.sub [0, 1, 2] (by decide) rfl) hS _ (lv_sub hl [1, 2, 0] rfl)
      · refine lv_aload_n hx hb dX4_endLeaves_16 rfl (lv_at hl 0 rfl) ?_
        refine va_get (D := D) (ci := 4) (v := .ref f1) (C := RX4) (T := TX4) (N := 6) hx hb htb itX4 hown hK hP 0 rfl rfl 1 (by decide) (htb _ k_192) (fun _ h9 => h9) rfl dX4_endLeaves_17 ?_
        refine lv_iload_n hx hb dX4_endLeaves_20 rfl (lv_at hl 2 rfl) ?_
        refine lv_bipush (v := (-2)) hx hb dX4_endLeaves_21 (by decide) ?_
        refine va_iast hx hb hK hP hD hS 1 0 rfl rfl (by have a0 := mt Int32.toInt_inj.mp c_13; have a1 : (0 : Int32).toInt = 0 := (by decide); exact vp_in_nI (by omega) (by decide)) dX4_endLeaves_23 (fun H locs hP hD hS => ?_)
        obtain ⟨f_2, ef_2⟩ : ∃ g : Nat → Int32, g = upd fa (Int32.toNatClampNeg (nI i)) (-2) := ⟨_, rfl⟩
        rw [← ef_2] at hP hD
        have hP : va_P D vwCl [(h0, .inr (4, [.ref u1, .ref f1, .ref g1, .int ms, .int dy, .int dr])), (f1, .inl (cI, 10, .inl f_2)), (g1, .inl (cI, 10, .inl ga))] H := hP
        have hD : va_D A [(h0, .inr (4, [.ref u1, .ref f1, .ref g1, .int ms, .int dy, .int dr])), (f1, .inl (cI, 10, .inl f_2)), (g1, .inl (cI, 10, .inl ga))] := hD
        refine lv_aload_n hx hb dX4_endLeaves_24 rfl (lv_at hl 0 rfl) ?_
        refine va_get (D := D) (ci := 4) (v := .ref g1) (C := RX4) (T := TX4) (N := 6) hx hb htb itX4 hown hK hP 0 rfl rfl 2 (by decide) (htb _ k_194) (fun _ h9 => h9) rfl dX4_endLeaves_25 ?_
        refine lv_iload_n hx hb dX4_endLeaves_28 rfl (lv_at hl 2 rfl) ?_
        refine lv_bipush (v := (-2)) hx hb dX4_endLeaves_29 (by decide) ?_
        refine va_iast hx hb hK hP hD hS 2 0 rfl rfl (by have a0 := mt Int32.toInt_inj.mp c_13; have a1 : (0 : Int32).toInt = 0 := (by decide); exact vp_in_nI (by omega) (by decide)) dX4_endLeaves_31 (fun H locs hP hD hS => ?_)
        obtain ⟨f_3, ef_3⟩ : ∃ g : Nat → Int32, g = upd ga (Int32.toNatClampNeg (nI i)) (-2) := ⟨_, rfl⟩
        rw [← ef_3] at hP hD
        have hP : va_P D vwCl [(h0, .inr (4, [.ref u1, .ref f1, .ref g1, .int ms, .int dy, .int dr])), (f1, .inl (cI, 10, .inl f_2)), (g1, .inl (cI, 10, .inl f_3))] H := hP
        have hD : va_D A [(h0, .inr (4, [.ref u1, .ref f1, .ref g1, .int ms, .int dy, .int dr])), (f1, .inl (cI, 10, .inl f_2)), (g1, .inl (cI, 10, .inl f_3))] := hD
        refine lv_iinc (v := (nI (i + 1))) (lv' := [(2, .int (nI (i + 1))), (0, .ref h0), (1, .int k)]) hx hb dX4_endLeaves_32 hl (k := 2) rfl (nI_1 i) (by decide) rfl (fun ls hl => ?_)
        refine lv_goto (tgt := 2) hx hb dX4_endLeaves_35 (by decide) ?_
        exact ih_2 (i + 1) f_2 f_3 (by omega) _ _ (hP.sub [0, 1, 2] rfl) (hD.sub [0, 1, 2] (by decide) rfl) hS _ (lv_sub hl [1, 2, 0] rfl)
  exact loop_2 10 0 ff fg (by omega) _ _ (hP.sub [0, 1, 2] rfl) (hD.sub [0, 1, 2] (by decide) rfl) hS _ (lv_sub hl [1, 2, 0] rfl)

set_option maxRecDepth 100000 in
set_option maxHeartbeats 4000000 in
theorem c_J7_fill_53178 (l : Launch) (D : va_G) (cI cB : ClassId) (sz : Nat) (a0 : Nat) (v : Int32) (ff : Nat → Int32)  : MV (S := ((Nat → Int32))) l D cI cB yJ7_fill_53178 cJ7_fill_53178 4 (rm 0 0) [.ref a0, .int v] [(a0, .inl (cI, 10, .inl ff))] sz (fun u => True) (fun u : ((Nat → Int32)) => [(a0, .inl (cI, 10, .inl u))]) := by
  refine MV.of (by decide) (Nat.le_of_ble_eq_true rfl) ?_
  intro p e s m below meth c Q ls A X hin hN hP hK hD hA hl ret
  have hS : va_S A s.heap s.heap [] := va_S.rf
  obtain ⟨hx, hb, hml, hown, htb⟩ := id X
  have hl : lv_has ls 4 [(0, .ref a0), (1, .int v)] := hl
  refine lv_iconst (v := 0) hx hb dJ7_fill_53178_0 (by decide) ?_
  refine lv_istore_n (lv' := [(2, .int 0), (0, .ref a0), (1, .int v)]) hx hb dJ7_fill_53178_1 rfl hl (by decide) rfl (fun ls hl => ?_)
  refine lv_aload_n hx hb dJ7_fill_53178_2 rfl (lv_at hl 1 rfl) ?_
  refine va_alen hx hb hK hP 0 0 rfl rfl (v := 10) rfl dJ7_fill_53178_3 ?_
  refine lv_istore_n (lv' := [(3, .int 10), (2, .int 0), (0, .ref a0), (1, .int v)]) hx hb dJ7_fill_53178_4 rfl hl (by decide) rfl (fun ls hl => ?_)
  have loop_5 : ∀ (n i : Nat) (fa : Nat → Int32), n + i = 10 → ∀ (H : Heap) (locs : List Loc), va_P D vwCl [(a0, .inl (cI, 10, .inl fa))] H → va_D A [(a0, .inl (cI, 10, .inl fa))] → va_S A s.heap H locs → ∀ (ls : Array Slot), lv_has ls 4 [(0, .ref a0), (1, .int v), (2, .int (nI i)), (3, .int 10)] → W p l e (rm 0 0) s m ([.ref a0, .int v] : List Value).toArray below meth c H locs 0 0 Q (F0 m 5 ls []) := by
    intro n
    induction n with
    | zero =>
      intro i fa hni H locs hP hD hS ls hl
      have hni_5 := hni
      have hi : i = 10 := by omega
      refine lv_iload_n hx hb dJ7_fill_53178_5 rfl (lv_at hl 2 rfl) ?_
      refine lv_iload_n hx hb dJ7_fill_53178_6 rfl (lv_at hl 3 rfl) ?_
      refine lv_icmp_ge (tgt := 20) hx hb dJ7_fill_53178_7 (by decide) (fun _ => ?_) (fun c_7 => absurd (by rw [hi]; decide) c_7)
      exact ret _ _ _ _ fa dJ7_fill_53178_20 trivial (hP.sub [0] rfl) (hD.sub [0] (by decide) rfl) hS
    | succ n ih_5 =>
      intro i fa hni H locs hP hD hS ls hl
      have hni_5 := hni
      have hi : i < 10 := by omega
      refine lv_iload_n hx hb dJ7_fill_53178_5 rfl (lv_at hl 2 rfl) ?_
      refine lv_iload_n hx hb dJ7_fill_53178_6 rfl (lv_at hl 3 rfl) ?_
      refine lv_icmp_ge (tgt := 20) hx hb dJ7_fill_53178_7 (by decide) (fun c_7 => absurd c_7 (nI_ge hi (by decide))) (fun _ => ?_)
      refine lv_aload_n hx hb dJ7_fill_53178_10 rfl (lv_at hl 0 rfl) ?_
      refine lv_iload_n hx hb dJ7_fill_53178_11 rfl (lv_at hl 2 rfl) ?_
      refine lv_iload_n hx hb dJ7_fill_53178_12 rfl (lv_at hl 1 rfl) ?_
      refine va_iast hx hb hK hP hD hS 0 0 rfl rfl (vp_in_nI (by omega) (by decide)) dJ7_fill_53178_13 (fun H locs hP hD hS => ?_)
      obtain ⟨f_1, ef_1⟩ : ∃ g : Nat → Int32, g = upd fa (Int32.toNatClampNeg (nI i)) v := ⟨_, rfl⟩
      rw [← ef_1] at hP hD
      have hP : va_P D vwCl [(a0, .inl (cI, 10, .inl f_1))] H := hP
      have hD : va_D A [(a0, .inl (cI, 10, .inl f_1))] := hD
      refine lv_iinc (v := (nI (i + 1))) (lv' := [(2, .int (nI (i + 1))), (0, .ref a0), (1, .int v), (3, .int 10)]) hx hb dJ7_fill_53178_14 hl (k := 2) rfl (nI_1 i) (by decide) rfl (fun ls hl => ?_)
      refine lv_goto (tgt := 5) hx hb dJ7_fill_53178_17 (by decide) ?_
      exact ih_5 (i + 1) f_1 (by omega) _ _ (hP.sub [0] rfl) (hD.sub [0] (by decide) rfl) hS _ (lv_sub hl [1, 2, 0, 3] rfl)
  exact loop_5 10 0 ff (by omega) _ _ (hP.sub [0] rfl) (hD.sub [0] (by decide) rfl) hS _ (lv_sub hl [2, 3, 1, 0] rfl)
