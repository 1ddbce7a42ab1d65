set_option maxRecDepth 100000 in
set_option maxHeartbeats 4000000 in
theorem c_J1_canEncode_9a6ad (l : Launch) (D : va_G) (cI cB : ClassId) (a : Int32)  : MR l D cI cB yJ1_canEncode_9a6ad cJ1_canEncode_9a6ad 1 .boolean (rm 0 0) [.int a] [] (fun r : Int32 => r = bI (0 ≤ a ∧ a ≤ 255)) := by
  refine MR.of (by decide) (Nat.le_of_ble_eq_true rfl) ?_
  intro p e s m below meth c Q ls X hN hP hK hl ret
  obtain ⟨hx, hb, hml, hown, htb⟩ := id X
  have hl : lv_has ls 1 [(0, .int a)] := hl
  refine lv_iload_n hx hb dJ1_canEncode_9a6ad_0 rfl (lv_at hl 0 rfl) ?_
  refine lv_if_lt (tgt := 15) hx hb dJ1_canEncode_9a6ad_1 (by decide) (fun c_1 => ?_) (fun c_1 => ?_)
  · refine lv_iconst (v := 0) hx hb dJ1_canEncode_9a6ad_15 (by decide) ?_
    exact ret _ _ 0 dJ1_canEncode_9a6ad_16 rfl (bI0 (fun h => (Int32.not_lt.mpr h.1) c_1))
  · refine lv_iload_n hx hb dJ1_canEncode_9a6ad_4 rfl (lv_at hl 0 rfl) ?_
    refine lv_sipush (v := 255) hx hb dJ1_canEncode_9a6ad_5 (by decide) ?_
    refine lv_icmp_gt (tgt := 15) hx hb dJ1_canEncode_9a6ad_8 (by decide) (fun c_8 => ?_) (fun c_8 => ?_)
    · refine lv_iconst (v := 0) hx hb dJ1_canEncode_9a6ad_15 (by decide) ?_
      exact ret _ _ 0 dJ1_canEncode_9a6ad_16 rfl (bI0 (fun h => (Int32.not_lt.mpr h.2) c_8))
    · refine lv_iconst (v := 1) hx hb dJ1_canEncode_9a6ad_11 (by decide) ?_
      refine lv_goto (tgt := 16) hx hb dJ1_canEncode_9a6ad_12 (by decide) ?_
      exact ret _ _ 1 dJ1_canEncode_9a6ad_16 rfl (bI1 ⟨Int32.not_lt.mp c_1, Int32.not_lt.mp c_8⟩)

set_option maxRecDepth 100000 in
set_option maxHeartbeats 4000000 in
theorem c_idxChar0 (l : Launch) (D : va_G) (cI cB : ClassId) (kk : KT) (a : Int32)  : MRk l D cI cB kk yJ1_indexOfChar_4cfef cJ1_indexOfChar_4cfef 6 .int (rm 0 0) [.ref (kk.2.2 0), .int a, .int 0, .int 4] [] (fun r : Int32 => r = kp0 (a.toInt8.toInt32)) := by
  refine MRk.of (by decide) (Nat.le_of_ble_eq_true rfl) ?_
  intro p e s m below meth c Q ls X hN hKO hP hK hl ret
  have hS : va_S (fun _ => False) s.heap s.heap [] := va_S.rf
  obtain ⟨hx, hb, hml, hown, htb⟩ := id X
  have hl : lv_has ls 6 [(0, .ref (kk.2.2 0)), (1, .int a), (2, .int 0), (3, .int 4)] := hl
  refine lv_iload_n hx hb dJ1_indexOfChar_4cfef_0 rfl (lv_at hl 1 rfl) ?_
  refine lv_i2b hx hb dJ1_indexOfChar_4cfef_1 rfl ?_
  refine lv_topi (fun x_1 ex_1 => ?_)
  refine lv_istore (lv' := [(4, .int x_1), (0, .ref (kk.2.2 0)), (1, .int a), (2, .int 0), (3, .int 4)]) hx hb dJ1_indexOfChar_4cfef_2 hl (by decide) rfl (fun ls hl => ?_)
  refine lv_iload_n hx hb dJ1_indexOfChar_4cfef_4 rfl (lv_at hl 3 rfl) ?_
  refine lv_istore (lv' := [(5, .int 0), (4, .int x_1), (0, .ref (kk.2.2 0)), (1, .int a), (2, .int 0), (3, .int 4)]) hx hb dJ1_indexOfChar_4cfef_5 hl (by decide) rfl (fun ls hl => ?_)
  refine lv_iload hx hb dJ1_indexOfChar_4cfef_7 (lv_at hl 0 rfl) ?_
  refine lv_iload_n hx hb dJ1_indexOfChar_4cfef_9 rfl (lv_at hl 5 rfl) ?_
  refine lv_icmp_ge (tgt := 31) hx hb dJ1_indexOfChar_4cfef_10 (by decide) (fun c_10 => absurd c_10 (by decide)) (fun _ => ?_)
  refine lv_aload_n hx hb dJ1_indexOfChar_4cfef_13 rfl (lv_at hl 2 rfl) ?_
  refine lv_iload hx hb dJ1_indexOfChar_4cfef_14 (lv_at hl 0 rfl) ?_
  refine va_tb (v := .int 109) hx hb ((hKO.2.2.2.1.1 0 (by decide)).2.2.2) hS (by unfold vp_in; decide) rfl dJ1_indexOfChar_4cfef_16 ?_
  refine lv_iload hx hb dJ1_indexOfChar_4cfef_17 (lv_at hl 1 rfl) ?_
  refine lv_icmp_ne (tgt := 25) hx hb dJ1_indexOfChar_4cfef_19 (by decide) (fun c_19_0 => ?_) (fun c_19_0 => ?_)
  · refine lv_iinc (v := 1) (lv' := [(5, .int 1), (4, .int x_1), (0, .ref (kk.2.2 0)), (1, .int a), (2, .int 0), (3, .int 4)]) hx hb dJ1_indexOfChar_4cfef_25 hl (k := 0) rfl (by decide) (by decide) rfl (fun ls hl => ?_)
    refine lv_goto (tgt := 7) hx hb dJ1_indexOfChar_4cfef_28 (by decide) ?_
    refine lv_iload hx hb dJ1_indexOfChar_4cfef_7 (lv_at hl 0 rfl) ?_
    refine lv_iload_n hx hb dJ1_indexOfChar_4cfef_9 rfl (lv_at hl 5 rfl) ?_
    refine lv_icmp_ge (tgt := 31) hx hb dJ1_indexOfChar_4cfef_10 (by decide) (fun c_10 => absurd c_10 (by decide)) (fun _ => ?_)
    refine lv_aload_n hx hb dJ1_indexOfChar_4cfef_13 rfl (lv_at hl 2 rfl) ?_
    refine lv_iload hx hb dJ1_indexOfChar_4cfef_14 (lv_at hl 0 rfl) ?_
    refine va_tb (v := .int 110) hx hb ((hKO.2.2.2.1.1 0 (by decide)).2.2.2) hS (by unfold vp_in; decide) rfl dJ1_indexOfChar_4cfef_16 ?_
    refine lv_iload hx hb dJ1_indexOfChar_4cfef_17 (lv_at hl 1 rfl) ?_
    refine lv_icmp_ne (tgt := 25) hx hb dJ1_indexOfChar_4cfef_19 (by decide) (fun c_19_1 => ?_) (fun c_19_1 => ?_)
    · refine lv_iinc (v := 2) (lv' := [(5, .int 2), (4, .int x_1), (0, .ref (kk.2.2 0)), (1, .int a), (2, .int 0), (3, .int 4)]) hx hb dJ1_indexOfChar_4cfef_25 hl (k := 0) rfl (by decide) (by decide) rfl (fun ls hl => ?_)
      refine lv_goto (tgt := 7) hx hb dJ1_indexOfChar_4cfef_28 (by decide) ?_
      refine lv_iload hx hb dJ1_indexOfChar_4cfef_7 (lv_at hl 0 rfl) ?_
      refine lv_iload_n hx hb dJ1_indexOfChar_4cfef_9 rfl (lv_at hl 5 rfl) ?_
      refine lv_icmp_ge (tgt := 31) hx hb dJ1_indexOfChar_4cfef_10 (by decide) (fun c_10 => absurd c_10 (by decide)) (fun _ => ?_)
      refine lv_aload_n hx hb dJ1_indexOfChar_4cfef_13 rfl (lv_at hl 2 rfl) ?_
      refine lv_iload hx hb dJ1_indexOfChar_4cfef_14 (lv_at hl 0 rfl) ?_
      refine va_tb (v := .int 99) hx hb ((hKO.2.2.2.1.1 0 (by decide)).2.2.2) hS (by unfold vp_in; decide) rfl dJ1_indexOfChar_4cfef_16 ?_
      refine lv_iload hx hb dJ1_indexOfChar_4cfef_17 (lv_at hl 1 rfl) ?_
      refine lv_icmp_ne (tgt := 25) hx hb dJ1_indexOfChar_4cfef_19 (by decide) (fun c_19_2 => ?_) (fun c_19_2 => ?_)
      · refine lv_iinc (v := 3) (lv' := [(5, .int 3), (4, .int x_1), (0, .ref (kk.2.2 0)), (1, .int a), (2, .int 0), (3, .int 4)]) hx hb dJ1_indexOfChar_4cfef_25 hl (k := 0) rfl (by decide) (by decide) rfl (fun ls hl => ?_)
        refine lv_goto (tgt := 7) hx hb dJ1_indexOfChar_4cfef_28 (by decide) ?_
        refine lv_iload hx hb dJ1_indexOfChar_4cfef_7 (lv_at hl 0 rfl) ?_
        refine lv_iload_n hx hb dJ1_indexOfChar_4cfef_9 rfl (lv_at hl 5 rfl) ?_
        refine lv_icmp_ge (tgt := 31) hx hb dJ1_indexOfChar_4cfef_10 (by decide) (fun c_10 => absurd c_10 (by decide)) (fun _ => ?_)
        refine lv_aload_n hx hb dJ1_indexOfChar_4cfef_13 rfl (lv_at hl 2 rfl) ?_
        refine lv_iload hx hb dJ1_indexOfChar_4cfef_14 (lv_at hl 0 rfl) ?_
        refine va_tb (v := .int 107) hx hb ((hKO.2.2.2.1.1 0 (by decide)).2.2.2) hS (by unfold vp_in; decide) rfl dJ1_indexOfChar_4cfef_16 ?_
        refine lv_iload hx hb dJ1_indexOfChar_4cfef_17 (lv_at hl 1 rfl) ?_
        refine lv_icmp_ne (tgt := 25) hx hb dJ1_indexOfChar_4cfef_19 (by decide) (fun c_19_3 => ?_) (fun c_19_3 => ?_)
        · refine lv_iinc (v := 4) (lv' := [(5, .int 4), (4, .int x_1), (0, .ref (kk.2.2 0)), (1, .int a), (2, .int 0), (3, .int 4)]) hx hb dJ1_indexOfChar_4cfef_25 hl (k := 0) rfl (by decide) (by decide) rfl (fun ls hl => ?_)
          refine lv_goto (tgt := 7) hx hb dJ1_indexOfChar_4cfef_28 (by decide) ?_
          refine lv_iload hx hb dJ1_indexOfChar_4cfef_7 (lv_at hl 0 rfl) ?_
          refine lv_iload_n hx hb dJ1_indexOfChar_4cfef_9 rfl (lv_at hl 5 rfl) ?_
          refine lv_icmp_ge (tgt := 31) hx hb dJ1_indexOfChar_4cfef_10 (by decide) (fun _ => ?_) (fun c_10 => absurd (by decide) c_10)
          refine lv_iconst (v := (-1)) hx hb dJ1_indexOfChar_4cfef_31 (by decide) ?_
          exact ret _ _ (-1) dJ1_indexOfChar_4cfef_32 rfl (by rw [← ex_1]; unfold kp0; rw [if_neg c_19_0, if_neg c_19_1, if_neg c_19_2, if_neg c_19_3])
        · refine lv_iload hx hb dJ1_indexOfChar_4cfef_22 (lv_at hl 0 rfl) ?_
          exact ret _ _ 3 dJ1_indexOfChar_4cfef_24 rfl (by rw [← ex_1]; unfold kp0; rw [if_neg c_19_0, if_neg c_19_1, if_neg c_19_2, if_pos c_19_3])
      · refine lv_iload hx hb dJ1_indexOfChar_4cfef_22 (lv_at hl 0 rfl) ?_
        exact ret _ _ 2 dJ1_indexOfChar_4cfef_24 rfl (by rw [← ex_1]; unfold kp0; rw [if_neg c_19_0, if_neg c_19_1, if_pos c_19_2])
    · refine lv_iload hx hb dJ1_indexOfChar_4cfef_22 (lv_at hl 0 rfl) ?_
      exact ret _ _ 1 dJ1_indexOfChar_4cfef_24 rfl (by rw [← ex_1]; unfold kp0; rw [if_neg c_19_0, if_pos c_19_1])
  · refine lv_iload hx hb dJ1_indexOfChar_4cfef_22 (lv_at hl 0 rfl) ?_
    exact ret _ _ 0 dJ1_indexOfChar_4cfef_24 rfl (by rw [← ex_1]; unfold kp0; rw [if_pos c_19_0])

set_option maxRecDepth 100000 in
set_option maxHeartbeats 4000000 in
theorem c_idxL0 (l : Launch) (D : va_G) (cI cB : ClassId) (kk : KT) (a : Int32)  : MRk l D cI cB kk yJ1_indexOf_4cfef cJ1_indexOf_4cfef 4 .int (rm 1 25) [.ref (kk.2.2 0), .int a, .int 0, .int 4] [] (fun r : Int32 => r = iI (0 ≤ a ∧ a ≤ 255) (kp0 (a.toInt8.toInt32)) (-1)) := by
  refine MRk.of (by decide) (Nat.le_of_ble_eq_true rfl) ?_
  intro p e s m below meth c Q ls X hN hKO hP hK hl ret
  have hS : va_S (fun _ => False) s.heap s.heap [] := va_S.rf
  obtain ⟨hx, hb, hml, hown, htb⟩ := id X
  have hl : lv_has ls 4 [(0, .ref (kk.2.2 0)), (1, .int a), (2, .int 0), (3, .int 4)] := hl
  refine lv_iload_n hx hb dJ1_indexOf_4cfef_0 rfl (lv_at hl 1 rfl) ?_
  refine cSR (As := [.int a]) (rest := []) (n := 1) X hN hK hP (c_J1_canEncode_9a6ad l D cI cB a) k_512 k_513 k_105 k_514 (by decide +kernel) ⟨Nat.le_of_ble_eq_true rfl, Nat.le_of_ble_eq_true rfl⟩ ⟨rfl, rfl⟩ [] rfl rfl rfl hl.1 (Nat.le_of_ble_eq_true rfl) dJ1_indexOf_4cfef_1 ⟨Nat.le_of_ble_eq_true rfl, Nat.le_of_ble_eq_true rfl⟩ (fun r_1 hr_1 => ?_)
  subst hr_1
  refine lv_if_ne (tgt := 9) hx hb dJ1_indexOf_4cfef_4 (by decide) (fun c_4 => ?_) (fun c_4 => ?_)
  · refine lv_iload_n hx hb dJ1_indexOf_4cfef_9 rfl (lv_at hl 2 rfl) ?_
    refine lv_iconst (v := 0) hx hb dJ1_indexOf_4cfef_10 (by decide) ?_
    refine va_mmax (rest := []) hx hb (by rw [hml]; exact hl.1.symm) hown (htb _ k_515) (htb _ k_516) (htb _ k_106) (htb _ k_517) (Nat.le_of_ble_eq_true rfl) (Nat.le_of_ble_eq_true rfl) (Nat.le_of_ble_eq_true rfl) (Nat.le_of_ble_eq_true rfl) dJ1_indexOf_4cfef_11 ?_
    refine lv_topi (fun mx_2 emx_2 => ?_)
    refine tv (z := 0) (emx_2.trans (by decide)) ?_
    refine lv_istore_n (lv' := [(2, .int 0), (0, .ref (kk.2.2 0)), (1, .int a), (3, .int 4)]) hx hb dJ1_indexOf_4cfef_14 rfl hl (by decide) rfl (fun ls hl => ?_)
    refine lv_iload_n hx hb dJ1_indexOf_4cfef_15 rfl (lv_at hl 3 rfl) ?_
    refine lv_aload_n hx hb dJ1_indexOf_4cfef_16 rfl (lv_at hl 1 rfl) ?_
    refine va_tlen (v := 4) hx hb ((hKO.2.2.2.1.1 0 (by decide)).2.2.2) hS rfl dJ1_indexOf_4cfef_17 ?_
    refine va_mmin (rest := []) hx hb (by rw [hml]; exact hl.1.symm) hown (htb _ k_518) (htb _ k_519) (htb _ k_106) (htb _ k_520) (Nat.le_of_ble_eq_true rfl) (Nat.le_of_ble_eq_true rfl) (Nat.le_of_ble_eq_true rfl) (Nat.le_of_ble_eq_true rfl) dJ1_indexOf_4cfef_18 ?_
    refine lv_topi (fun mx_3 emx_3 => ?_)
    refine tv (z := 4) (emx_3.trans (by decide)) ?_
    refine lv_istore_n (lv' := [(3, .int 4), (2, .int 0), (0, .ref (kk.2.2 0)), (1, .int a)]) hx hb dJ1_indexOf_4cfef_21 rfl hl (by decide) rfl (fun ls hl => ?_)
    refine lv_iload_n hx hb dJ1_indexOf_4cfef_22 rfl (lv_at hl 1 rfl) ?_
    refine lv_iload_n hx hb dJ1_indexOf_4cfef_23 rfl (lv_at hl 0 rfl) ?_
    refine lv_icmp_lt (tgt := 29) hx hb dJ1_indexOf_4cfef_24 (by decide) (fun _ => ?_) (fun c_24 => absurd (by decide) c_24)
    refine lv_aload_n hx hb dJ1_indexOf_4cfef_29 rfl (lv_at hl 2 rfl) ?_
    refine lv_iload_n hx hb dJ1_indexOf_4cfef_30 rfl (lv_at hl 3 rfl) ?_
    refine lv_iload_n hx hb dJ1_indexOf_4cfef_31 rfl (lv_at hl 1 rfl) ?_
    refine lv_iload_n hx hb dJ1_indexOf_4cfef_32 rfl (lv_at hl 0 rfl) ?_
    refine cSRk (As := [.ref (kk.2.2 0), .int a, .int 0, .int 4]) (rest := []) (n := 4) X hN hKO hS hK hP (c_idxChar0 l D cI cB kk a) k_521 k_522 k_105 k_523 (by decide +kernel) ⟨Nat.le_of_ble_eq_true rfl, Nat.le_of_ble_eq_true rfl⟩ ⟨rfl, rfl⟩ [] rfl rfl rfl hl.1 (Nat.le_of_ble_eq_true rfl) dJ1_indexOf_4cfef_33 ⟨Nat.le_of_ble_eq_true rfl, Nat.le_of_ble_eq_true rfl⟩ (fun r_4 hr_4 => ?_)
    subst hr_4
    exact ret _ _ (kp0 (a.toInt8.toInt32)) dJ1_indexOf_4cfef_36 rfl (iI1 (bIt c_4))
  · refine lv_iconst (v := (-1)) hx hb dJ1_indexOf_4cfef_7 (by decide) ?_
    exact ret _ _ (-1) dJ1_indexOf_4cfef_8 rfl (iI0 (bIf c_4))

set_option maxRecDepth 100000 in
set_option maxHeartbeats 4000000 in
theorem c_coder0 (l : Launch) (D : va_G) (cI cB : ClassId) (kk : KT)   : MRk l D cI cB kk yJ0_coder_7d493 cJ0_coder_7d493 1 .byte (rm 0 0) [.ref (kk.2.1 0)] [] (fun r : Int32 => r = 0) := by
  refine MRk.of (by decide) (Nat.le_of_ble_eq_true rfl) ?_
  intro p e s m below meth c Q ls X hN hKO hP hK hl ret
  have hS : va_S (fun _ => False) s.heap s.heap [] := va_S.rf
  obtain ⟨hx, hb, hml, hown, htb⟩ := id X
  have hl : lv_has ls 1 [(0, .ref (kk.2.1 0))] := hl
  refine va_gets hx hb hKO.1 hS hown (htb _ k_499) (fun _ h9 => h9) dJ0_coder_7d493_0 ?_
  refine lv_if_eq (tgt := 13) hx hb dJ0_coder_7d493_3 (by decide) (fun c_3 => absurd c_3 (by decide)) (fun _ => ?_)
  refine lv_aload_n hx hb dJ0_coder_7d493_6 rfl (lv_at hl 0 rfl) ?_
  refine vk_getf hx hb ((hKO.2.2.2.1.1 0 (by decide)).2.1) hS hown (htb _ k_1670) (fun _ h9 => h9) dJ0_coder_7d493_7 ?_
  refine lv_goto (tgt := 14) hx hb dJ0_coder_7d493_10 (by decide) ?_
  exact ret _ _ 0 dJ0_coder_7d493_14 rfl rfl

set_option maxRecDepth 100000 in
set_option maxHeartbeats 4000000 in
theorem c_isLat0 (l : Launch) (D : va_G) (cI cB : ClassId) (kk : KT)   : MRk l D cI cB kk yJ0_isLatin1_aae02 cJ0_isLatin1_aae02 1 .boolean (rm 0 0) [.ref (kk.2.1 0)] [] (fun r : Int32 => r = 1) := by
  refine MRk.of (by decide) (Nat.le_of_ble_eq_true rfl) ?_
  intro p e s m below meth c Q ls X hN hKO hP hK hl ret
  have hS : va_S (fun _ => False) s.heap s.heap [] := va_S.rf
  obtain ⟨hx, hb, hml, hown, htb⟩ := id X
  have hl : lv_has ls 1 [(0, .ref (kk.2.1 0))] := hl
  refine va_gets hx hb hKO.1 hS hown (htb _ k_499) (fun _ h9 => h9) dJ0_isLatin1_aae02_0 ?_
  refine lv_if_eq (tgt := 17) hx hb dJ0_isLatin1_aae02_3 (by decide) (fun c_3 => absurd c_3 (by decide)) (fun _ => ?_)
  refine lv_aload_n hx hb dJ0_isLatin1_aae02_6 rfl (lv_at hl 0 rfl) ?_
  refine vk_getf hx hb ((hKO.2.2.2.1.1 0 (by decide)).2.1) hS hown (htb _ k_1670) (fun _ h9 => h9) dJ0_isLatin1_aae02_7 ?_
  refine lv_if_ne (tgt := 17) hx hb dJ0_isLatin1_aae02_10 (by decide) (fun c_10 => absurd (by decide) c_10) (fun _ => ?_)
  refine lv_iconst (v := 1) hx hb dJ0_isLatin1_aae02_13 (by decide) ?_
  refine lv_goto (tgt := 18) hx hb dJ0_isLatin1_aae02_14 (by decide) ?_
  exact ret _ _ 1 dJ0_isLatin1_aae02_18 rfl rfl

set_option maxRecDepth 100000 in
set_option maxHeartbeats 4000000 in
theorem c_slen0 (l : Launch) (D : va_G) (cI cB : ClassId) (kk : KT)   : MRk l D cI cB kk yJ0_length_8abf5 cJ0_length_8abf5 1 .int (rm 1 20) [.ref (kk.2.1 0)] [] (fun r : Int32 => r = 4) := by
  refine MRk.of (by decide) (Nat.le_of_ble_eq_true rfl) ?_
  intro p e s m below meth c Q ls X hN hKO hP hK hl ret
  have hS : va_S (fun _ => False) s.heap s.heap [] := va_S.rf
  obtain ⟨hx, hb, hml, hown, htb⟩ := id X
  have hl : lv_has ls 1 [(0, .ref (kk.2.1 0))] := hl
  refine lv_aload_n hx hb dJ0_length_8abf5_0 rfl (lv_at hl 0 rfl) ?_
  refine vk_getf hx hb ((hKO.2.2.2.1.1 0 (by decide)).2.2.1) hS hown (htb _ k_1671) (fun _ h9 => h9) dJ0_length_8abf5_1 ?_
  refine va_tlen (v := 4) hx hb ((hKO.2.2.2.1.1 0 (by decide)).2.2.2) hS rfl dJ0_length_8abf5_4 ?_
  refine lv_aload_n hx hb dJ0_length_8abf5_5 rfl (lv_at hl 0 rfl) ?_
  refine cKR (i := 0) (As := []) (rest := [.int 4]) (n := 0) X hN hKO hS hK hP (c_coder0 l D cI cB kk) (gV k_505 k_506 k_507 k_104 k_508) (by decide +kernel) ⟨Nat.le_of_ble_eq_true rfl, Nat.le_of_ble_eq_true rfl⟩ ⟨rfl, rfl⟩ [] rfl (by decide) rfl rfl hl.1 (Nat.le_of_ble_eq_true rfl) dJ0_length_8abf5_6 ⟨Nat.le_of_ble_eq_true rfl, Nat.le_of_ble_eq_true rfl⟩ (fun r_1 hr_1 => ?_)
  subst hr_1
  refine lv_ishr hx hb dJ0_length_8abf5_9 ?_
  refine tv (z := 4) (by decide) ?_
  exact ret _ _ 4 dJ0_length_8abf5_10 rfl rfl

set_option maxRecDepth 100000 in
set_option maxHeartbeats 4000000 in
theorem c_idxS0 (l : Launch) (D : va_G) (cI cB : ClassId) (kk : KT) (a : Int32)  : MRk l D cI cB kk yJ0_indexOf_7cf53 cJ0_indexOf_7cf53 3 .int (rm 2 48) [.ref (kk.2.1 0), .int a, .int 0] [] (fun r : Int32 => r = iI (0 ≤ a ∧ a ≤ 255) (kp0 (a.toInt8.toInt32)) (-1)) := by
  refine MRk.of (by decide) (Nat.le_of_ble_eq_true rfl) ?_
  intro p e s m below meth c Q ls X hN hKO hP hK hl ret
  have hS : va_S (fun _ => False) s.heap s.heap [] := va_S.rf
  obtain ⟨hx, hb, hml, hown, htb⟩ := id X
  have hl : lv_has ls 3 [(0, .ref (kk.2.1 0)), (1, .int a), (2, .int 0)] := hl
  refine lv_aload_n hx hb dJ0_indexOf_7cf53_0 rfl (lv_at hl 0 rfl) ?_
  refine cKR (i := 0) (As := []) (rest := []) (n := 0) X hN hKO hS hK hP (c_isLat0 l D cI cB kk) (gV k_495 k_496 k_497 k_104 k_498) (by decide +kernel) ⟨Nat.le_of_ble_eq_true rfl, Nat.le_of_ble_eq_true rfl⟩ ⟨rfl, rfl⟩ [] rfl (by decide) rfl rfl hl.1 (Nat.le_of_ble_eq_true rfl) dJ0_indexOf_7cf53_1 ⟨Nat.le_of_ble_eq_true rfl, Nat.le_of_ble_eq_true rfl⟩ (fun r_1 hr_1 => ?_)
  subst hr_1
  refine lv_if_eq (tgt := 23) hx hb dJ0_indexOf_7cf53_4 (by decide) (fun c_4 => absurd c_4 (by decide)) (fun _ => ?_)
  refine lv_aload_n hx hb dJ0_indexOf_7cf53_7 rfl (lv_at hl 0 rfl) ?_
  refine vk_getf hx hb ((hKO.2.2.2.1.1 0 (by decide)).2.2.1) hS hown (htb _ k_1671) (fun _ h9 => h9) dJ0_indexOf_7cf53_8 ?_
  refine lv_iload_n hx hb dJ0_indexOf_7cf53_11 rfl (lv_at hl 1 rfl) ?_
  refine lv_iload_n hx hb dJ0_indexOf_7cf53_12 rfl (lv_at hl 2 rfl) ?_
  refine lv_aload_n hx hb dJ0_indexOf_7cf53_13 rfl (lv_at hl 0 rfl) ?_
  refine cKR (i := 0) (As := []) (rest := [.int 0, .int a, .ref (kk.2.2 0)]) (n := 0) X hN hKO hS hK hP (c_slen0 l D cI cB kk) (gV k_501 k_502 k_503 k_104 k_504) (by decide +kernel) ⟨Nat.le_of_ble_eq_true rfl, Nat.le_of_ble_eq_true rfl⟩ ⟨rfl, rfl⟩ [] rfl (by decide) rfl rfl hl.1 (Nat.le_of_ble_eq_true rfl) dJ0_indexOf_7cf53_14 ⟨Nat.le_of_ble_eq_true rfl, Nat.le_of_ble_eq_true rfl⟩ (fun r_2 hr_2 => ?_)
  subst hr_2
  refine cSRk (As := [.ref (kk.2.2 0), .int a, .int 0, .int 4]) (rest := []) (n := 4) X hN hKO hS hK hP (c_idxL0 l D cI cB kk a) k_509 k_510 k_105 k_511 (by decide +kernel) ⟨Nat.le_of_ble_eq_true rfl, Nat.le_of_ble_eq_true rfl⟩ ⟨rfl, rfl⟩ [] rfl rfl rfl hl.1 (Nat.le_of_ble_eq_true rfl) dJ0_indexOf_7cf53_17 ⟨Nat.le_of_ble_eq_true rfl, Nat.le_of_ble_eq_true rfl⟩ (fun r_3 hr_3 => ?_)
  subst hr_3
  refine lv_goto (tgt := 36) hx hb dJ0_indexOf_7cf53_20 (by decide) ?_
  exact ret _ _ (iI (0 ≤ a ∧ a ≤ 255) (kp0 (a.toInt8.toInt32)) (-1)) dJ0_indexOf_7cf53_36 rfl rfl

set_option maxRecDepth 100000 in
set_option maxHeartbeats 4000000 in
theorem c_idx0 (l : Launch) (D : va_G) (cI cB : ClassId) (kk : KT) (a : Int32)  : MRk l D cI cB kk yJ0_indexOf_0f7a4 cJ0_indexOf_0f7a4 2 .int (rm 3 70) [.ref (kk.2.1 0), .int a] [] (fun r : Int32 => r = iI (0 ≤ a ∧ a ≤ 255) (kp0 (a.toInt8.toInt32)) (-1)) := by
  refine MRk.of (by decide) (Nat.le_of_ble_eq_true rfl) ?_
  intro p e s m below meth c Q ls X hN hKO hP hK hl ret
  have hS : va_S (fun _ => False) s.heap s.heap [] := va_S.rf
  obtain ⟨hx, hb, hml, hown, htb⟩ := id X
  have hl : lv_has ls 2 [(0, .ref (kk.2.1 0)), (1, .int a)] := hl
  refine lv_aload_n hx hb dJ0_indexOf_0f7a4_0 rfl (lv_at hl 0 rfl) ?_
  refine lv_iload_n hx hb dJ0_indexOf_0f7a4_1 rfl (lv_at hl 1 rfl) ?_
  refine lv_iconst (v := 0) hx hb dJ0_indexOf_0f7a4_2 (by decide) ?_
  refine cKR (i := 0) (As := [.int a, .int 0]) (rest := []) (n := 2) X hN hKO hS hK hP (c_idxS0 l D cI cB kk a) (gV k_491 k_492 k_493 k_104 k_494) (by decide +kernel) ⟨Nat.le_of_ble_eq_true rfl, Nat.le_of_ble_eq_true rfl⟩ ⟨rfl, rfl⟩ [] rfl (by decide) rfl rfl hl.1 (Nat.le_of_ble_eq_true rfl) dJ0_indexOf_0f7a4_3 ⟨Nat.le_of_ble_eq_true rfl, Nat.le_of_ble_eq_true rfl⟩ (fun r_1 hr_1 => ?_)
  subst hr_1
  exact ret _ _ (iI (0 ≤ a ∧ a ≤ 255) (kp0 (a.toInt8.toInt32)) (-1)) dJ0_indexOf_0f7a4_6 rfl rfl

set_option maxRecDepth 100000 in
set_option maxHeartbeats 4000000 in
theorem c_idxChar1 (l : Launch) (D : va_G) (cI cB : ClassId) (kk : KT) (a : Int32)  : MRk l D cI cB kk yJ1_indexOfChar_4cfef cJ1_indexOfChar_4cfef 6 .int (rm 0 0) [.ref (kk.2.2 1), .int a, .int 0, .int 8] [] (fun r : Int32 => r = kp1 (a.toInt8.toInt32)) := by
  refine MRk.of (by decide) (Nat.le_of_ble_eq_true rfl) ?_
  intro p e s m below meth c Q ls X hN hKO hP hK hl ret
  have hS : va_S (fun _ => False) s.heap s.heap [] := va_S.rf
  obtain ⟨hx, hb, hml, hown, htb⟩ := id X
  have hl : lv_has ls 6 [(0, .ref (kk.2.2 1)), (1, .int a), (2, .int 0), (3, .int 8)] := hl
  refine lv_iload_n hx hb dJ1_indexOfChar_4cfef_0 rfl (lv_at hl 1 rfl) ?_
  refine lv_i2b hx hb dJ1_indexOfChar_4cfef_1 rfl ?_
  refine lv_topi (fun x_1 ex_1 => ?_)
  refine lv_istore (lv' := [(4, .int x_1), (0, .ref (kk.2.2 1)), (1, .int a), (2, .int 0), (3, .int 8)]) hx hb dJ1_indexOfChar_4cfef_2 hl (by decide) rfl (fun ls hl => ?_)
  refine lv_iload_n hx hb dJ1_indexOfChar_4cfef_4 rfl (lv_at hl 3 rfl) ?_
  refine lv_istore (lv' := [(5, .int 0), (4, .int x_1), (0, .ref (kk.2.2 1)), (1, .int a), (2, .int 0), (3, .int 8)]) hx hb dJ1_indexOfChar_4cfef_5 hl (by decide) rfl (fun ls hl => ?_)
  refine lv_iload hx hb dJ1_indexOfChar_4cfef_7 (lv_at hl 0 rfl) ?_
  refine lv_iload_n hx hb dJ1_indexOfChar_4cfef_9 rfl (lv_at hl 5 rfl) ?_
  refine lv_icmp_ge (tgt := 31) hx hb dJ1_indexOfChar_4cfef_10 (by decide) (fun c_10 => absurd c_10 (by decide)) (fun _ => ?_)
  refine lv_aload_n hx hb dJ1_indexOfChar_4cfef_13 rfl (lv_at hl 2 rfl) ?_
  refine lv_iload hx hb dJ1_indexOfChar_4cfef_14 (lv_at hl 0 rfl) ?_
  refine va_tb (v := .int 105) hx hb ((hKO.2.2.2.1.1 1 (by decide)).2.2.2) hS (by unfold vp_in; decide) rfl dJ1_indexOfChar_4cfef_16 ?_
  refine lv_iload hx hb dJ1_indexOfChar_4cfef_17 (lv_at hl 1 rfl) ?_
  refine lv_icmp_ne (tgt := 25) hx hb dJ1_indexOfChar_4cfef_19 (by decide) (fun c_19_0 => ?_) (fun c_19_0 => ?_)
  · refine lv_iinc (v := 1) (lv' := [(5, .int 1), (4, .int x_1), (0, .ref (kk.2.2 1)), (1, .int a), (2, .int 0), (3, .int 8)]) hx hb dJ1_indexOfChar_4cfef_25 hl (k := 0) rfl (by decide) (by decide) rfl (fun ls hl => ?_)
    refine lv_goto (tgt := 7) hx hb dJ1_indexOfChar_4cfef_28 (by decide) ?_
    refine lv_iload hx hb dJ1_indexOfChar_4cfef_7 (lv_at hl 0 rfl) ?_
    refine lv_iload_n hx hb dJ1_indexOfChar_4cfef_9 rfl (lv_at hl 5 rfl) ?_
    refine lv_icmp_ge (tgt := 31) hx hb dJ1_indexOfChar_4cfef_10 (by decide) (fun c_10 => absurd c_10 (by decide)) (fun _ => ?_)
    refine lv_aload_n hx hb dJ1_indexOfChar_4cfef_13 rfl (lv_at hl 2 rfl) ?_
    refine lv_iload hx hb dJ1_indexOfChar_4cfef_14 (lv_at hl 0 rfl) ?_
    refine va_tb (v := .int 112) hx hb ((hKO.2.2.2.1.1 1 (by decide)).2.2.2) hS (by unfold vp_in; decide) rfl dJ1_indexOfChar_4cfef_16 ?_
    refine lv_iload hx hb dJ1_indexOfChar_4cfef_17 (lv_at hl 1 rfl) ?_
    refine lv_icmp_ne (tgt := 25) hx hb dJ1_indexOfChar_4cfef_19 (by decide) (fun c_19_1 => ?_) (fun c_19_1 => ?_)
    · refine lv_iinc (v := 2) (lv' := [(5, .int 2), (4, .int x_1), (0, .ref (kk.2.2 1)), (1, .int a), (2, .int 0), (3, .int 8)]) hx hb dJ1_indexOfChar_4cfef_25 hl (k := 0) rfl (by decide) (by decide) rfl (fun ls hl => ?_)
      refine lv_goto (tgt := 7) hx hb dJ1_indexOfChar_4cfef_28 (by decide) ?_
      refine lv_iload hx hb dJ1_indexOfChar_4cfef_7 (lv_at hl 0 rfl) ?_
      refine lv_iload_n hx hb dJ1_indexOfChar_4cfef_9 rfl (lv_at hl 5 rfl) ?_
      refine lv_icmp_ge (tgt := 31) hx hb dJ1_indexOfChar_4cfef_10 (by decide) (fun c_10 => absurd c_10 (by decide)) (fun _ => ?_)
      refine lv_aload_n hx hb dJ1_indexOfChar_4cfef_13 rfl (lv_at hl 2 rfl) ?_
      refine lv_iload hx hb dJ1_indexOfChar_4cfef_14 (lv_at hl 0 rfl) ?_
      refine va_tb (v := .int 120) hx hb ((hKO.2.2.2.1.1 1 (by decide)).2.2.2) hS (by unfold vp_in; decide) rfl dJ1_indexOfChar_4cfef_16 ?_
      refine lv_iload hx hb dJ1_indexOfChar_4cfef_17 (lv_at hl 1 rfl) ?_
      refine lv_icmp_ne (tgt := 25) hx hb dJ1_indexOfChar_4cfef_19 (by decide) (fun c_19_2 => ?_) (fun c_19_2 => ?_)
      · refine lv_iinc (v := 3) (lv' := [(5, .int 3), (4, .int x_1), (0, .ref (kk.2.2 1)), (1, .int a), (2, .int 0), (3, .int 8)]) hx hb dJ1_indexOfChar_4cfef_25 hl (k := 0) rfl (by decide) (by decide) rfl (fun ls hl => ?_)
        refine lv_goto (tgt := 7) hx hb dJ1_indexOfChar_4cfef_28 (by decide) ?_
        refine lv_iload hx hb dJ1_indexOfChar_4cfef_7 (lv_at hl 0 rfl) ?_
        refine lv_iload_n hx hb dJ1_indexOfChar_4cfef_9 rfl (lv_at hl 5 rfl) ?_
        refine lv_icmp_ge (tgt := 31) hx hb dJ1_indexOfChar_4cfef_10 (by decide) (fun c_10 => absurd c_10 (by decide)) (fun _ => ?_)
        refine lv_aload_n hx hb dJ1_indexOfChar_4cfef_13 rfl (lv_at hl 2 rfl) ?_
        refine lv_iload hx hb dJ1_indexOfChar_4cfef_14 (lv_at hl 0 rfl) ?_
        refine va_tb (v := .int 100) hx hb ((hKO.2.2.2.1.1 1 (by decide)).2.2.2) hS (by unfold vp_in; decide) rfl dJ1_indexOfChar_4cfef_16 ?_
        refine lv_iload hx hb dJ1_indexOfChar_4cfef_17 (lv_at hl 1 rfl) ?_
        refine lv_icmp_ne (tgt := 25) hx hb dJ1_indexOfChar_4cfef_19 (by decide) (fun c_19_3 => ?_) (fun c_19_3 => ?_)
        · refine lv_iinc (v := 4) (lv' := [(5, .int 4), (4, .int x_1), (0, .ref (kk.2.2 1)), (1, .int a), (2, .int 0), (3, .int 8)]) hx hb dJ1_indexOfChar_4cfef_25 hl (k := 0) rfl (by decide) (by decide) rfl (fun ls hl => ?_)
          refine lv_goto (tgt := 7) hx hb dJ1_indexOfChar_4cfef_28 (by decide) ?_
          refine lv_iload hx hb dJ1_indexOfChar_4cfef_7 (lv_at hl 0 rfl) ?_
          refine lv_iload_n hx hb dJ1_indexOfChar_4cfef_9 rfl (lv_at hl 5 rfl) ?_
          refine lv_icmp_ge (tgt := 31) hx hb dJ1_indexOfChar_4cfef_10 (by decide) (fun c_10 => absurd c_10 (by decide)) (fun _ => ?_)
          refine lv_aload_n hx hb dJ1_indexOfChar_4cfef_13 rfl (lv_at hl 2 rfl) ?_
          refine lv_iload hx hb dJ1_indexOfChar_4cfef_14 (lv_at hl 0 rfl) ?_
          refine va_tb (v := .int 119) hx hb ((hKO.2.2.2.1.1 1 (by decide)).2.2.2) hS (by unfold vp_in; decide) rfl dJ1_indexOfChar_4cfef_16 ?_
          refine lv_iload hx hb dJ1_indexOfChar_4cfef_17 (lv_at hl 1 rfl) ?_
          refine lv_icmp_ne (tgt := 25) hx hb dJ1_indexOfChar_4cfef_19 (by decide) (fun c_19_4 => ?_) (fun c_19_4 => ?_)
          · refine lv_iinc (v := 5) (lv' := [(5, .int 5), (4, .int x_1), (0, .ref (kk.2.2 1)), (1, .int a), (2, .int 0), (3, .int 8)]) hx hb dJ1_indexOfChar_4cfef_25 hl (k := 0) rfl (by decide) (by decide) rfl (fun ls hl => ?_)
            refine lv_goto (tgt := 7) hx hb dJ1_indexOfChar_4cfef_28 (by decide) ?_
            refine lv_iload hx hb dJ1_indexOfChar_4cfef_7 (lv_at hl 0 rfl) ?_
            refine lv_iload_n hx hb dJ1_indexOfChar_4cfef_9 rfl (lv_at hl 5 rfl) ?_
            refine lv_icmp_ge (tgt := 31) hx hb dJ1_indexOfChar_4cfef_10 (by decide) (fun c_10 => absurd c_10 (by decide)) (fun _ => ?_)
            refine lv_aload_n hx hb dJ1_indexOfChar_4cfef_13 rfl (lv_at hl 2 rfl) ?_
            refine lv_iload hx hb dJ1_indexOfChar_4cfef_14 (lv_at hl 0 rfl) ?_
            refine va_tb (v := .int 114) hx hb ((hKO.2.2.2.1.1 1 (by decide)).2.2.2) hS (by unfold vp_in; decide) rfl dJ1_indexOfChar_4cfef_16 ?_
            refine lv_iload hx hb dJ1_indexOfChar_4cfef_17 (lv_at hl 1 rfl) ?_
            refine lv_icmp_ne (tgt := 25) hx hb dJ1_indexOfChar_4cfef_19 (by decide) (fun c_19_5 => ?_) (fun c_19_5 => ?_)
            · refine lv_iinc (v := 6) (lv' := [(5, .int 6), (4, .int x_1), (0, .ref (kk.2.2 1)), (1, .int a), (2, .int 0), (3, .int 8)]) hx hb dJ1_indexOfChar_4cfef_25 hl (k := 0) rfl (by decide) (by decide) rfl (fun ls hl => ?_)
              refine lv_goto (tgt := 7) hx hb dJ1_indexOfChar_4cfef_28 (by decide) ?_
              refine lv_iload hx hb dJ1_indexOfChar_4cfef_7 (lv_at hl 0 rfl) ?_
              refine lv_iload_n hx hb dJ1_indexOfChar_4cfef_9 rfl (lv_at hl 5 rfl) ?_
              refine lv_icmp_ge (tgt := 31) hx hb dJ1_indexOfChar_4cfef_10 (by decide) (fun c_10 => absurd c_10 (by decide)) (fun _ => ?_)
              refine lv_aload_n hx hb dJ1_indexOfChar_4cfef_13 rfl (lv_at hl 2 rfl) ?_
              refine lv_iload hx hb dJ1_indexOfChar_4cfef_14 (lv_at hl 0 rfl) ?_
              refine va_tb (v := .int 97) hx hb ((hKO.2.2.2.1.1 1 (by decide)).2.2.2) hS (by unfold vp_in; decide) rfl dJ1_indexOfChar_4cfef_16 ?_
              refine lv_iload hx hb dJ1_indexOfChar_4cfef_17 (lv_at hl 1 rfl) ?_
              refine lv_icmp_ne (tgt := 25) hx hb dJ1_indexOfChar_4cfef_19 (by decide) (fun c_19_6 => ?_) (fun c_19_6 => ?_)
              · refine lv_iinc (v := 7) (lv' := [(5, .int 7), (4, .int x_1), (0, .ref (kk.2.2 1)), (1, .int a), (2, .int 0), (3, .int 8)]) hx hb dJ1_indexOfChar_4cfef_25 hl (k := 0) rfl (by decide) (by decide) rfl (fun ls hl => ?_)
                refine lv_goto (tgt := 7) hx hb dJ1_indexOfChar_4cfef_28 (by decide) ?_
                refine lv_iload hx hb dJ1_indexOfChar_4cfef_7 (lv_at hl 0 rfl) ?_
                refine lv_iload_n hx hb dJ1_indexOfChar_4cfef_9 rfl (lv_at hl 5 rfl) ?_
                refine lv_icmp_ge (tgt := 31) hx hb dJ1_indexOfChar_4cfef_10 (by decide) (fun c_10 => absurd c_10 (by decide)) (fun _ => ?_)
                refine lv_aload_n hx hb dJ1_indexOfChar_4cfef_13 rfl (lv_at hl 2 rfl) ?_
                refine lv_iload hx hb dJ1_indexOfChar_4cfef_14 (lv_at hl 0 rfl) ?_
                refine va_tb (v := .int 117) hx hb ((hKO.2.2.2.1.1 1 (by decide)).2.2.2) hS (by unfold vp_in; decide) rfl dJ1_indexOfChar_4cfef_16 ?_
                refine lv_iload hx hb dJ1_indexOfChar_4cfef_17 (lv_at hl 1 rfl) ?_
                refine lv_icmp_ne (tgt := 25) hx hb dJ1_indexOfChar_4cfef_19 (by decide) (fun c_19_7 => ?_) (fun c_19_7 => ?_)
                · refine lv_iinc (v := 8) (lv' := [(5, .int 8), (4, .int x_1), (0, .ref (kk.2.2 1)), (1, .int a), (2, .int 0), (3, .int 8)]) hx hb dJ1_indexOfChar_4cfef_25 hl (k := 0) rfl (by decide) (by decide) rfl (fun ls hl => ?_)
                  refine lv_goto (tgt := 7) hx hb dJ1_indexOfChar_4cfef_28 (by decide) ?_
                  refine lv_iload hx hb dJ1_indexOfChar_4cfef_7 (lv_at hl 0 rfl) ?_
                  refine lv_iload_n hx hb dJ1_indexOfChar_4cfef_9 rfl (lv_at hl 5 rfl) ?_
                  refine lv_icmp_ge (tgt := 31) hx hb dJ1_indexOfChar_4cfef_10 (by decide) (fun _ => ?_) (fun c_10 => absurd (by decide) c_10)
                  refine lv_iconst (v := (-1)) hx hb dJ1_indexOfChar_4cfef_31 (by decide) ?_
                  exact ret _ _ (-1) dJ1_indexOfChar_4cfef_32 rfl (by rw [← ex_1]; unfold kp1; rw [if_neg c_19_0, if_neg c_19_1, if_neg c_19_2, if_neg c_19_3, if_neg c_19_4, if_neg c_19_5, if_neg c_19_6, if_neg c_19_7])
                · refine lv_iload hx hb dJ1_indexOfChar_4cfef_22 (lv_at hl 0 rfl) ?_
                  exact ret _ _ 7 dJ1_indexOfChar_4cfef_24 rfl (by rw [← ex_1]; unfold kp1; rw [if_neg c_19_0, if_neg c_19_1, if_neg c_19_2, if_neg c_19_3, if_neg c_19_4, if_neg c_19_5, if_neg c_19_6, if_pos c_19_7])
              · refine lv_iload hx hb dJ1_indexOfChar_4cfef_22 (lv_at hl 0 rfl) ?_
                exact ret _ _ 6 dJ1_indexOfChar_4cfef_24 rfl (by rw [← ex_1]; unfold kp1; rw [if_neg c_19_0, if_neg c_19_1, if_neg c_19_2, if_neg c_19_3, if_neg c_19_4, if_neg c_19_5, if_pos c_19_6])
            · refine lv_iload hx hb dJ1_indexOfChar_4cfef_22 (lv_at hl 0 rfl) ?_
              exact ret _ _ 5 dJ1_indexOfChar_4cfef_24 rfl (by rw [← ex_1]; unfold kp1; rw [if_neg c_19_0, if_neg c_19_1, if_neg c_19_2, if_neg c_19_3, if_neg c_19_4, if_pos c_19_5])
          · refine lv_iload hx hb dJ1_indexOfChar_4cfef_22 (lv_at hl 0 rfl) ?_
            exact ret _ _ 4 dJ1_indexOfChar_4cfef_24 rfl (by rw [← ex_1]; unfold kp1; rw [if_neg c_19_0, if_neg c_19_1, if_neg c_19_2, if_neg c_19_3, if_pos c_19_4])
        · refine lv_iload hx hb dJ1_indexOfChar_4cfef_22 (lv_at hl 0 rfl) ?_
          exact ret _ _ 3 dJ1_indexOfChar_4cfef_24 rfl (by rw [← ex_1]; unfold kp1; rw [if_neg c_19_0, if_neg c_19_1, if_neg c_19_2, if_pos c_19_3])
      · refine lv_iload hx hb dJ1_indexOfChar_4cfef_22 (lv_at hl 0 rfl) ?_
        exact ret _ _ 2 dJ1_indexOfChar_4cfef_24 rfl (by rw [← ex_1]; unfold kp1; rw [if_neg c_19_0, if_neg c_19_1, if_pos c_19_2])
    · refine lv_iload hx hb dJ1_indexOfChar_4cfef_22 (lv_at hl 0 rfl) ?_
      exact ret _ _ 1 dJ1_indexOfChar_4cfef_24 rfl (by rw [← ex_1]; unfold kp1; rw [if_neg c_19_0, if_pos c_19_1])
  · refine lv_iload hx hb dJ1_indexOfChar_4cfef_22 (lv_at hl 0 rfl) ?_
    exact ret _ _ 0 dJ1_indexOfChar_4cfef_24 rfl (by rw [← ex_1]; unfold kp1; rw [if_pos c_19_0])

set_option maxRecDepth 100000 in
set_option maxHeartbeats 4000000 in
theorem c_idxL1 (l : Launch) (D : va_G) (cI cB : ClassId) (kk : KT) (a : Int32)  : MRk l D cI cB kk yJ1_indexOf_4cfef cJ1_indexOf_4cfef 4 .int (rm 1 25) [.ref (kk.2.2 1), .int a, .int 0, .int 8] [] (fun r : Int32 => r = iI (0 ≤ a ∧ a ≤ 255) (kp1 (a.toInt8.toInt32)) (-1)) := by
  refine MRk.of (by decide) (Nat.le_of_ble_eq_true rfl) ?_
  intro p e s m below meth c Q ls X hN hKO hP hK hl ret
  have hS : va_S (fun _ => False) s.heap s.heap [] := va_S.rf
  obtain ⟨hx, hb, hml, hown, htb⟩ := id X
  have hl : lv_has ls 4 [(0, .ref (kk.2.2 1)), (1, .int a), (2, .int 0), (3, .int 8)] := hl
  refine lv_iload_n hx hb dJ1_indexOf_4cfef_0 rfl (lv_at hl 1 rfl) ?_
  refine cSR (As := [.int a]) (rest := []) (n := 1) X hN hK hP (c_J1_canEncode_9a6ad l D cI cB a) k_512 k_513 k_105 k_514 (by decide +kernel) ⟨Nat.le_of_ble_eq_true rfl, Nat.le_of_ble_eq_true rfl⟩ ⟨rfl, rfl⟩ [] rfl rfl rfl hl.1 (Nat.le_of_ble_eq_true rfl) dJ1_indexOf_4cfef_1 ⟨Nat.le_of_ble_eq_true rfl, Nat.le_of_ble_eq_true rfl⟩ (fun r_1 hr_1 => ?_)
  subst hr_1
  refine lv_if_ne (tgt := 9) hx hb dJ1_indexOf_4cfef_4 (by decide) (fun c_4 => ?_) (fun c_4 => ?_)
  · refine lv_iload_n hx hb dJ1_indexOf_4cfef_9 rfl (lv_at hl 2 rfl) ?_
    refine lv_iconst (v := 0) hx hb dJ1_indexOf_4cfef_10 (by decide) ?_
    refine va_mmax (rest := []) hx hb (by rw [hml]; exact hl.1.symm) hown (htb _ k_515) (htb _ k_516) (htb _ k_106) (htb _ k_517) (Nat.le_of_ble_eq_true rfl) (Nat.le_of_ble_eq_true rfl) (Nat.le_of_ble_eq_true rfl) (Nat.le_of_ble_eq_true rfl) dJ1_indexOf_4cfef_11 ?_
    refine lv_topi (fun mx_2 emx_2 => ?_)
    refine tv (z := 0) (emx_2.trans (by decide)) ?_
    refine lv_istore_n (lv' := [(2, .int 0), (0, .ref (kk.2.2 1)), (1, .int a), (3, .int 8)]) hx hb dJ1_indexOf_4cfef_14 rfl hl (by decide) rfl (fun ls hl => ?_)
    refine lv_iload_n hx hb dJ1_indexOf_4cfef_15 rfl (lv_at hl 3 rfl) ?_
    refine lv_aload_n hx hb dJ1_indexOf_4cfef_16 rfl (lv_at hl 1 rfl) ?_
    refine va_tlen (v := 8) hx hb ((hKO.2.2.2.1.1 1 (by decide)).2.2.2) hS rfl dJ1_indexOf_4cfef_17 ?_
    refine va_mmin (rest := []) hx hb (by rw [hml]; exact hl.1.symm) hown (htb _ k_518) (htb _ k_519) (htb _ k_106) (htb _ k_520) (Nat.le_of_ble_eq_true rfl) (Nat.le_of_ble_eq_true rfl) (Nat.le_of_ble_eq_true rfl) (Nat.le_of_ble_eq_true rfl) dJ1_indexOf_4cfef_18 ?_
    refine lv_topi (fun mx_3 emx_3 => ?_)
    refine tv (z := 8) (emx_3.trans (by decide)) ?_
    refine lv_istore_n (lv' := [(3, .int 8), (2, .int 0), (0, .ref (kk.2.2 1)), (1, .int a)]) hx hb dJ1_indexOf_4cfef_21 rfl hl (by decide) rfl (fun ls hl => ?_)
    refine lv_iload_n hx hb dJ1_indexOf_4cfef_22 rfl (lv_at hl 1 rfl) ?_
    refine lv_iload_n hx hb dJ1_indexOf_4cfef_23 rfl (lv_at hl 0 rfl) ?_
    refine lv_icmp_lt (tgt := 29) hx hb dJ1_indexOf_4cfef_24 (by decide) (fun _ => ?_) (fun c_24 => absurd (by decide) c_24)
    refine lv_aload_n hx hb dJ1_indexOf_4cfef_29 rfl (lv_at hl 2 rfl) ?_
    refine lv_iload_n hx hb dJ1_indexOf_4cfef_30 rfl (lv_at hl 3 rfl) ?_
    refine lv_iload_n hx hb dJ1_indexOf_4cfef_31 rfl (lv_at hl 1 rfl) ?_
    refine lv_iload_n hx hb dJ1_indexOf_4cfef_32 rfl (lv_at hl 0 rfl) ?_
    refine cSRk (As := [.ref (kk.2.2 1), .int a, .int 0, .int 8]) (rest := []) (n := 4) X hN hKO hS hK hP (c_idxChar1 l D cI cB kk a) k_521 k_522 k_105 k_523 (by decide +kernel) ⟨Nat.le_of_ble_eq_true rfl, Nat.le_of_ble_eq_true rfl⟩ ⟨rfl, rfl⟩ [] rfl rfl rfl hl.1 (Nat.le_of_ble_eq_true rfl) dJ1_indexOf_4cfef_33 ⟨Nat.le_of_ble_eq_true rfl, Nat.le_of_ble_eq_true rfl⟩ (fun r_4 hr_4 => ?_)
    subst hr_4
    exact ret _ _ (kp1 (a.toInt8.toInt32)) dJ1_indexOf_4cfef_36 rfl (iI1 (bIt c_4))
  · refine lv_iconst (v := (-1)) hx hb dJ1_indexOf_4cfef_7 (by decide) ?_
    exact ret _ _ (-1) dJ1_indexOf_4cfef_8 rfl (iI0 (bIf c_4))

set_option maxRecDepth 100000 in
set_option maxHeartbeats 4000000 in
theorem c_coder1 (l : Launch) (D : va_G) (cI cB : ClassId) (kk : KT)   : MRk l D cI cB kk yJ0_coder_7d493 cJ0_coder_7d493 1 .byte (rm 0 0) [.ref (kk.2.1 1)] [] (fun r : Int32 => r = 0) := by
  refine MRk.of (by decide) (Nat.le_of_ble_eq_true rfl) ?_
  intro p e s m below meth c Q ls X hN hKO hP hK hl ret
  have hS : va_S (fun _ => False) s.heap s.heap [] := va_S.rf
  obtain ⟨hx, hb, hml, hown, htb⟩ := id X
  have hl : lv_has ls 1 [(0, .ref (kk.2.1 1))] := hl
  refine va_gets hx hb hKO.1 hS hown (htb _ k_499) (fun _ h9 => h9) dJ0_coder_7d493_0 ?_
  refine lv_if_eq (tgt := 13) hx hb dJ0_coder_7d493_3 (by decide) (fun c_3 => absurd c_3 (by decide)) (fun _ => ?_)
  refine lv_aload_n hx hb dJ0_coder_7d493_6 rfl (lv_at hl 0 rfl) ?_
  refine vk_getf hx hb ((hKO.2.2.2.1.1 1 (by decide)).2.1) hS hown (htb _ k_1670) (fun _ h9 => h9) dJ0_coder_7d493_7 ?_
  refine lv_goto (tgt := 14) hx hb dJ0_coder_7d493_10 (by decide) ?_
  exact ret _ _ 0 dJ0_coder_7d493_14 rfl rfl

set_option maxRecDepth 100000 in
set_option maxHeartbeats 4000000 in
theorem c_isLat1 (l : Launch) (D : va_G) (cI cB : ClassId) (kk : KT)   : MRk l D cI cB kk yJ0_isLatin1_aae02 cJ0_isLatin1_aae02 1 .boolean (rm 0 0) [.ref (kk.2.1 1)] [] (fun r : Int32 => r = 1) := by
  refine MRk.of (by decide) (Nat.le_of_ble_eq_true rfl) ?_
  intro p e s m below meth c Q ls X hN hKO hP hK hl ret
  have hS : va_S (fun _ => False) s.heap s.heap [] := va_S.rf
  obtain ⟨hx, hb, hml, hown, htb⟩ := id X
  have hl : lv_has ls 1 [(0, .ref (kk.2.1 1))] := hl
  refine va_gets hx hb hKO.1 hS hown (htb _ k_499) (fun _ h9 => h9) dJ0_isLatin1_aae02_0 ?_
  refine lv_if_eq (tgt := 17) hx hb dJ0_isLatin1_aae02_3 (by decide) (fun c_3 => absurd c_3 (by decide)) (fun _ => ?_)
  refine lv_aload_n hx hb dJ0_isLatin1_aae02_6 rfl (lv_at hl 0 rfl) ?_
  refine vk_getf hx hb ((hKO.2.2.2.1.1 1 (by decide)).2.1) hS hown (htb _ k_1670) (fun _ h9 => h9) dJ0_isLatin1_aae02_7 ?_
  refine lv_if_ne (tgt := 17) hx hb dJ0_isLatin1_aae02_10 (by decide) (fun c_10 => absurd (by decide) c_10) (fun _ => ?_)
  refine lv_iconst (v := 1) hx hb dJ0_isLatin1_aae02_13 (by decide) ?_
  refine lv_goto (tgt := 18) hx hb dJ0_isLatin1_aae02_14 (by decide) ?_
  exact ret _ _ 1 dJ0_isLatin1_aae02_18 rfl rfl

set_option maxRecDepth 100000 in
set_option maxHeartbeats 4000000 in
theorem c_slen1 (l : Launch) (D : va_G) (cI cB : ClassId) (kk : KT)   : MRk l D cI cB kk yJ0_length_8abf5 cJ0_length_8abf5 1 .int (rm 1 20) [.ref (kk.2.1 1)] [] (fun r : Int32 => r = 8) := by
  refine MRk.of (by decide) (Nat.le_of_ble_eq_true rfl) ?_
  intro p e s m below meth c Q ls X hN hKO hP hK hl ret
  have hS : va_S (fun _ => False) s.heap s.heap [] := va_S.rf
  obtain ⟨hx, hb, hml, hown, htb⟩ := id X
  have hl : lv_has ls 1 [(0, .ref (kk.2.1 1))] := hl
  refine lv_aload_n hx hb dJ0_length_8abf5_0 rfl (lv_at hl 0 rfl) ?_
  refine vk_getf hx hb ((hKO.2.2.2.1.1 1 (by decide)).2.2.1) hS hown (htb _ k_1671) (fun _ h9 => h9) dJ0_length_8abf5_1 ?_
  refine va_tlen (v := 8) hx hb ((hKO.2.2.2.1.1 1 (by decide)).2.2.2) hS rfl dJ0_length_8abf5_4 ?_
  refine lv_aload_n hx hb dJ0_length_8abf5_5 rfl (lv_at hl 0 rfl) ?_
  refine cKR (i := 1) (As := []) (rest := [.int 8]) (n := 0) X hN hKO hS hK hP (c_coder1 l D cI cB kk) (gV k_505 k_506 k_507 k_104 k_508) (by decide +kernel) ⟨Nat.le_of_ble_eq_true rfl, Nat.le_of_ble_eq_true rfl⟩ ⟨rfl, rfl⟩ [] rfl (by decide) rfl rfl hl.1 (Nat.le_of_ble_eq_true rfl) dJ0_length_8abf5_6 ⟨Nat.le_of_ble_eq_true rfl, Nat.le_of_ble_eq_true rfl⟩ (fun r_1 hr_1 => ?_)
  subst hr_1
  refine lv_ishr hx hb dJ0_length_8abf5_9 ?_
  refine tv (z := 8) (by decide) ?_
  exact ret _ _ 8 dJ0_length_8abf5_10 rfl rfl

set_option maxRecDepth 100000 in
set_option maxHeartbeats 4000000 in
theorem c_idxS1 (l : Launch) (D : va_G) (cI cB : ClassId) (kk : KT) (a : Int32)  : MRk l D cI cB kk yJ0_indexOf_7cf53 cJ0_indexOf_7cf53 3 .int (rm 2 48) [.ref (kk.2.1 1), .int a, .int 0] [] (fun r : Int32 => r = iI (0 ≤ a ∧ a ≤ 255) (kp1 (a.toInt8.toInt32)) (-1)) := by
  refine MRk.of (by decide) (Nat.le_of_ble_eq_true rfl) ?_
  intro p e s m below meth c Q ls X hN hKO hP hK hl ret
  have hS : va_S (fun _ => False) s.heap s.heap [] := va_S.rf
  obtain ⟨hx, hb, hml, hown, htb⟩ := id X
  have hl : lv_has ls 3 [(0, .ref (kk.2.1 1)), (1, .int a), (2, .int 0)] := hl
  refine lv_aload_n hx hb dJ0_indexOf_7cf53_0 rfl (lv_at hl 0 rfl) ?_
  refine cKR (i := 1) (As := []) (rest := []) (n := 0) X hN hKO hS hK hP (c_isLat1 l D cI cB kk) (gV k_495 k_496 k_497 k_104 k_498) (by decide +kernel) ⟨Nat.le_of_ble_eq_true rfl, Nat.le_of_ble_eq_true rfl⟩ ⟨rfl, rfl⟩ [] rfl (by decide) rfl rfl hl.1 (Nat.le_of_ble_eq_true rfl) dJ0_indexOf_7cf53_1 ⟨Nat.le_of_ble_eq_true rfl, Nat.le_of_ble_eq_true rfl⟩ (fun r_1 hr_1 => ?_)
  subst hr_1
  refine lv_if_eq (tgt := 23) hx hb dJ0_indexOf_7cf53_4 (by decide) (fun c_4 => absurd c_4 (by decide)) (fun _ => ?_)
  refine lv_aload_n hx hb dJ0_indexOf_7cf53_7 rfl (lv_at hl 0 rfl) ?_
  refine vk_getf hx hb ((hKO.2.2.2.1.1 1 (by decide)).2.2.1) hS hown (htb _ k_1671) (fun _ h9 => h9) dJ0_indexOf_7cf53_8 ?_
  refine lv_iload_n hx hb dJ0_indexOf_7cf53_11 rfl (lv_at hl 1 rfl) ?_
  refine lv_iload_n hx hb dJ0_indexOf_7cf53_12 rfl (lv_at hl 2 rfl) ?_
  refine lv_aload_n hx hb dJ0_indexOf_7cf53_13 rfl (lv_at hl 0 rfl) ?_
  refine cKR (i := 1) (As := []) (rest := [.int 0, .int a, .ref (kk.2.2 1)]) (n := 0) X hN hKO hS hK hP (c_slen1 l D cI cB kk) (gV k_501 k_502 k_503 k_104 k_504) (by decide +kernel) ⟨Nat.le_of_ble_eq_true rfl, Nat.le_of_ble_eq_true rfl⟩ ⟨rfl, rfl⟩ [] rfl (by decide) rfl rfl hl.1 (Nat.le_of_ble_eq_true rfl) dJ0_indexOf_7cf53_14 ⟨Nat.le_of_ble_eq_true rfl, Nat.le_of_ble_eq_true rfl⟩ (fun r_2 hr_2 => ?_)
  subst hr_2
  refine cSRk (As := [.ref (kk.2.2 1), .int a, .int 0, .int 8]) (rest := []) (n := 4) X hN hKO hS hK hP (c_idxL1 l D cI cB kk a) k_509 k_510 k_105 k_511 (by decide +kernel) ⟨Nat.le_of_ble_eq_true rfl, Nat.le_of_ble_eq_true rfl⟩ ⟨rfl, rfl⟩ [] rfl rfl rfl hl.1 (Nat.le_of_ble_eq_true rfl) dJ0_indexOf_7cf53_17 ⟨Nat.le_of_ble_eq_true rfl, Nat.le_of_ble_eq_true rfl⟩ (fun r_3 hr_3 => ?_)
  subst hr_3
  refine lv_goto (tgt := 36) hx hb dJ0_indexOf_7cf53_20 (by decide) ?_
  exact ret _ _ (iI (0 ≤ a ∧ a ≤ 255) (kp1 (a.toInt8.toInt32)) (-1)) dJ0_indexOf_7cf53_36 rfl rfl

set_option maxRecDepth 100000 in
set_option maxHeartbeats 4000000 in
theorem c_idx1 (l : Launch) (D : va_G) (cI cB : ClassId) (kk : KT) (a : Int32)  : MRk l D cI cB kk yJ0_indexOf_0f7a4 cJ0_indexOf_0f7a4 2 .int (rm 3 70) [.ref (kk.2.1 1), .int a] [] (fun r : Int32 => r = iI (0 ≤ a ∧ a ≤ 255) (kp1 (a.toInt8.toInt32)) (-1)) := by
  refine MRk.of (by decide) (Nat.le_of_ble_eq_true rfl) ?_
  intro p e s m below meth c Q ls X hN hKO hP hK hl ret
  have hS : va_S (fun _ => False) s.heap s.heap [] := va_S.rf
  obtain ⟨hx, hb, hml, hown, htb⟩ := id X
  have hl : lv_has ls 2 [(0, .ref (kk.2.1 1)), (1, .int a)] := hl
  refine lv_aload_n hx hb dJ0_indexOf_0f7a4_0 rfl (lv_at hl 0 rfl) ?_
  refine lv_iload_n hx hb dJ0_indexOf_0f7a4_1 rfl (lv_at hl 1 rfl) ?_
  refine lv_iconst (v := 0) hx hb dJ0_indexOf_0f7a4_2 (by decide) ?_
  refine cKR (i := 1) (As := [.int a, .int 0]) (rest := []) (n := 2) X hN hKO hS hK hP (c_idxS1 l D cI cB kk a) (gV k_491 k_492 k_493 k_104 k_494) (by decide +kernel) ⟨Nat.le_of_ble_eq_true rfl, Nat.le_of_ble_eq_true rfl⟩ ⟨rfl, rfl⟩ [] rfl (by decide) rfl rfl hl.1 (Nat.le_of_ble_eq_true rfl) dJ0_indexOf_0f7a4_3 ⟨Nat.le_of_ble_eq_true rfl, Nat.le_of_ble_eq_true rfl⟩ (fun r_1 hr_1 => ?_)
  subst hr_1
  exact ret _ _ (iI (0 ≤ a ∧ a ≤ 255) (kp1 (a.toInt8.toInt32)) (-1)) dJ0_indexOf_0f7a4_6 rfl rfl
