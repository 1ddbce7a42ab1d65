set_option maxRecDepth 100000 in
set_option maxHeartbeats 4000000 in
theorem c_bitCountF (l : Launch) (D : va_G) (cI cB : ClassId) (a : Int32)  : MR l D cI cB yJ6_bitCount_0f7a4 cJ6_bitCount_0f7a4 1 .int (rm 0 0) [.int a] [] (fun r : Int32 => r = bcF a) := by
  refine MR.of (by decide) (Nat.le_of_ble_eq_true rfl) ?_
  intro p e s m below meth c Q ls X hN hP hK hl ret
  obtain ⟨hx, hb, hml, hown, htb⟩ := id X
  have hl : lv_has ls 1 [(0, .int a)] := hl
  refine lv_iload_n hx hb dJ6_bitCount_0f7a4_0 rfl (lv_at hl 0 rfl) ?_
  refine lv_iload_n hx hb dJ6_bitCount_0f7a4_1 rfl (lv_at hl 0 rfl) ?_
  refine lv_iconst (v := 1) hx hb dJ6_bitCount_0f7a4_2 (by decide) ?_
  refine lv_iushr hx hb dJ6_bitCount_0f7a4_3 rfl ?_
  refine lv_ldcw (v := 1431655765) hx hb hown (htb _ k_757) dJ6_bitCount_0f7a4_4 ?_
  refine lv_iand hx hb dJ6_bitCount_0f7a4_7 ?_
  refine lv_isub hx hb dJ6_bitCount_0f7a4_8 ?_
  refine lv_topi (fun x_1 ex_1 => ?_)
  refine lv_istore_n (lv' := [(0, .int x_1)]) hx hb dJ6_bitCount_0f7a4_9 rfl hl (by decide) rfl (fun ls hl => ?_)
  refine lv_iload_n hx hb dJ6_bitCount_0f7a4_10 rfl (lv_at hl 0 rfl) ?_
  refine lv_ldcw (v := 858993459) hx hb hown (htb _ k_758) dJ6_bitCount_0f7a4_11 ?_
  refine lv_iand hx hb dJ6_bitCount_0f7a4_14 ?_
  refine lv_iload_n hx hb dJ6_bitCount_0f7a4_15 rfl (lv_at hl 0 rfl) ?_
  refine lv_iconst (v := 2) hx hb dJ6_bitCount_0f7a4_16 (by decide) ?_
  refine lv_iushr hx hb dJ6_bitCount_0f7a4_17 rfl ?_
  refine lv_ldcw (v := 858993459) hx hb hown (htb _ k_758) dJ6_bitCount_0f7a4_18 ?_
  refine lv_iand hx hb dJ6_bitCount_0f7a4_21 ?_
  refine lv_iadd hx hb dJ6_bitCount_0f7a4_22 ?_
  refine lv_topi (fun x_2 ex_2 => ?_)
  refine lv_istore_n (lv' := [(0, .int x_2)]) hx hb dJ6_bitCount_0f7a4_23 rfl hl (by decide) rfl (fun ls hl => ?_)
  refine lv_iload_n hx hb dJ6_bitCount_0f7a4_24 rfl (lv_at hl 0 rfl) ?_
  refine lv_iload_n hx hb dJ6_bitCount_0f7a4_25 rfl (lv_at hl 0 rfl) ?_
  refine lv_iconst (v := 4) hx hb dJ6_bitCount_0f7a4_26 (by decide) ?_
  refine lv_iushr hx hb dJ6_bitCount_0f7a4_27 rfl ?_
  refine lv_iadd hx hb dJ6_bitCount_0f7a4_28 ?_
  refine lv_ldcw (v := 252645135) hx hb hown (htb _ k_759) dJ6_bitCount_0f7a4_29 ?_
  refine lv_iand hx hb dJ6_bitCount_0f7a4_32 ?_
  refine lv_topi (fun x_3 ex_3 => ?_)
  refine lv_istore_n (lv' := [(0, .int x_3)]) hx hb dJ6_bitCount_0f7a4_33 rfl hl (by decide) rfl (fun ls hl => ?_)
  refine lv_iload_n hx hb dJ6_bitCount_0f7a4_34 rfl (lv_at hl 0 rfl) ?_
  refine lv_iload_n hx hb dJ6_bitCount_0f7a4_35 rfl (lv_at hl 0 rfl) ?_
  refine lv_bipush (v := 8) hx hb dJ6_bitCount_0f7a4_36 (by decide) ?_
  refine lv_iushr hx hb dJ6_bitCount_0f7a4_38 rfl ?_
  refine lv_iadd hx hb dJ6_bitCount_0f7a4_39 ?_
  refine lv_topi (fun x_4 ex_4 => ?_)
  refine lv_istore_n (lv' := [(0, .int x_4)]) hx hb dJ6_bitCount_0f7a4_40 rfl hl (by decide) rfl (fun ls hl => ?_)
  refine lv_iload_n hx hb dJ6_bitCount_0f7a4_41 rfl (lv_at hl 0 rfl) ?_
  refine lv_iload_n hx hb dJ6_bitCount_0f7a4_42 rfl (lv_at hl 0 rfl) ?_
  refine lv_bipush (v := 16) hx hb dJ6_bitCount_0f7a4_43 (by decide) ?_
  refine lv_iushr hx hb dJ6_bitCount_0f7a4_45 rfl ?_
  refine lv_iadd hx hb dJ6_bitCount_0f7a4_46 ?_
  refine lv_topi (fun x_5 ex_5 => ?_)
  refine lv_istore_n (lv' := [(0, .int x_5)]) hx hb dJ6_bitCount_0f7a4_47 rfl hl (by decide) rfl (fun ls hl => ?_)
  refine lv_iload_n hx hb dJ6_bitCount_0f7a4_48 rfl (lv_at hl 0 rfl) ?_
  refine lv_bipush (v := 63) hx hb dJ6_bitCount_0f7a4_49 (by decide) ?_
  refine lv_iand hx hb dJ6_bitCount_0f7a4_51 ?_
  exact ret _ _ (x_5 &&& 63) dJ6_bitCount_0f7a4_52 rfl (by rw [ex_5, ex_4, ex_3, ex_2, ex_1]; rfl)

set_option maxRecDepth 100000 in
set_option maxHeartbeats 4000000 in
theorem c_areToldF (l : Launch) (D : va_G) (cI cB : ClassId) (h0 : Nat) (tp : Nat) (tw : Nat) (nw : Nat) (kp : Nat) (lw : Nat) (lr : Nat) (dd : Nat) (vv : Nat) (tl : Nat) (sc : Nat) (hk : Int32) (pe : Int32) (ch : Int32) (rt : Int32) (t1 : Nat) (t2 : Nat) (t3 : Nat) (t4 : Nat) (a : Int32)  : MR l D cI cB yX9_areTold cX9_areTold 2 .boolean (rm 0 0) [.ref h0, .int a] [(h0, .inr (9, [.ref tp, .ref tw, .ref nw, .ref kp, .ref lw, .ref lr, .ref dd, .ref vv, .ref tl, .ref sc, .int hk])), (tw, .inr (7, [.int pe, .int ch, .int rt, .ref t1, .ref t2, .ref t3, .ref t4]))] (fun r : Int32 => r = bI (a &&& (pe ^^^ (-1)) = 0)) := by
  refine MR.of (by decide) (Nat.le_of_ble_eq_true rfl) ?_
  intro p e s m below meth c Q ls X hN hP hK hl ret
  obtain ⟨hx, hb, hml, hown, htb⟩ := id X
  have hl : lv_has ls 2 [(0, .ref h0), (1, .int a)] := hl
  refine lv_iload_n hx hb dX9_areTold_0 rfl (lv_at hl 1 rfl) ?_
  refine lv_aload_n hx hb dX9_areTold_1 rfl (lv_at hl 0 rfl) ?_
  refine va_get (D := D) (ci := 9) (v := .ref tw) (C := RX9) (T := TX9) (N := 11) hx hb htb itX9 hown hK hP 0 rfl rfl 1 (by decide) (htb _ k_394) (fun _ h9 => h9) rfl dX9_areTold_2 ?_
  refine va_getN (D := D) (ci := 7) (v := .int pe) (C := RX7) (T := TX7) (N := 7) hx hb htb itX7 hown hK hP 1 rfl rfl 0 (by decide) (va_Nw.use rfl (hN _ n_144 rfl)) (fun _ h9 => h9) rfl dX9_areTold_5 ?_
  refine lv_iconst (v := (-1)) hx hb dX9_areTold_8 (by decide) ?_
  refine lv_ixor hx hb dX9_areTold_9 ?_
  refine lv_iand hx hb dX9_areTold_10 ?_
  refine lv_if_ne (tgt := 18) hx hb dX9_areTold_11 (by decide) (fun c_11 => ?_) (fun c_11 => ?_)
  · refine lv_iconst (v := 0) hx hb dX9_areTold_18 (by decide) ?_
    exact ret _ _ 0 dX9_areTold_19 rfl (bI0 c_11)
  · refine lv_iconst (v := 1) hx hb dX9_areTold_14 (by decide) ?_
    refine lv_goto (tgt := 19) hx hb dX9_areTold_15 (by decide) ?_
    exact ret _ _ 1 dX9_areTold_19 rfl (bI1 c_11)

set_option maxRecDepth 100000 in
set_option maxHeartbeats 4000000 in
theorem c_isInF (l : Launch) (D : va_G) (cI cB : ClassId) (a : Int32) (k : Int32)  : MR l D cI cB yX9_isIn cX9_isIn 2 .boolean (rm 0 0) [.int a, .int k] [] (fun r : Int32 => r = bI ((0 ≤ k ∧ k < 31) ∧ a >>> (k &&& 31) &&& 1 = 1)) := by
  refine MR.of (by decide) (Nat.le_of_ble_eq_true rfl) ?_
  intro p e s m below meth c Q ls X hN hP hK hl ret
  obtain ⟨hx, hb, hml, hown, htb⟩ := id X
  have hl : lv_has ls 2 [(0, .int a), (1, .int k)] := hl
  refine lv_iload_n hx hb dX9_isIn_0 rfl (lv_at hl 1 rfl) ?_
  refine lv_if_lt (tgt := 23) hx hb dX9_isIn_1 (by decide) (fun c_1 => ?_) (fun c_1 => ?_)
  · refine lv_iconst (v := 0) hx hb dX9_isIn_23 (by decide) ?_
    exact ret _ _ 0 dX9_isIn_24 rfl (bI0 (fun h => (Int32.not_lt.mpr h.1.1) c_1))
  · refine lv_iload_n hx hb dX9_isIn_4 rfl (lv_at hl 1 rfl) ?_
    refine lv_bipush (v := 31) hx hb dX9_isIn_5 (by decide) ?_
    refine lv_icmp_ge (tgt := 23) hx hb dX9_isIn_7 (by decide) (fun c_7 => ?_) (fun c_7 => ?_)
    · refine lv_iconst (v := 0) hx hb dX9_isIn_23 (by decide) ?_
      exact ret _ _ 0 dX9_isIn_24 rfl (bI0 (fun h => (Int32.not_le.mpr h.1.2) c_7))
    · refine lv_iload_n hx hb dX9_isIn_10 rfl (lv_at hl 0 rfl) ?_
      refine lv_iload_n hx hb dX9_isIn_11 rfl (lv_at hl 1 rfl) ?_
      refine lv_ishr hx hb dX9_isIn_12 ?_
      refine lv_iconst (v := 1) hx hb dX9_isIn_13 (by decide) ?_
      refine lv_iand hx hb dX9_isIn_14 ?_
      refine lv_iconst (v := 1) hx hb dX9_isIn_15 (by decide) ?_
      refine lv_icmp_ne (tgt := 23) hx hb dX9_isIn_16 (by decide) (fun c_16 => ?_) (fun c_16 => ?_)
      · refine lv_iconst (v := 0) hx hb dX9_isIn_23 (by decide) ?_
        exact ret _ _ 0 dX9_isIn_24 rfl (bI0 (fun h => c_16 h.2))
      · refine lv_iconst (v := 1) hx hb dX9_isIn_19 (by decide) ?_
        refine lv_goto (tgt := 24) hx hb dX9_isIn_20 (by decide) ?_
        exact ret _ _ 1 dX9_isIn_24 rfl (bI1 ⟨⟨Int32.not_lt.mp c_1, Int32.not_le.mp c_7⟩, c_16⟩)

set_option maxRecDepth 100000 in
set_option maxHeartbeats 4000000 in
theorem c_commonDivisorN (l : Launch) (D : va_G) (cI cB : ClassId) (a : Int32) (b : Int32)  : MR l D cI cB yX9_commonDivisor cX9_commonDivisor 6 .int (rm 1 13) [.int a, .int b] [] (fun r : Int32 => ¬ r = 0) := by
  refine MR.of (by decide) (Nat.le_of_ble_eq_true rfl) ?_
  intro p e s m below meth c Q ls X hN hP hK hl ret
  obtain ⟨hx, hb, hml, hown, htb⟩ := id X
  have hl : lv_has ls 6 [(0, .int a), (1, .int b)] := hl
  refine lv_iload_n hx hb dX9_commonDivisor_0 rfl (lv_at hl 0 rfl) ?_
  refine lv_istore_n (lv' := [(2, .int a), (0, .int a), (1, .int b)]) hx hb dX9_commonDivisor_1 rfl hl (by decide) rfl (fun ls hl => ?_)
  refine lv_iload_n hx hb dX9_commonDivisor_2 rfl (lv_at hl 2 rfl) ?_
  refine lv_istore_n (lv' := [(3, .int b), (2, .int a), (0, .int a), (1, .int b)]) hx hb dX9_commonDivisor_3 rfl hl (by decide) rfl (fun ls hl => ?_)
  refine lv_iconst (v := 0) hx hb dX9_commonDivisor_4 (by decide) ?_
  refine lv_istore (lv' := [(4, .int 0), (3, .int b), (2, .int a), (0, .int a), (1, .int b)]) hx hb dX9_commonDivisor_5 hl (by decide) rfl (fun ls hl => ?_)
  have loop_7 : ∀ (n i : Nat) (xa : Int32) (ya : Int32), n + i = 64 → ∀ (ls : Array Slot), lv_has ls 6 [(0, .int a), (1, .int b), (2, .int xa), (3, .int ya), (4, .int (nI i))] → W p l e (rm 1 13) s m ([.int a, .int b] : List Value).toArray below meth c s.heap [] 0 0 Q (F0 m 7 ls []) := by
    intro n
    induction n with
    | zero =>
      intro i xa ya hni ls hl
      have hni_7 := hni
      have hi : i = 64 := by omega
      refine lv_iload hx hb dX9_commonDivisor_7 (lv_at hl 4 rfl) ?_
      refine lv_bipush (v := 64) hx hb dX9_commonDivisor_9 (by decide) ?_
      refine lv_icmp_ge (tgt := 34) hx hb dX9_commonDivisor_11 (by decide) (fun _ => ?_) (fun c_11 => absurd (by rw [hi]; decide) c_11)
      refine lv_iload_n hx hb dX9_commonDivisor_34 rfl (lv_at hl 2 rfl) ?_
      refine lv_iconst (v := 1) hx hb dX9_commonDivisor_35 (by decide) ?_
      refine va_mmax (rest := []) hx hb (by rw [hml]; exact hl.1.symm) hown (htb _ k_950) (htb _ k_516) (htb _ k_106) (htb _ k_517) (Nat.le_of_ble_eq_true rfl) (Nat.le_of_ble_eq_true rfl) (Nat.le_of_ble_eq_true rfl) (Nat.le_of_ble_eq_true rfl) dX9_commonDivisor_36 ?_
      refine lv_topi (fun mx_1 emx_1 => ?_)
      exact ret _ _ mx_1 dX9_commonDivisor_39 rfl (mxne emx_1)
    | succ n ih_7 =>
      intro i xa ya hni ls hl
      have hni_7 := hni
      have hi : i < 64 := by omega
      refine lv_iload hx hb dX9_commonDivisor_7 (lv_at hl 4 rfl) ?_
      refine lv_bipush (v := 64) hx hb dX9_commonDivisor_9 (by decide) ?_
      refine lv_icmp_ge (tgt := 34) hx hb dX9_commonDivisor_11 (by decide) (fun c_11 => absurd c_11 (nI_ge hi (by decide))) (fun _ => ?_)
      refine lv_iload_n hx hb dX9_commonDivisor_14 rfl (lv_at hl 3 rfl) ?_
      refine lv_if_le (tgt := 34) hx hb dX9_commonDivisor_15 (by decide) (fun c_15 => ?_) (fun c_15 => ?_)
      · refine lv_iload_n hx hb dX9_commonDivisor_34 rfl (lv_at hl 2 rfl) ?_
        refine lv_iconst (v := 1) hx hb dX9_commonDivisor_35 (by decide) ?_
        refine va_mmax (rest := []) hx hb (by rw [hml]; exact hl.1.symm) hown (htb _ k_950) (htb _ k_516) (htb _ k_106) (htb _ k_517) (Nat.le_of_ble_eq_true rfl) (Nat.le_of_ble_eq_true rfl) (Nat.le_of_ble_eq_true rfl) (Nat.le_of_ble_eq_true rfl) dX9_commonDivisor_36 ?_
        refine lv_topi (fun mx_2 emx_2 => ?_)
        exact ret _ _ mx_2 dX9_commonDivisor_39 rfl (mxne emx_2)
      · refine lv_iload_n hx hb dX9_commonDivisor_18 rfl (lv_at hl 2 rfl) ?_
        refine lv_iload_n hx hb dX9_commonDivisor_19 rfl (lv_at hl 3 rfl) ?_
        refine lv_irem hx hb dX9_commonDivisor_20 (nz0 c_15) ?_
        refine lv_topi (fun x_3 ex_3 => ?_)
        refine lv_istore (lv' := [(5, .int x_3), (0, .int a), (1, .int b), (2, .int xa), (3, .int ya), (4, .int (nI i))]) hx hb dX9_commonDivisor_21 hl (by decide) rfl (fun ls hl => ?_)
        refine lv_iload_n hx hb dX9_commonDivisor_23 rfl (lv_at hl 4 rfl) ?_
        refine lv_istore_n (lv' := [(2, .int ya), (5, .int x_3), (0, .int a), (1, .int b), (3, .int ya), (4, .int (nI i))]) hx hb dX9_commonDivisor_24 rfl hl (by decide) rfl (fun ls hl => ?_)
        refine lv_iload hx hb dX9_commonDivisor_25 (lv_at hl 1 rfl) ?_
        refine lv_istore_n (lv' := [(3, .int x_3), (2, .int ya), (5, .int x_3), (0, .int a), (1, .int b), (4, .int (nI i))]) hx hb dX9_commonDivisor_27 rfl hl (by decide) rfl (fun ls hl => ?_)
        refine lv_iinc (v := (nI (i + 1))) (lv' := [(4, .int (nI (i + 1))), (3, .int x_3), (2, .int ya), (5, .int x_3), (0, .int a), (1, .int b)]) hx hb dX9_commonDivisor_28 hl (k := 5) rfl (nI_1 i) (by decide) rfl (fun ls hl => ?_)
        refine lv_goto (tgt := 7) hx hb dX9_commonDivisor_31 (by decide) ?_
        exact ih_7 (i + 1) ya x_3 (by omega) _ (lv_sub hl [4, 5, 2, 1, 0] rfl)
  exact loop_7 64 0 a b (by omega) _ (lv_sub hl [3, 4, 2, 1, 0] rfl)

set_option maxRecDepth 100000 in
set_option maxHeartbeats 4000000 in
theorem c_X9_sumOfOrders (l : Launch) (D : va_G) (cI cB : ClassId) (kk : KT) (h0 : Nat) (tp : Nat) (tw : Nat) (nw : Nat) (kp : Nat) (lw : Nat) (lr : Nat) (dd : Nat) (vv : Nat) (tl : Nat) (sc : Nat) (hk : Int32) (fsc : Nat → Int32) (pq : Nat) (sq : Nat) (hpq : pq < 5) (hsq1 : 1 ≤ sq) (hsq5 : sq ≤ 5) : MRk l D cI cB kk yX9_sumOfOrders cX9_sumOfOrders 8 .int (rm 1 20) [.ref h0, .int (nI pq), .int (nI sq)] [(h0, .inr (9, [.ref tp, .ref tw, .ref nw, .ref kp, .ref lw, .ref lr, .ref dd, .ref vv, .ref tl, .ref sc, .int hk])), (sc, .inl (cI, 32, .inl fsc))] (fun r : Int32 => True) := by
  refine MRk.of (by decide) (Nat.le_of_ble_eq_true rfl) ?_
  intro p e s m below meth c Q ls X hN hKO hP hK hl ret
  have hS : va_S (fun _ => False) s.heap s.heap [] := va_S.rf
  obtain ⟨hx, hb, hml, hown, htb⟩ := id X
  have hl : lv_has ls 8 [(0, .ref h0), (1, .int (nI pq)), (2, .int (nI sq))] := hl
  refine lv_iconst (v := 0) hx hb dX9_sumOfOrders_0 (by decide) ?_
  refine lv_istore_n (lv' := [(3, .int 0), (0, .ref h0), (1, .int (nI pq)), (2, .int (nI sq))]) hx hb dX9_sumOfOrders_1 rfl hl (by decide) rfl (fun ls hl => ?_)
  refine lv_iconst (v := 0) hx hb dX9_sumOfOrders_2 (by decide) ?_
  refine lv_istore (lv' := [(4, .int 0), (3, .int 0), (0, .ref h0), (1, .int (nI pq)), (2, .int (nI sq))]) hx hb dX9_sumOfOrders_3 hl (by decide) rfl (fun ls hl => ?_)
  have loop_5 : ∀ (n i : Nat) (v : Int32), n + i = 32 → ∀ (ls : Array Slot), lv_has ls 8 [(0, .ref h0), (1, .int (nI pq)), (2, .int (nI sq)), (3, .int v), (4, .int (nI i))] → W p l e (rm 1 20) s m ([.ref h0, .int (nI pq), .int (nI sq)] : List Value).toArray below meth c s.heap [] 0 0 Q (F0 m 5 ls []) := by
    intro n
    induction n with
    | zero =>
      intro i v hni ls hl
      have hni_5 := hni
      have hi : i = 32 := by omega
      refine lv_iload hx hb dX9_sumOfOrders_5 (lv_at hl 4 rfl) ?_
      refine lv_iconst (v := 1) hx hb dX9_sumOfOrders_7 (by decide) ?_
      refine lv_iload_n hx hb dX9_sumOfOrders_8 rfl (lv_at hl 2 rfl) ?_
      refine lv_ishl hx hb dX9_sumOfOrders_9 ?_
      refine lv_icmp_ge (tgt := 107) hx hb dX9_sumOfOrders_10 (by decide) (fun c_10 => ?_) (fun c_10 => ?_)
      · refine lv_iload_n hx hb dX9_sumOfOrders_107 rfl (lv_at hl 3 rfl) ?_
        exact ret _ _ v dX9_sumOfOrders_108 rfl trivial
      · refine lv_iload hx hb dX9_sumOfOrders_13 (lv_at hl 4 rfl) ?_
        refine lv_aload_n hx hb dX9_sumOfOrders_15 rfl (lv_at hl 0 rfl) ?_
        refine va_get (D := D) (ci := 9) (v := .ref sc) (C := RX9) (T := TX9) (N := 11) hx hb htb itX9 hown hK hP 0 rfl rfl 9 (by decide) (htb _ k_402) (fun _ h9 => h9) rfl dX9_sumOfOrders_16 ?_
        refine va_alen hx hb hK hP 1 0 rfl rfl (v := 32) rfl dX9_sumOfOrders_19 ?_
        refine lv_icmp_ge (tgt := 107) hx hb dX9_sumOfOrders_20 (by decide) (fun _ => ?_) (fun c_20 => absurd (by rw [hi]; decide) c_20)
        refine lv_iload_n hx hb dX9_sumOfOrders_107 rfl (lv_at hl 3 rfl) ?_
        exact ret _ _ v dX9_sumOfOrders_108 rfl trivial
    | succ n ih_5 =>
      intro i v hni ls hl
      have hni_5 := hni
      have hi : i < 32 := by omega
      refine lv_iload hx hb dX9_sumOfOrders_5 (lv_at hl 4 rfl) ?_
      refine lv_iconst (v := 1) hx hb dX9_sumOfOrders_7 (by decide) ?_
      refine lv_iload_n hx hb dX9_sumOfOrders_8 rfl (lv_at hl 2 rfl) ?_
      refine lv_ishl hx hb dX9_sumOfOrders_9 ?_
      refine lv_icmp_ge (tgt := 107) hx hb dX9_sumOfOrders_10 (by decide) (fun c_10 => ?_) (fun c_10 => ?_)
      · refine lv_iload_n hx hb dX9_sumOfOrders_107 rfl (lv_at hl 3 rfl) ?_
        exact ret _ _ v dX9_sumOfOrders_108 rfl trivial
      · refine lv_iload hx hb dX9_sumOfOrders_13 (lv_at hl 4 rfl) ?_
        refine lv_aload_n hx hb dX9_sumOfOrders_15 rfl (lv_at hl 0 rfl) ?_
        refine va_get (D := D) (ci := 9) (v := .ref sc) (C := RX9) (T := TX9) (N := 11) hx hb htb itX9 hown hK hP 0 rfl rfl 9 (by decide) (htb _ k_402) (fun _ h9 => h9) rfl dX9_sumOfOrders_16 ?_
        refine va_alen hx hb hK hP 1 0 rfl rfl (v := 32) rfl dX9_sumOfOrders_19 ?_
        refine lv_icmp_ge (tgt := 107) hx hb dX9_sumOfOrders_20 (by decide) (fun c_20 => absurd c_20 (nI_ge hi (by decide))) (fun _ => ?_)
        refine lv_iload hx hb dX9_sumOfOrders_23 (lv_at hl 4 rfl) ?_
        refine lv_iconst (v := 1) hx hb dX9_sumOfOrders_25 (by decide) ?_
        refine lv_iload_n hx hb dX9_sumOfOrders_26 rfl (lv_at hl 1 rfl) ?_
        refine lv_ishl hx hb dX9_sumOfOrders_27 ?_
        refine lv_ior hx hb dX9_sumOfOrders_28 ?_
        obtain ⟨jw, hjw, ejw⟩ := or5 (i := i) (q := pq) (by omega) hpq
        refine tv (z := (nI jw)) (ejw) ?_
        refine lv_istore (lv' := [(5, .int (nI jw)), (0, .ref h0), (1, .int (nI pq)), (2, .int (nI sq)), (3, .int v), (4, .int (nI i))]) hx hb dX9_sumOfOrders_29 hl (by decide) rfl (fun ls hl => ?_)
        refine lv_iload hx hb dX9_sumOfOrders_31 (lv_at hl 5 rfl) ?_
        refine cSR (As := [.int (nI i)]) (rest := []) (n := 1) X hN hK hP (c_bitCountF l D cI cB (nI i)) k_754 k_755 k_111 k_756 (by decide +kernel) ⟨Nat.le_of_ble_eq_true rfl, Nat.le_of_ble_eq_true rfl⟩ ⟨rfl, rfl⟩ [] rfl rfl rfl hl.1 (Nat.le_of_ble_eq_true rfl) dX9_sumOfOrders_33 ⟨Nat.le_of_ble_eq_true rfl, Nat.le_of_ble_eq_true rfl⟩ (fun r_1 hr_1 => ?_)
        subst hr_1
        refine tv (z := nI (bS (nI i) 10)) (bcT i (by omega)) ?_
        have hbb := bS_b (nI i) 10
        refine lv_istore (lv' := [(6, .int (nI (bS (nI i) 10))), (5, .int (nI jw)), (0, .ref h0), (1, .int (nI pq)), (2, .int (nI sq)), (3, .int v), (4, .int (nI i))]) hx hb dX9_sumOfOrders_36 hl (by decide) rfl (fun ls hl => ?_)
        refine lv_iload hx hb dX9_sumOfOrders_38 (lv_at hl 1 rfl) ?_
        refine lv_iload hx hb dX9_sumOfOrders_40 (lv_at hl 6 rfl) ?_
        refine lv_icmp_eq (tgt := 101) hx hb dX9_sumOfOrders_42 (by decide) (fun c_42 => ?_) (fun c_42 => ?_)
        · refine lv_iinc (v := (nI (i + 1))) (lv' := [(4, .int (nI (i + 1))), (6, .int (nI (bS (nI i) 10))), (5, .int (nI jw)), (0, .ref h0), (1, .int (nI pq)), (2, .int (nI sq)), (3, .int v)]) hx hb dX9_sumOfOrders_101 hl (k := 6) rfl (nI_1 i) (by decide) rfl (fun ls hl => ?_)
          refine lv_goto (tgt := 5) hx hb dX9_sumOfOrders_104 (by decide) ?_
          exact ih_5 (i + 1) v (by omega) _ (lv_sub hl [3, 4, 5, 6, 0] rfl)
        · refine lv_iload hx hb dX9_sumOfOrders_45 (lv_at hl 1 rfl) ?_
          refine lv_aload_n hx hb dX9_sumOfOrders_47 rfl (lv_at hl 2 rfl) ?_
          refine va_get (D := D) (ci := 9) (v := .ref sc) (C := RX9) (T := TX9) (N := 11) hx hb htb itX9 hown hK hP 0 rfl rfl 9 (by decide) (htb _ k_402) (fun _ h9 => h9) rfl dX9_sumOfOrders_48 ?_
          refine va_alen hx hb hK hP 1 0 rfl rfl (v := 32) rfl dX9_sumOfOrders_51 ?_
          refine lv_icmp_ge (tgt := 101) hx hb dX9_sumOfOrders_52 (by decide) (fun c_52 => ?_) (fun c_52 => ?_)
          · refine lv_iinc (v := (nI (i + 1))) (lv' := [(4, .int (nI (i + 1))), (6, .int (nI (bS (nI i) 10))), (5, .int (nI jw)), (0, .ref h0), (1, .int (nI pq)), (2, .int (nI sq)), (3, .int v)]) hx hb dX9_sumOfOrders_101 hl (k := 6) rfl (nI_1 i) (by decide) rfl (fun ls hl => ?_)
            refine lv_goto (tgt := 5) hx hb dX9_sumOfOrders_104 (by decide) ?_
            exact ih_5 (i + 1) v (by omega) _ (lv_sub hl [3, 4, 5, 6, 0] rfl)
          · refine lv_iload hx hb dX9_sumOfOrders_55 (lv_at hl 0 rfl) ?_
            refine lv_iload_n hx hb dX9_sumOfOrders_57 rfl (lv_at hl 4 rfl) ?_
            refine lv_icmp_ge (tgt := 101) hx hb dX9_sumOfOrders_58 (by decide) (fun c_58 => ?_) (fun c_58 => ?_)
            · refine lv_iinc (v := (nI (i + 1))) (lv' := [(4, .int (nI (i + 1))), (6, .int (nI (bS (nI i) 10))), (5, .int (nI jw)), (0, .ref h0), (1, .int (nI pq)), (2, .int (nI sq)), (3, .int v)]) hx hb dX9_sumOfOrders_101 hl (k := 6) rfl (nI_1 i) (by decide) rfl (fun ls hl => ?_)
              refine lv_goto (tgt := 5) hx hb dX9_sumOfOrders_104 (by decide) ?_
              exact ih_5 (i + 1) v (by omega) _ (lv_sub hl [3, 4, 5, 6, 0] rfl)
            · refine va_gets hx hb hKO.2.1 hS hown (htb _ k_942) (fun _ h9 => h9) dX9_sumOfOrders_61 ?_
              refine lv_iload hx hb dX9_sumOfOrders_64 (lv_at hl 0 rfl) ?_
              refine va_ti hx hb hKO.2.2.1 hS (by have a0 := mt Int32.le_iff_toInt_le.mpr c_10; have a1 := mt Int32.toInt_inj.mp c_42; have a2 := mt Int32.le_iff_toInt_le.mpr c_52; have a3 := mt Int32.le_iff_toInt_le.mpr c_58; have a4 : (32 : Int32).toInt = 32 := (by decide); have a5 := nI_toInt (n := (bS (nI i) 10)) (by omega); have a6 := nI_toInt (n := i) (by omega); have a7 := nI_toInt (n := jw) (by omega); have a8 := nI_toInt (n := sq) (by omega); exact vp_in_nI (by omega) (by decide)) rfl dX9_sumOfOrders_66 ?_
              refine va_gets hx hb hKO.2.1 hS hown (htb _ k_942) (fun _ h9 => h9) dX9_sumOfOrders_67 ?_
              refine lv_iload_n hx hb dX9_sumOfOrders_70 rfl (lv_at hl 4 rfl) ?_
              refine lv_iconst (v := 1) hx hb dX9_sumOfOrders_71 (by decide) ?_
              refine lv_isub hx hb dX9_sumOfOrders_72 ?_
              refine tv (z := (nI (sq - 1))) (nS (a := 1) hsq1) ?_
              refine lv_iload hx hb dX9_sumOfOrders_73 (lv_at hl 0 rfl) ?_
              refine lv_isub hx hb dX9_sumOfOrders_75 ?_
              refine tv (z := (nI (sq - 1 - bS (nI i) 10))) (by have a0 := mt Int32.le_iff_toInt_le.mpr c_10; have a1 := mt Int32.toInt_inj.mp c_42; have a2 := mt Int32.le_iff_toInt_le.mpr c_52; have a3 := mt Int32.le_iff_toInt_le.mpr c_58; have a4 : (32 : Int32).toInt = 32 := (by decide); have a5 := nI_toInt (n := (bS (nI i) 10)) (by omega); have a6 := nI_toInt (n := i) (by omega); have a7 := nI_toInt (n := jw) (by omega); have a8 := nI_toInt (n := sq) (by omega); exact nS (by omega)) ?_
              refine va_ti hx hb hKO.2.2.1 hS (by have a0 := mt Int32.le_iff_toInt_le.mpr c_10; have a1 := mt Int32.toInt_inj.mp c_42; have a2 := mt Int32.le_iff_toInt_le.mpr c_52; have a3 := mt Int32.le_iff_toInt_le.mpr c_58; have a4 : (32 : Int32).toInt = 32 := (by decide); have a5 := nI_toInt (n := (bS (nI i) 10)) (by omega); have a6 := nI_toInt (n := i) (by omega); have a7 := nI_toInt (n := jw) (by omega); have a8 := nI_toInt (n := sq) (by omega); exact vp_in_nI (by omega) (by decide)) rfl dX9_sumOfOrders_76 ?_
              refine lv_imul hx hb dX9_sumOfOrders_77 ?_
              refine lv_topi (fun x_2 ex_2 => ?_)
              refine lv_istore (lv' := [(7, .int x_2), (6, .int (nI (bS (nI i) 10))), (5, .int (nI jw)), (0, .ref h0), (1, .int (nI pq)), (2, .int (nI sq)), (3, .int v), (4, .int (nI i))]) hx hb dX9_sumOfOrders_78 hl (by decide) rfl (fun ls hl => ?_)
              refine lv_iload_n hx hb dX9_sumOfOrders_80 rfl (lv_at hl 6 rfl) ?_
              refine lv_iload hx hb dX9_sumOfOrders_81 (lv_at hl 0 rfl) ?_
              refine lv_aload_n hx hb dX9_sumOfOrders_83 rfl (lv_at hl 3 rfl) ?_
              refine va_get (D := D) (ci := 9) (v := .ref sc) (C := RX9) (T := TX9) (N := 11) hx hb htb itX9 hown hK hP 0 rfl rfl 9 (by decide) (htb _ k_402) (fun _ h9 => h9) rfl dX9_sumOfOrders_84 ?_
              refine lv_iload hx hb dX9_sumOfOrders_87 (lv_at hl 2 rfl) ?_
              refine va_iald hx hb hK hP 1 0 rfl rfl (by have a0 := mt Int32.le_iff_toInt_le.mpr c_10; have a1 := mt Int32.toInt_inj.mp c_42; have a2 := mt Int32.le_iff_toInt_le.mpr c_52; have a3 := mt Int32.le_iff_toInt_le.mpr c_58; have a4 : (32 : Int32).toInt = 32 := (by decide); have a5 := nI_toInt (n := (bS (nI i) 10)) (by omega); have a6 := nI_toInt (n := i) (by omega); have a7 := nI_toInt (n := jw) (by omega); have a8 := nI_toInt (n := sq) (by omega); exact vp_in_nI (by omega) (by decide)) dX9_sumOfOrders_89 ?_
              refine lv_aload_n hx hb dX9_sumOfOrders_90 rfl (lv_at hl 3 rfl) ?_
              refine va_get (D := D) (ci := 9) (v := .ref sc) (C := RX9) (T := TX9) (N := 11) hx hb htb itX9 hown hK hP 0 rfl rfl 9 (by decide) (htb _ k_402) (fun _ h9 => h9) rfl dX9_sumOfOrders_91 ?_
              refine lv_iload hx hb dX9_sumOfOrders_94 (lv_at hl 7 rfl) ?_
              refine va_iald hx hb hK hP 1 0 rfl rfl (by have a0 := mt Int32.le_iff_toInt_le.mpr c_10; have a1 := mt Int32.toInt_inj.mp c_42; have a2 := mt Int32.le_iff_toInt_le.mpr c_52; have a3 := mt Int32.le_iff_toInt_le.mpr c_58; have a4 : (32 : Int32).toInt = 32 := (by decide); have a5 := nI_toInt (n := (bS (nI i) 10)) (by omega); have a6 := nI_toInt (n := i) (by omega); have a7 := nI_toInt (n := jw) (by omega); have a8 := nI_toInt (n := sq) (by omega); exact vp_in_nI (by omega) (by decide)) dX9_sumOfOrders_96 ?_
              refine lv_isub hx hb dX9_sumOfOrders_97 ?_
              refine lv_imul hx hb dX9_sumOfOrders_98 ?_
              refine lv_iadd hx hb dX9_sumOfOrders_99 ?_
              refine lv_topi (fun x_3 ex_3 => ?_)
              refine lv_istore_n (lv' := [(3, .int x_3), (7, .int x_2), (6, .int (nI (bS (nI i) 10))), (5, .int (nI jw)), (0, .ref h0), (1, .int (nI pq)), (2, .int (nI sq)), (4, .int (nI i))]) hx hb dX9_sumOfOrders_100 rfl hl (by decide) rfl (fun ls hl => ?_)
              refine lv_iinc (v := (nI (i + 1))) (lv' := [(4, .int (nI (i + 1))), (3, .int x_3), (7, .int x_2), (6, .int (nI (bS (nI i) 10))), (5, .int (nI jw)), (0, .ref h0), (1, .int (nI pq)), (2, .int (nI sq))]) hx hb dX9_sumOfOrders_101 hl (k := 7) rfl (nI_1 i) (by decide) rfl (fun ls hl => ?_)
              refine lv_goto (tgt := 5) hx hb dX9_sumOfOrders_104 (by decide) ?_
              exact ih_5 (i + 1) x_3 (by omega) _ (lv_sub hl [5, 6, 7, 1, 0] rfl)
  exact loop_5 32 0 0 (by omega) _ (lv_sub hl [2, 3, 4, 1, 0] rfl)

set_option maxRecDepth 100000 in
set_option maxHeartbeats 4000000 in
theorem c_X9_placeOfMost (l : Launch) (D : va_G) (cI cB : ClassId) (kk : KT) (h0 : Nat) (tp : Nat) (tw : Nat) (nw : Nat) (kp : Nat) (lw : Nat) (lr : Nat) (dd : Nat) (vv : Nat) (tl : Nat) (sc : Nat) (hk : Int32) (fsc : Nat → Int32) (sq : Nat) (hsq1 : 1 ≤ sq) (hsq5 : sq ≤ 5) : MRk l D cI cB kk yX9_placeOfMost cX9_placeOfMost 4 .int (rm 2 47) [.ref h0, .int (nI sq)] [(h0, .inr (9, [.ref tp, .ref tw, .ref nw, .ref kp, .ref lw, .ref lr, .ref dd, .ref vv, .ref tl, .ref sc, .int hk])), (sc, .inl (cI, 32, .inl fsc))] (fun r : Int32 => True) := by
  refine MRk.of (by decide) (Nat.le_of_ble_eq_true rfl) ?_
  intro p e s m below meth c Q ls X hN hKO hP hK hl ret
  have hS : va_S (fun _ => False) s.heap s.heap [] := va_S.rf
  obtain ⟨hx, hb, hml, hown, htb⟩ := id X
  have hl : lv_has ls 4 [(0, .ref h0), (1, .int (nI sq))] := hl
  refine lv_iconst (v := 0) hx hb dX9_placeOfMost_0 (by decide) ?_
  refine lv_istore_n (lv' := [(2, .int 0), (0, .ref h0), (1, .int (nI sq))]) hx hb dX9_placeOfMost_1 rfl hl (by decide) rfl (fun ls hl => ?_)
  refine lv_iconst (v := 1) hx hb dX9_placeOfMost_2 (by decide) ?_
  refine lv_istore_n (lv' := [(3, .int 1), (2, .int 0), (0, .ref h0), (1, .int (nI sq))]) hx hb dX9_placeOfMost_3 rfl hl (by decide) rfl (fun ls hl => ?_)
  have loop_4 : ∀ (n i : Nat) (be : Nat), n + i = sq → (be < 5) → (1 ≤ i) → ∀ (ls : Array Slot), lv_has ls 4 [(0, .ref h0), (1, .int (nI sq)), (2, .int (nI be)), (3, .int (nI i))] → W p l e (rm 2 47) s m ([.ref h0, .int (nI sq)] : List Value).toArray below meth c s.heap [] 0 0 Q (F0 m 4 ls []) := by
    intro n
    induction n with
    | zero =>
      intro i be hni hbe hi1 ls hl
      have hni_4 := hni
      have hi : i = sq := by omega
      refine lv_iload_n hx hb dX9_placeOfMost_4 rfl (lv_at hl 3 rfl) ?_
      refine lv_iload_n hx hb dX9_placeOfMost_5 rfl (lv_at hl 1 rfl) ?_
      refine lv_icmp_ge (tgt := 32) hx hb dX9_placeOfMost_6 (by decide) (fun _ => ?_) (fun c_6 => absurd (by rw [hi]; exact nI_le (Nat.le_refl _) (by omega)) c_6)
      refine lv_iload_n hx hb dX9_placeOfMost_32 rfl (lv_at hl 2 rfl) ?_
      exact ret _ _ (nI be) dX9_placeOfMost_33 rfl trivial
    | succ n ih_4 =>
      intro i be hni hbe hi1 ls hl
      have hni_4 := hni
      have hi : i < sq := by omega
      refine lv_iload_n hx hb dX9_placeOfMost_4 rfl (lv_at hl 3 rfl) ?_
      refine lv_iload_n hx hb dX9_placeOfMost_5 rfl (lv_at hl 1 rfl) ?_
      refine lv_icmp_ge (tgt := 32) hx hb dX9_placeOfMost_6 (by decide) (fun c_6 => absurd c_6 (nI_ge hi (by omega))) (fun _ => ?_)
      refine lv_aload_n hx hb dX9_placeOfMost_9 rfl (lv_at hl 0 rfl) ?_
      refine lv_iload_n hx hb dX9_placeOfMost_10 rfl (lv_at hl 3 rfl) ?_
      refine lv_iload_n hx hb dX9_placeOfMost_11 rfl (lv_at hl 1 rfl) ?_
      refine cVRk (As := [.int (nI i), .int (nI sq)]) (rest := []) (n := 2) (ci := 9) (q0 := 0) X hN hKO hS hK hP (c_X9_sumOfOrders l D cI cB kk h0 tp tw nw kp lw lr dd vv tl sc hk fsc i sq (by omega) hsq1 hsq5) (gV k_938 k_940 k_24 k_92 k_941) (by decide +kernel) ⟨Nat.le_of_ble_eq_true rfl, Nat.le_of_ble_eq_true rfl⟩ ⟨rfl, rfl⟩ [0, 1] rfl rfl rfl rfl rfl rfl hl.1 (Nat.le_of_ble_eq_true rfl) dX9_placeOfMost_12 ⟨Nat.le_of_ble_eq_true rfl, Nat.le_of_ble_eq_true rfl⟩ (fun r_1 hr_1 => ?_)
      refine lv_aload_n hx hb dX9_placeOfMost_15 rfl (lv_at hl 0 rfl) ?_
      refine lv_iload_n hx hb dX9_placeOfMost_16 rfl (lv_at hl 2 rfl) ?_
      refine lv_iload_n hx hb dX9_placeOfMost_17 rfl (lv_at hl 1 rfl) ?_
      refine cVRk (As := [.int (nI be), .int (nI sq)]) (rest := [.int r_1]) (n := 2) (ci := 9) (q0 := 0) X hN hKO hS hK hP (c_X9_sumOfOrders l D cI cB kk h0 tp tw nw kp lw lr dd vv tl sc hk fsc be sq hbe hsq1 hsq5) (gV k_938 k_940 k_24 k_92 k_941) (by decide +kernel) ⟨Nat.le_of_ble_eq_true rfl, Nat.le_of_ble_eq_true rfl⟩ ⟨rfl, rfl⟩ [0, 1] rfl rfl rfl rfl rfl rfl hl.1 (Nat.le_of_ble_eq_true rfl) dX9_placeOfMost_18 ⟨Nat.le_of_ble_eq_true rfl, Nat.le_of_ble_eq_true rfl⟩ (fun r_2 hr_2 => ?_)
      refine lv_icmp_le (tgt := 26) hx hb dX9_placeOfMost_21 (by decide) (fun c_21 => ?_) (fun c_21 => ?_)
      · refine lv_iinc (v := (nI (i + 1))) (lv' := [(3, .int (nI (i + 1))), (0, .ref h0), (1, .int (nI sq)), (2, .int (nI be))]) hx hb dX9_placeOfMost_26 hl (k := 3) rfl (nI_1 i) (by decide) rfl (fun ls hl => ?_)
        refine lv_goto (tgt := 4) hx hb dX9_placeOfMost_29 (by decide) ?_
        exact ih_4 (i + 1) be (by omega) hbe (by omega) _ (lv_sub hl [1, 2, 3, 0] rfl)
      · refine lv_iload_n hx hb dX9_placeOfMost_24 rfl (lv_at hl 3 rfl) ?_
        refine lv_istore_n (lv' := [(2, .int (nI i)), (0, .ref h0), (1, .int (nI sq)), (3, .int (nI i))]) hx hb dX9_placeOfMost_25 rfl hl (by decide) rfl (fun ls hl => ?_)
        refine lv_iinc (v := (nI (i + 1))) (lv' := [(3, .int (nI (i + 1))), (2, .int (nI i)), (0, .ref h0), (1, .int (nI sq))]) hx hb dX9_placeOfMost_26 hl (k := 3) rfl (nI_1 i) (by decide) rfl (fun ls hl => ?_)
        refine lv_goto (tgt := 4) hx hb dX9_placeOfMost_29 (by decide) ?_
        exact ih_4 (i + 1) i (by omega) (by omega) (by omega) _ (lv_sub hl [2, 3, 1, 0] rfl)
  exact loop_4 (sq - 1) 1 0 (by omega) (by decide) (by decide) _ (lv_sub hl [2, 3, 1, 0] rfl)

set_option maxRecDepth 100000 in
set_option maxHeartbeats 4000000 in
theorem c_X9_share (l : Launch) (D : va_G) (cI cB : ClassId) (sz : Nat) (kk : KT) (h0 : Nat) (tp : Nat) (tw : Nat) (nw : Nat) (kp : Nat) (lw : Nat) (lr : Nat) (dd : Nat) (vv : Nat) (tl : Nat) (sc : Nat) (hk : Int32) (pe : Int32) (ch : Int32) (rt : Int32) (t1 : Nat) (t2 : Nat) (t3 : Nat) (t4 : Nat) (ft1 : Nat → Int32) (ft2 : Nat → Int32) (ft3 : Nat → Int32) (ft4 : Nat → Int32) (u2 : Nat) (f2 : Nat) (g2 : Nat) (ms2 : Int32) (dy2 : Int32) (dr2 : Int32) (fu2 : Nat → Int32) (ff2 : Nat → Int32) (fg2 : Nat → Int32) (l1 : Nat) (l2 : Nat) (l3 : Nat) (l4 : Nat) (l5 : Nat) (l6 : Nat) (l7 : Nat) (lz : Int32) (lc : Int32) (q1 : Nat → Int32) (q2 : Nat → Int32) (q3 : Nat → Int32) (q4 : Nat → Int32) (q5 : Nat → Int32) (q6 : Nat → Int32) (q7 : Nat → Int32) (st : Nat) (m1 : Nat) (c1 : Nat) (d1 : Nat) (idl : Int32) (idf : Int32) (idt : Int32) (fc : Int32) (fp : Int32) (mb : Int32) (ra : Int32) (cl : Int32) (u1 : Nat) (f1 : Nat) (g1 : Nat) (ms : Int32) (dy : Int32) (dr : Int32) (fu : Nat → Int32) (ff : Nat → Int32) (fg : Nat → Int32) (fm : Nat → Int32) (fc1 : Nat → Int32) (fd : Nat → Int32) (fsc : Nat → Int32) (x1 : Int32) (x2 : Int32) (x3 : Int32) (x4 : Int32) (hpe : PEK pe) : MIk (S := ((Nat → Int32) × (Nat → Int32) × (Int32) × (Int32) × (Int32) × (Int32) × (Int32) × (Int32) × (Int32) × (Int32) × (Int32) × (Int32) × (Int32) × (Nat → Int32) × (Nat → Int32) × (Nat → Int32) × (Nat → Int32) × (Nat → Int32) × (Nat → Int32) × (Nat → Int32))) l D cI cB kk yX9_share cX9_share 10 .int (rm 7 169) [.ref h0, .int x1, .int x2, .int x3, .int x4] [(h0, .inr (9, [.ref tp, .ref tw, .ref nw, .ref kp, .ref lw, .ref lr, .ref dd, .ref vv, .ref tl, .ref sc, .int hk])), (tw, .inr (7, [.int pe, .int ch, .int rt, .ref t1, .ref t2, .ref t3, .ref t4])), (t1, .inl (cI, 10, .inl ft1)), (t2, .inl (cI, 12, .inl ft2)), (t3, .inl (cI, 120, .inl ft3)), (t4, .inl (cI, 12, .inl ft4)), (nw, .inr (4, [.ref u2, .ref f2, .ref g2, .int ms2, .int dy2, .int dr2])), (u2, .inl (cI, 12, .inl fu2)), (f2, .inl (cI, 10, .inl ff2)), (g2, .inl (cI, 10, .inl fg2)), (lw, .inr (1, [.ref l1, .ref l2, .ref l3, .ref l4, .ref l5, .ref l6, .ref l7, .int lz, .int lc])), (l1, .inl (cI, 240, .inl q1)), (l2, .inl (cI, 16, .inl q2)), (l3, .inl (cI, 16, .inl q3)), (l4, .inl (cI, 16, .inl q4)), (l5, .inl (cI, 16, .inl q5)), (l6, .inl (cI, 8, .inl q6)), (l7, .inl (cI, 32, .inl q7)), (tl, .inr (8, [.ref tw, .ref lw, .ref st, .ref m1, .ref c1, .ref d1, .int idl, .int idf, .int idt, .int fc, .int fp, .int mb, .int ra, .int cl])), (st, .inr (4, [.ref u1, .ref f1, .ref g1, .int ms, .int dy, .int dr])), (u1, .inl (cI, 12, .inl fu)), (f1, .inl (cI, 10, .inl ff)), (g1, .inl (cI, 10, .inl fg)), (m1, .inl (cI, 10, .inl fm)), (c1, .inl (cI, 10, .inl fc1)), (d1, .inl (cI, 10, .inl fd)), (sc, .inl (cI, 32, .inl fsc))] sz (fun r u => True) (fun u : ((Nat → Int32) × (Nat → Int32) × (Int32) × (Int32) × (Int32) × (Int32) × (Int32) × (Int32) × (Int32) × (Int32) × (Int32) × (Int32) × (Int32) × (Nat → Int32) × (Nat → Int32) × (Nat → Int32) × (Nat → Int32) × (Nat → Int32) × (Nat → Int32) × (Nat → Int32)) => [(h0, .inr (9, [.ref tp, .ref tw, .ref nw, .ref kp, .ref lw, .ref lr, .ref dd, .ref vv, .ref tl, .ref sc, .int hk])), (tw, .inr (7, [.int pe, .int ch, .int rt, .ref t1, .ref t2, .ref t3, .ref t4])), (t1, .inl (cI, 10, .inl ft1)), (t2, .inl (cI, 12, .inl ft2)), (t3, .inl (cI, 120, .inl ft3)), (t4, .inl (cI, 12, .inl ft4)), (nw, .inr (4, [.ref u2, .ref f2, .ref g2, .int ms2, .int dy2, .int dr2])), (u2, .inl (cI, 12, .inl fu2)), (f2, .inl (cI, 10, .inl ff2)), (g2, .inl (cI, 10, .inl fg2)), (lw, .inr (1, [.ref l1, .ref l2, .ref l3, .ref l4, .ref l5, .ref l6, .ref l7, .int lz, .int lc])), (l1, .inl (cI, 240, .inl q1)), (l2, .inl (cI, 16, .inl q2)), (l3, .inl (cI, 16, .inl q3)), (l4, .inl (cI, 16, .inl q4)), (l5, .inl (cI, 16, .inl q5)), (l6, .inl (cI, 8, .inl u.1)), (l7, .inl (cI, 32, .inl u.2.1)), (tl, .inr (8, [.ref tw, .ref lw, .ref st, .ref m1, .ref c1, .ref d1, .int u.2.2.1, .int u.2.2.2.1, .int u.2.2.2.2.1, .int u.2.2.2.2.2.1, .int u.2.2.2.2.2.2.1, .int u.2.2.2.2.2.2.2.1, .int u.2.2.2.2.2.2.2.2.1, .int u.2.2.2.2.2.2.2.2.2.1])), (st, .inr (4, [.ref u1, .ref f1, .ref g1, .int u.2.2.2.2.2.2.2.2.2.2.1, .int u.2.2.2.2.2.2.2.2.2.2.2.1, .int u.2.2.2.2.2.2.2.2.2.2.2.2.1])), (u1, .inl (cI, 12, .inl u.2.2.2.2.2.2.2.2.2.2.2.2.2.1)), (f1, .inl (cI, 10, .inl u.2.2.2.2.2.2.2.2.2.2.2.2.2.2.1)), (g1, .inl (cI, 10, .inl u.2.2.2.2.2.2.2.2.2.2.2.2.2.2.2.1)), (m1, .inl (cI, 10, .inl u.2.2.2.2.2.2.2.2.2.2.2.2.2.2.2.2.1)), (c1, .inl (cI, 10, .inl u.2.2.2.2.2.2.2.2.2.2.2.2.2.2.2.2.2.1)), (d1, .inl (cI, 10, .inl u.2.2.2.2.2.2.2.2.2.2.2.2.2.2.2.2.2.2.1)), (sc, .inl (cI, 32, .inl u.2.2.2.2.2.2.2.2.2.2.2.2.2.2.2.2.2.2.2))]) := by
  refine MIk.of (by decide) (Nat.le_of_ble_eq_true rfl) ?_
  intro p e s m below meth c Q ls A X hin hN hKO hP hK hD hA hl ret
  have hS : va_S A s.heap s.heap [] := va_S.rf
  obtain ⟨hx, hb, hml, hown, htb⟩ := id X
  have hl : lv_has ls 10 [(0, .ref h0), (1, .int x1), (2, .int x2), (3, .int x3), (4, .int x4)] := hl
  refine lv_iload_n hx hb dX9_share_0 rfl (lv_at hl 1 rfl) ?_
  refine cSR (As := [.int x1]) (rest := []) (n := 1) X hN hK hP (c_bitCountF l D cI cB x1) k_754 k_755 k_111 k_756 (by decide +kernel) ⟨Nat.le_of_ble_eq_true rfl, Nat.le_of_ble_eq_true rfl⟩ ⟨rfl, rfl⟩ [] rfl rfl rfl hl.1 (Nat.le_of_ble_eq_true rfl) dX9_share_1 ⟨Nat.le_of_ble_eq_true rfl, Nat.le_of_ble_eq_true rfl⟩ (fun r_1 hr_1 => ?_)
  subst hr_1
  refine lv_topi (fun x_2 ex_2 => ?_)
  refine lv_istore (lv' := [(5, .int x_2), (0, .ref h0), (1, .int x1), (2, .int x2), (3, .int x3), (4, .int x4)]) hx hb dX9_share_4 hl (by decide) rfl (fun ls hl => ?_)
  refine lv_aload_n hx hb dX9_share_6 rfl (lv_at hl 1 rfl) ?_
  refine lv_iload_n hx hb dX9_share_7 rfl (lv_at hl 2 rfl) ?_
  refine cVR (As := [.int x1]) (rest := []) (n := 1) (ci := 9) (q0 := 0) X hN hK hP (c_areToldF l D cI cB h0 tp tw nw kp lw lr dd vv tl sc hk pe ch rt t1 t2 t3 t4 x1) (gV k_893 k_895 k_20 k_92 k_896) (by decide +kernel) ⟨Nat.le_of_ble_eq_true rfl, Nat.le_of_ble_eq_true rfl⟩ ⟨rfl, rfl⟩ [0, 1] rfl rfl rfl rfl rfl rfl hl.1 (Nat.le_of_ble_eq_true rfl) dX9_share_8 ⟨Nat.le_of_ble_eq_true rfl, Nat.le_of_ble_eq_true rfl⟩ (fun r_3 hr_3 => ?_)
  subst hr_3
  refine lv_if_eq (tgt := 42) hx hb dX9_share_11 (by decide) (fun c_11 => ?_) (fun c_11 => ?_)
  · refine lv_iconst (v := 0) hx hb dX9_share_42 (by decide) ?_
    refine lv_istore (lv' := [(6, .int 0), (5, .int x_2), (0, .ref h0), (1, .int x1), (2, .int x2), (3, .int x3), (4, .int x4)]) hx hb dX9_share_43 hl (by decide) rfl (fun ls hl => ?_)
    refine lv_iload_n hx hb dX9_share_45 rfl (lv_at hl 5 rfl) ?_
    refine cSR (As := [.int x3]) (rest := []) (n := 1) X hN hK hP (c_X9_isDayCount l D cI cB x3) k_770 k_771 k_92 k_772 (by decide +kernel) ⟨Nat.le_of_ble_eq_true rfl, Nat.le_of_ble_eq_true rfl⟩ ⟨rfl, rfl⟩ [] rfl rfl rfl hl.1 (Nat.le_of_ble_eq_true rfl) dX9_share_46 ⟨Nat.le_of_ble_eq_true rfl, Nat.le_of_ble_eq_true rfl⟩ (fun r_4 hr_4 => ?_)
    subst hr_4
    refine lv_if_eq (tgt := 67) hx hb dX9_share_49 (by decide) (fun c_49 => ?_) (fun c_49 => ?_)
    · refine lv_ldc (v := (-1000000000)) hx hb hown (htb _ k_918) dX9_share_67 ?_
      exact ret _ _ _ _ (-1000000000) (q6, q7, idl, idf, idt, fc, fp, mb, ra, cl, ms, dy, dr, fu, ff, fg, fm, fc1, fd, fsc) dX9_share_69 rfl trivial (hP.sub [0, 1, 2, 3, 4, 5, 6, 7, 8, 9, 10, 11, 12, 13, 14, 15, 16, 17, 18, 19, 20, 21, 22, 23, 24, 25, 26] rfl) (hD.sub [0, 1, 2, 3, 4, 5, 6, 7, 8, 9, 10, 11, 12, 13, 14, 15, 16, 17, 18, 19, 20, 21, 22, 23, 24, 25, 26] (by decide) rfl) hS
    · refine lv_iload hx hb dX9_share_52 (lv_at hl 0 rfl) ?_
      refine lv_if_eq (tgt := 67) hx hb dX9_share_54 (by decide) (fun _ => ?_) (fun c_54 => absurd (by decide) c_54)
      refine lv_ldc (v := (-1000000000)) hx hb hown (htb _ k_918) dX9_share_67 ?_
      exact ret _ _ _ _ (-1000000000) (q6, q7, idl, idf, idt, fc, fp, mb, ra, cl, ms, dy, dr, fu, ff, fg, fm, fc1, fd, fsc) dX9_share_69 rfl trivial (hP.sub [0, 1, 2, 3, 4, 5, 6, 7, 8, 9, 10, 11, 12, 13, 14, 15, 16, 17, 18, 19, 20, 21, 22, 23, 24, 25, 26] rfl) (hD.sub [0, 1, 2, 3, 4, 5, 6, 7, 8, 9, 10, 11, 12, 13, 14, 15, 16, 17, 18, 19, 20, 21, 22, 23, 24, 25, 26] (by decide) rfl) hS
  · refine lv_iload_n hx hb dX9_share_14 rfl (lv_at hl 2 rfl) ?_
    refine lv_aload_n hx hb dX9_share_15 rfl (lv_at hl 1 rfl) ?_
    refine va_get (D := D) (ci := 9) (v := .ref nw) (C := RX9) (T := TX9) (N := 11) hx hb htb itX9 hown hK hP 0 rfl rfl 2 (by decide) (htb _ k_395) (fun _ h9 => h9) rfl dX9_share_16 ?_
    refine cVR (As := []) (rest := [.int x1]) (n := 0) (ci := 4) (q0 := 0) X hN hK hP (c_X4_leaveBits l D cI cB nw u2 f2 g2 ms2 dy2 dr2 ff2) (gV k_746 k_747 k_748 k_95 k_749) (by decide +kernel) ⟨Nat.le_of_ble_eq_true rfl, Nat.le_of_ble_eq_true rfl⟩ ⟨rfl, rfl⟩ [6, 8] rfl rfl rfl rfl rfl rfl hl.1 (Nat.le_of_ble_eq_true rfl) dX9_share_19 ⟨Nat.le_of_ble_eq_true rfl, Nat.le_of_ble_eq_true rfl⟩ (fun r_5 hr_5 => ?_)
    refine lv_iconst (v := (-1)) hx hb dX9_share_22 (by decide) ?_
    refine lv_ixor hx hb dX9_share_23 ?_
    refine lv_iand hx hb dX9_share_24 ?_
    refine lv_if_ne (tgt := 42) hx hb dX9_share_25 (by decide) (fun c_25 => ?_) (fun c_25 => ?_)
    · refine lv_iconst (v := 0) hx hb dX9_share_42 (by decide) ?_
      refine lv_istore (lv' := [(6, .int 0), (5, .int x_2), (0, .ref h0), (1, .int x1), (2, .int x2), (3, .int x3), (4, .int x4)]) hx hb dX9_share_43 hl (by decide) rfl (fun ls hl => ?_)
      refine lv_iload_n hx hb dX9_share_45 rfl (lv_at hl 5 rfl) ?_
      refine cSR (As := [.int x3]) (rest := []) (n := 1) X hN hK hP (c_X9_isDayCount l D cI cB x3) k_770 k_771 k_92 k_772 (by decide +kernel) ⟨Nat.le_of_ble_eq_true rfl, Nat.le_of_ble_eq_true rfl⟩ ⟨rfl, rfl⟩ [] rfl rfl rfl hl.1 (Nat.le_of_ble_eq_true rfl) dX9_share_46 ⟨Nat.le_of_ble_eq_true rfl, Nat.le_of_ble_eq_true rfl⟩ (fun r_6 hr_6 => ?_)
      subst hr_6
      refine lv_if_eq (tgt := 67) hx hb dX9_share_49 (by decide) (fun c_49 => ?_) (fun c_49 => ?_)
      · refine lv_ldc (v := (-1000000000)) hx hb hown (htb _ k_918) dX9_share_67 ?_
        exact ret _ _ _ _ (-1000000000) (q6, q7, idl, idf, idt, fc, fp, mb, ra, cl, ms, dy, dr, fu, ff, fg, fm, fc1, fd, fsc) dX9_share_69 rfl trivial (hP.sub [0, 1, 2, 3, 4, 5, 6, 7, 8, 9, 10, 11, 12, 13, 14, 15, 16, 17, 18, 19, 20, 21, 22, 23, 24, 25, 26] rfl) (hD.sub [0, 1, 2, 3, 4, 5, 6, 7, 8, 9, 10, 11, 12, 13, 14, 15, 16, 17, 18, 19, 20, 21, 22, 23, 24, 25, 26] (by decide) rfl) hS
      · refine lv_iload hx hb dX9_share_52 (lv_at hl 0 rfl) ?_
        refine lv_if_eq (tgt := 67) hx hb dX9_share_54 (by decide) (fun _ => ?_) (fun c_54 => absurd (by decide) c_54)
        refine lv_ldc (v := (-1000000000)) hx hb hown (htb _ k_918) dX9_share_67 ?_
        exact ret _ _ _ _ (-1000000000) (q6, q7, idl, idf, idt, fc, fp, mb, ra, cl, ms, dy, dr, fu, ff, fg, fm, fc1, fd, fsc) dX9_share_69 rfl trivial (hP.sub [0, 1, 2, 3, 4, 5, 6, 7, 8, 9, 10, 11, 12, 13, 14, 15, 16, 17, 18, 19, 20, 21, 22, 23, 24, 25, 26] rfl) (hD.sub [0, 1, 2, 3, 4, 5, 6, 7, 8, 9, 10, 11, 12, 13, 14, 15, 16, 17, 18, 19, 20, 21, 22, 23, 24, 25, 26] (by decide) rfl) hS
    · refine lv_iload hx hb dX9_share_28 (lv_at hl 0 rfl) ?_
      refine lv_iconst (v := 1) hx hb dX9_share_30 (by decide) ?_
      refine lv_iconst (v := 5) hx hb dX9_share_31 (by decide) ?_
      refine cSR (As := [.int x_2, .int 1, .int 5]) (rest := []) (n := 3) X hN hK hP (c_X9_within l D cI cB x_2 1 5) k_431 k_432 k_92 k_433 (by decide +kernel) ⟨Nat.le_of_ble_eq_true rfl, Nat.le_of_ble_eq_true rfl⟩ ⟨rfl, rfl⟩ [] rfl rfl rfl hl.1 (Nat.le_of_ble_eq_true rfl) dX9_share_32 ⟨Nat.le_of_ble_eq_true rfl, Nat.le_of_ble_eq_true rfl⟩ (fun r_7 hr_7 => ?_)
      subst hr_7
      refine lv_if_eq (tgt := 42) hx hb dX9_share_35 (by decide) (fun c_35 => ?_) (fun c_35 => ?_)
      · refine lv_iconst (v := 0) hx hb dX9_share_42 (by decide) ?_
        refine lv_istore (lv' := [(6, .int 0), (5, .int x_2), (0, .ref h0), (1, .int x1), (2, .int x2), (3, .int x3), (4, .int x4)]) hx hb dX9_share_43 hl (by decide) rfl (fun ls hl => ?_)
        refine lv_iload_n hx hb dX9_share_45 rfl (lv_at hl 5 rfl) ?_
        refine cSR (As := [.int x3]) (rest := []) (n := 1) X hN hK hP (c_X9_isDayCount l D cI cB x3) k_770 k_771 k_92 k_772 (by decide +kernel) ⟨Nat.le_of_ble_eq_true rfl, Nat.le_of_ble_eq_true rfl⟩ ⟨rfl, rfl⟩ [] rfl rfl rfl hl.1 (Nat.le_of_ble_eq_true rfl) dX9_share_46 ⟨Nat.le_of_ble_eq_true rfl, Nat.le_of_ble_eq_true rfl⟩ (fun r_8 hr_8 => ?_)
        subst hr_8
        refine lv_if_eq (tgt := 67) hx hb dX9_share_49 (by decide) (fun c_49 => ?_) (fun c_49 => ?_)
        · refine lv_ldc (v := (-1000000000)) hx hb hown (htb _ k_918) dX9_share_67 ?_
          exact ret _ _ _ _ (-1000000000) (q6, q7, idl, idf, idt, fc, fp, mb, ra, cl, ms, dy, dr, fu, ff, fg, fm, fc1, fd, fsc) dX9_share_69 rfl trivial (hP.sub [0, 1, 2, 3, 4, 5, 6, 7, 8, 9, 10, 11, 12, 13, 14, 15, 16, 17, 18, 19, 20, 21, 22, 23, 24, 25, 26] rfl) (hD.sub [0, 1, 2, 3, 4, 5, 6, 7, 8, 9, 10, 11, 12, 13, 14, 15, 16, 17, 18, 19, 20, 21, 22, 23, 24, 25, 26] (by decide) rfl) hS
        · refine lv_iload hx hb dX9_share_52 (lv_at hl 0 rfl) ?_
          refine lv_if_eq (tgt := 67) hx hb dX9_share_54 (by decide) (fun _ => ?_) (fun c_54 => absurd (by decide) c_54)
          refine lv_ldc (v := (-1000000000)) hx hb hown (htb _ k_918) dX9_share_67 ?_
          exact ret _ _ _ _ (-1000000000) (q6, q7, idl, idf, idt, fc, fp, mb, ra, cl, ms, dy, dr, fu, ff, fg, fm, fc1, fd, fsc) dX9_share_69 rfl trivial (hP.sub [0, 1, 2, 3, 4, 5, 6, 7, 8, 9, 10, 11, 12, 13, 14, 15, 16, 17, 18, 19, 20, 21, 22, 23, 24, 25, 26] rfl) (hD.sub [0, 1, 2, 3, 4, 5, 6, 7, 8, 9, 10, 11, 12, 13, 14, 15, 16, 17, 18, 19, 20, 21, 22, 23, 24, 25, 26] (by decide) rfl) hS
      · refine lv_iconst (v := 1) hx hb dX9_share_38 (by decide) ?_
        refine lv_goto (tgt := 43) hx hb dX9_share_39 (by decide) ?_
        refine lv_istore (lv' := [(6, .int 1), (5, .int x_2), (0, .ref h0), (1, .int x1), (2, .int x2), (3, .int x3), (4, .int x4)]) hx hb dX9_share_43 hl (by decide) rfl (fun ls hl => ?_)
        refine lv_iload_n hx hb dX9_share_45 rfl (lv_at hl 5 rfl) ?_
        refine cSR (As := [.int x3]) (rest := []) (n := 1) X hN hK hP (c_X9_isDayCount l D cI cB x3) k_770 k_771 k_92 k_772 (by decide +kernel) ⟨Nat.le_of_ble_eq_true rfl, Nat.le_of_ble_eq_true rfl⟩ ⟨rfl, rfl⟩ [] rfl rfl rfl hl.1 (Nat.le_of_ble_eq_true rfl) dX9_share_46 ⟨Nat.le_of_ble_eq_true rfl, Nat.le_of_ble_eq_true rfl⟩ (fun r_9 hr_9 => ?_)
        subst hr_9
        refine lv_if_eq (tgt := 67) hx hb dX9_share_49 (by decide) (fun c_49 => ?_) (fun c_49 => ?_)
        · refine lv_ldc (v := (-1000000000)) hx hb hown (htb _ k_918) dX9_share_67 ?_
          exact ret _ _ _ _ (-1000000000) (q6, q7, idl, idf, idt, fc, fp, mb, ra, cl, ms, dy, dr, fu, ff, fg, fm, fc1, fd, fsc) dX9_share_69 rfl trivial (hP.sub [0, 1, 2, 3, 4, 5, 6, 7, 8, 9, 10, 11, 12, 13, 14, 15, 16, 17, 18, 19, 20, 21, 22, 23, 24, 25, 26] rfl) (hD.sub [0, 1, 2, 3, 4, 5, 6, 7, 8, 9, 10, 11, 12, 13, 14, 15, 16, 17, 18, 19, 20, 21, 22, 23, 24, 25, 26] (by decide) rfl) hS
        · refine lv_iload hx hb dX9_share_52 (lv_at hl 0 rfl) ?_
          refine lv_if_eq (tgt := 67) hx hb dX9_share_54 (by decide) (fun c_54 => absurd c_54 (by decide)) (fun _ => ?_)
          refine lv_iload hx hb dX9_share_57 (lv_at hl 6 rfl) ?_
          refine lv_iconst (v := 0) hx hb dX9_share_59 (by decide) ?_
          refine lv_iconst (v := 2) hx hb dX9_share_60 (by decide) ?_
          refine cSR (As := [.int x4, .int 0, .int 2]) (rest := []) (n := 3) X hN hK hP (c_X9_within l D cI cB x4 0 2) k_431 k_432 k_92 k_433 (by decide +kernel) ⟨Nat.le_of_ble_eq_true rfl, Nat.le_of_ble_eq_true rfl⟩ ⟨rfl, rfl⟩ [] rfl rfl rfl hl.1 (Nat.le_of_ble_eq_true rfl) dX9_share_61 ⟨Nat.le_of_ble_eq_true rfl, Nat.le_of_ble_eq_true rfl⟩ (fun r_10 hr_10 => ?_)
          subst hr_10
          refine lv_if_ne (tgt := 70) hx hb dX9_share_64 (by decide) (fun c_64 => ?_) (fun c_64 => ?_)
          · refine lv_iload hx hb dX9_share_70 (lv_at hl 6 rfl) ?_
            refine lv_iconst (v := 2) hx hb dX9_share_72 (by decide) ?_
            refine lv_icmp_eq (tgt := 87) hx hb dX9_share_73 (by decide) (fun c_73 => ?_) (fun c_73 => ?_)
            · have hpk := subP hpe (bIt c_11)
              obtain ⟨sq, esq⟩ : ∃ z : Nat, z = bS x1 10 := ⟨_, rfl⟩
              have esz : x_2 = nI sq := by rw [ex_2, esq]; exact bcP hpk
              have h35 := bIt c_35
              rw [esz] at h35
              have hb10 := bS_b x1 10
              have hsq1 : 1 ≤ sq := (nI_leI (by decide) (by omega)).mp h35.1
              have hsq5 : sq ≤ 5 := (nI_leI (by omega) (by decide)).mp h35.2
              have hl : lv_has ls 10 [(6, .int 1), (5, .int (nI sq)), (0, .ref h0), (1, .int x1), (2, .int x2), (3, .int x3), (4, .int x4)] := by rw [← esz]; exact hl
              refine lv_iconst (v := 0) hx hb dX9_share_87 (by decide) ?_
              refine lv_istore (lv' := [(7, .int 0), (6, .int 1), (5, .int (nI sq)), (0, .ref h0), (1, .int x1), (2, .int x2), (3, .int x3), (4, .int x4)]) hx hb dX9_share_88 hl (by decide) rfl (fun ls hl => ?_)
              have loop_90 : ∀ (n i : Nat) (z1_0 : Nat → Int32) (z1_1 : Nat → Int32) (z1_2 : Nat → Int32) (z1_3 : Nat → Int32) (z1_4 : Nat → Int32) (z1_5 : Nat → Int32) (z1_6 : Nat → Int32) (z1_7 : Nat → Int32) (z1_8 : Int32) (z1_9 : Int32) (z1_10 : Int32) (z1_11 : Int32) (z1_12 : Int32) (z1_13 : Int32) (z1_14 : Int32) (z1_15 : Int32) (z1_16 : Int32) (z1_17 : Int32) (z1_18 : Int32) (z1_19 : Nat → Int32), n + i = 32 → ∀ (H : Heap) (locs : List Loc), va_P D vwCl [(h0, .inr (9, [.ref tp, .ref tw, .ref nw, .ref kp, .ref lw, .ref lr, .ref dd, .ref vv, .ref tl, .ref sc, .int hk])), (tw, .inr (7, [.int pe, .int ch, .int rt, .ref t1, .ref t2, .ref t3, .ref t4])), (t1, .inl (cI, 10, .inl ft1)), (t2, .inl (cI, 12, .inl ft2)), (t3, .inl (cI, 120, .inl ft3)), (t4, .inl (cI, 12, .inl ft4)), (nw, .inr (4, [.ref u2, .ref f2, .ref g2, .int ms2, .int dy2, .int dr2])), (u2, .inl (cI, 12, .inl fu2)), (f2, .inl (cI, 10, .inl ff2)), (g2, .inl (cI, 10, .inl fg2)), (lw, .inr (1, [.ref l1, .ref l2, .ref l3, .ref l4, .ref l5, .ref l6, .ref l7, .int lz, .int lc])), (l1, .inl (cI, 240, .inl q1)), (l2, .inl (cI, 16, .inl q2)), (l3, .inl (cI, 16, .inl q3)), (l4, .inl (cI, 16, .inl q4)), (l5, .inl (cI, 16, .inl q5)), (l6, .inl (cI, 8, .inl z1_0)), (l7, .inl (cI, 32, .inl z1_1)), (tl, .inr (8, [.ref tw, .ref lw, .ref st, .ref m1, .ref c1, .ref d1, .int z1_11, .int z1_12, .int z1_13, .int z1_14, .int z1_15, .int z1_16, .int z1_17, .int z1_18])), (st, .inr (4, [.ref u1, .ref f1, .ref g1, .int z1_8, .int z1_9, .int z1_10])), (u1, .inl (cI, 12, .inl z1_2)), (f1, .inl (cI, 10, .inl z1_3)), (g1, .inl (cI, 10, .inl z1_4)), (m1, .inl (cI, 10, .inl z1_5)), (c1, .inl (cI, 10, .inl z1_6)), (d1, .inl (cI, 10, .inl z1_7)), (sc, .inl (cI, 32, .inl z1_19))] H → va_D A [(h0, .inr (9, [.ref tp, .ref tw, .ref nw, .ref kp, .ref lw, .ref lr, .ref dd, .ref vv, .ref tl, .ref sc, .int hk])), (tw, .inr (7, [.int pe, .int ch, .int rt, .ref t1, .ref t2, .ref t3, .ref t4])), (t1, .inl (cI, 10, .inl ft1)), (t2, .inl (cI, 12, .inl ft2)), (t3, .inl (cI, 120, .inl ft3)), (t4, .inl (cI, 12, .inl ft4)), (nw, .inr (4, [.ref u2, .ref f2, .ref g2, .int ms2, .int dy2, .int dr2])), (u2, .inl (cI, 12, .inl fu2)), (f2, .inl (cI, 10, .inl ff2)), (g2, .inl (cI, 10, .inl fg2)), (lw, .inr (1, [.ref l1, .ref l2, .ref l3, .ref l4, .ref l5, .ref l6, .ref l7, .int lz, .int lc])), (l1, .inl (cI, 240, .inl q1)), (l2, .inl (cI, 16, .inl q2)), (l3, .inl (cI, 16, .inl q3)), (l4, .inl (cI, 16, .inl q4)), (l5, .inl (cI, 16, .inl q5)), (l6, .inl (cI, 8, .inl z1_0)), (l7, .inl (cI, 32, .inl z1_1)), (tl, .inr (8, [.ref tw, .ref lw, .ref st, .ref m1, .ref c1, .ref d1, .int z1_11, .int z1_12, .int z1_13, .int z1_14, .int z1_15, .int z1_16, .int z1_17, .int z1_18])), (st, .inr (4, [.ref u1, .ref f1, .ref g1, .int z1_8, .int z1_9, .int z1_10])), (u1, .inl (cI, 12, .inl z1_2)), (f1, .inl (cI, 10, .inl z1_3)), (g1, .inl (cI, 10, .inl z1_4)), (m1, .inl (cI, 10, .inl z1_5)), (c1, .inl (cI, 10, .inl z1_6)), (d1, .inl (cI, 10, .inl z1_7)), (sc, .inl (cI, 32, .inl z1_19))] → va_S A s.heap H locs → ∀ (ls : Array Slot), lv_has ls 10 [(0, .ref h0), (1, .int x1), (2, .int x2), (3, .int x3), (4, .int x4), (5, .int (nI sq)), (7, .int (nI i))] → W p l e (rm 7 169) s m ([.ref h0, .int x1, .int x2, .int x3, .int x4] : List Value).toArray below meth c H locs 0 0 Q (F0 m 90 ls []) := by
                intro n
                induction n with
                | zero =>
                  intro i z1_0 z1_1 z1_2 z1_3 z1_4 z1_5 z1_6 z1_7 z1_8 z1_9 z1_10 z1_11 z1_12 z1_13 z1_14 z1_15 z1_16 z1_17 z1_18 z1_19 hni H locs hP hD hS ls hl
                  have hni_90 := hni
                  have hi : i = 32 := by omega
                  refine lv_iload hx hb dX9_share_90 (lv_at hl 6 rfl) ?_
                  refine lv_iconst (v := 1) hx hb dX9_share_92 (by decide) ?_
                  refine lv_iload hx hb dX9_share_93 (lv_at hl 5 rfl) ?_
                  refine lv_ishl hx hb dX9_share_95 ?_
                  refine lv_icmp_ge (tgt := 136) hx hb dX9_share_96 (by decide) (fun c_96 => ?_) (fun c_96 => ?_)
                  · refine lv_iload hx hb dX9_share_136 (lv_at hl 4 rfl) ?_
                    refine lv_iconst (v := 2) hx hb dX9_share_138 (by decide) ?_
                    refine lv_icmp_ne (tgt := 153) hx hb dX9_share_139 (by decide) (fun c_139 => absurd (c_73) c_139) (fun _ => ?_)
                    refine lv_iload_n hx hb dX9_share_142 rfl (lv_at hl 1 rfl) ?_
                    refine lv_aload_n hx hb dX9_share_143 rfl (lv_at hl 0 rfl) ?_
                    refine lv_iload hx hb dX9_share_144 (lv_at hl 5 rfl) ?_
                    refine cVRk (As := [.int (nI sq)]) (rest := [.int x1]) (n := 1) (ci := 9) (q0 := 0) X hN hKO hS hK hP (c_X9_placeOfMost l D cI cB kk h0 tp tw nw kp lw lr dd vv tl sc hk z1_19 sq hsq1 hsq5) (gV k_934 k_936 k_23 k_92 k_937) (by decide +kernel) ⟨Nat.le_of_ble_eq_true rfl, Nat.le_of_ble_eq_true rfl⟩ ⟨rfl, rfl⟩ [0, 26] rfl rfl rfl rfl rfl rfl hl.1 (Nat.le_of_ble_eq_true rfl) dX9_share_146 ⟨Nat.le_of_ble_eq_true rfl, Nat.le_of_ble_eq_true rfl⟩ (fun r_11 hr_11 => ?_)
                    refine cSR (As := [.int x1, .int r_11]) (rest := []) (n := 2) X hN hK hP (c_X9_memberAt l D cI cB x1 r_11) k_931 k_932 k_92 k_933 (by decide +kernel) ⟨Nat.le_of_ble_eq_true rfl, Nat.le_of_ble_eq_true rfl⟩ ⟨rfl, rfl⟩ [] rfl rfl rfl hl.1 (Nat.le_of_ble_eq_true rfl) dX9_share_149 ⟨Nat.le_of_ble_eq_true rfl, Nat.le_of_ble_eq_true rfl⟩ (fun r_12 hr_12 => ?_)
                    exact ret _ _ _ _ r_12 (z1_0, z1_1, z1_11, z1_12, z1_13, z1_14, z1_15, z1_16, z1_17, z1_18, z1_8, z1_9, z1_10, z1_2, z1_3, z1_4, z1_5, z1_6, z1_7, z1_19) dX9_share_152 rfl trivial (hP.sub [0, 1, 2, 3, 4, 5, 6, 7, 8, 9, 10, 11, 12, 13, 14, 15, 16, 17, 18, 19, 20, 21, 22, 23, 24, 25, 26] rfl) (hD.sub [0, 1, 2, 3, 4, 5, 6, 7, 8, 9, 10, 11, 12, 13, 14, 15, 16, 17, 18, 19, 20, 21, 22, 23, 24, 25, 26] (by decide) rfl) hS
                  · refine lv_iload hx hb dX9_share_99 (lv_at hl 6 rfl) ?_
                    refine lv_aload_n hx hb dX9_share_101 rfl (lv_at hl 0 rfl) ?_
                    refine va_get (D := D) (ci := 9) (v := .ref sc) (C := RX9) (T := TX9) (N := 11) hx hb htb itX9 hown hK hP 0 rfl rfl 9 (by decide) (htb _ k_402) (fun _ h9 => h9) rfl dX9_share_102 ?_
                    refine va_alen hx hb hK hP 26 0 rfl rfl (v := 32) rfl dX9_share_105 ?_
                    refine lv_icmp_ge (tgt := 136) hx hb dX9_share_106 (by decide) (fun _ => ?_) (fun c_106 => absurd (by rw [hi]; decide) c_106)
                    refine lv_iload hx hb dX9_share_136 (lv_at hl 4 rfl) ?_
                    refine lv_iconst (v := 2) hx hb dX9_share_138 (by decide) ?_
                    refine lv_icmp_ne (tgt := 153) hx hb dX9_share_139 (by decide) (fun c_139 => absurd (c_73) c_139) (fun _ => ?_)
                    refine lv_iload_n hx hb dX9_share_142 rfl (lv_at hl 1 rfl) ?_
                    refine lv_aload_n hx hb dX9_share_143 rfl (lv_at hl 0 rfl) ?_
                    refine lv_iload hx hb dX9_share_144 (lv_at hl 5 rfl) ?_
                    refine cVRk (As := [.int (nI sq)]) (rest := [.int x1]) (n := 1) (ci := 9) (q0 := 0) X hN hKO hS hK hP (c_X9_placeOfMost l D cI cB kk h0 tp tw nw kp lw lr dd vv tl sc hk z1_19 sq hsq1 hsq5) (gV k_934 k_936 k_23 k_92 k_937) (by decide +kernel) ⟨Nat.le_of_ble_eq_true rfl, Nat.le_of_ble_eq_true rfl⟩ ⟨rfl, rfl⟩ [0, 26] rfl rfl rfl rfl rfl rfl hl.1 (Nat.le_of_ble_eq_true rfl) dX9_share_146 ⟨Nat.le_of_ble_eq_true rfl, Nat.le_of_ble_eq_true rfl⟩ (fun r_13 hr_13 => ?_)
                    refine cSR (As := [.int x1, .int r_13]) (rest := []) (n := 2) X hN hK hP (c_X9_memberAt l D cI cB x1 r_13) k_931 k_932 k_92 k_933 (by decide +kernel) ⟨Nat.le_of_ble_eq_true rfl, Nat.le_of_ble_eq_true rfl⟩ ⟨rfl, rfl⟩ [] rfl rfl rfl hl.1 (Nat.le_of_ble_eq_true rfl) dX9_share_149 ⟨Nat.le_of_ble_eq_true rfl, Nat.le_of_ble_eq_true rfl⟩ (fun r_14 hr_14 => ?_)
                    exact ret _ _ _ _ r_14 (z1_0, z1_1, z1_11, z1_12, z1_13, z1_14, z1_15, z1_16, z1_17, z1_18, z1_8, z1_9, z1_10, z1_2, z1_3, z1_4, z1_5, z1_6, z1_7, z1_19) dX9_share_152 rfl trivial (hP.sub [0, 1, 2, 3, 4, 5, 6, 7, 8, 9, 10, 11, 12, 13, 14, 15, 16, 17, 18, 19, 20, 21, 22, 23, 24, 25, 26] rfl) (hD.sub [0, 1, 2, 3, 4, 5, 6, 7, 8, 9, 10, 11, 12, 13, 14, 15, 16, 17, 18, 19, 20, 21, 22, 23, 24, 25, 26] (by decide) rfl) hS
                | succ n ih_90 =>
                  intro i z1_0 z1_1 z1_2 z1_3 z1_4 z1_5 z1_6 z1_7 z1_8 z1_9 z1_10 z1_11 z1_12 z1_13 z1_14 z1_15 z1_16 z1_17 z1_18 z1_19 hni H locs hP hD hS ls hl
                  have hni_90 := hni
                  have hi : i < 32 := by omega
                  refine lv_iload hx hb dX9_share_90 (lv_at hl 6 rfl) ?_
                  refine lv_iconst (v := 1) hx hb dX9_share_92 (by decide) ?_
                  refine lv_iload hx hb dX9_share_93 (lv_at hl 5 rfl) ?_
                  refine lv_ishl hx hb dX9_share_95 ?_
                  refine lv_icmp_ge (tgt := 136) hx hb dX9_share_96 (by decide) (fun c_96 => ?_) (fun c_96 => ?_)
                  · refine lv_iload hx hb dX9_share_136 (lv_at hl 4 rfl) ?_
                    refine lv_iconst (v := 2) hx hb dX9_share_138 (by decide) ?_
                    refine lv_icmp_ne (tgt := 153) hx hb dX9_share_139 (by decide) (fun c_139 => absurd (c_73) c_139) (fun _ => ?_)
                    refine lv_iload_n hx hb dX9_share_142 rfl (lv_at hl 1 rfl) ?_
                    refine lv_aload_n hx hb dX9_share_143 rfl (lv_at hl 0 rfl) ?_
                    refine lv_iload hx hb dX9_share_144 (lv_at hl 5 rfl) ?_
                    refine cVRk (As := [.int (nI sq)]) (rest := [.int x1]) (n := 1) (ci := 9) (q0 := 0) X hN hKO hS hK hP (c_X9_placeOfMost l D cI cB kk h0 tp tw nw kp lw lr dd vv tl sc hk z1_19 sq hsq1 hsq5) (gV k_934 k_936 k_23 k_92 k_937) (by decide +kernel) ⟨Nat.le_of_ble_eq_true rfl, Nat.le_of_ble_eq_true rfl⟩ ⟨rfl, rfl⟩ [0, 26] rfl rfl rfl rfl rfl rfl hl.1 (Nat.le_of_ble_eq_true rfl) dX9_share_146 ⟨Nat.le_of_ble_eq_true rfl, Nat.le_of_ble_eq_true rfl⟩ (fun r_15 hr_15 => ?_)
                    refine cSR (As := [.int x1, .int r_15]) (rest := []) (n := 2) X hN hK hP (c_X9_memberAt l D cI cB x1 r_15) k_931 k_932 k_92 k_933 (by decide +kernel) ⟨Nat.le_of_ble_eq_true rfl, Nat.le_of_ble_eq_true rfl⟩ ⟨rfl, rfl⟩ [] rfl rfl rfl hl.1 (Nat.le_of_ble_eq_true rfl) dX9_share_149 ⟨Nat.le_of_ble_eq_true rfl, Nat.le_of_ble_eq_true rfl⟩ (fun r_16 hr_16 => ?_)
                    exact ret _ _ _ _ r_16 (z1_0, z1_1, z1_11, z1_12, z1_13, z1_14, z1_15, z1_16, z1_17, z1_18, z1_8, z1_9, z1_10, z1_2, z1_3, z1_4, z1_5, z1_6, z1_7, z1_19) dX9_share_152 rfl trivial (hP.sub [0, 1, 2, 3, 4, 5, 6, 7, 8, 9, 10, 11, 12, 13, 14, 15, 16, 17, 18, 19, 20, 21, 22, 23, 24, 25, 26] rfl) (hD.sub [0, 1, 2, 3, 4, 5, 6, 7, 8, 9, 10, 11, 12, 13, 14, 15, 16, 17, 18, 19, 20, 21, 22, 23, 24, 25, 26] (by decide) rfl) hS
                  · refine lv_iload hx hb dX9_share_99 (lv_at hl 6 rfl) ?_
                    refine lv_aload_n hx hb dX9_share_101 rfl (lv_at hl 0 rfl) ?_
                    refine va_get (D := D) (ci := 9) (v := .ref sc) (C := RX9) (T := TX9) (N := 11) hx hb htb itX9 hown hK hP 0 rfl rfl 9 (by decide) (htb _ k_402) (fun _ h9 => h9) rfl dX9_share_102 ?_
                    refine va_alen hx hb hK hP 26 0 rfl rfl (v := 32) rfl dX9_share_105 ?_
                    refine lv_icmp_ge (tgt := 136) hx hb dX9_share_106 (by decide) (fun c_106 => absurd c_106 (nI_ge hi (by decide))) (fun _ => ?_)
                    refine lv_aload_n hx hb dX9_share_109 rfl (lv_at hl 0 rfl) ?_
                    refine va_get (D := D) (ci := 9) (v := .ref sc) (C := RX9) (T := TX9) (N := 11) hx hb htb itX9 hown hK hP 0 rfl rfl 9 (by decide) (htb _ k_402) (fun _ h9 => h9) rfl dX9_share_110 ?_
                    refine lv_iload hx hb dX9_share_113 (lv_at hl 6 rfl) ?_
                    refine lv_aload_n hx hb dX9_share_115 rfl (lv_at hl 0 rfl) ?_
                    refine lv_iload_n hx hb dX9_share_116 rfl (lv_at hl 1 rfl) ?_
                    refine lv_iload hx hb dX9_share_117 (lv_at hl 6 rfl) ?_
                    refine cSR (As := [.int x1, .int (nI i)]) (rest := [.ref h0, .int (nI i), .ref sc]) (n := 2) X hN hK hP (c_X9_membersOf l D cI cB x1 (nI i)) k_928 k_929 k_92 k_930 (by decide +kernel) ⟨Nat.le_of_ble_eq_true rfl, Nat.le_of_ble_eq_true rfl⟩ ⟨rfl, rfl⟩ [] rfl rfl rfl hl.1 (Nat.le_of_ble_eq_true rfl) dX9_share_119 ⟨Nat.le_of_ble_eq_true rfl, Nat.le_of_ble_eq_true rfl⟩ (fun r_17 hr_17 => ?_)
                    refine lv_iload_n hx hb dX9_share_122 rfl (lv_at hl 3 rfl) ?_
                    refine lv_iconst (v := (-1)) hx hb dX9_share_123 (by decide) ?_
                    refine lv_iconst (v := (-1)) hx hb dX9_share_124 (by decide) ?_
                    refine lv_iconst (v := (-1)) hx hb dX9_share_125 (by decide) ?_
                    refine cVI (As := [.int r_17, .int x3, .int (-1), .int (-1), .int (-1)]) (rest := [.int (nI i), .ref sc]) (n := 5) (ci := 9) (q0 := 0) (wr := [(sc, .inl (cI, 32, .inl z1_19))]) X hN hK hP hD hS hA (c_X9_costIf l D cI cB _ h0 tp tw nw kp lw lr dd vv tl sc hk pe ch rt t1 t2 t3 t4 ft1 ft2 ft3 ft4 u2 f2 g2 ms2 dy2 dr2 fu2 ff2 fg2 l1 l2 l3 l4 l5 l6 l7 lz lc q1 q2 q3 q4 q5 z1_0 z1_1 st m1 c1 d1 z1_11 z1_12 z1_13 z1_14 z1_15 z1_16 z1_17 z1_18 u1 f1 g1 z1_8 z1_9 z1_10 z1_2 z1_3 z1_4 z1_5 z1_6 z1_7 r_17 x3 (-1) (-1) (-1)) (gV k_897 k_899 k_21 k_92 k_900) (by decide +kernel) ⟨Nat.le_of_ble_eq_true rfl, Nat.le_of_ble_eq_true rfl⟩ ⟨rfl, rfl⟩ [0, 1, 2, 3, 4, 5, 6, 7, 8, 9, 10, 11, 12, 13, 14, 15, 16, 17, 18, 19, 20, 21, 22, 23, 24, 25] [26] rfl rfl (by decide) (by decide) rfl rfl rfl rfl rfl hl.1 (Nat.le_of_ble_eq_true rfl) dX9_share_126 ⟨Nat.le_of_ble_eq_true rfl, Nat.le_of_ble_eq_true rfl⟩ (fun r_18 u H locs hw_38 hP hD hS => ?_)
                    obtain ⟨l6_fo_19, l7_fo_20, tl_6o_21, tl_7o_22, tl_8o_23, tl_9o_24, tl_10o_25, tl_11o_26, tl_12o_27, tl_13o_28, st_3o_29, st_4o_30, st_5o_31, u1_fo_32, f1_fo_33, g1_fo_34, m1_fo_35, c1_fo_36, d1_fo_37⟩ := u
                    try dsimp only at hw_38
                    have hP : va_P D vwCl [(sc, .inl (cI, 32, .inl z1_19)), (h0, .inr (9, [.ref tp, .ref tw, .ref nw, .ref kp, .ref lw, .ref lr, .ref dd, .ref vv, .ref tl, .ref sc, .int hk])), (tw, .inr (7, [.int pe, .int ch, .int rt, .ref t1, .ref t2, .ref t3, .ref t4])), (t1, .inl (cI, 10, .inl ft1)), (t2, .inl (cI, 12, .inl ft2)), (t3, .inl (cI, 120, .inl ft3)), (t4, .inl (cI, 12, .inl ft4)), (nw, .inr (4, [.ref u2, .ref f2, .ref g2, .int ms2, .int dy2, .int dr2])), (u2, .inl (cI, 12, .inl fu2)), (f2, .inl (cI, 10, .inl ff2)), (g2, .inl (cI, 10, .inl fg2)), (lw, .inr (1, [.ref l1, .ref l2, .ref l3, .ref l4, .ref l5, .ref l6, .ref l7, .int lz, .int lc])), (l1, .inl (cI, 240, .inl q1)), (l2, .inl (cI, 16, .inl q2)), (l3, .inl (cI, 16, .inl q3)), (l4, .inl (cI, 16, .inl q4)), (l5, .inl (cI, 16, .inl q5)), (l6, .inl (cI, 8, .inl l6_fo_19)), (l7, .inl (cI, 32, .inl l7_fo_20)), (tl, .inr (8, [.ref tw, .ref lw, .ref st, .ref m1, .ref c1, .ref d1, .int tl_6o_21, .int tl_7o_22, .int tl_8o_23, .int tl_9o_24, .int tl_10o_25, .int tl_11o_26, .int tl_12o_27, .int tl_13o_28])), (st, .inr (4, [.ref u1, .ref f1, .ref g1, .int st_3o_29, .int st_4o_30, .int st_5o_31])), (u1, .inl (cI, 12, .inl u1_fo_32)), (f1, .inl (cI, 10, .inl f1_fo_33)), (g1, .inl (cI, 10, .inl g1_fo_34)), (m1, .inl (cI, 10, .inl m1_fo_35)), (c1, .inl (cI, 10, .inl c1_fo_36)), (d1, .inl (cI, 10, .inl d1_fo_37))] H := hP
                    have hD : va_D A [(sc, .inl (cI, 32, .inl z1_19)), (h0, .inr (9, [.ref tp, .ref tw, .ref nw, .ref kp, .ref lw, .ref lr, .ref dd, .ref vv, .ref tl, .ref sc, .int hk])), (tw, .inr (7, [.int pe, .int ch, .int rt, .ref t1, .ref t2, .ref t3, .ref t4])), (t1, .inl (cI, 10, .inl ft1)), (t2, .inl (cI, 12, .inl ft2)), (t3, .inl (cI, 120, .inl ft3)), (t4, .inl (cI, 12, .inl ft4)), (nw, .inr (4, [.ref u2, .ref f2, .ref g2, .int ms2, .int dy2, .int dr2])), (u2, .inl (cI, 12, .inl fu2)), (f2, .inl (cI, 10, .inl ff2)), (g2, .inl (cI, 10, .inl fg2)), (lw, .inr (1, [.ref l1, .ref l2, .ref l3, .ref l4, .ref l5, .ref l6, .ref l7, .int lz, .int lc])), (l1, .inl (cI, 240, .inl q1)), (l2, .inl (cI, 16, .inl q2)), (l3, .inl (cI, 16, .inl q3)), (l4, .inl (cI, 16, .inl q4)), (l5, .inl (cI, 16, .inl q5)), (l6, .inl (cI, 8, .inl l6_fo_19)), (l7, .inl (cI, 32, .inl l7_fo_20)), (tl, .inr (8, [.ref tw, .ref lw, .ref st, .ref m1, .ref c1, .ref d1, .int tl_6o_21, .int tl_7o_22, .int tl_8o_23, .int tl_9o_24, .int tl_10o_25, .int tl_11o_26, .int tl_12o_27, .int tl_13o_28])), (st, .inr (4, [.ref u1, .ref f1, .ref g1, .int st_3o_29, .int st_4o_30, .int st_5o_31])), (u1, .inl (cI, 12, .inl u1_fo_32)), (f1, .inl (cI, 10, .inl f1_fo_33)), (g1, .inl (cI, 10, .inl g1_fo_34)), (m1, .inl (cI, 10, .inl m1_fo_35)), (c1, .inl (cI, 10, .inl c1_fo_36)), (d1, .inl (cI, 10, .inl d1_fo_37))] := hD
                    refine va_iast hx hb hK hP hD hS 0 0 rfl rfl (by have a0 := mt Int32.toInt_inj.mp c_11; have a1 := congrArg Int32.toInt c_25; have a2 := mt Int32.toInt_inj.mp c_35; have a3 := mt Int32.toInt_inj.mp c_49; have a4 := mt Int32.toInt_inj.mp c_64; have a5 := congrArg Int32.toInt c_73; have a6 := mt Int32.le_iff_toInt_le.mpr c_96; have a7 : (0 : Int32).toInt = 0 := (by decide); have a8 : (2 : Int32).toInt = 2 := (by decide); have a9 := nI_toInt (n := i) (by omega); exact vp_in_nI (by omega) (by decide)) dX9_share_129 (fun H locs hP hD hS => ?_)
                    obtain ⟨f_39, ef_39⟩ : ∃ g : Nat → Int32, g = upd z1_19 (Int32.toNatClampNeg (nI i)) r_18 := ⟨_, rfl⟩
                    rw [← ef_39] at hP hD
                    have hP : va_P D vwCl [(sc, .inl (cI, 32, .inl f_39)), (h0, .inr (9, [.ref tp, .ref tw, .ref nw, .ref kp, .ref lw, .ref lr, .ref dd, .ref vv, .ref tl, .ref sc, .int hk])), (tw, .inr (7, [.int pe, .int ch, .int rt, .ref t1, .ref t2, .ref t3, .ref t4])), (t1, .inl (cI, 10, .inl ft1)), (t2, .inl (cI, 12, .inl ft2)), (t3, .inl (cI, 120, .inl ft3)), (t4, .inl (cI, 12, .inl ft4)), (nw, .inr (4, [.ref u2, .ref f2, .ref g2, .int ms2, .int dy2, .int dr2])), (u2, .inl (cI, 12, .inl fu2)), (f2, .inl (cI, 10, .inl ff2)), (g2, .inl (cI, 10, .inl fg2)), (lw, .inr (1, [.ref l1, .ref l2, .ref l3, .ref l4, .ref l5, .ref l6, .ref l7, .int lz, .int lc])), (l1, .inl (cI, 240, .inl q1)), (l2, .inl (cI, 16, .inl q2)), (l3, .inl (cI, 16, .inl q3)), (l4, .inl (cI, 16, .inl q4)), (l5, .inl (cI, 16, .inl q5)), (l6, .inl (cI, 8, .inl l6_fo_19)), (l7, .inl (cI, 32, .inl l7_fo_20)), (tl, .inr (8, [.ref tw, .ref lw, .ref st, .ref m1, .ref c1, .ref d1, .int tl_6o_21, .int tl_7o_22, .int tl_8o_23, .int tl_9o_24, .int tl_10o_25, .int tl_11o_26, .int tl_12o_27, .int tl_13o_28])), (st, .inr (4, [.ref u1, .ref f1, .ref g1, .int st_3o_29, .int st_4o_30, .int st_5o_31])), (u1, .inl (cI, 12, .inl u1_fo_32)), (f1, .inl (cI, 10, .inl f1_fo_33)), (g1, .inl (cI, 10, .inl g1_fo_34)), (m1, .inl (cI, 10, .inl m1_fo_35)), (c1, .inl (cI, 10, .inl c1_fo_36)), (d1, .inl (cI, 10, .inl d1_fo_37))] H := hP
                    have hD : va_D A [(sc, .inl (cI, 32, .inl f_39)), (h0, .inr (9, [.ref tp, .ref tw, .ref nw, .ref kp, .ref lw, .ref lr, .ref dd, .ref vv, .ref tl, .ref sc, .int hk])), (tw, .inr (7, [.int pe, .int ch, .int rt, .ref t1, .ref t2, .ref t3, .ref t4])), (t1, .inl (cI, 10, .inl ft1)), (t2, .inl (cI, 12, .inl ft2)), (t3, .inl (cI, 120, .inl ft3)), (t4, .inl (cI, 12, .inl ft4)), (nw, .inr (4, [.ref u2, .ref f2, .ref g2, .int ms2, .int dy2, .int dr2])), (u2, .inl (cI, 12, .inl fu2)), (f2, .inl (cI, 10, .inl ff2)), (g2, .inl (cI, 10, .inl fg2)), (lw, .inr (1, [.ref l1, .ref l2, .ref l3, .ref l4, .ref l5, .ref l6, .ref l7, .int lz, .int lc])), (l1, .inl (cI, 240, .inl q1)), (l2, .inl (cI, 16, .inl q2)), (l3, .inl (cI, 16, .inl q3)), (l4, .inl (cI, 16, .inl q4)), (l5, .inl (cI, 16, .inl q5)), (l6, .inl (cI, 8, .inl l6_fo_19)), (l7, .inl (cI, 32, .inl l7_fo_20)), (tl, .inr (8, [.ref tw, .ref lw, .ref st, .ref m1, .ref c1, .ref d1, .int tl_6o_21, .int tl_7o_22, .int tl_8o_23, .int tl_9o_24, .int tl_10o_25, .int tl_11o_26, .int tl_12o_27, .int tl_13o_28])), (st, .inr (4, [.ref u1, .ref f1, .ref g1, .int st_3o_29, .int st_4o_30, .int st_5o_31])), (u1, .inl (cI, 12, .inl u1_fo_32)), (f1, .inl (cI, 10, .inl f1_fo_33)), (g1, .inl (cI, 10, .inl g1_fo_34)), (m1, .inl (cI, 10, .inl m1_fo_35)), (c1, .inl (cI, 10, .inl c1_fo_36)), (d1, .inl (cI, 10, .inl d1_fo_37))] := hD
                    refine lv_iinc (v := (nI (i + 1))) (lv' := [(7, .int (nI (i + 1))), (0, .ref h0), (1, .int x1), (2, .int x2), (3, .int x3), (4, .int x4), (5, .int (nI sq))]) hx hb dX9_share_130 hl (k := 6) rfl (nI_1 i) (by decide) rfl (fun ls hl => ?_)
                    refine lv_goto (tgt := 90) hx hb dX9_share_133 (by decide) ?_
                    exact ih_90 (i + 1) l6_fo_19 l7_fo_20 u1_fo_32 f1_fo_33 g1_fo_34 m1_fo_35 c1_fo_36 d1_fo_37 st_3o_29 st_4o_30 st_5o_31 tl_6o_21 tl_7o_22 tl_8o_23 tl_9o_24 tl_10o_25 tl_11o_26 tl_12o_27 tl_13o_28 f_39 (by omega) _ _ (hP.sub [1, 2, 3, 4, 5, 6, 7, 8, 9, 10, 11, 12, 13, 14, 15, 16, 17, 18, 19, 20, 21, 22, 23, 24, 25, 26, 0] rfl) (hD.sub [1, 2, 3, 4, 5, 6, 7, 8, 9, 10, 11, 12, 13, 14, 15, 16, 17, 18, 19, 20, 21, 22, 23, 24, 25, 26, 0] (by decide) rfl) hS _ (lv_sub hl [1, 2, 3, 4, 5, 6, 0] rfl)
              exact loop_90 32 0 q6 q7 fu ff fg fm fc1 fd ms dy dr idl idf idt fc fp mb ra cl fsc (by omega) _ _ (hP.sub [0, 1, 2, 3, 4, 5, 6, 7, 8, 9, 10, 11, 12, 13, 14, 15, 16, 17, 18, 19, 20, 21, 22, 23, 24, 25, 26] rfl) (hD.sub [0, 1, 2, 3, 4, 5, 6, 7, 8, 9, 10, 11, 12, 13, 14, 15, 16, 17, 18, 19, 20, 21, 22, 23, 24, 25, 26] (by decide) rfl) hS _ (lv_sub hl [3, 4, 5, 6, 7, 2, 0] rfl)
            · refine lv_iload_n hx hb dX9_share_76 rfl (lv_at hl 3 rfl) ?_
              refine lv_iload_n hx hb dX9_share_77 rfl (lv_at hl 4 rfl) ?_
              refine cSR (As := [.int x1, .int x2]) (rest := []) (n := 2) X hN hK hP (c_isInF l D cI cB x1 x2) k_927 k_696 k_92 k_697 (by decide +kernel) ⟨Nat.le_of_ble_eq_true rfl, Nat.le_of_ble_eq_true rfl⟩ ⟨rfl, rfl⟩ [] rfl rfl rfl hl.1 (Nat.le_of_ble_eq_true rfl) dX9_share_78 ⟨Nat.le_of_ble_eq_true rfl, Nat.le_of_ble_eq_true rfl⟩ (fun r_40 hr_40 => ?_)
              subst hr_40
              refine lv_if_ne (tgt := 87) hx hb dX9_share_81 (by decide) (fun c_81 => ?_) (fun c_81 => ?_)
              · have hpk := subP hpe (bIt c_11)
                obtain ⟨sq, esq⟩ : ∃ z : Nat, z = bS x1 10 := ⟨_, rfl⟩
                have esz : x_2 = nI sq := by rw [ex_2, esq]; exact bcP hpk
                have h35 := bIt c_35
                rw [esz] at h35
                have hb10 := bS_b x1 10
                have hsq1 : 1 ≤ sq := (nI_leI (by decide) (by omega)).mp h35.1
                have hsq5 : sq ≤ 5 := (nI_leI (by omega) (by decide)).mp h35.2
                have hl : lv_has ls 10 [(6, .int 1), (5, .int (nI sq)), (0, .ref h0), (1, .int x1), (2, .int x2), (3, .int x3), (4, .int x4)] := by rw [← esz]; exact hl
                refine lv_iconst (v := 0) hx hb dX9_share_87 (by decide) ?_
                refine lv_istore (lv' := [(7, .int 0), (6, .int 1), (5, .int (nI sq)), (0, .ref h0), (1, .int x1), (2, .int x2), (3, .int x3), (4, .int x4)]) hx hb dX9_share_88 hl (by decide) rfl (fun ls hl => ?_)
                have loop_90 : ∀ (n i : Nat) (z1_0 : Nat → Int32) (z1_1 : Nat → Int32) (z1_2 : Nat → Int32) (z1_3 : Nat → Int32) (z1_4 : Nat → Int32) (z1_5 : Nat → Int32) (z1_6 : Nat → Int32) (z1_7 : Nat → Int32) (z1_8 : Int32) (z1_9 : Int32) (z1_10 : Int32) (z1_11 : Int32) (z1_12 : Int32) (z1_13 : Int32) (z1_14 : Int32) (z1_15 : Int32) (z1_16 : Int32) (z1_17 : Int32) (z1_18 : Int32) (z1_19 : Nat → Int32), n + i = 32 → ∀ (H : Heap) (locs : List Loc), va_P D vwCl [(h0, .inr (9, [.ref tp, .ref tw, .ref nw, .ref kp, .ref lw, .ref lr, .ref dd, .ref vv, .ref tl, .ref sc, .int hk])), (tw, .inr (7, [.int pe, .int ch, .int rt, .ref t1, .ref t2, .ref t3, .ref t4])), (t1, .inl (cI, 10, .inl ft1)), (t2, .inl (cI, 12, .inl ft2)), (t3, .inl (cI, 120, .inl ft3)), (t4, .inl (cI, 12, .inl ft4)), (nw, .inr (4, [.ref u2, .ref f2, .ref g2, .int ms2, .int dy2, .int dr2])), (u2, .inl (cI, 12, .inl fu2)), (f2, .inl (cI, 10, .inl ff2)), (g2, .inl (cI, 10, .inl fg2)), (lw, .inr (1, [.ref l1, .ref l2, .ref l3, .ref l4, .ref l5, .ref l6, .ref l7, .int lz, .int lc])), (l1, .inl (cI, 240, .inl q1)), (l2, .inl (cI, 16, .inl q2)), (l3, .inl (cI, 16, .inl q3)), (l4, .inl (cI, 16, .inl q4)), (l5, .inl (cI, 16, .inl q5)), (l6, .inl (cI, 8, .inl z1_0)), (l7, .inl (cI, 32, .inl z1_1)), (tl, .inr (8, [.ref tw, .ref lw, .ref st, .ref m1, .ref c1, .ref d1, .int z1_11, .int z1_12, .int z1_13, .int z1_14, .int z1_15, .int z1_16, .int z1_17, .int z1_18])), (st, .inr (4, [.ref u1, .ref f1, .ref g1, .int z1_8, .int z1_9, .int z1_10])), (u1, .inl (cI, 12, .inl z1_2)), (f1, .inl (cI, 10, .inl z1_3)), (g1, .inl (cI, 10, .inl z1_4)), (m1, .inl (cI, 10, .inl z1_5)), (c1, .inl (cI, 10, .inl z1_6)), (d1, .inl (cI, 10, .inl z1_7)), (sc, .inl (cI, 32, .inl z1_19))] H → va_D A [(h0, .inr (9, [.ref tp, .ref tw, .ref nw, .ref kp, .ref lw, .ref lr, .ref dd, .ref vv, .ref tl, .ref sc, .int hk])), (tw, .inr (7, [.int pe, .int ch, .int rt, .ref t1, .ref t2, .ref t3, .ref t4])), (t1, .inl (cI, 10, .inl ft1)), (t2, .inl (cI, 12, .inl ft2)), (t3, .inl (cI, 120, .inl ft3)), (t4, .inl (cI, 12, .inl ft4)), (nw, .inr (4, [.ref u2, .ref f2, .ref g2, .int ms2, .int dy2, .int dr2])), (u2, .inl (cI, 12, .inl fu2)), (f2, .inl (cI, 10, .inl ff2)), (g2, .inl (cI, 10, .inl fg2)), (lw, .inr (1, [.ref l1, .ref l2, .ref l3, .ref l4, .ref l5, .ref l6, .ref l7, .int lz, .int lc])), (l1, .inl (cI, 240, .inl q1)), (l2, .inl (cI, 16, .inl q2)), (l3, .inl (cI, 16, .inl q3)), (l4, .inl (cI, 16, .inl q4)), (l5, .inl (cI, 16, .inl q5)), (l6, .inl (cI, 8, .inl z1_0)), (l7, .inl (cI, 32, .inl z1_1)), (tl, .inr (8, [.ref tw, .ref lw, .ref st, .ref m1, .ref c1, .ref d1, .int z1_11, .int z1_12, .int z1_13, .int z1_14, .int z1_15, .int z1_16, .int z1_17, .int z1_18])), (st, .inr (4, [.ref u1, .ref f1, .ref g1, .int z1_8, .int z1_9, .int z1_10])), (u1, .inl (cI, 12, .inl z1_2)), (f1, .inl (cI, 10, .inl z1_3)), (g1, .inl (cI, 10, .inl z1_4)), (m1, .inl (cI, 10, .inl z1_5)), (c1, .inl (cI, 10, .inl z1_6)), (d1, .inl (cI, 10, .inl z1_7)), (sc, .inl (cI, 32, .inl z1_19))] → va_S A s.heap H locs → ∀ (ls : Array Slot), lv_has ls 10 [(0, .ref h0), (1, .int x1), (2, .int x2), (3, .int x3), (4, .int x4), (5, .int (nI sq)), (7, .int (nI i))] → W p l e (rm 7 169) s m ([.ref h0, .int x1, .int x2, .int x3, .int x4] : List Value).toArray below meth c H locs 0 0 Q (F0 m 90 ls []) := by
                  intro n
                  induction n with
                  | zero =>
                    intro i z1_0 z1_1 z1_2 z1_3 z1_4 z1_5 z1_6 z1_7 z1_8 z1_9 z1_10 z1_11 z1_12 z1_13 z1_14 z1_15 z1_16 z1_17 z1_18 z1_19 hni H locs hP hD hS ls hl
                    have hni_90 := hni
                    have hi : i = 32 := by omega
                    refine lv_iload hx hb dX9_share_90 (lv_at hl 6 rfl) ?_
                    refine lv_iconst (v := 1) hx hb dX9_share_92 (by decide) ?_
                    refine lv_iload hx hb dX9_share_93 (lv_at hl 5 rfl) ?_
                    refine lv_ishl hx hb dX9_share_95 ?_
                    refine lv_icmp_ge (tgt := 136) hx hb dX9_share_96 (by decide) (fun c_96 => ?_) (fun c_96 => ?_)
                    · refine lv_iload hx hb dX9_share_136 (lv_at hl 4 rfl) ?_
                      refine lv_iconst (v := 2) hx hb dX9_share_138 (by decide) ?_
                      refine lv_icmp_ne (tgt := 153) hx hb dX9_share_139 (by decide) (fun _ => ?_) (fun c_139 => absurd c_139 (c_73))
                      refine lv_aload_n hx hb dX9_share_153 rfl (lv_at hl 0 rfl) ?_
                      refine lv_iload_n hx hb dX9_share_154 rfl (lv_at hl 1 rfl) ?_
                      refine lv_iconst (v := 1) hx hb dX9_share_155 (by decide) ?_
                      refine lv_iload_n hx hb dX9_share_156 rfl (lv_at hl 2 rfl) ?_
                      refine lv_ishl hx hb dX9_share_157 ?_
                      refine tv (z := ((1 : Int32) <<< (x2 &&& 31))) (rfl) ?_
                      refine lv_iconst (v := 1) hx hb dX9_share_158 (by decide) ?_
                      refine lv_isub hx hb dX9_share_159 ?_
                      refine lv_iand hx hb dX9_share_160 ?_
                      refine cSR (As := [.int (x1 &&& (((1 : Int32) <<< (x2 &&& 31)) - 1))]) (rest := [.ref h0]) (n := 1) X hN hK hP (c_bitCountF l D cI cB (x1 &&& (((1 : Int32) <<< (x2 &&& 31)) - 1))) k_754 k_755 k_111 k_756 (by decide +kernel) ⟨Nat.le_of_ble_eq_true rfl, Nat.le_of_ble_eq_true rfl⟩ ⟨rfl, rfl⟩ [] rfl rfl rfl hl.1 (Nat.le_of_ble_eq_true rfl) dX9_share_161 ⟨Nat.le_of_ble_eq_true rfl, Nat.le_of_ble_eq_true rfl⟩ (fun r_41 hr_41 => ?_)
                      subst hr_41
                      obtain ⟨pq, hpq, epq⟩ := plc hpk (bIt c_81)
                      refine tv (z := nI pq) epq ?_
                      refine lv_iload hx hb dX9_share_164 (lv_at hl 5 rfl) ?_
                      refine cVRk (As := [.int (nI pq), .int (nI sq)]) (rest := []) (n := 2) (ci := 9) (q0 := 0) X hN hKO hS hK hP (c_X9_sumOfOrders l D cI cB kk h0 tp tw nw kp lw lr dd vv tl sc hk z1_19 pq sq (by omega) hsq1 hsq5) (gV k_938 k_940 k_24 k_92 k_941) (by decide +kernel) ⟨Nat.le_of_ble_eq_true rfl, Nat.le_of_ble_eq_true rfl⟩ ⟨rfl, rfl⟩ [0, 26] rfl rfl rfl rfl rfl rfl hl.1 (Nat.le_of_ble_eq_true rfl) dX9_share_166 ⟨Nat.le_of_ble_eq_true rfl, Nat.le_of_ble_eq_true rfl⟩ (fun r_42 hr_42 => ?_)
                      refine lv_istore (lv' := [(7, .int r_42), (0, .ref h0), (1, .int x1), (2, .int x2), (3, .int x3), (4, .int x4), (5, .int (nI sq))]) hx hb dX9_share_169 hl (by decide) rfl (fun ls hl => ?_)
                      refine va_gets hx hb hKO.2.1 hS hown (htb _ k_942) (fun _ h9 => h9) dX9_share_171 ?_
                      refine lv_iload hx hb dX9_share_174 (lv_at hl 6 rfl) ?_
                      refine va_ti hx hb hKO.2.2.1 hS (by have a0 := mt Int32.toInt_inj.mp c_11; have a1 := congrArg Int32.toInt c_25; have a2 := mt Int32.toInt_inj.mp c_35; have a3 := mt Int32.toInt_inj.mp c_49; have a4 := mt Int32.toInt_inj.mp c_64; have a5 := mt Int32.toInt_inj.mp c_73; have a6 := mt Int32.toInt_inj.mp c_81; have a7 := Int32.le_iff_toInt_le.mp c_96; have a8 : (0 : Int32).toInt = 0 := (by decide); have a9 : (2 : Int32).toInt = 2 := (by decide); have a10 := nI_toInt (n := i) (by omega); exact vp_in_nI (by omega) (by decide)) rfl dX9_share_176 ?_
                      refine lv_topi (fun x_43 ex_43 => ?_)
                      refine lv_istore (lv' := [(8, .int x_43), (7, .int r_42), (0, .ref h0), (1, .int x1), (2, .int x2), (3, .int x3), (4, .int x4), (5, .int (nI sq))]) hx hb dX9_share_177 hl (by decide) rfl (fun ls hl => ?_)
                      refine lv_iload hx hb dX9_share_179 (lv_at hl 1 rfl) ?_
                      refine va_mabs (rest := []) hx hb (by rw [hml]; exact hl.1.symm) hown (htb _ k_944) (htb _ k_945) (htb _ k_106) (htb _ k_946) (Nat.le_of_ble_eq_true rfl) (Nat.le_of_ble_eq_true rfl) (Nat.le_of_ble_eq_true rfl) (Nat.le_of_ble_eq_true rfl) dX9_share_181 ?_
                      refine lv_topi (fun mx_44 emx_44 => ?_)
                      refine lv_iload hx hb dX9_share_184 (lv_at hl 0 rfl) ?_
                      refine cSR (As := [.int mx_44, .int x_43]) (rest := []) (n := 2) X hN hK hP (c_commonDivisorN l D cI cB mx_44 x_43) k_947 k_948 k_92 k_949 (by decide +kernel) ⟨Nat.le_of_ble_eq_true rfl, Nat.le_of_ble_eq_true rfl⟩ ⟨rfl, rfl⟩ [] rfl rfl rfl hl.1 (Nat.le_of_ble_eq_true rfl) dX9_share_186 ⟨Nat.le_of_ble_eq_true rfl, Nat.le_of_ble_eq_true rfl⟩ (fun gd9 hgd9 => ?_)
                      refine lv_istore (lv' := [(9, .int gd9), (8, .int x_43), (7, .int r_42), (0, .ref h0), (1, .int x1), (2, .int x2), (3, .int x3), (4, .int x4), (5, .int (nI sq))]) hx hb dX9_share_189 hl (by decide) rfl (fun ls hl => ?_)
                      refine lv_iload hx hb dX9_share_191 (lv_at hl 7 rfl) ?_
                      refine lv_if_ne (tgt := 201) hx hb dX9_share_193 (by decide) (fun c_193 => ?_) (fun c_193 => ?_)
                      · refine lv_iload hx hb dX9_share_201 (lv_at hl 1 rfl) ?_
                        refine lv_iload hx hb dX9_share_203 (lv_at hl 0 rfl) ?_
                        refine lv_idiv hx hb dX9_share_205 hgd9 ?_
                        exact ret _ _ _ _ (x_43 / gd9) (z1_0, z1_1, z1_11, z1_12, z1_13, z1_14, z1_15, z1_16, z1_17, z1_18, z1_8, z1_9, z1_10, z1_2, z1_3, z1_4, z1_5, z1_6, z1_7, z1_19) dX9_share_206 rfl trivial (hP.sub [0, 1, 2, 3, 4, 5, 6, 7, 8, 9, 10, 11, 12, 13, 14, 15, 16, 17, 18, 19, 20, 21, 22, 23, 24, 25, 26] rfl) (hD.sub [0, 1, 2, 3, 4, 5, 6, 7, 8, 9, 10, 11, 12, 13, 14, 15, 16, 17, 18, 19, 20, 21, 22, 23, 24, 25, 26] (by decide) rfl) hS
                      · refine lv_iload hx hb dX9_share_196 (lv_at hl 2 rfl) ?_
                        refine lv_goto (tgt := 203) hx hb dX9_share_198 (by decide) ?_
                        refine lv_iload hx hb dX9_share_203 (lv_at hl 0 rfl) ?_
                        refine lv_idiv hx hb dX9_share_205 hgd9 ?_
                        exact ret _ _ _ _ (r_42 / gd9) (z1_0, z1_1, z1_11, z1_12, z1_13, z1_14, z1_15, z1_16, z1_17, z1_18, z1_8, z1_9, z1_10, z1_2, z1_3, z1_4, z1_5, z1_6, z1_7, z1_19) dX9_share_206 rfl trivial (hP.sub [0, 1, 2, 3, 4, 5, 6, 7, 8, 9, 10, 11, 12, 13, 14, 15, 16, 17, 18, 19, 20, 21, 22, 23, 24, 25, 26] rfl) (hD.sub [0, 1, 2, 3, 4, 5, 6, 7, 8, 9, 10, 11, 12, 13, 14, 15, 16, 17, 18, 19, 20, 21, 22, 23, 24, 25, 26] (by decide) rfl) hS
                    · refine lv_iload hx hb dX9_share_99 (lv_at hl 6 rfl) ?_
                      refine lv_aload_n hx hb dX9_share_101 rfl (lv_at hl 0 rfl) ?_
                      refine va_get (D := D) (ci := 9) (v := .ref sc) (C := RX9) (T := TX9) (N := 11) hx hb htb itX9 hown hK hP 0 rfl rfl 9 (by decide) (htb _ k_402) (fun _ h9 => h9) rfl dX9_share_102 ?_
                      refine va_alen hx hb hK hP 26 0 rfl rfl (v := 32) rfl dX9_share_105 ?_
                      refine lv_icmp_ge (tgt := 136) hx hb dX9_share_106 (by decide) (fun _ => ?_) (fun c_106 => absurd (by rw [hi]; decide) c_106)
                      refine lv_iload hx hb dX9_share_136 (lv_at hl 4 rfl) ?_
                      refine lv_iconst (v := 2) hx hb dX9_share_138 (by decide) ?_
                      refine lv_icmp_ne (tgt := 153) hx hb dX9_share_139 (by decide) (fun _ => ?_) (fun c_139 => absurd c_139 (c_73))
                      refine lv_aload_n hx hb dX9_share_153 rfl (lv_at hl 0 rfl) ?_
                      refine lv_iload_n hx hb dX9_share_154 rfl (lv_at hl 1 rfl) ?_
                      refine lv_iconst (v := 1) hx hb dX9_share_155 (by decide) ?_
                      refine lv_iload_n hx hb dX9_share_156 rfl (lv_at hl 2 rfl) ?_
                      refine lv_ishl hx hb dX9_share_157 ?_
                      refine tv (z := ((1 : Int32) <<< (x2 &&& 31))) (rfl) ?_
                      refine lv_iconst (v := 1) hx hb dX9_share_158 (by decide) ?_
                      refine lv_isub hx hb dX9_share_159 ?_
                      refine lv_iand hx hb dX9_share_160 ?_
                      refine cSR (As := [.int (x1 &&& (((1 : Int32) <<< (x2 &&& 31)) - 1))]) (rest := [.ref h0]) (n := 1) X hN hK hP (c_bitCountF l D cI cB (x1 &&& (((1 : Int32) <<< (x2 &&& 31)) - 1))) k_754 k_755 k_111 k_756 (by decide +kernel) ⟨Nat.le_of_ble_eq_true rfl, Nat.le_of_ble_eq_true rfl⟩ ⟨rfl, rfl⟩ [] rfl rfl rfl hl.1 (Nat.le_of_ble_eq_true rfl) dX9_share_161 ⟨Nat.le_of_ble_eq_true rfl, Nat.le_of_ble_eq_true rfl⟩ (fun r_45 hr_45 => ?_)
                      subst hr_45
                      obtain ⟨pq, hpq, epq⟩ := plc hpk (bIt c_81)
                      refine tv (z := nI pq) epq ?_
                      refine lv_iload hx hb dX9_share_164 (lv_at hl 5 rfl) ?_
                      refine cVRk (As := [.int (nI pq), .int (nI sq)]) (rest := []) (n := 2) (ci := 9) (q0 := 0) X hN hKO hS hK hP (c_X9_sumOfOrders l D cI cB kk h0 tp tw nw kp lw lr dd vv tl sc hk z1_19 pq sq (by omega) hsq1 hsq5) (gV k_938 k_940 k_24 k_92 k_941) (by decide +kernel) ⟨Nat.le_of_ble_eq_true rfl, Nat.le_of_ble_eq_true rfl⟩ ⟨rfl, rfl⟩ [0, 26] rfl rfl rfl rfl rfl rfl hl.1 (Nat.le_of_ble_eq_true rfl) dX9_share_166 ⟨Nat.le_of_ble_eq_true rfl, Nat.le_of_ble_eq_true rfl⟩ (fun r_46 hr_46 => ?_)
                      refine lv_istore (lv' := [(7, .int r_46), (0, .ref h0), (1, .int x1), (2, .int x2), (3, .int x3), (4, .int x4), (5, .int (nI sq))]) hx hb dX9_share_169 hl (by decide) rfl (fun ls hl => ?_)
                      refine va_gets hx hb hKO.2.1 hS hown (htb _ k_942) (fun _ h9 => h9) dX9_share_171 ?_
                      refine lv_iload hx hb dX9_share_174 (lv_at hl 6 rfl) ?_
                      refine va_ti hx hb hKO.2.2.1 hS (by have a0 := mt Int32.toInt_inj.mp c_11; have a1 := congrArg Int32.toInt c_25; have a2 := mt Int32.toInt_inj.mp c_35; have a3 := mt Int32.toInt_inj.mp c_49; have a4 := mt Int32.toInt_inj.mp c_64; have a5 := mt Int32.toInt_inj.mp c_73; have a6 := mt Int32.toInt_inj.mp c_81; have a7 := mt Int32.le_iff_toInt_le.mpr c_96; have a8 : (0 : Int32).toInt = 0 := (by decide); have a9 : (2 : Int32).toInt = 2 := (by decide); have a10 := nI_toInt (n := i) (by omega); exact vp_in_nI (by omega) (by decide)) rfl dX9_share_176 ?_
                      refine lv_topi (fun x_47 ex_47 => ?_)
                      refine lv_istore (lv' := [(8, .int x_47), (7, .int r_46), (0, .ref h0), (1, .int x1), (2, .int x2), (3, .int x3), (4, .int x4), (5, .int (nI sq))]) hx hb dX9_share_177 hl (by decide) rfl (fun ls hl => ?_)
                      refine lv_iload hx hb dX9_share_179 (lv_at hl 1 rfl) ?_
                      refine va_mabs (rest := []) hx hb (by rw [hml]; exact hl.1.symm) hown (htb _ k_944) (htb _ k_945) (htb _ k_106) (htb _ k_946) (Nat.le_of_ble_eq_true rfl) (Nat.le_of_ble_eq_true rfl) (Nat.le_of_ble_eq_true rfl) (Nat.le_of_ble_eq_true rfl) dX9_share_181 ?_
                      refine lv_topi (fun mx_48 emx_48 => ?_)
                      refine lv_iload hx hb dX9_share_184 (lv_at hl 0 rfl) ?_
                      refine cSR (As := [.int mx_48, .int x_47]) (rest := []) (n := 2) X hN hK hP (c_commonDivisorN l D cI cB mx_48 x_47) k_947 k_948 k_92 k_949 (by decide +kernel) ⟨Nat.le_of_ble_eq_true rfl, Nat.le_of_ble_eq_true rfl⟩ ⟨rfl, rfl⟩ [] rfl rfl rfl hl.1 (Nat.le_of_ble_eq_true rfl) dX9_share_186 ⟨Nat.le_of_ble_eq_true rfl, Nat.le_of_ble_eq_true rfl⟩ (fun gd9 hgd9 => ?_)
                      refine lv_istore (lv' := [(9, .int gd9), (8, .int x_47), (7, .int r_46), (0, .ref h0), (1, .int x1), (2, .int x2), (3, .int x3), (4, .int x4), (5, .int (nI sq))]) hx hb dX9_share_189 hl (by decide) rfl (fun ls hl => ?_)
                      refine lv_iload hx hb dX9_share_191 (lv_at hl 7 rfl) ?_
                      refine lv_if_ne (tgt := 201) hx hb dX9_share_193 (by decide) (fun c_193 => ?_) (fun c_193 => ?_)
                      · refine lv_iload hx hb dX9_share_201 (lv_at hl 1 rfl) ?_
                        refine lv_iload hx hb dX9_share_203 (lv_at hl 0 rfl) ?_
                        refine lv_idiv hx hb dX9_share_205 hgd9 ?_
                        exact ret _ _ _ _ (x_47 / gd9) (z1_0, z1_1, z1_11, z1_12, z1_13, z1_14, z1_15, z1_16, z1_17, z1_18, z1_8, z1_9, z1_10, z1_2, z1_3, z1_4, z1_5, z1_6, z1_7, z1_19) dX9_share_206 rfl trivial (hP.sub [0, 1, 2, 3, 4, 5, 6, 7, 8, 9, 10, 11, 12, 13, 14, 15, 16, 17, 18, 19, 20, 21, 22, 23, 24, 25, 26] rfl) (hD.sub [0, 1, 2, 3, 4, 5, 6, 7, 8, 9, 10, 11, 12, 13, 14, 15, 16, 17, 18, 19, 20, 21, 22, 23, 24, 25, 26] (by decide) rfl) hS
                      · refine lv_iload hx hb dX9_share_196 (lv_at hl 2 rfl) ?_
                        refine lv_goto (tgt := 203) hx hb dX9_share_198 (by decide) ?_
                        refine lv_iload hx hb dX9_share_203 (lv_at hl 0 rfl) ?_
                        refine lv_idiv hx hb dX9_share_205 hgd9 ?_
                        exact ret _ _ _ _ (r_46 / gd9) (z1_0, z1_1, z1_11, z1_12, z1_13, z1_14, z1_15, z1_16, z1_17, z1_18, z1_8, z1_9, z1_10, z1_2, z1_3, z1_4, z1_5, z1_6, z1_7, z1_19) dX9_share_206 rfl trivial (hP.sub [0, 1, 2, 3, 4, 5, 6, 7, 8, 9, 10, 11, 12, 13, 14, 15, 16, 17, 18, 19, 20, 21, 22, 23, 24, 25, 26] rfl) (hD.sub [0, 1, 2, 3, 4, 5, 6, 7, 8, 9, 10, 11, 12, 13, 14, 15, 16, 17, 18, 19, 20, 21, 22, 23, 24, 25, 26] (by decide) rfl) hS
                  | succ n ih_90 =>
                    intro i z1_0 z1_1 z1_2 z1_3 z1_4 z1_5 z1_6 z1_7 z1_8 z1_9 z1_10 z1_11 z1_12 z1_13 z1_14 z1_15 z1_16 z1_17 z1_18 z1_19 hni H locs hP hD hS ls hl
                    have hni_90 := hni
                    have hi : i < 32 := by omega
                    refine lv_iload hx hb dX9_share_90 (lv_at hl 6 rfl) ?_
                    refine lv_iconst (v := 1) hx hb dX9_share_92 (by decide) ?_
                    refine lv_iload hx hb dX9_share_93 (lv_at hl 5 rfl) ?_
                    refine lv_ishl hx hb dX9_share_95 ?_
                    refine lv_icmp_ge (tgt := 136) hx hb dX9_share_96 (by decide) (fun c_96 => ?_) (fun c_96 => ?_)
                    · refine lv_iload hx hb dX9_share_136 (lv_at hl 4 rfl) ?_
                      refine lv_iconst (v := 2) hx hb dX9_share_138 (by decide) ?_
                      refine lv_icmp_ne (tgt := 153) hx hb dX9_share_139 (by decide) (fun _ => ?_) (fun c_139 => absurd c_139 (c_73))
                      refine lv_aload_n hx hb dX9_share_153 rfl (lv_at hl 0 rfl) ?_
                      refine lv_iload_n hx hb dX9_share_154 rfl (lv_at hl 1 rfl) ?_
                      refine lv_iconst (v := 1) hx hb dX9_share_155 (by decide) ?_
                      refine lv_iload_n hx hb dX9_share_156 rfl (lv_at hl 2 rfl) ?_
                      refine lv_ishl hx hb dX9_share_157 ?_
                      refine tv (z := ((1 : Int32) <<< (x2 &&& 31))) (rfl) ?_
                      refine lv_iconst (v := 1) hx hb dX9_share_158 (by decide) ?_
                      refine lv_isub hx hb dX9_share_159 ?_
                      refine lv_iand hx hb dX9_share_160 ?_
                      refine cSR (As := [.int (x1 &&& (((1 : Int32) <<< (x2 &&& 31)) - 1))]) (rest := [.ref h0]) (n := 1) X hN hK hP (c_bitCountF l D cI cB (x1 &&& (((1 : Int32) <<< (x2 &&& 31)) - 1))) k_754 k_755 k_111 k_756 (by decide +kernel) ⟨Nat.le_of_ble_eq_true rfl, Nat.le_of_ble_eq_true rfl⟩ ⟨rfl, rfl⟩ [] rfl rfl rfl hl.1 (Nat.le_of_ble_eq_true rfl) dX9_share_161 ⟨Nat.le_of_ble_eq_true rfl, Nat.le_of_ble_eq_true rfl⟩ (fun r_49 hr_49 => ?_)
                      subst hr_49
                      obtain ⟨pq, hpq, epq⟩ := plc hpk (bIt c_81)
                      refine tv (z := nI pq) epq ?_
                      refine lv_iload hx hb dX9_share_164 (lv_at hl 5 rfl) ?_
                      refine cVRk (As := [.int (nI pq), .int (nI sq)]) (rest := []) (n := 2) (ci := 9) (q0 := 0) X hN hKO hS hK hP (c_X9_sumOfOrders l D cI cB kk h0 tp tw nw kp lw lr dd vv tl sc hk z1_19 pq sq (by omega) hsq1 hsq5) (gV k_938 k_940 k_24 k_92 k_941) (by decide +kernel) ⟨Nat.le_of_ble_eq_true rfl, Nat.le_of_ble_eq_true rfl⟩ ⟨rfl, rfl⟩ [0, 26] rfl rfl rfl rfl rfl rfl hl.1 (Nat.le_of_ble_eq_true rfl) dX9_share_166 ⟨Nat.le_of_ble_eq_true rfl, Nat.le_of_ble_eq_true rfl⟩ (fun r_50 hr_50 => ?_)
                      refine lv_istore (lv' := [(7, .int r_50), (0, .ref h0), (1, .int x1), (2, .int x2), (3, .int x3), (4, .int x4), (5, .int (nI sq))]) hx hb dX9_share_169 hl (by decide) rfl (fun ls hl => ?_)
                      refine va_gets hx hb hKO.2.1 hS hown (htb _ k_942) (fun _ h9 => h9) dX9_share_171 ?_
                      refine lv_iload hx hb dX9_share_174 (lv_at hl 6 rfl) ?_
                      refine va_ti hx hb hKO.2.2.1 hS (by have a0 := mt Int32.toInt_inj.mp c_11; have a1 := congrArg Int32.toInt c_25; have a2 := mt Int32.toInt_inj.mp c_35; have a3 := mt Int32.toInt_inj.mp c_49; have a4 := mt Int32.toInt_inj.mp c_64; have a5 := mt Int32.toInt_inj.mp c_73; have a6 := mt Int32.toInt_inj.mp c_81; have a7 := Int32.le_iff_toInt_le.mp c_96; have a8 : (0 : Int32).toInt = 0 := (by decide); have a9 : (2 : Int32).toInt = 2 := (by decide); have a10 := nI_toInt (n := i) (by omega); exact vp_in_nI (by omega) (by decide)) rfl dX9_share_176 ?_
                      refine lv_topi (fun x_51 ex_51 => ?_)
                      refine lv_istore (lv' := [(8, .int x_51), (7, .int r_50), (0, .ref h0), (1, .int x1), (2, .int x2), (3, .int x3), (4, .int x4), (5, .int (nI sq))]) hx hb dX9_share_177 hl (by decide) rfl (fun ls hl => ?_)
                      refine lv_iload hx hb dX9_share_179 (lv_at hl 1 rfl) ?_
                      refine va_mabs (rest := []) hx hb (by rw [hml]; exact hl.1.symm) hown (htb _ k_944) (htb _ k_945) (htb _ k_106) (htb _ k_946) (Nat.le_of_ble_eq_true rfl) (Nat.le_of_ble_eq_true rfl) (Nat.le_of_ble_eq_true rfl) (Nat.le_of_ble_eq_true rfl) dX9_share_181 ?_
                      refine lv_topi (fun mx_52 emx_52 => ?_)
                      refine lv_iload hx hb dX9_share_184 (lv_at hl 0 rfl) ?_
                      refine cSR (As := [.int mx_52, .int x_51]) (rest := []) (n := 2) X hN hK hP (c_commonDivisorN l D cI cB mx_52 x_51) k_947 k_948 k_92 k_949 (by decide +kernel) ⟨Nat.le_of_ble_eq_true rfl, Nat.le_of_ble_eq_true rfl⟩ ⟨rfl, rfl⟩ [] rfl rfl rfl hl.1 (Nat.le_of_ble_eq_true rfl) dX9_share_186 ⟨Nat.le_of_ble_eq_true rfl, Nat.le_of_ble_eq_true rfl⟩ (fun gd9 hgd9 => ?_)
                      refine lv_istore (lv' := [(9, .int gd9), (8, .int x_51), (7, .int r_50), (0, .ref h0), (1, .int x1), (2, .int x2), (3, .int x3), (4, .int x4), (5, .int (nI sq))]) hx hb dX9_share_189 hl (by decide) rfl (fun ls hl => ?_)
                      refine lv_iload hx hb dX9_share_191 (lv_at hl 7 rfl) ?_
                      refine lv_if_ne (tgt := 201) hx hb dX9_share_193 (by decide) (fun c_193 => ?_) (fun c_193 => ?_)
                      · refine lv_iload hx hb dX9_share_201 (lv_at hl 1 rfl) ?_
                        refine lv_iload hx hb dX9_share_203 (lv_at hl 0 rfl) ?_
                        refine lv_idiv hx hb dX9_share_205 hgd9 ?_
                        exact ret _ _ _ _ (x_51 / gd9) (z1_0, z1_1, z1_11, z1_12, z1_13, z1_14, z1_15, z1_16, z1_17, z1_18, z1_8, z1_9, z1_10, z1_2, z1_3, z1_4, z1_5, z1_6, z1_7, z1_19) dX9_share_206 rfl trivial (hP.sub [0, 1, 2, 3, 4, 5, 6, 7, 8, 9, 10, 11, 12, 13, 14, 15, 16, 17, 18, 19, 20, 21, 22, 23, 24, 25, 26] rfl) (hD.sub [0, 1, 2, 3, 4, 5, 6, 7, 8, 9, 10, 11, 12, 13, 14, 15, 16, 17, 18, 19, 20, 21, 22, 23, 24, 25, 26] (by decide) rfl) hS
                      · refine lv_iload hx hb dX9_share_196 (lv_at hl 2 rfl) ?_
                        refine lv_goto (tgt := 203) hx hb dX9_share_198 (by decide) ?_
                        refine lv_iload hx hb dX9_share_203 (lv_at hl 0 rfl) ?_
                        refine lv_idiv hx hb dX9_share_205 hgd9 ?_
                        exact ret _ _ _ _ (r_50 / gd9) (z1_0, z1_1, z1_11, z1_12, z1_13, z1_14, z1_15, z1_16, z1_17, z1_18, z1_8, z1_9, z1_10, z1_2, z1_3, z1_4, z1_5, z1_6, z1_7, z1_19) dX9_share_206 rfl trivial (hP.sub [0, 1, 2, 3, 4, 5, 6, 7, 8, 9, 10, 11, 12, 13, 14, 15, 16, 17, 18, 19, 20, 21, 22, 23, 24, 25, 26] rfl) (hD.sub [0, 1, 2, 3, 4, 5, 6, 7, 8, 9, 10, 11, 12, 13, 14, 15, 16, 17, 18, 19, 20, 21, 22, 23, 24, 25, 26] (by decide) rfl) hS
                    · refine lv_iload hx hb dX9_share_99 (lv_at hl 6 rfl) ?_
                      refine lv_aload_n hx hb dX9_share_101 rfl (lv_at hl 0 rfl) ?_
                      refine va_get (D := D) (ci := 9) (v := .ref sc) (C := RX9) (T := TX9) (N := 11) hx hb htb itX9 hown hK hP 0 rfl rfl 9 (by decide) (htb _ k_402) (fun _ h9 => h9) rfl dX9_share_102 ?_
                      refine va_alen hx hb hK hP 26 0 rfl rfl (v := 32) rfl dX9_share_105 ?_
                      refine lv_icmp_ge (tgt := 136) hx hb dX9_share_106 (by decide) (fun c_106 => absurd c_106 (nI_ge hi (by decide))) (fun _ => ?_)
                      refine lv_aload_n hx hb dX9_share_109 rfl (lv_at hl 0 rfl) ?_
                      refine va_get (D := D) (ci := 9) (v := .ref sc) (C := RX9) (T := TX9) (N := 11) hx hb htb itX9 hown hK hP 0 rfl rfl 9 (by decide) (htb _ k_402) (fun _ h9 => h9) rfl dX9_share_110 ?_
                      refine lv_iload hx hb dX9_share_113 (lv_at hl 6 rfl) ?_
                      refine lv_aload_n hx hb dX9_share_115 rfl (lv_at hl 0 rfl) ?_
                      refine lv_iload_n hx hb dX9_share_116 rfl (lv_at hl 1 rfl) ?_
                      refine lv_iload hx hb dX9_share_117 (lv_at hl 6 rfl) ?_
                      refine cSR (As := [.int x1, .int (nI i)]) (rest := [.ref h0, .int (nI i), .ref sc]) (n := 2) X hN hK hP (c_X9_membersOf l D cI cB x1 (nI i)) k_928 k_929 k_92 k_930 (by decide +kernel) ⟨Nat.le_of_ble_eq_true rfl, Nat.le_of_ble_eq_true rfl⟩ ⟨rfl, rfl⟩ [] rfl rfl rfl hl.1 (Nat.le_of_ble_eq_true rfl) dX9_share_119 ⟨Nat.le_of_ble_eq_true rfl, Nat.le_of_ble_eq_true rfl⟩ (fun r_53 hr_53 => ?_)
                      refine lv_iload_n hx hb dX9_share_122 rfl (lv_at hl 3 rfl) ?_
                      refine lv_iconst (v := (-1)) hx hb dX9_share_123 (by decide) ?_
                      refine lv_iconst (v := (-1)) hx hb dX9_share_124 (by decide) ?_
                      refine lv_iconst (v := (-1)) hx hb dX9_share_125 (by decide) ?_
                      refine cVI (As := [.int r_53, .int x3, .int (-1), .int (-1), .int (-1)]) (rest := [.int (nI i), .ref sc]) (n := 5) (ci := 9) (q0 := 0) (wr := [(sc, .inl (cI, 32, .inl z1_19))]) X hN hK hP hD hS hA (c_X9_costIf l D cI cB _ h0 tp tw nw kp lw lr dd vv tl sc hk pe ch rt t1 t2 t3 t4 ft1 ft2 ft3 ft4 u2 f2 g2 ms2 dy2 dr2 fu2 ff2 fg2 l1 l2 l3 l4 l5 l6 l7 lz lc q1 q2 q3 q4 q5 z1_0 z1_1 st m1 c1 d1 z1_11 z1_12 z1_13 z1_14 z1_15 z1_16 z1_17 z1_18 u1 f1 g1 z1_8 z1_9 z1_10 z1_2 z1_3 z1_4 z1_5 z1_6 z1_7 r_53 x3 (-1) (-1) (-1)) (gV k_897 k_899 k_21 k_92 k_900) (by decide +kernel) ⟨Nat.le_of_ble_eq_true rfl, Nat.le_of_ble_eq_true rfl⟩ ⟨rfl, rfl⟩ [0, 1, 2, 3, 4, 5, 6, 7, 8, 9, 10, 11, 12, 13, 14, 15, 16, 17, 18, 19, 20, 21, 22, 23, 24, 25] [26] rfl rfl (by decide) (by decide) rfl rfl rfl rfl rfl hl.1 (Nat.le_of_ble_eq_true rfl) dX9_share_126 ⟨Nat.le_of_ble_eq_true rfl, Nat.le_of_ble_eq_true rfl⟩ (fun r_54 u H locs hw_74 hP hD hS => ?_)
                      obtain ⟨l6_fo_55, l7_fo_56, tl_6o_57, tl_7o_58, tl_8o_59, tl_9o_60, tl_10o_61, tl_11o_62, tl_12o_63, tl_13o_64, st_3o_65, st_4o_66, st_5o_67, u1_fo_68, f1_fo_69, g1_fo_70, m1_fo_71, c1_fo_72, d1_fo_73⟩ := u
                      try dsimp only at hw_74
                      have hP : va_P D vwCl [(sc, .inl (cI, 32, .inl z1_19)), (h0, .inr (9, [.ref tp, .ref tw, .ref nw, .ref kp, .ref lw, .ref lr, .ref dd, .ref vv, .ref tl, .ref sc, .int hk])), (tw, .inr (7, [.int pe, .int ch, .int rt, .ref t1, .ref t2, .ref t3, .ref t4])), (t1, .inl (cI, 10, .inl ft1)), (t2, .inl (cI, 12, .inl ft2)), (t3, .inl (cI, 120, .inl ft3)), (t4, .inl (cI, 12, .inl ft4)), (nw, .inr (4, [.ref u2, .ref f2, .ref g2, .int ms2, .int dy2, .int dr2])), (u2, .inl (cI, 12, .inl fu2)), (f2, .inl (cI, 10, .inl ff2)), (g2, .inl (cI, 10, .inl fg2)), (lw, .inr (1, [.ref l1, .ref l2, .ref l3, .ref l4, .ref l5, .ref l6, .ref l7, .int lz, .int lc])), (l1, .inl (cI, 240, .inl q1)), (l2, .inl (cI, 16, .inl q2)), (l3, .inl (cI, 16, .inl q3)), (l4, .inl (cI, 16, .inl q4)), (l5, .inl (cI, 16, .inl q5)), (l6, .inl (cI, 8, .inl l6_fo_55)), (l7, .inl (cI, 32, .inl l7_fo_56)), (tl, .inr (8, [.ref tw, .ref lw, .ref st, .ref m1, .ref c1, .ref d1, .int tl_6o_57, .int tl_7o_58, .int tl_8o_59, .int tl_9o_60, .int tl_10o_61, .int tl_11o_62, .int tl_12o_63, .int tl_13o_64])), (st, .inr (4, [.ref u1, .ref f1, .ref g1, .int st_3o_65, .int st_4o_66, .int st_5o_67])), (u1, .inl (cI, 12, .inl u1_fo_68)), (f1, .inl (cI, 10, .inl f1_fo_69)), (g1, .inl (cI, 10, .inl g1_fo_70)), (m1, .inl (cI, 10, .inl m1_fo_71)), (c1, .inl (cI, 10, .inl c1_fo_72)), (d1, .inl (cI, 10, .inl d1_fo_73))] H := hP
                      have hD : va_D A [(sc, .inl (cI, 32, .inl z1_19)), (h0, .inr (9, [.ref tp, .ref tw, .ref nw, .ref kp, .ref lw, .ref lr, .ref dd, .ref vv, .ref tl, .ref sc, .int hk])), (tw, .inr (7, [.int pe, .int ch, .int rt, .ref t1, .ref t2, .ref t3, .ref t4])), (t1, .inl (cI, 10, .inl ft1)), (t2, .inl (cI, 12, .inl ft2)), (t3, .inl (cI, 120, .inl ft3)), (t4, .inl (cI, 12, .inl ft4)), (nw, .inr (4, [.ref u2, .ref f2, .ref g2, .int ms2, .int dy2, .int dr2])), (u2, .inl (cI, 12, .inl fu2)), (f2, .inl (cI, 10, .inl ff2)), (g2, .inl (cI, 10, .inl fg2)), (lw, .inr (1, [.ref l1, .ref l2, .ref l3, .ref l4, .ref l5, .ref l6, .ref l7, .int lz, .int lc])), (l1, .inl (cI, 240, .inl q1)), (l2, .inl (cI, 16, .inl q2)), (l3, .inl (cI, 16, .inl q3)), (l4, .inl (cI, 16, .inl q4)), (l5, .inl (cI, 16, .inl q5)), (l6, .inl (cI, 8, .inl l6_fo_55)), (l7, .inl (cI, 32, .inl l7_fo_56)), (tl, .inr (8, [.ref tw, .ref lw, .ref st, .ref m1, .ref c1, .ref d1, .int tl_6o_57, .int tl_7o_58, .int tl_8o_59, .int tl_9o_60, .int tl_10o_61, .int tl_11o_62, .int tl_12o_63, .int tl_13o_64])), (st, .inr (4, [.ref u1, .ref f1, .ref g1, .int st_3o_65, .int st_4o_66, .int st_5o_67])), (u1, .inl (cI, 12, .inl u1_fo_68)), (f1, .inl (cI, 10, .inl f1_fo_69)), (g1, .inl (cI, 10, .inl g1_fo_70)), (m1, .inl (cI, 10, .inl m1_fo_71)), (c1, .inl (cI, 10, .inl c1_fo_72)), (d1, .inl (cI, 10, .inl d1_fo_73))] := hD
                      refine va_iast hx hb hK hP hD hS 0 0 rfl rfl (by have a0 := mt Int32.toInt_inj.mp c_11; have a1 := congrArg Int32.toInt c_25; have a2 := mt Int32.toInt_inj.mp c_35; have a3 := mt Int32.toInt_inj.mp c_49; have a4 := mt Int32.toInt_inj.mp c_64; have a5 := mt Int32.toInt_inj.mp c_73; have a6 := mt Int32.toInt_inj.mp c_81; have a7 := mt Int32.le_iff_toInt_le.mpr c_96; have a8 : (0 : Int32).toInt = 0 := (by decide); have a9 : (2 : Int32).toInt = 2 := (by decide); have a10 := nI_toInt (n := i) (by omega); exact vp_in_nI (by omega) (by decide)) dX9_share_129 (fun H locs hP hD hS => ?_)
                      obtain ⟨f_75, ef_75⟩ : ∃ g : Nat → Int32, g = upd z1_19 (Int32.toNatClampNeg (nI i)) r_54 := ⟨_, rfl⟩
                      rw [← ef_75] at hP hD
                      have hP : va_P D vwCl [(sc, .inl (cI, 32, .inl f_75)), (h0, .inr (9, [.ref tp, .ref tw, .ref nw, .ref kp, .ref lw, .ref lr, .ref dd, .ref vv, .ref tl, .ref sc, .int hk])), (tw, .inr (7, [.int pe, .int ch, .int rt, .ref t1, .ref t2, .ref t3, .ref t4])), (t1, .inl (cI, 10, .inl ft1)), (t2, .inl (cI, 12, .inl ft2)), (t3, .inl (cI, 120, .inl ft3)), (t4, .inl (cI, 12, .inl ft4)), (nw, .inr (4, [.ref u2, .ref f2, .ref g2, .int ms2, .int dy2, .int dr2])), (u2, .inl (cI, 12, .inl fu2)), (f2, .inl (cI, 10, .inl ff2)), (g2, .inl (cI, 10, .inl fg2)), (lw, .inr (1, [.ref l1, .ref l2, .ref l3, .ref l4, .ref l5, .ref l6, .ref l7, .int lz, .int lc])), (l1, .inl (cI, 240, .inl q1)), (l2, .inl (cI, 16, .inl q2)), (l3, .inl (cI, 16, .inl q3)), (l4, .inl (cI, 16, .inl q4)), (l5, .inl (cI, 16, .inl q5)), (l6, .inl (cI, 8, .inl l6_fo_55)), (l7, .inl (cI, 32, .inl l7_fo_56)), (tl, .inr (8, [.ref tw, .ref lw, .ref st, .ref m1, .ref c1, .ref d1, .int tl_6o_57, .int tl_7o_58, .int tl_8o_59, .int tl_9o_60, .int tl_10o_61, .int tl_11o_62, .int tl_12o_63, .int tl_13o_64])), (st, .inr (4, [.ref u1, .ref f1, .ref g1, .int st_3o_65, .int st_4o_66, .int st_5o_67])), (u1, .inl (cI, 12, .inl u1_fo_68)), (f1, .inl (cI, 10, .inl f1_fo_69)), (g1, .inl (cI, 10, .inl g1_fo_70)), (m1, .inl (cI, 10, .inl m1_fo_71)), (c1, .inl (cI, 10, .inl c1_fo_72)), (d1, .inl (cI, 10, .inl d1_fo_73))] H := hP
                      have hD : va_D A [(sc, .inl (cI, 32, .inl f_75)), (h0, .inr (9, [.ref tp, .ref tw, .ref nw, .ref kp, .ref lw, .ref lr, .ref dd, .ref vv, .ref tl, .ref sc, .int hk])), (tw, .inr (7, [.int pe, .int ch, .int rt, .ref t1, .ref t2, .ref t3, .ref t4])), (t1, .inl (cI, 10, .inl ft1)), (t2, .inl (cI, 12, .inl ft2)), (t3, .inl (cI, 120, .inl ft3)), (t4, .inl (cI, 12, .inl ft4)), (nw, .inr (4, [.ref u2, .ref f2, .ref g2, .int ms2, .int dy2, .int dr2])), (u2, .inl (cI, 12, .inl fu2)), (f2, .inl (cI, 10, .inl ff2)), (g2, .inl (cI, 10, .inl fg2)), (lw, .inr (1, [.ref l1, .ref l2, .ref l3, .ref l4, .ref l5, .ref l6, .ref l7, .int lz, .int lc])), (l1, .inl (cI, 240, .inl q1)), (l2, .inl (cI, 16, .inl q2)), (l3, .inl (cI, 16, .inl q3)), (l4, .inl (cI, 16, .inl q4)), (l5, .inl (cI, 16, .inl q5)), (l6, .inl (cI, 8, .inl l6_fo_55)), (l7, .inl (cI, 32, .inl l7_fo_56)), (tl, .inr (8, [.ref tw, .ref lw, .ref st, .ref m1, .ref c1, .ref d1, .int tl_6o_57, .int tl_7o_58, .int tl_8o_59, .int tl_9o_60, .int tl_10o_61, .int tl_11o_62, .int tl_12o_63, .int tl_13o_64])), (st, .inr (4, [.ref u1, .ref f1, .ref g1, .int st_3o_65, .int st_4o_66, .int st_5o_67])), (u1, .inl (cI, 12, .inl u1_fo_68)), (f1, .inl (cI, 10, .inl f1_fo_69)), (g1, .inl (cI, 10, .inl g1_fo_70)), (m1, .inl (cI, 10, .inl m1_fo_71)), (c1, .inl (cI, 10, .inl c1_fo_72)), (d1, .inl (cI, 10, .inl d1_fo_73))] := hD
                      refine lv_iinc (v := (nI (i + 1))) (lv' := [(7, .int (nI (i + 1))), (0, .ref h0), (1, .int x1), (2, .int x2), (3, .int x3), (4, .int x4), (5, .int (nI sq))]) hx hb dX9_share_130 hl (k := 6) rfl (nI_1 i) (by decide) rfl (fun ls hl => ?_)
                      refine lv_goto (tgt := 90) hx hb dX9_share_133 (by decide) ?_
                      exact ih_90 (i + 1) l6_fo_55 l7_fo_56 u1_fo_68 f1_fo_69 g1_fo_70 m1_fo_71 c1_fo_72 d1_fo_73 st_3o_65 st_4o_66 st_5o_67 tl_6o_57 tl_7o_58 tl_8o_59 tl_9o_60 tl_10o_61 tl_11o_62 tl_12o_63 tl_13o_64 f_75 (by omega) _ _ (hP.sub [1, 2, 3, 4, 5, 6, 7, 8, 9, 10, 11, 12, 13, 14, 15, 16, 17, 18, 19, 20, 21, 22, 23, 24, 25, 26, 0] rfl) (hD.sub [1, 2, 3, 4, 5, 6, 7, 8, 9, 10, 11, 12, 13, 14, 15, 16, 17, 18, 19, 20, 21, 22, 23, 24, 25, 26, 0] (by decide) rfl) hS _ (lv_sub hl [1, 2, 3, 4, 5, 6, 0] rfl)
                exact loop_90 32 0 q6 q7 fu ff fg fm fc1 fd ms dy dr idl idf idt fc fp mb ra cl fsc (by omega) _ _ (hP.sub [0, 1, 2, 3, 4, 5, 6, 7, 8, 9, 10, 11, 12, 13, 14, 15, 16, 17, 18, 19, 20, 21, 22, 23, 24, 25, 26] rfl) (hD.sub [0, 1, 2, 3, 4, 5, 6, 7, 8, 9, 10, 11, 12, 13, 14, 15, 16, 17, 18, 19, 20, 21, 22, 23, 24, 25, 26] (by decide) rfl) hS _ (lv_sub hl [3, 4, 5, 6, 7, 2, 0] rfl)
              · refine lv_ldc (v := (-1000000000)) hx hb hown (htb _ k_918) dX9_share_84 ?_
                exact ret _ _ _ _ (-1000000000) (q6, q7, idl, idf, idt, fc, fp, mb, ra, cl, ms, dy, dr, fu, ff, fg, fm, fc1, fd, fsc) dX9_share_86 rfl trivial (hP.sub [0, 1, 2, 3, 4, 5, 6, 7, 8, 9, 10, 11, 12, 13, 14, 15, 16, 17, 18, 19, 20, 21, 22, 23, 24, 25, 26] rfl) (hD.sub [0, 1, 2, 3, 4, 5, 6, 7, 8, 9, 10, 11, 12, 13, 14, 15, 16, 17, 18, 19, 20, 21, 22, 23, 24, 25, 26] (by decide) rfl) hS
          · refine lv_ldc (v := (-1000000000)) hx hb hown (htb _ k_918) dX9_share_67 ?_
            exact ret _ _ _ _ (-1000000000) (q6, q7, idl, idf, idt, fc, fp, mb, ra, cl, ms, dy, dr, fu, ff, fg, fm, fc1, fd, fsc) dX9_share_69 rfl trivial (hP.sub [0, 1, 2, 3, 4, 5, 6, 7, 8, 9, 10, 11, 12, 13, 14, 15, 16, 17, 18, 19, 20, 21, 22, 23, 24, 25, 26] rfl) (hD.sub [0, 1, 2, 3, 4, 5, 6, 7, 8, 9, 10, 11, 12, 13, 14, 15, 16, 17, 18, 19, 20, 21, 22, 23, 24, 25, 26] (by decide) rfl) hS

set_option maxRecDepth 100000 in
set_option maxHeartbeats 4000000 in
theorem c_xPersonB (l : Launch) (D : va_G) (cI cB : ClassId) (sz : Nat) (h0 : Nat) (tp : Nat) (tw : Nat) (nw : Nat) (kp : Nat) (lw : Nat) (lr : Nat) (dd : Nat) (vv : Nat) (tl : Nat) (sc : Nat) (hk : Int32) (pe : Int32) (ch : Int32) (rt : Int32) (t1 : Nat) (t2 : Nat) (t3 : Nat) (t4 : Nat) (ft1 : Nat → Int32) (x1 : Int32) (x2 : Int32) (hpe : PEK pe) : MI (S := ((Int32) × (Nat → Int32))) l D cI cB yX9_person cX9_person 3 .boolean (rm 1 22) [.ref h0, .int x1, .int x2] [(h0, .inr (9, [.ref tp, .ref tw, .ref nw, .ref kp, .ref lw, .ref lr, .ref dd, .ref vv, .ref tl, .ref sc, .int hk])), (tw, .inr (7, [.int pe, .int ch, .int rt, .ref t1, .ref t2, .ref t3, .ref t4])), (t1, .inl (cI, 10, .inl ft1))] sz (fun r u => r = bI ((0 ≤ x1 ∧ x1 ≤ 9) ∧ (0 ≤ x2 ∧ x2 ≤ 20)) ∧ PEK u.1) (fun u : ((Int32) × (Nat → Int32)) => [(h0, .inr (9, [.ref tp, .ref tw, .ref nw, .ref kp, .ref lw, .ref lr, .ref dd, .ref vv, .ref tl, .ref sc, .int hk])), (tw, .inr (7, [.int u.1, .int ch, .int rt, .ref t1, .ref t2, .ref t3, .ref t4])), (t1, .inl (cI, 10, .inl u.2))]) := by
  refine MI.of (by decide) (Nat.le_of_ble_eq_true rfl) ?_
  intro p e s m below meth c Q ls A X hin hN hP hK hD hA hl ret
  have hS : va_S A s.heap s.heap [] := va_S.rf
  obtain ⟨hx, hb, hml, hown, htb⟩ := id X
  have hl : lv_has ls 3 [(0, .ref h0), (1, .int x1), (2, .int x2)] := hl
  refine lv_iload_n hx hb dX9_person_0 rfl (lv_at hl 1 rfl) ?_
  refine lv_iconst (v := 0) hx hb dX9_person_1 (by decide) ?_
  refine lv_bipush (v := 9) hx hb dX9_person_2 (by decide) ?_
  refine cSR (As := [.int x1, .int 0, .int 9]) (rest := []) (n := 3) X hN hK hP (c_X9_within l D cI cB x1 0 9) k_431 k_432 k_92 k_433 (by decide +kernel) ⟨Nat.le_of_ble_eq_true rfl, Nat.le_of_ble_eq_true rfl⟩ ⟨rfl, rfl⟩ [] rfl rfl rfl hl.1 (Nat.le_of_ble_eq_true rfl) dX9_person_4 ⟨Nat.le_of_ble_eq_true rfl, Nat.le_of_ble_eq_true rfl⟩ (fun r_1 hr_1 => ?_)
  subst hr_1
  refine lv_if_eq (tgt := 20) hx hb dX9_person_7 (by decide) (fun c_7 => ?_) (fun c_7 => ?_)
  · refine lv_iconst (v := 0) hx hb dX9_person_20 (by decide) ?_
    exact ret _ _ _ _ 0 (pe, ft1) dX9_person_21 rfl (⟨bI0 (fun h => bIf c_7 h.1), hpe⟩) (hP.sub [0, 1, 2] rfl) (hD.sub [0, 1, 2] (by decide) rfl) hS
  · refine lv_iload_n hx hb dX9_person_10 rfl (lv_at hl 2 rfl) ?_
    refine lv_iconst (v := 0) hx hb dX9_person_11 (by decide) ?_
    refine lv_bipush (v := 20) hx hb dX9_person_12 (by decide) ?_
    refine cSR (As := [.int x2, .int 0, .int 20]) (rest := []) (n := 3) X hN hK hP (c_X9_within l D cI cB x2 0 20) k_431 k_432 k_92 k_433 (by decide +kernel) ⟨Nat.le_of_ble_eq_true rfl, Nat.le_of_ble_eq_true rfl⟩ ⟨rfl, rfl⟩ [] rfl rfl rfl hl.1 (Nat.le_of_ble_eq_true rfl) dX9_person_14 ⟨Nat.le_of_ble_eq_true rfl, Nat.le_of_ble_eq_true rfl⟩ (fun r_2 hr_2 => ?_)
    subst hr_2
    refine lv_if_ne (tgt := 22) hx hb dX9_person_17 (by decide) (fun c_17 => ?_) (fun c_17 => ?_)
    · refine lv_aload_n hx hb dX9_person_22 rfl (lv_at hl 0 rfl) ?_
      refine va_get (D := D) (ci := 9) (v := .ref tw) (C := RX9) (T := TX9) (N := 11) hx hb htb itX9 hown hK hP 0 rfl rfl 1 (by decide) (htb _ k_394) (fun _ h9 => h9) rfl dX9_person_23 ?_
      refine lv_dup hx hb dX9_person_26 rfl ?_
      refine va_getN (D := D) (ci := 7) (v := .int pe) (C := RX7) (T := TX7) (N := 7) hx hb htb itX7 hown hK hP 1 rfl rfl 0 (by decide) (va_Nw.use rfl (hN _ n_144 rfl)) (fun _ h9 => h9) rfl dX9_person_27 ?_
      refine lv_iconst (v := 1) hx hb dX9_person_30 (by decide) ?_
      refine lv_iload_n hx hb dX9_person_31 rfl (lv_at hl 1 rfl) ?_
      refine lv_ishl hx hb dX9_person_32 ?_
      refine lv_ior hx hb dX9_person_33 ?_
      refine lv_topi (fun x_3 ex_3 => ?_)
      refine va_putN (D := D) (ci := 7) (v := .int x_3) (ty := .int) (C := RX7) (T := TX7) (N := 7) hx hb htb itX7 tyX7 tyX7_ok nmX7 hown hK hP hD hS 1 rfl rfl 0 (by decide) (va_Nw.use rfl (hN _ n_144 rfl)) (fun _ h9 => h9) rfl (tyX7_ok 0 (by decide)) rfl rfl (Nat.le_of_ble_eq_true rfl) dX9_person_34 (fun H locs hP hD hS => ?_)
      have hP : va_P D vwCl [(h0, .inr (9, [.ref tp, .ref tw, .ref nw, .ref kp, .ref lw, .ref lr, .ref dd, .ref vv, .ref tl, .ref sc, .int hk])), (tw, .inr (7, [.int x_3, .int ch, .int rt, .ref t1, .ref t2, .ref t3, .ref t4])), (t1, .inl (cI, 10, .inl ft1))] H := hP
      have hD : va_D A [(h0, .inr (9, [.ref tp, .ref tw, .ref nw, .ref kp, .ref lw, .ref lr, .ref dd, .ref vv, .ref tl, .ref sc, .int hk])), (tw, .inr (7, [.int x_3, .int ch, .int rt, .ref t1, .ref t2, .ref t3, .ref t4])), (t1, .inl (cI, 10, .inl ft1))] := hD
      refine lv_aload_n hx hb dX9_person_37 rfl (lv_at hl 0 rfl) ?_
      refine va_get (D := D) (ci := 9) (v := .ref tw) (C := RX9) (T := TX9) (N := 11) hx hb htb itX9 hown hK hP 0 rfl rfl 1 (by decide) (htb _ k_394) (fun _ h9 => h9) rfl dX9_person_38 ?_
      refine va_getN (D := D) (ci := 7) (v := .ref t1) (C := RX7) (T := TX7) (N := 7) hx hb htb itX7 hown hK hP 1 rfl rfl 3 (by decide) (va_Nw.use rfl (hN _ n_152 rfl)) (fun _ h9 => h9) rfl dX9_person_41 ?_
      refine lv_iload_n hx hb dX9_person_44 rfl (lv_at hl 1 rfl) ?_
      refine lv_iload_n hx hb dX9_person_45 rfl (lv_at hl 2 rfl) ?_
      refine va_iast hx hb hK hP hD hS 2 0 rfl rfl (in8 (bIt c_7) (n := 10) (by decide)) dX9_person_46 (fun H locs hP hD hS => ?_)
      obtain ⟨f_4, ef_4⟩ : ∃ g : Nat → Int32, g = upd ft1 (Int32.toNatClampNeg x1) x2 := ⟨_, rfl⟩
      rw [← ef_4] at hP hD
      have hP : va_P D vwCl [(h0, .inr (9, [.ref tp, .ref tw, .ref nw, .ref kp, .ref lw, .ref lr, .ref dd, .ref vv, .ref tl, .ref sc, .int hk])), (tw, .inr (7, [.int x_3, .int ch, .int rt, .ref t1, .ref t2, .ref t3, .ref t4])), (t1, .inl (cI, 10, .inl f_4))] H := hP
      have hD : va_D A [(h0, .inr (9, [.ref tp, .ref tw, .ref nw, .ref kp, .ref lw, .ref lr, .ref dd, .ref vv, .ref tl, .ref sc, .int hk])), (tw, .inr (7, [.int x_3, .int ch, .int rt, .ref t1, .ref t2, .ref t3, .ref t4])), (t1, .inl (cI, 10, .inl f_4))] := hD
      refine lv_iconst (v := 1) hx hb dX9_person_47 (by decide) ?_
      exact ret _ _ _ _ 1 (x_3, f_4) dX9_person_48 rfl (⟨bI1 ⟨bIt c_7, bIt c_17⟩, by obtain ⟨kq, hkq, ekq⟩ := inN (k := 9) (by decide) (bIt c_7); rw [ex_3, ekq]; exact PEK_or hpe (by omega)⟩) (hP.sub [0, 1, 2] rfl) (hD.sub [0, 1, 2] (by decide) rfl) hS
    · refine lv_iconst (v := 0) hx hb dX9_person_20 (by decide) ?_
      exact ret _ _ _ _ 0 (pe, ft1) dX9_person_21 rfl (⟨bI0 (fun h => bIf c_17 h.2), hpe⟩) (hP.sub [0, 1, 2] rfl) (hD.sub [0, 1, 2] (by decide) rfl) hS
