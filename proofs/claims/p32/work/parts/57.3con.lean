set_option maxRecDepth 100000 in
set_option maxHeartbeats 4000000 in
theorem c_placeIn0 (l : Launch) (D : va_G) (cI cB : ClassId) (kk : KT) (h0 : Nat) (lw : Nat) (tx : Nat) (tp : Nat) (ed : Int32) (pl : Int32) (fa : Int32) (by_ : Nat) (T : Nat) (fb : Nat → Int32) (hT : T ≤ 260) : MRk l D cI cB kk yX2_placeIn cX2_placeIn 3 .int (rm 4 91) [.ref h0, .ref (kk.2.1 0)] [(h0, .inr (2, [.ref tx, .ref lw])), (tx, .inr (6, [.ref tp, .int ed, .int pl, .int fa])), (tp, .inr (5, [.ref by_, .int (nI T)])), (by_, .inl (cI, 260, .inl fb))] (fun r : Int32 => True) := by
  refine MRk.of (by decide) (Nat.le_of_ble_eq_true rfl) ?_
  intro p e s m below meth c Q ls X hN hKO hP hK hl ret
  have hS : va_S (fun _ => False) s.heap s.heap [] := va_S.rf
  obtain ⟨hx, hb, hml, hown, htb⟩ := id X
  have hl : lv_has ls 3 [(0, .ref h0), (1, .ref (kk.2.1 0))] := hl
  refine lv_aload_n hx hb dX2_placeIn_0 rfl (lv_at hl 0 rfl) ?_
  refine va_get (D := D) (ci := 2) (v := .ref tx) (C := RX2) (T := TX2) (N := 2) hx hb htb itX2 hown hK hP 0 rfl rfl 0 (by decide) (htb _ k_288) (fun _ h9 => h9) rfl dX2_placeIn_1 ?_
  refine cVR (As := []) (rest := []) (n := 0) (ci := 6) (q0 := 0) X hN hK hP (c_X6_sign l D cI cB tx tp ed pl fa by_ T fb hT) (gV k_483 k_484 k_485 k_98 k_486) (by decide +kernel) ⟨Nat.le_of_ble_eq_true rfl, Nat.le_of_ble_eq_true rfl⟩ ⟨rfl, rfl⟩ [1, 2, 3] rfl rfl rfl rfl rfl rfl hl.1 (Nat.le_of_ble_eq_true rfl) dX2_placeIn_4 ⟨Nat.le_of_ble_eq_true rfl, Nat.le_of_ble_eq_true rfl⟩ (fun r_1 hr_1 => ?_)
  subst hr_1
  refine lv_topi (fun x_2 ex_2 => ?_)
  refine lv_istore_n (lv' := [(2, .int x_2), (0, .ref h0), (1, .ref (kk.2.1 0))]) hx hb dX2_placeIn_7 rfl hl (by decide) rfl (fun ls hl => ?_)
  refine lv_iload_n hx hb dX2_placeIn_8 rfl (lv_at hl 0 rfl) ?_
  refine lv_if_ge (tgt := 16) hx hb dX2_placeIn_9 (by decide) (fun c_9 => ?_) (fun c_9 => ?_)
  · refine lv_aload_n hx hb dX2_placeIn_16 rfl (lv_at hl 2 rfl) ?_
    refine lv_iload_n hx hb dX2_placeIn_17 rfl (lv_at hl 0 rfl) ?_
    refine lv_i2c hx hb dX2_placeIn_18 rfl ?_
    refine cKR (i := 0) (As := [.int ((x_2 : Int32).toUInt32 % 65536).toInt32]) (rest := []) (n := 1) X hN hKO hS hK hP (c_idx0 l D cI cB kk (((x_2 : Int32).toUInt32 % 65536).toInt32)) (gV k_487 k_488 k_489 k_104 k_490) (by decide +kernel) ⟨Nat.le_of_ble_eq_true rfl, Nat.le_of_ble_eq_true rfl⟩ ⟨rfl, rfl⟩ [] rfl (by decide) rfl rfl hl.1 (Nat.le_of_ble_eq_true rfl) dX2_placeIn_19 ⟨Nat.le_of_ble_eq_true rfl, Nat.le_of_ble_eq_true rfl⟩ (fun r_3 hr_3 => ?_)
    subst hr_3
    exact ret _ _ (iI (0 ≤ ((x_2 : Int32).toUInt32 % 65536).toInt32 ∧ ((x_2 : Int32).toUInt32 % 65536).toInt32 ≤ 255) (kp0 (((x_2 : Int32).toUInt32 % 65536).toInt32.toInt8.toInt32)) (-1)) dX2_placeIn_22 rfl trivial
  · refine lv_iconst (v := (-1)) hx hb dX2_placeIn_12 (by decide) ?_
    refine lv_goto (tgt := 22) hx hb dX2_placeIn_13 (by decide) ?_
    exact ret _ _ (-1) dX2_placeIn_22 rfl trivial

set_option maxRecDepth 100000 in
set_option maxHeartbeats 4000000 in
theorem c_placeIn1 (l : Launch) (D : va_G) (cI cB : ClassId) (kk : KT) (h0 : Nat) (lw : Nat) (tx : Nat) (tp : Nat) (ed : Int32) (pl : Int32) (fa : Int32) (by_ : Nat) (T : Nat) (fb : Nat → Int32) (hT : T ≤ 260) : MRk l D cI cB kk yX2_placeIn cX2_placeIn 3 .int (rm 4 91) [.ref h0, .ref (kk.2.1 1)] [(h0, .inr (2, [.ref tx, .ref lw])), (tx, .inr (6, [.ref tp, .int ed, .int pl, .int fa])), (tp, .inr (5, [.ref by_, .int (nI T)])), (by_, .inl (cI, 260, .inl fb))] (fun r : Int32 => True) := by
  refine MRk.of (by decide) (Nat.le_of_ble_eq_true rfl) ?_
  intro p e s m below meth c Q ls X hN hKO hP hK hl ret
  have hS : va_S (fun _ => False) s.heap s.heap [] := va_S.rf
  obtain ⟨hx, hb, hml, hown, htb⟩ := id X
  have hl : lv_has ls 3 [(0, .ref h0), (1, .ref (kk.2.1 1))] := hl
  refine lv_aload_n hx hb dX2_placeIn_0 rfl (lv_at hl 0 rfl) ?_
  refine va_get (D := D) (ci := 2) (v := .ref tx) (C := RX2) (T := TX2) (N := 2) hx hb htb itX2 hown hK hP 0 rfl rfl 0 (by decide) (htb _ k_288) (fun _ h9 => h9) rfl dX2_placeIn_1 ?_
  refine cVR (As := []) (rest := []) (n := 0) (ci := 6) (q0 := 0) X hN hK hP (c_X6_sign l D cI cB tx tp ed pl fa by_ T fb hT) (gV k_483 k_484 k_485 k_98 k_486) (by decide +kernel) ⟨Nat.le_of_ble_eq_true rfl, Nat.le_of_ble_eq_true rfl⟩ ⟨rfl, rfl⟩ [1, 2, 3] rfl rfl rfl rfl rfl rfl hl.1 (Nat.le_of_ble_eq_true rfl) dX2_placeIn_4 ⟨Nat.le_of_ble_eq_true rfl, Nat.le_of_ble_eq_true rfl⟩ (fun r_1 hr_1 => ?_)
  subst hr_1
  refine lv_topi (fun x_2 ex_2 => ?_)
  refine lv_istore_n (lv' := [(2, .int x_2), (0, .ref h0), (1, .ref (kk.2.1 1))]) hx hb dX2_placeIn_7 rfl hl (by decide) rfl (fun ls hl => ?_)
  refine lv_iload_n hx hb dX2_placeIn_8 rfl (lv_at hl 0 rfl) ?_
  refine lv_if_ge (tgt := 16) hx hb dX2_placeIn_9 (by decide) (fun c_9 => ?_) (fun c_9 => ?_)
  · refine lv_aload_n hx hb dX2_placeIn_16 rfl (lv_at hl 2 rfl) ?_
    refine lv_iload_n hx hb dX2_placeIn_17 rfl (lv_at hl 0 rfl) ?_
    refine lv_i2c hx hb dX2_placeIn_18 rfl ?_
    refine cKR (i := 1) (As := [.int ((x_2 : Int32).toUInt32 % 65536).toInt32]) (rest := []) (n := 1) X hN hKO hS hK hP (c_idx1 l D cI cB kk (((x_2 : Int32).toUInt32 % 65536).toInt32)) (gV k_487 k_488 k_489 k_104 k_490) (by decide +kernel) ⟨Nat.le_of_ble_eq_true rfl, Nat.le_of_ble_eq_true rfl⟩ ⟨rfl, rfl⟩ [] rfl (by decide) rfl rfl hl.1 (Nat.le_of_ble_eq_true rfl) dX2_placeIn_19 ⟨Nat.le_of_ble_eq_true rfl, Nat.le_of_ble_eq_true rfl⟩ (fun r_3 hr_3 => ?_)
    subst hr_3
    exact ret _ _ (iI (0 ≤ ((x_2 : Int32).toUInt32 % 65536).toInt32 ∧ ((x_2 : Int32).toUInt32 % 65536).toInt32 ≤ 255) (kp1 (((x_2 : Int32).toUInt32 % 65536).toInt32.toInt8.toInt32)) (-1)) dX2_placeIn_22 rfl trivial
  · refine lv_iconst (v := (-1)) hx hb dX2_placeIn_12 (by decide) ?_
    refine lv_goto (tgt := 22) hx hb dX2_placeIn_13 (by decide) ?_
    exact ret _ _ (-1) dX2_placeIn_22 rfl trivial

set_option maxRecDepth 100000 in
set_option maxHeartbeats 4000000 in
theorem c_X2_opens (l : Launch) (D : va_G) (cI cB : ClassId) (sz : Nat) (h0 : Nat) (lw : Nat) (tx : Nat) (tp : Nat) (ed : Int32) (pl : Int32) (fa : Int32) (a : Int32)  : MI (S := ((Int32) × (Int32))) l D cI cB yX2_opens cX2_opens 2 .boolean (rm 1 22) [.ref h0, .int a] [(h0, .inr (2, [.ref tx, .ref lw])), (tx, .inr (6, [.ref tp, .int ed, .int pl, .int fa]))] sz (fun r u => r = bI (a < 6)) (fun u : ((Int32) × (Int32)) => [(h0, .inr (2, [.ref tx, .ref lw])), (tx, .inr (6, [.ref tp, .int ed, .int u.1, .int u.2]))]) := by
  refine MI.of (by decide) (Nat.le_of_ble_eq_true rfl) ?_
  intro p e s m below meth c Q ls A X hin hN hP hK hD hA hl ret
  have hS : va_S A s.heap s.heap [] := va_S.rf
  obtain ⟨hx, hb, hml, hown, htb⟩ := id X
  have hl : lv_has ls 2 [(0, .ref h0), (1, .int a)] := hl
  refine lv_iload_n hx hb dX2_opens_0 rfl (lv_at hl 1 rfl) ?_
  refine lv_bipush (v := 6) hx hb dX2_opens_1 (by decide) ?_
  refine lv_icmp_lt (tgt := 23) hx hb dX2_opens_3 (by decide) (fun c_3 => ?_) (fun c_3 => ?_)
  · refine lv_aload_n hx hb dX2_opens_23 rfl (lv_at hl 0 rfl) ?_
    refine va_get (D := D) (ci := 2) (v := .ref tx) (C := RX2) (T := TX2) (N := 2) hx hb htb itX2 hown hK hP 0 rfl rfl 0 (by decide) (htb _ k_288) (fun _ h9 => h9) rfl dX2_opens_24 ?_
    refine lv_dup hx hb dX2_opens_27 rfl ?_
    refine va_getN (D := D) (ci := 6) (v := .int pl) (C := RX6) (T := TX6) (N := 4) hx hb htb itX6 hown hK hP 1 rfl rfl 2 (by decide) (va_Nw.use rfl (hN _ n_264 rfl)) (fun _ h9 => h9) rfl dX2_opens_28 ?_
    refine lv_iconst (v := 1) hx hb dX2_opens_31 (by decide) ?_
    refine lv_iadd hx hb dX2_opens_32 ?_
    refine lv_topi (fun x_1 ex_1 => ?_)
    refine va_putN (D := D) (ci := 6) (v := .int x_1) (ty := .int) (C := RX6) (T := TX6) (N := 4) hx hb htb itX6 tyX6 tyX6_ok nmX6 hown hK hP hD hS 1 rfl rfl 2 (by decide) (va_Nw.use rfl (hN _ n_264 rfl)) (fun _ h9 => h9) rfl (tyX6_ok 2 (by decide)) rfl rfl (Nat.le_of_ble_eq_true rfl) dX2_opens_33 (fun H locs hP hD hS => ?_)
    have hP : va_P D vwCl [(h0, .inr (2, [.ref tx, .ref lw])), (tx, .inr (6, [.ref tp, .int ed, .int x_1, .int fa]))] H := hP
    have hD : va_D A [(h0, .inr (2, [.ref tx, .ref lw])), (tx, .inr (6, [.ref tp, .int ed, .int x_1, .int fa]))] := hD
    refine lv_iconst (v := 1) hx hb dX2_opens_36 (by decide) ?_
    exact ret _ _ _ _ 1 (x_1, fa) dX2_opens_37 rfl (bI1 c_3) (hP.sub [0, 1] rfl) (hD.sub [0, 1] (by decide) rfl) hS
  · refine lv_aload_n hx hb dX2_opens_6 rfl (lv_at hl 0 rfl) ?_
    refine va_get (D := D) (ci := 2) (v := .ref tx) (C := RX2) (T := TX2) (N := 2) hx hb htb itX2 hown hK hP 0 rfl rfl 0 (by decide) (htb _ k_288) (fun _ h9 => h9) rfl dX2_opens_7 ?_
    refine lv_iconst (v := 5) hx hb dX2_opens_10 (by decide) ?_
    refine lv_aload_n hx hb dX2_opens_11 rfl (lv_at hl 0 rfl) ?_
    refine va_get (D := D) (ci := 2) (v := .ref tx) (C := RX2) (T := TX2) (N := 2) hx hb htb itX2 hown hK hP 0 rfl rfl 0 (by decide) (htb _ k_288) (fun _ h9 => h9) rfl dX2_opens_12 ?_
    refine va_getN (D := D) (ci := 6) (v := .int pl) (C := RX6) (T := TX6) (N := 4) hx hb htb itX6 hown hK hP 1 rfl rfl 2 (by decide) (va_Nw.use rfl (hN _ n_264 rfl)) (fun _ h9 => h9) rfl dX2_opens_15 ?_
    refine cVV (As := [.int 5, .int pl]) (rest := []) (n := 2) (ci := 6) (q0 := 0) (wr := [(h0, .inr (2, [.ref tx, .ref lw]))]) X hN hK hP hD hS hA (c_X6_fail l D cI cB _ tx tp ed pl fa 5 pl) (gV k_573 k_574 k_575 k_98 k_576) (by decide +kernel) ⟨Nat.le_of_ble_eq_true rfl, Nat.le_of_ble_eq_true rfl⟩ ⟨rfl, rfl⟩ [1] [0] rfl rfl (by decide) (by decide) rfl rfl rfl rfl rfl hl.1 (Nat.le_of_ble_eq_true rfl) dX2_opens_18 ⟨Nat.le_of_ble_eq_true rfl, Nat.le_of_ble_eq_true rfl⟩ (fun u H locs hw_4 hP hD hS => ?_)
    obtain ⟨h0_3o_3, rfl⟩ : ∃ z, z = u := ⟨_, rfl⟩
    try dsimp only at hw_4
    have hP : va_P D vwCl [(h0, .inr (2, [.ref tx, .ref lw])), (tx, .inr (6, [.ref tp, .int ed, .int pl, .int h0_3o_3]))] H := hP
    have hD : va_D A [(h0, .inr (2, [.ref tx, .ref lw])), (tx, .inr (6, [.ref tp, .int ed, .int pl, .int h0_3o_3]))] := hD
    refine lv_iconst (v := 0) hx hb dX2_opens_21 (by decide) ?_
    exact ret _ _ _ _ 0 (pl, h0_3o_3) dX2_opens_22 rfl (bI0 c_3) (hP.sub [0, 1] rfl) (hD.sub [0, 1] (by decide) rfl) hS

set_option maxRecDepth 100000 in
set_option maxHeartbeats 4000000 in
theorem c_X2_comparison (l : Launch) (D : va_G) (cI cB : ClassId) (sz : Nat) (h0 : Nat) (lw : Nat) (tx : Nat) (tp : Nat) (ed : Int32) (pl : Int32) (fa : Int32) (by_ : Nat) (T : Nat) (fb : Nat → Int32) (hT : T ≤ 260) : MI (S := ((Int32) × (Int32))) l D cI cB yX2_comparison cX2_comparison 1 .int (rm 3 64) [.ref h0] [(h0, .inr (2, [.ref tx, .ref lw])), (tx, .inr (6, [.ref tp, .int ed, .int pl, .int fa])), (tp, .inr (5, [.ref by_, .int (nI T)])), (by_, .inl (cI, 260, .inl fb))] sz (fun r u => True) (fun u : ((Int32) × (Int32)) => [(h0, .inr (2, [.ref tx, .ref lw])), (tx, .inr (6, [.ref tp, .int ed, .int u.1, .int u.2])), (tp, .inr (5, [.ref by_, .int (nI T)])), (by_, .inl (cI, 260, .inl fb))]) := by
  refine MI.of (by decide) (Nat.le_of_ble_eq_true rfl) ?_
  intro p e s m below meth c Q ls A X hin hN hP hK hD hA hl ret
  have hS : va_S A s.heap s.heap [] := va_S.rf
  obtain ⟨hx, hb, hml, hown, htb⟩ := id X
  have hl : lv_has ls 1 [(0, .ref h0)] := hl
  refine lv_aload_n hx hb dX2_comparison_0 rfl (lv_at hl 0 rfl) ?_
  refine va_get (D := D) (ci := 2) (v := .ref tx) (C := RX2) (T := TX2) (N := 2) hx hb htb itX2 hown hK hP 0 rfl rfl 0 (by decide) (htb _ k_288) (fun _ h9 => h9) rfl dX2_comparison_1 ?_
  refine lv_bipush (v := 60) hx hb dX2_comparison_4 (by decide) ?_
  refine cVI (As := [.int 60]) (rest := []) (n := 1) (ci := 6) (q0 := 0) (wr := [(h0, .inr (2, [.ref tx, .ref lw]))]) X hN hK hP hD hS hA (c_X6_skip l D cI cB _ tx tp ed pl fa by_ T fb 60 hT) (gV k_644 k_607 k_608 k_98 k_609) (by decide +kernel) ⟨Nat.le_of_ble_eq_true rfl, Nat.le_of_ble_eq_true rfl⟩ ⟨rfl, rfl⟩ [1, 2, 3] [0] rfl rfl (by decide) (by decide) rfl rfl rfl rfl rfl hl.1 (Nat.le_of_ble_eq_true rfl) dX2_comparison_6 ⟨Nat.le_of_ble_eq_true rfl, Nat.le_of_ble_eq_true rfl⟩ (fun r_1 u H locs hw_3 hP hD hS => ?_)
  obtain ⟨h0_2o_2, rfl⟩ : ∃ z, z = u := ⟨_, rfl⟩
  try dsimp only at hw_3
  have hP : va_P D vwCl [(h0, .inr (2, [.ref tx, .ref lw])), (tx, .inr (6, [.ref tp, .int ed, .int h0_2o_2, .int fa])), (tp, .inr (5, [.ref by_, .int (nI T)])), (by_, .inl (cI, 260, .inl fb))] H := hP
  have hD : va_D A [(h0, .inr (2, [.ref tx, .ref lw])), (tx, .inr (6, [.ref tp, .int ed, .int h0_2o_2, .int fa])), (tp, .inr (5, [.ref by_, .int (nI T)])), (by_, .inl (cI, 260, .inl fb))] := hD
  refine lv_if_eq (tgt := 15) hx hb dX2_comparison_9 (by decide) (fun c_9 => ?_) (fun c_9 => ?_)
  · refine lv_aload_n hx hb dX2_comparison_15 rfl (lv_at hl 0 rfl) ?_
    refine va_get (D := D) (ci := 2) (v := .ref tx) (C := RX2) (T := TX2) (N := 2) hx hb htb itX2 hown hK hP 0 rfl rfl 0 (by decide) (htb _ k_288) (fun _ h9 => h9) rfl dX2_comparison_16 ?_
    refine lv_bipush (v := 62) hx hb dX2_comparison_19 (by decide) ?_
    refine cVI (As := [.int 62]) (rest := []) (n := 1) (ci := 6) (q0 := 0) (wr := [(h0, .inr (2, [.ref tx, .ref lw]))]) X hN hK hP hD hS hA (c_X6_skip l D cI cB _ tx tp ed h0_2o_2 fa by_ T fb 62 hT) (gV k_644 k_607 k_608 k_98 k_609) (by decide +kernel) ⟨Nat.le_of_ble_eq_true rfl, Nat.le_of_ble_eq_true rfl⟩ ⟨rfl, rfl⟩ [1, 2, 3] [0] rfl rfl (by decide) (by decide) rfl rfl rfl rfl rfl hl.1 (Nat.le_of_ble_eq_true rfl) dX2_comparison_21 ⟨Nat.le_of_ble_eq_true rfl, Nat.le_of_ble_eq_true rfl⟩ (fun r_4 u H locs hw_6 hP hD hS => ?_)
    obtain ⟨h0_2o_5, rfl⟩ : ∃ z, z = u := ⟨_, rfl⟩
    try dsimp only at hw_6
    have hP : va_P D vwCl [(h0, .inr (2, [.ref tx, .ref lw])), (tx, .inr (6, [.ref tp, .int ed, .int h0_2o_5, .int fa])), (tp, .inr (5, [.ref by_, .int (nI T)])), (by_, .inl (cI, 260, .inl fb))] H := hP
    have hD : va_D A [(h0, .inr (2, [.ref tx, .ref lw])), (tx, .inr (6, [.ref tp, .int ed, .int h0_2o_5, .int fa])), (tp, .inr (5, [.ref by_, .int (nI T)])), (by_, .inl (cI, 260, .inl fb))] := hD
    refine lv_if_eq (tgt := 30) hx hb dX2_comparison_24 (by decide) (fun c_24 => ?_) (fun c_24 => ?_)
    · refine lv_aload_n hx hb dX2_comparison_30 rfl (lv_at hl 0 rfl) ?_
      refine va_get (D := D) (ci := 2) (v := .ref tx) (C := RX2) (T := TX2) (N := 2) hx hb htb itX2 hown hK hP 0 rfl rfl 0 (by decide) (htb _ k_288) (fun _ h9 => h9) rfl dX2_comparison_31 ?_
      refine lv_bipush (v := 61) hx hb dX2_comparison_34 (by decide) ?_
      refine cVV (As := [.int 61]) (rest := []) (n := 1) (ci := 6) (q0 := 0) (wr := [(h0, .inr (2, [.ref tx, .ref lw]))]) X hN hK hP hD hS hA (c_X6_expect l D cI cB _ tx tp ed h0_2o_5 fa by_ T fb 61 hT) (gV k_602 k_603 k_604 k_98 k_605) (by decide +kernel) ⟨Nat.le_of_ble_eq_true rfl, Nat.le_of_ble_eq_true rfl⟩ ⟨rfl, rfl⟩ [1, 2, 3] [0] rfl rfl (by decide) (by decide) rfl rfl rfl rfl rfl hl.1 (Nat.le_of_ble_eq_true rfl) dX2_comparison_36 ⟨Nat.le_of_ble_eq_true rfl, Nat.le_of_ble_eq_true rfl⟩ (fun u H locs hw_10 hP hD hS => ?_)
      obtain ⟨h0_2o_8, h0_3o_9⟩ := u
      try dsimp only at hw_10
      have hP : va_P D vwCl [(h0, .inr (2, [.ref tx, .ref lw])), (tx, .inr (6, [.ref tp, .int ed, .int h0_2o_8, .int h0_3o_9])), (tp, .inr (5, [.ref by_, .int (nI T)])), (by_, .inl (cI, 260, .inl fb))] H := hP
      have hD : va_D A [(h0, .inr (2, [.ref tx, .ref lw])), (tx, .inr (6, [.ref tp, .int ed, .int h0_2o_8, .int h0_3o_9])), (tp, .inr (5, [.ref by_, .int (nI T)])), (by_, .inl (cI, 260, .inl fb))] := hD
      refine lv_bipush (v := 12) hx hb dX2_comparison_39 (by decide) ?_
      exact ret _ _ _ _ 12 (h0_2o_8, h0_3o_9) dX2_comparison_41 rfl trivial (hP.sub [0, 1, 2, 3] rfl) (hD.sub [0, 1, 2, 3] (by decide) rfl) hS
    · refine lv_bipush (v := 11) hx hb dX2_comparison_27 (by decide) ?_
      exact ret _ _ _ _ 11 (h0_2o_5, fa) dX2_comparison_29 rfl trivial (hP.sub [0, 1, 2, 3] rfl) (hD.sub [0, 1, 2, 3] (by decide) rfl) hS
  · refine lv_bipush (v := 10) hx hb dX2_comparison_12 (by decide) ?_
    exact ret _ _ _ _ 10 (h0_2o_2, fa) dX2_comparison_14 rfl trivial (hP.sub [0, 1, 2, 3] rfl) (hD.sub [0, 1, 2, 3] (by decide) rfl) hS

set_option maxRecDepth 100000 in
set_option maxHeartbeats 4000000 in
theorem c_X2_factorStep (l : Launch) (D : va_G) (cI cB : ClassId) (h0 : Nat) (lw : Nat) (tx : Nat) (tp : Nat) (ed : Int32) (pl : Int32) (fa : Int32) (by_ : Nat) (T : Nat) (fb : Nat → Int32) (hT : T ≤ 260) : MR l D cI cB yX2_factorStep cX2_factorStep 1 .int (rm 1 21) [.ref h0] [(h0, .inr (2, [.ref tx, .ref lw])), (tx, .inr (6, [.ref tp, .int ed, .int pl, .int fa])), (tp, .inr (5, [.ref by_, .int (nI T)])), (by_, .inl (cI, 260, .inl fb))] (fun r : Int32 => True) := by
  refine MR.of (by decide) (Nat.le_of_ble_eq_true rfl) ?_
  intro p e s m below meth c Q ls X hN hP hK hl ret
  obtain ⟨hx, hb, hml, hown, htb⟩ := id X
  have hl : lv_has ls 1 [(0, .ref h0)] := hl
  refine lv_aload_n hx hb dX2_factorStep_0 rfl (lv_at hl 0 rfl) ?_
  refine va_get (D := D) (ci := 2) (v := .ref tx) (C := RX2) (T := TX2) (N := 2) hx hb htb itX2 hown hK hP 0 rfl rfl 0 (by decide) (htb _ k_288) (fun _ h9 => h9) rfl dX2_factorStep_1 ?_
  refine cVR (As := []) (rest := []) (n := 0) (ci := 6) (q0 := 0) X hN hK hP (c_X6_sign l D cI cB tx tp ed pl fa by_ T fb hT) (gV k_483 k_484 k_485 k_98 k_486) (by decide +kernel) ⟨Nat.le_of_ble_eq_true rfl, Nat.le_of_ble_eq_true rfl⟩ ⟨rfl, rfl⟩ [1, 2, 3] rfl rfl rfl rfl rfl rfl hl.1 (Nat.le_of_ble_eq_true rfl) dX2_factorStep_4 ⟨Nat.le_of_ble_eq_true rfl, Nat.le_of_ble_eq_true rfl⟩ (fun rs hrs => ?_)
  subst hrs
  refine lv_topi (fun gs egs => ?_)
  by_cases e7_0 : gs = 37
  · subst e7_0
    refine lv_lookup (off := 39) (tgt := 46) hx hb dX2_factorStep_7 (by decide) (by decide) (by decide) ?_
    refine lv_bipush (v := 9) hx hb dX2_factorStep_46 (by decide) ?_
    exact ret _ _ 9 dX2_factorStep_48 rfl trivial
  by_cases e7_1 : gs = 42
  · subst e7_1
    refine lv_lookup (off := 33) (tgt := 40) hx hb dX2_factorStep_7 (by decide) (by decide) (by decide) ?_
    refine lv_bipush (v := 7) hx hb dX2_factorStep_40 (by decide) ?_
    exact ret _ _ 7 dX2_factorStep_42 rfl trivial
  by_cases e7_2 : gs = 47
  · subst e7_2
    refine lv_lookup (off := 36) (tgt := 43) hx hb dX2_factorStep_7 (by decide) (by decide) (by decide) ?_
    refine lv_bipush (v := 8) hx hb dX2_factorStep_43 (by decide) ?_
    exact ret _ _ 8 dX2_factorStep_45 rfl trivial
  refine lv_lookup (off := 42) (tgt := 49) hx hb dX2_factorStep_7 (by decide) ((lv_osw e7_0 (by decide)).trans ((lv_osw e7_1 (by decide)).trans ((lv_osw e7_2 (by decide)).trans (rfl)))) (by decide) ?_
  refine lv_iconst (v := (-1)) hx hb dX2_factorStep_49 (by decide) ?_
  exact ret _ _ (-1) dX2_factorStep_50 rfl trivial

set_option maxRecDepth 100000 in
set_option maxHeartbeats 4000000 in
theorem c_readFactor_6 (l : Launch) (D : va_G) (cI cB : ClassId) (sz : Nat) (kk : KT) (h0 : Nat) (tx : Nat) (tp : Nat) (ed : Int32) (pl : Int32) (fa : Int32) (by_ : Nat) (T : Nat) (fb : Nat → Int32) (lw : Nat) (l1 : Nat) (l2 : Nat) (l3 : Nat) (l4 : Nat) (l5 : Nat) (l6 : Nat) (l7 : Nat) (z : Nat) (k : Nat) (q1 : Nat → Int32) (hT : T ≤ 260) (hz : z ≤ 240) (hk : k ≤ 16) : MVk (S := ((Int32) × (Int32) × (Nat) × (Nat → Int32))) l D cI cB kk yX2_readFactor cX2_readFactor 3 (rm 5 113) [.ref h0, .int 6] [(h0, .inr (2, [.ref tx, .ref lw])), (tx, .inr (6, [.ref tp, .int ed, .int pl, .int fa])), (tp, .inr (5, [.ref by_, .int (nI T)])), (by_, .inl (cI, 260, .inl fb)), (lw, .inr (1, [.ref l1, .ref l2, .ref l3, .ref l4, .ref l5, .ref l6, .ref l7, .int (nI z), .int (nI k)])), (l1, .inl (cI, 240, .inl q1))] sz (fun u => u.2.2.1 ≤ 240) (fun u : ((Int32) × (Int32) × (Nat) × (Nat → Int32)) => [(h0, .inr (2, [.ref tx, .ref lw])), (tx, .inr (6, [.ref tp, .int ed, .int u.1, .int u.2.1])), (tp, .inr (5, [.ref by_, .int (nI T)])), (by_, .inl (cI, 260, .inl fb)), (lw, .inr (1, [.ref l1, .ref l2, .ref l3, .ref l4, .ref l5, .ref l6, .ref l7, .int (nI u.2.2.1), .int (nI k)])), (l1, .inl (cI, 240, .inl u.2.2.2))]) := by
  refine MVk.of (by decide) (Nat.le_of_ble_eq_true rfl) ?_
  intro p e s m below meth c Q ls A X hin hN hKO hP hK hD hA hl ret
  have hS : va_S A s.heap s.heap [] := va_S.rf
  obtain ⟨hx, hb, hml, hown, htb⟩ := id X
  have hl : lv_has ls 3 [(0, .ref h0), (1, .int 6)] := hl
  refine lv_aload_n hx hb dX2_readFactor_0 rfl (lv_at hl 0 rfl) ?_
  refine va_ldcS hx hb hown hKO.2.2.2.2.2 dX2_readFactor_1 ?_
  refine cVRk (As := [.ref (kk.2.1 1)]) (rest := []) (n := 1) (ci := 2) (q0 := 0) X hN hKO hS hK hP (c_placeIn1 l D cI cB kk h0 lw tx tp ed pl fa by_ T fb hT) (gV k_479 k_481 k_1 k_99 k_482) (by decide +kernel) ⟨Nat.le_of_ble_eq_true rfl, Nat.le_of_ble_eq_true rfl⟩ ⟨rfl, rfl⟩ [0, 1, 2, 3] rfl rfl rfl rfl rfl rfl hl.1 (Nat.le_of_ble_eq_true rfl) dX2_readFactor_3 ⟨Nat.le_of_ble_eq_true rfl, Nat.le_of_ble_eq_true rfl⟩ (fun r_1 hr_1 => ?_)
  refine lv_istore_n (lv' := [(2, .int r_1), (0, .ref h0), (1, .int 6)]) hx hb dX2_readFactor_6 rfl hl (by decide) rfl (fun ls hl => ?_)
  refine lv_iload_n hx hb dX2_readFactor_7 rfl (lv_at hl 0 rfl) ?_
  refine lv_if_lt (tgt := 36) hx hb dX2_readFactor_8 (by decide) (fun c_8 => ?_) (fun c_8 => ?_)
  · refine lv_aload_n hx hb dX2_readFactor_36 rfl (lv_at hl 1 rfl) ?_
    refine va_get (D := D) (ci := 2) (v := .ref tx) (C := RX2) (T := TX2) (N := 2) hx hb htb itX2 hown hK hP 0 rfl rfl 0 (by decide) (htb _ k_288) (fun _ h9 => h9) rfl dX2_readFactor_37 ?_
    refine cVR (As := []) (rest := []) (n := 0) (ci := 6) (q0 := 0) X hN hK hP (c_X6_sign l D cI cB tx tp ed pl fa by_ T fb hT) (gV k_483 k_484 k_485 k_98 k_486) (by decide +kernel) ⟨Nat.le_of_ble_eq_true rfl, Nat.le_of_ble_eq_true rfl⟩ ⟨rfl, rfl⟩ [1, 2, 3] rfl rfl rfl rfl rfl rfl hl.1 (Nat.le_of_ble_eq_true rfl) dX2_readFactor_40 ⟨Nat.le_of_ble_eq_true rfl, Nat.le_of_ble_eq_true rfl⟩ (fun r_2 hr_2 => ?_)
    subst hr_2
    refine lv_bipush (v := 91) hx hb dX2_readFactor_43 (by decide) ?_
    refine lv_icmp_ne (tgt := 75) hx hb dX2_readFactor_45 (by decide) (fun c_45 => ?_) (fun c_45 => ?_)
    · refine lv_aload_n hx hb dX2_readFactor_75 rfl (lv_at hl 1 rfl) ?_
      refine va_get (D := D) (ci := 2) (v := .ref lw) (C := RX2) (T := TX2) (N := 2) hx hb htb itX2 hown hK hP 0 rfl rfl 1 (by decide) (htb _ k_289) (fun _ h9 => h9) rfl dX2_readFactor_76 ?_
      refine lv_iconst (v := 0) hx hb dX2_readFactor_79 (by decide) ?_
      refine lv_aload_n hx hb dX2_readFactor_80 rfl (lv_at hl 1 rfl) ?_
      refine va_get (D := D) (ci := 2) (v := .ref tx) (C := RX2) (T := TX2) (N := 2) hx hb htb itX2 hown hK hP 0 rfl rfl 0 (by decide) (htb _ k_288) (fun _ h9 => h9) rfl dX2_readFactor_81 ?_
      refine lv_iconst (v := 5) hx hb dX2_readFactor_84 (by decide) ?_
      refine lv_iconst (v := 2) hx hb dX2_readFactor_85 (by decide) ?_
      refine cVI (As := [.int 5, .int 2]) (rest := [.int 0, .ref lw]) (n := 2) (ci := 6) (q0 := 0) (wr := [(h0, .inr (2, [.ref tx, .ref lw])), (lw, .inr (1, [.ref l1, .ref l2, .ref l3, .ref l4, .ref l5, .ref l6, .ref l7, .int (nI z), .int (nI k)])), (l1, .inl (cI, 240, .inl q1))]) X hN hK hP hD hS hA (c_X6_number l D cI cB _ tx tp ed pl fa by_ T fb 5 2 hT (by decide)) (gV k_612 k_613 k_614 k_98 k_615) (by decide +kernel) ⟨Nat.le_of_ble_eq_true rfl, Nat.le_of_ble_eq_true rfl⟩ ⟨rfl, rfl⟩ [1, 2, 3] [0, 4, 5] rfl rfl (by decide) (by decide) rfl rfl rfl rfl rfl hl.1 (Nat.le_of_ble_eq_true rfl) dX2_readFactor_86 ⟨Nat.le_of_ble_eq_true rfl, Nat.le_of_ble_eq_true rfl⟩ (fun r_3 u H locs hw_6 hP hD hS => ?_)
      obtain ⟨h0_2o_4, h0_3o_5⟩ := u
      try dsimp only at hw_6
      have hP : va_P D vwCl [(h0, .inr (2, [.ref tx, .ref lw])), (lw, .inr (1, [.ref l1, .ref l2, .ref l3, .ref l4, .ref l5, .ref l6, .ref l7, .int (nI z), .int (nI k)])), (l1, .inl (cI, 240, .inl q1)), (tx, .inr (6, [.ref tp, .int ed, .int h0_2o_4, .int h0_3o_5])), (tp, .inr (5, [.ref by_, .int (nI T)])), (by_, .inl (cI, 260, .inl fb))] H := hP
      have hD : va_D A [(h0, .inr (2, [.ref tx, .ref lw])), (lw, .inr (1, [.ref l1, .ref l2, .ref l3, .ref l4, .ref l5, .ref l6, .ref l7, .int (nI z), .int (nI k)])), (l1, .inl (cI, 240, .inl q1)), (tx, .inr (6, [.ref tp, .int ed, .int h0_2o_4, .int h0_3o_5])), (tp, .inr (5, [.ref by_, .int (nI T)])), (by_, .inl (cI, 260, .inl fb))] := hD
      refine cVV (As := [.int 0, .int r_3]) (rest := []) (n := 2) (ci := 1) (q0 := 0) (wr := [(h0, .inr (2, [.ref tx, .ref lw])), (tx, .inr (6, [.ref tp, .int ed, .int h0_2o_4, .int h0_3o_5])), (tp, .inr (5, [.ref by_, .int (nI T)])), (by_, .inl (cI, 260, .inl fb))]) X hN hK hP hD hS hA (c_X1_addStep l D cI cB _ lw l1 l2 l3 l4 l5 l6 l7 z k 0 r_3 q1 hz hk) (gV k_594 k_595 k_596 k_97 k_597) (by decide +kernel) ⟨Nat.le_of_ble_eq_true rfl, Nat.le_of_ble_eq_true rfl⟩ ⟨rfl, rfl⟩ [1, 2] [0, 3, 4, 5] rfl rfl (by decide) (by decide) rfl rfl rfl rfl rfl hl.1 (Nat.le_of_ble_eq_true rfl) dX2_readFactor_89 ⟨Nat.le_of_ble_eq_true rfl, Nat.le_of_ble_eq_true rfl⟩ (fun u H locs hw_10 hP hD hS => ?_)
      obtain ⟨zo_8, l1_fo_9⟩ := u
      try dsimp only at hw_10
      have hP : va_P D vwCl [(h0, .inr (2, [.ref tx, .ref lw])), (tx, .inr (6, [.ref tp, .int ed, .int h0_2o_4, .int h0_3o_5])), (tp, .inr (5, [.ref by_, .int (nI T)])), (by_, .inl (cI, 260, .inl fb)), (lw, .inr (1, [.ref l1, .ref l2, .ref l3, .ref l4, .ref l5, .ref l6, .ref l7, .int (nI zo_8), .int (nI k)])), (l1, .inl (cI, 240, .inl l1_fo_9))] H := hP
      have hD : va_D A [(h0, .inr (2, [.ref tx, .ref lw])), (tx, .inr (6, [.ref tp, .int ed, .int h0_2o_4, .int h0_3o_5])), (tp, .inr (5, [.ref by_, .int (nI T)])), (by_, .inl (cI, 260, .inl fb)), (lw, .inr (1, [.ref l1, .ref l2, .ref l3, .ref l4, .ref l5, .ref l6, .ref l7, .int (nI zo_8), .int (nI k)])), (l1, .inl (cI, 240, .inl l1_fo_9))] := hD
      exact ret _ _ _ _ (h0_2o_4, h0_3o_5, zo_8, l1_fo_9) dX2_readFactor_92 hw_10 (hP.sub [0, 1, 2, 3, 4, 5] rfl) (hD.sub [0, 1, 2, 3, 4, 5] (by decide) rfl) hS
    · refine lv_aload_n hx hb dX2_readFactor_48 rfl (lv_at hl 1 rfl) ?_
      refine lv_iload_n hx hb dX2_readFactor_49 rfl (lv_at hl 2 rfl) ?_
      refine cVI (As := [.int 6]) (rest := []) (n := 1) (ci := 2) (q0 := 0) (wr := [(tp, .inr (5, [.ref by_, .int (nI T)])), (by_, .inl (cI, 260, .inl fb)), (lw, .inr (1, [.ref l1, .ref l2, .ref l3, .ref l4, .ref l5, .ref l6, .ref l7, .int (nI z), .int (nI k)])), (l1, .inl (cI, 240, .inl q1))]) X hN hK hP hD hS hA (c_X2_opens l D cI cB _ h0 lw tx tp ed pl fa 6) (gV k_598 k_600 k_5 k_99 k_601) (by decide +kernel) ⟨Nat.le_of_ble_eq_true rfl, Nat.le_of_ble_eq_true rfl⟩ ⟨rfl, rfl⟩ [0, 1] [2, 3, 4, 5] rfl rfl (by decide) (by decide) rfl rfl rfl rfl rfl hl.1 (Nat.le_of_ble_eq_true rfl) dX2_readFactor_50 ⟨Nat.le_of_ble_eq_true rfl, Nat.le_of_ble_eq_true rfl⟩ (fun r_11 u H locs hw_14 hP hD hS => ?_)
      obtain ⟨tx_2o_12, tx_3o_13⟩ := u
      try dsimp only at hw_14
      have hP : va_P D vwCl [(tp, .inr (5, [.ref by_, .int (nI T)])), (by_, .inl (cI, 260, .inl fb)), (lw, .inr (1, [.ref l1, .ref l2, .ref l3, .ref l4, .ref l5, .ref l6, .ref l7, .int (nI z), .int (nI k)])), (l1, .inl (cI, 240, .inl q1)), (h0, .inr (2, [.ref tx, .ref lw])), (tx, .inr (6, [.ref tp, .int ed, .int tx_2o_12, .int tx_3o_13]))] H := hP
      have hD : va_D A [(tp, .inr (5, [.ref by_, .int (nI T)])), (by_, .inl (cI, 260, .inl fb)), (lw, .inr (1, [.ref l1, .ref l2, .ref l3, .ref l4, .ref l5, .ref l6, .ref l7, .int (nI z), .int (nI k)])), (l1, .inl (cI, 240, .inl q1)), (h0, .inr (2, [.ref tx, .ref lw])), (tx, .inr (6, [.ref tp, .int ed, .int tx_2o_12, .int tx_3o_13]))] := hD
      obtain rfl : r_11 = 0 := hw_14.trans (by decide)
      refine lv_if_eq (tgt := 92) hx hb dX2_readFactor_53 (by decide) (fun _ => ?_) (fun c_53 => absurd (by decide) c_53)
      exact ret _ _ _ _ (tx_2o_12, tx_3o_13, z, q1) dX2_readFactor_92 hz (hP.sub [4, 5, 0, 1, 2, 3] rfl) (hD.sub [4, 5, 0, 1, 2, 3] (by decide) rfl) hS
  · refine lv_aload_n hx hb dX2_readFactor_11 rfl (lv_at hl 1 rfl) ?_
    refine va_get (D := D) (ci := 2) (v := .ref tx) (C := RX2) (T := TX2) (N := 2) hx hb htb itX2 hown hK hP 0 rfl rfl 0 (by decide) (htb _ k_288) (fun _ h9 => h9) rfl dX2_readFactor_12 ?_
    refine lv_dup hx hb dX2_readFactor_15 rfl ?_
    refine va_getN (D := D) (ci := 6) (v := .int pl) (C := RX6) (T := TX6) (N := 4) hx hb htb itX6 hown hK hP 1 rfl rfl 2 (by decide) (va_Nw.use rfl (hN _ n_264 rfl)) (fun _ h9 => h9) rfl dX2_readFactor_16 ?_
    refine lv_iconst (v := 1) hx hb dX2_readFactor_19 (by decide) ?_
    refine lv_iadd hx hb dX2_readFactor_20 ?_
    refine lv_topi (fun x_15 ex_15 => ?_)
    refine va_putN (D := D) (ci := 6) (v := .int x_15) (ty := .int) (C := RX6) (T := TX6) (N := 4) hx hb htb itX6 tyX6 tyX6_ok nmX6 hown hK hP hD hS 1 rfl rfl 2 (by decide) (va_Nw.use rfl (hN _ n_264 rfl)) (fun _ h9 => h9) rfl (tyX6_ok 2 (by decide)) rfl rfl (Nat.le_of_ble_eq_true rfl) dX2_readFactor_21 (fun H locs hP hD hS => ?_)
    have hP : va_P D vwCl [(h0, .inr (2, [.ref tx, .ref lw])), (tx, .inr (6, [.ref tp, .int ed, .int x_15, .int fa])), (tp, .inr (5, [.ref by_, .int (nI T)])), (by_, .inl (cI, 260, .inl fb)), (lw, .inr (1, [.ref l1, .ref l2, .ref l3, .ref l4, .ref l5, .ref l6, .ref l7, .int (nI z), .int (nI k)])), (l1, .inl (cI, 240, .inl q1))] H := hP
    have hD : va_D A [(h0, .inr (2, [.ref tx, .ref lw])), (tx, .inr (6, [.ref tp, .int ed, .int x_15, .int fa])), (tp, .inr (5, [.ref by_, .int (nI T)])), (by_, .inl (cI, 260, .inl fb)), (lw, .inr (1, [.ref l1, .ref l2, .ref l3, .ref l4, .ref l5, .ref l6, .ref l7, .int (nI z), .int (nI k)])), (l1, .inl (cI, 240, .inl q1))] := hD
    refine lv_aload_n hx hb dX2_readFactor_24 rfl (lv_at hl 1 rfl) ?_
    refine va_get (D := D) (ci := 2) (v := .ref lw) (C := RX2) (T := TX2) (N := 2) hx hb htb itX2 hown hK hP 0 rfl rfl 1 (by decide) (htb _ k_289) (fun _ h9 => h9) rfl dX2_readFactor_25 ?_
    refine lv_iconst (v := 1) hx hb dX2_readFactor_28 (by decide) ?_
    refine lv_iload_n hx hb dX2_readFactor_29 rfl (lv_at hl 0 rfl) ?_
    refine cVV (As := [.int 1, .int r_1]) (rest := []) (n := 2) (ci := 1) (q0 := 0) (wr := [(h0, .inr (2, [.ref tx, .ref lw])), (tx, .inr (6, [.ref tp, .int ed, .int x_15, .int fa])), (tp, .inr (5, [.ref by_, .int (nI T)])), (by_, .inl (cI, 260, .inl fb))]) X hN hK hP hD hS hA (c_X1_addStep l D cI cB _ lw l1 l2 l3 l4 l5 l6 l7 z k 1 r_1 q1 hz hk) (gV k_594 k_595 k_596 k_97 k_597) (by decide +kernel) ⟨Nat.le_of_ble_eq_true rfl, Nat.le_of_ble_eq_true rfl⟩ ⟨rfl, rfl⟩ [4, 5] [0, 1, 2, 3] rfl rfl (by decide) (by decide) rfl rfl rfl rfl rfl hl.1 (Nat.le_of_ble_eq_true rfl) dX2_readFactor_30 ⟨Nat.le_of_ble_eq_true rfl, Nat.le_of_ble_eq_true rfl⟩ (fun u H locs hw_19 hP hD hS => ?_)
    obtain ⟨zo_17, l1_fo_18⟩ := u
    try dsimp only at hw_19
    have hP : va_P D vwCl [(h0, .inr (2, [.ref tx, .ref lw])), (tx, .inr (6, [.ref tp, .int ed, .int x_15, .int fa])), (tp, .inr (5, [.ref by_, .int (nI T)])), (by_, .inl (cI, 260, .inl fb)), (lw, .inr (1, [.ref l1, .ref l2, .ref l3, .ref l4, .ref l5, .ref l6, .ref l7, .int (nI zo_17), .int (nI k)])), (l1, .inl (cI, 240, .inl l1_fo_18))] H := hP
    have hD : va_D A [(h0, .inr (2, [.ref tx, .ref lw])), (tx, .inr (6, [.ref tp, .int ed, .int x_15, .int fa])), (tp, .inr (5, [.ref by_, .int (nI T)])), (by_, .inl (cI, 260, .inl fb)), (lw, .inr (1, [.ref l1, .ref l2, .ref l3, .ref l4, .ref l5, .ref l6, .ref l7, .int (nI zo_17), .int (nI k)])), (l1, .inl (cI, 240, .inl l1_fo_18))] := hD
    refine lv_goto (tgt := 92) hx hb dX2_readFactor_33 (by decide) ?_
    exact ret _ _ _ _ (x_15, fa, zo_17, l1_fo_18) dX2_readFactor_92 hw_19 (hP.sub [0, 1, 2, 3, 4, 5] rfl) (hD.sub [0, 1, 2, 3, 4, 5] (by decide) rfl) hS

set_option maxRecDepth 100000 in
set_option maxHeartbeats 4000000 in
theorem c_readTerm_6 (l : Launch) (D : va_G) (cI cB : ClassId) (sz : Nat) (kk : KT) (h0 : Nat) (tx : Nat) (tp : Nat) (ed : Int32) (pl : Int32) (fa : Int32) (by_ : Nat) (T : Nat) (fb : Nat → Int32) (lw : Nat) (l1 : Nat) (l2 : Nat) (l3 : Nat) (l4 : Nat) (l5 : Nat) (l6 : Nat) (l7 : Nat) (z : Nat) (k : Nat) (q1 : Nat → Int32) (hT : T ≤ 260) (hz : z ≤ 240) (hk : k ≤ 16) : MVk (S := ((Int32) × (Int32) × (Nat) × (Nat → Int32))) l D cI cB kk yX2_readTerm cX2_readTerm 4 (rm 6 135) [.ref h0, .int 6] [(h0, .inr (2, [.ref tx, .ref lw])), (tx, .inr (6, [.ref tp, .int ed, .int pl, .int fa])), (tp, .inr (5, [.ref by_, .int (nI T)])), (by_, .inl (cI, 260, .inl fb)), (lw, .inr (1, [.ref l1, .ref l2, .ref l3, .ref l4, .ref l5, .ref l6, .ref l7, .int (nI z), .int (nI k)])), (l1, .inl (cI, 240, .inl q1))] sz (fun u => u.2.2.1 ≤ 240) (fun u : ((Int32) × (Int32) × (Nat) × (Nat → Int32)) => [(h0, .inr (2, [.ref tx, .ref lw])), (tx, .inr (6, [.ref tp, .int ed, .int u.1, .int u.2.1])), (tp, .inr (5, [.ref by_, .int (nI T)])), (by_, .inl (cI, 260, .inl fb)), (lw, .inr (1, [.ref l1, .ref l2, .ref l3, .ref l4, .ref l5, .ref l6, .ref l7, .int (nI u.2.2.1), .int (nI k)])), (l1, .inl (cI, 240, .inl u.2.2.2))]) := by
  refine MVk.of (by decide) (Nat.le_of_ble_eq_true rfl) ?_
  intro p e s m below meth c Q ls A X hin hN hKO hP hK hD hA hl ret
  have hS : va_S A s.heap s.heap [] := va_S.rf
  obtain ⟨hx, hb, hml, hown, htb⟩ := id X
  have hl : lv_has ls 4 [(0, .ref h0), (1, .int 6)] := hl
  refine lv_aload_n hx hb dX2_readTerm_0 rfl (lv_at hl 0 rfl) ?_
  refine lv_iload_n hx hb dX2_readTerm_1 rfl (lv_at hl 1 rfl) ?_
  refine cVVk (As := [.int 6]) (rest := []) (n := 1) (ci := 2) (q0 := 0) (wr := []) X hN hKO hK hP hD hS hA (c_readFactor_6 l D cI cB _ kk h0 tx tp ed pl fa by_ T fb lw l1 l2 l3 l4 l5 l6 l7 z k q1 hT hz hk) (gV k_589 k_591 k_4 k_99 k_592) (by decide +kernel) ⟨Nat.le_of_ble_eq_true rfl, Nat.le_of_ble_eq_true rfl⟩ ⟨rfl, rfl⟩ [0, 1, 2, 3, 4, 5] [] rfl rfl (by decide) (by decide) rfl rfl rfl rfl rfl hl.1 (Nat.le_of_ble_eq_true rfl) dX2_readTerm_2 ⟨Nat.le_of_ble_eq_true rfl, Nat.le_of_ble_eq_true rfl⟩ (fun u H locs hw_6 hP hD hS => ?_)
  obtain ⟨plo_2, fao_3, zo_4, l1o_5⟩ := u
  try dsimp only at hw_6
  have hP : va_P D vwCl [(h0, .inr (2, [.ref tx, .ref lw])), (tx, .inr (6, [.ref tp, .int ed, .int plo_2, .int fao_3])), (tp, .inr (5, [.ref by_, .int (nI T)])), (by_, .inl (cI, 260, .inl fb)), (lw, .inr (1, [.ref l1, .ref l2, .ref l3, .ref l4, .ref l5, .ref l6, .ref l7, .int (nI zo_4), .int (nI k)])), (l1, .inl (cI, 240, .inl l1o_5))] H := hP
  have hD : va_D A [(h0, .inr (2, [.ref tx, .ref lw])), (tx, .inr (6, [.ref tp, .int ed, .int plo_2, .int fao_3])), (tp, .inr (5, [.ref by_, .int (nI T)])), (by_, .inl (cI, 260, .inl fb)), (lw, .inr (1, [.ref l1, .ref l2, .ref l3, .ref l4, .ref l5, .ref l6, .ref l7, .int (nI zo_4), .int (nI k)])), (l1, .inl (cI, 240, .inl l1o_5))] := hD
  refine lv_iconst (v := 0) hx hb dX2_readTerm_5 (by decide) ?_
  refine lv_istore_n (lv' := [(2, .int 0), (0, .ref h0), (1, .int 6)]) hx hb dX2_readTerm_6 rfl hl (by decide) rfl (fun ls hl => ?_)
  have loop_7 : ∀ (n i : Nat) (pa : Int32) (fb_ : Int32) (za : Nat) (qa : Nat → Int32), n + i = 240 → (za ≤ 240) → ∀ (H : Heap) (locs : List Loc), va_P D vwCl [(h0, .inr (2, [.ref tx, .ref lw])), (tx, .inr (6, [.ref tp, .int ed, .int pa, .int fb_])), (tp, .inr (5, [.ref by_, .int (nI T)])), (by_, .inl (cI, 260, .inl fb)), (lw, .inr (1, [.ref l1, .ref l2, .ref l3, .ref l4, .ref l5, .ref l6, .ref l7, .int (nI za), .int (nI k)])), (l1, .inl (cI, 240, .inl qa))] H → va_D A [(h0, .inr (2, [.ref tx, .ref lw])), (tx, .inr (6, [.ref tp, .int ed, .int pa, .int fb_])), (tp, .inr (5, [.ref by_, .int (nI T)])), (by_, .inl (cI, 260, .inl fb)), (lw, .inr (1, [.ref l1, .ref l2, .ref l3, .ref l4, .ref l5, .ref l6, .ref l7, .int (nI za), .int (nI k)])), (l1, .inl (cI, 240, .inl qa))] → va_S A s.heap H locs → ∀ (ls : Array Slot), lv_has ls 4 [(0, .ref h0), (1, .int 6), (2, .int (nI i))] → W p l e (rm 6 135) s m ([.ref h0, .int 6] : List Value).toArray below meth c H locs 0 0 Q (F0 m 7 ls []) := by
    intro n
    induction n with
    | zero =>
      intro i pa fb_ za qa hni hza H locs hP hD hS ls hl
      have hni_7 := hni
      have hi : i = 240 := by omega
      refine lv_iload_n hx hb dX2_readTerm_7 rfl (lv_at hl 2 rfl) ?_
      refine lv_sipush (v := 240) hx hb dX2_readTerm_8 (by decide) ?_
      refine lv_icmp_ge (tgt := 60) hx hb dX2_readTerm_11 (by decide) (fun _ => ?_) (fun c_11 => absurd (by rw [hi]; decide) c_11)
      exact ret _ _ _ _ (pa, fb_, za, qa) dX2_readTerm_60 hza (hP.sub [0, 1, 2, 3, 4, 5] rfl) (hD.sub [0, 1, 2, 3, 4, 5] (by decide) rfl) hS
    | succ n ih_7 =>
      intro i pa fb_ za qa hni hza H locs hP hD hS ls hl
      have hni_7 := hni
      have hi : i < 240 := by omega
      refine lv_iload_n hx hb dX2_readTerm_7 rfl (lv_at hl 2 rfl) ?_
      refine lv_sipush (v := 240) hx hb dX2_readTerm_8 (by decide) ?_
      refine lv_icmp_ge (tgt := 60) hx hb dX2_readTerm_11 (by decide) (fun c_11 => absurd c_11 (nI_ge hi (by decide))) (fun _ => ?_)
      refine lv_aload_n hx hb dX2_readTerm_14 rfl (lv_at hl 0 rfl) ?_
      refine cVR (As := []) (rest := []) (n := 0) (ci := 2) (q0 := 0) X hN hK hP (c_X2_factorStep l D cI cB h0 lw tx tp ed pa fb_ by_ T fb hT) (gV k_620 k_622 k_6 k_99 k_623) (by decide +kernel) ⟨Nat.le_of_ble_eq_true rfl, Nat.le_of_ble_eq_true rfl⟩ ⟨rfl, rfl⟩ [0, 1, 2, 3] rfl rfl rfl rfl rfl rfl hl.1 (Nat.le_of_ble_eq_true rfl) dX2_readTerm_15 ⟨Nat.le_of_ble_eq_true rfl, Nat.le_of_ble_eq_true rfl⟩ (fun r_7 hr_7 => ?_)
      refine lv_iconst (v := (-1)) hx hb dX2_readTerm_18 (by decide) ?_
      refine lv_icmp_eq (tgt := 60) hx hb dX2_readTerm_19 (by decide) (fun c_19 => ?_) (fun c_19 => ?_)
      · exact ret _ _ _ _ (pa, fb_, za, qa) dX2_readTerm_60 hza (hP.sub [0, 1, 2, 3, 4, 5] rfl) (hD.sub [0, 1, 2, 3, 4, 5] (by decide) rfl) hS
      · refine lv_aload_n hx hb dX2_readTerm_22 rfl (lv_at hl 0 rfl) ?_
        refine cVR (As := []) (rest := []) (n := 0) (ci := 2) (q0 := 0) X hN hK hP (c_X2_factorStep l D cI cB h0 lw tx tp ed pa fb_ by_ T fb hT) (gV k_620 k_622 k_6 k_99 k_623) (by decide +kernel) ⟨Nat.le_of_ble_eq_true rfl, Nat.le_of_ble_eq_true rfl⟩ ⟨rfl, rfl⟩ [0, 1, 2, 3] rfl rfl rfl rfl rfl rfl hl.1 (Nat.le_of_ble_eq_true rfl) dX2_readTerm_23 ⟨Nat.le_of_ble_eq_true rfl, Nat.le_of_ble_eq_true rfl⟩ (fun r_8 hr_8 => ?_)
        refine lv_istore_n (lv' := [(3, .int r_8), (0, .ref h0), (1, .int 6), (2, .int (nI i))]) hx hb dX2_readTerm_26 rfl hl (by decide) rfl (fun ls hl => ?_)
        refine lv_aload_n hx hb dX2_readTerm_27 rfl (lv_at hl 1 rfl) ?_
        refine va_get (D := D) (ci := 2) (v := .ref tx) (C := RX2) (T := TX2) (N := 2) hx hb htb itX2 hown hK hP 0 rfl rfl 0 (by decide) (htb _ k_288) (fun _ h9 => h9) rfl dX2_readTerm_28 ?_
        refine lv_dup hx hb dX2_readTerm_31 rfl ?_
        refine va_getN (D := D) (ci := 6) (v := .int pa) (C := RX6) (T := TX6) (N := 4) hx hb htb itX6 hown hK hP 1 rfl rfl 2 (by decide) (va_Nw.use rfl (hN _ n_264 rfl)) (fun _ h9 => h9) rfl dX2_readTerm_32 ?_
        refine lv_iconst (v := 1) hx hb dX2_readTerm_35 (by decide) ?_
        refine lv_iadd hx hb dX2_readTerm_36 ?_
        refine lv_topi (fun x_9 ex_9 => ?_)
        refine va_putN (D := D) (ci := 6) (v := .int x_9) (ty := .int) (C := RX6) (T := TX6) (N := 4) hx hb htb itX6 tyX6 tyX6_ok nmX6 hown hK hP hD hS 1 rfl rfl 2 (by decide) (va_Nw.use rfl (hN _ n_264 rfl)) (fun _ h9 => h9) rfl (tyX6_ok 2 (by decide)) rfl rfl (Nat.le_of_ble_eq_true rfl) dX2_readTerm_37 (fun H locs hP hD hS => ?_)
        have hP : va_P D vwCl [(h0, .inr (2, [.ref tx, .ref lw])), (tx, .inr (6, [.ref tp, .int ed, .int x_9, .int fb_])), (tp, .inr (5, [.ref by_, .int (nI T)])), (by_, .inl (cI, 260, .inl fb)), (lw, .inr (1, [.ref l1, .ref l2, .ref l3, .ref l4, .ref l5, .ref l6, .ref l7, .int (nI za), .int (nI k)])), (l1, .inl (cI, 240, .inl qa))] H := hP
        have hD : va_D A [(h0, .inr (2, [.ref tx, .ref lw])), (tx, .inr (6, [.ref tp, .int ed, .int x_9, .int fb_])), (tp, .inr (5, [.ref by_, .int (nI T)])), (by_, .inl (cI, 260, .inl fb)), (lw, .inr (1, [.ref l1, .ref l2, .ref l3, .ref l4, .ref l5, .ref l6, .ref l7, .int (nI za), .int (nI k)])), (l1, .inl (cI, 240, .inl qa))] := hD
        refine lv_aload_n hx hb dX2_readTerm_40 rfl (lv_at hl 1 rfl) ?_
        refine lv_iload_n hx hb dX2_readTerm_41 rfl (lv_at hl 2 rfl) ?_
        refine cVVk (As := [.int 6]) (rest := []) (n := 1) (ci := 2) (q0 := 0) (wr := []) X hN hKO hK hP hD hS hA (c_readFactor_6 l D cI cB _ kk h0 tx tp ed x_9 fb_ by_ T fb lw l1 l2 l3 l4 l5 l6 l7 za k qa hT hza hk) (gV k_589 k_591 k_4 k_99 k_592) (by decide +kernel) ⟨Nat.le_of_ble_eq_true rfl, Nat.le_of_ble_eq_true rfl⟩ ⟨rfl, rfl⟩ [0, 1, 2, 3, 4, 5] [] rfl rfl (by decide) (by decide) rfl rfl rfl rfl rfl hl.1 (Nat.le_of_ble_eq_true rfl) dX2_readTerm_42 ⟨Nat.le_of_ble_eq_true rfl, Nat.le_of_ble_eq_true rfl⟩ (fun u H locs hw_15 hP hD hS => ?_)
        obtain ⟨plo_11, fao_12, zo_13, l1o_14⟩ := u
        try dsimp only at hw_15
        have hP : va_P D vwCl [(h0, .inr (2, [.ref tx, .ref lw])), (tx, .inr (6, [.ref tp, .int ed, .int plo_11, .int fao_12])), (tp, .inr (5, [.ref by_, .int (nI T)])), (by_, .inl (cI, 260, .inl fb)), (lw, .inr (1, [.ref l1, .ref l2, .ref l3, .ref l4, .ref l5, .ref l6, .ref l7, .int (nI zo_13), .int (nI k)])), (l1, .inl (cI, 240, .inl l1o_14))] H := hP
        have hD : va_D A [(h0, .inr (2, [.ref tx, .ref lw])), (tx, .inr (6, [.ref tp, .int ed, .int plo_11, .int fao_12])), (tp, .inr (5, [.ref by_, .int (nI T)])), (by_, .inl (cI, 260, .inl fb)), (lw, .inr (1, [.ref l1, .ref l2, .ref l3, .ref l4, .ref l5, .ref l6, .ref l7, .int (nI zo_13), .int (nI k)])), (l1, .inl (cI, 240, .inl l1o_14))] := hD
        refine lv_aload_n hx hb dX2_readTerm_45 rfl (lv_at hl 1 rfl) ?_
        refine va_get (D := D) (ci := 2) (v := .ref lw) (C := RX2) (T := TX2) (N := 2) hx hb htb itX2 hown hK hP 0 rfl rfl 1 (by decide) (htb _ k_289) (fun _ h9 => h9) rfl dX2_readTerm_46 ?_
        refine lv_iload_n hx hb dX2_readTerm_49 rfl (lv_at hl 0 rfl) ?_
        refine lv_iconst (v := 0) hx hb dX2_readTerm_50 (by decide) ?_
        refine cVV (As := [.int r_8, .int 0]) (rest := []) (n := 2) (ci := 1) (q0 := 0) (wr := [(h0, .inr (2, [.ref tx, .ref lw])), (tx, .inr (6, [.ref tp, .int ed, .int plo_11, .int fao_12])), (tp, .inr (5, [.ref by_, .int (nI T)])), (by_, .inl (cI, 260, .inl fb))]) X hN hK hP hD hS hA (c_X1_addStep l D cI cB _ lw l1 l2 l3 l4 l5 l6 l7 zo_13 k r_8 0 l1o_14 hw_15 hk) (gV k_594 k_595 k_596 k_97 k_597) (by decide +kernel) ⟨Nat.le_of_ble_eq_true rfl, Nat.le_of_ble_eq_true rfl⟩ ⟨rfl, rfl⟩ [4, 5] [0, 1, 2, 3] rfl rfl (by decide) (by decide) rfl rfl rfl rfl rfl hl.1 (Nat.le_of_ble_eq_true rfl) dX2_readTerm_51 ⟨Nat.le_of_ble_eq_true rfl, Nat.le_of_ble_eq_true rfl⟩ (fun u H locs hw_19 hP hD hS => ?_)
        obtain ⟨zo_17, l1_fo_18⟩ := u
        try dsimp only at hw_19
        have hP : va_P D vwCl [(h0, .inr (2, [.ref tx, .ref lw])), (tx, .inr (6, [.ref tp, .int ed, .int plo_11, .int fao_12])), (tp, .inr (5, [.ref by_, .int (nI T)])), (by_, .inl (cI, 260, .inl fb)), (lw, .inr (1, [.ref l1, .ref l2, .ref l3, .ref l4, .ref l5, .ref l6, .ref l7, .int (nI zo_17), .int (nI k)])), (l1, .inl (cI, 240, .inl l1_fo_18))] H := hP
        have hD : va_D A [(h0, .inr (2, [.ref tx, .ref lw])), (tx, .inr (6, [.ref tp, .int ed, .int plo_11, .int fao_12])), (tp, .inr (5, [.ref by_, .int (nI T)])), (by_, .inl (cI, 260, .inl fb)), (lw, .inr (1, [.ref l1, .ref l2, .ref l3, .ref l4, .ref l5, .ref l6, .ref l7, .int (nI zo_17), .int (nI k)])), (l1, .inl (cI, 240, .inl l1_fo_18))] := hD
        refine lv_iinc (v := (nI (i + 1))) (lv' := [(2, .int (nI (i + 1))), (3, .int r_8), (0, .ref h0), (1, .int 6)]) hx hb dX2_readTerm_54 hl (k := 3) rfl (nI_1 i) (by decide) rfl (fun ls hl => ?_)
        refine lv_goto (tgt := 7) hx hb dX2_readTerm_57 (by decide) ?_
        exact ih_7 (i + 1) plo_11 fao_12 zo_17 l1_fo_18 (by omega) hw_19 _ _ (hP.sub [0, 1, 2, 3, 4, 5] rfl) (hD.sub [0, 1, 2, 3, 4, 5] (by decide) rfl) hS _ (lv_sub hl [2, 3, 0] rfl)
  exact loop_7 240 0 plo_2 fao_3 zo_4 l1o_5 (by omega) hw_6 _ _ (hP.sub [0, 1, 2, 3, 4, 5] rfl) (hD.sub [0, 1, 2, 3, 4, 5] (by decide) rfl) hS _ (lv_sub hl [1, 2, 0] rfl)

set_option maxRecDepth 100000 in
set_option maxHeartbeats 4000000 in
theorem c_readSum_6 (l : Launch) (D : va_G) (cI cB : ClassId) (sz : Nat) (kk : KT) (h0 : Nat) (tx : Nat) (tp : Nat) (ed : Int32) (pl : Int32) (fa : Int32) (by_ : Nat) (T : Nat) (fb : Nat → Int32) (lw : Nat) (l1 : Nat) (l2 : Nat) (l3 : Nat) (l4 : Nat) (l5 : Nat) (l6 : Nat) (l7 : Nat) (z : Nat) (k : Nat) (q1 : Nat → Int32) (hT : T ≤ 260) (hz : z ≤ 240) (hk : k ≤ 16) : MVk (S := ((Int32) × (Int32) × (Nat) × (Nat → Int32))) l D cI cB kk yX2_readSum cX2_readSum 4 (rm 7 158) [.ref h0, .int 6] [(h0, .inr (2, [.ref tx, .ref lw])), (tx, .inr (6, [.ref tp, .int ed, .int pl, .int fa])), (tp, .inr (5, [.ref by_, .int (nI T)])), (by_, .inl (cI, 260, .inl fb)), (lw, .inr (1, [.ref l1, .ref l2, .ref l3, .ref l4, .ref l5, .ref l6, .ref l7, .int (nI z), .int (nI k)])), (l1, .inl (cI, 240, .inl q1))] sz (fun u => u.2.2.1 ≤ 240) (fun u : ((Int32) × (Int32) × (Nat) × (Nat → Int32)) => [(h0, .inr (2, [.ref tx, .ref lw])), (tx, .inr (6, [.ref tp, .int ed, .int u.1, .int u.2.1])), (tp, .inr (5, [.ref by_, .int (nI T)])), (by_, .inl (cI, 260, .inl fb)), (lw, .inr (1, [.ref l1, .ref l2, .ref l3, .ref l4, .ref l5, .ref l6, .ref l7, .int (nI u.2.2.1), .int (nI k)])), (l1, .inl (cI, 240, .inl u.2.2.2))]) := by
  refine MVk.of (by decide) (Nat.le_of_ble_eq_true rfl) ?_
  intro p e s m below meth c Q ls A X hin hN hKO hP hK hD hA hl ret
  have hS : va_S A s.heap s.heap [] := va_S.rf
  obtain ⟨hx, hb, hml, hown, htb⟩ := id X
  have hl : lv_has ls 4 [(0, .ref h0), (1, .int 6)] := hl
  refine lv_aload_n hx hb dX2_readSum_0 rfl (lv_at hl 0 rfl) ?_
  refine lv_iload_n hx hb dX2_readSum_1 rfl (lv_at hl 1 rfl) ?_
  refine cVVk (As := [.int 6]) (rest := []) (n := 1) (ci := 2) (q0 := 0) (wr := []) X hN hKO hK hP hD hS hA (c_readTerm_6 l D cI cB _ kk h0 tx tp ed pl fa by_ T fb lw l1 l2 l3 l4 l5 l6 l7 z k q1 hT hz hk) (gV k_585 k_587 k_3 k_99 k_588) (by decide +kernel) ⟨Nat.le_of_ble_eq_true rfl, Nat.le_of_ble_eq_true rfl⟩ ⟨rfl, rfl⟩ [0, 1, 2, 3, 4, 5] [] rfl rfl (by decide) (by decide) rfl rfl rfl rfl rfl hl.1 (Nat.le_of_ble_eq_true rfl) dX2_readSum_2 ⟨Nat.le_of_ble_eq_true rfl, Nat.le_of_ble_eq_true rfl⟩ (fun u H locs hw_6 hP hD hS => ?_)
  obtain ⟨plo_2, fao_3, zo_4, l1o_5⟩ := u
  try dsimp only at hw_6
  have hP : va_P D vwCl [(h0, .inr (2, [.ref tx, .ref lw])), (tx, .inr (6, [.ref tp, .int ed, .int plo_2, .int fao_3])), (tp, .inr (5, [.ref by_, .int (nI T)])), (by_, .inl (cI, 260, .inl fb)), (lw, .inr (1, [.ref l1, .ref l2, .ref l3, .ref l4, .ref l5, .ref l6, .ref l7, .int (nI zo_4), .int (nI k)])), (l1, .inl (cI, 240, .inl l1o_5))] H := hP
  have hD : va_D A [(h0, .inr (2, [.ref tx, .ref lw])), (tx, .inr (6, [.ref tp, .int ed, .int plo_2, .int fao_3])), (tp, .inr (5, [.ref by_, .int (nI T)])), (by_, .inl (cI, 260, .inl fb)), (lw, .inr (1, [.ref l1, .ref l2, .ref l3, .ref l4, .ref l5, .ref l6, .ref l7, .int (nI zo_4), .int (nI k)])), (l1, .inl (cI, 240, .inl l1o_5))] := hD
  refine lv_iconst (v := 0) hx hb dX2_readSum_5 (by decide) ?_
  refine lv_istore_n (lv' := [(2, .int 0), (0, .ref h0), (1, .int 6)]) hx hb dX2_readSum_6 rfl hl (by decide) rfl (fun ls hl => ?_)
  have loop_7 : ∀ (n i : Nat) (pa : Int32) (fb_ : Int32) (za : Nat) (qa : Nat → Int32), n + i = 240 → (za ≤ 240) → ∀ (H : Heap) (locs : List Loc), va_P D vwCl [(h0, .inr (2, [.ref tx, .ref lw])), (tx, .inr (6, [.ref tp, .int ed, .int pa, .int fb_])), (tp, .inr (5, [.ref by_, .int (nI T)])), (by_, .inl (cI, 260, .inl fb)), (lw, .inr (1, [.ref l1, .ref l2, .ref l3, .ref l4, .ref l5, .ref l6, .ref l7, .int (nI za), .int (nI k)])), (l1, .inl (cI, 240, .inl qa))] H → va_D A [(h0, .inr (2, [.ref tx, .ref lw])), (tx, .inr (6, [.ref tp, .int ed, .int pa, .int fb_])), (tp, .inr (5, [.ref by_, .int (nI T)])), (by_, .inl (cI, 260, .inl fb)), (lw, .inr (1, [.ref l1, .ref l2, .ref l3, .ref l4, .ref l5, .ref l6, .ref l7, .int (nI za), .int (nI k)])), (l1, .inl (cI, 240, .inl qa))] → va_S A s.heap H locs → ∀ (ls : Array Slot), lv_has ls 4 [(0, .ref h0), (1, .int 6), (2, .int (nI i))] → W p l e (rm 7 158) s m ([.ref h0, .int 6] : List Value).toArray below meth c H locs 0 0 Q (F0 m 7 ls []) := by
    intro n
    induction n with
    | zero =>
      intro i pa fb_ za qa hni hza H locs hP hD hS ls hl
      have hni_7 := hni
      have hi : i = 240 := by omega
      refine lv_iload_n hx hb dX2_readSum_7 rfl (lv_at hl 2 rfl) ?_
      refine lv_sipush (v := 240) hx hb dX2_readSum_8 (by decide) ?_
      refine lv_icmp_ge (tgt := 90) hx hb dX2_readSum_11 (by decide) (fun _ => ?_) (fun c_11 => absurd (by rw [hi]; decide) c_11)
      exact ret _ _ _ _ (pa, fb_, za, qa) dX2_readSum_90 hza (hP.sub [0, 1, 2, 3, 4, 5] rfl) (hD.sub [0, 1, 2, 3, 4, 5] (by decide) rfl) hS
    | succ n ih_7 =>
      intro i pa fb_ za qa hni hza H locs hP hD hS ls hl
      have hni_7 := hni
      have hi : i < 240 := by omega
      refine lv_iload_n hx hb dX2_readSum_7 rfl (lv_at hl 2 rfl) ?_
      refine lv_sipush (v := 240) hx hb dX2_readSum_8 (by decide) ?_
      refine lv_icmp_ge (tgt := 90) hx hb dX2_readSum_11 (by decide) (fun c_11 => absurd c_11 (nI_ge hi (by decide))) (fun _ => ?_)
      refine lv_aload_n hx hb dX2_readSum_14 rfl (lv_at hl 0 rfl) ?_
      refine va_get (D := D) (ci := 2) (v := .ref tx) (C := RX2) (T := TX2) (N := 2) hx hb htb itX2 hown hK hP 0 rfl rfl 0 (by decide) (htb _ k_288) (fun _ h9 => h9) rfl dX2_readSum_15 ?_
      refine cVR (As := []) (rest := []) (n := 0) (ci := 6) (q0 := 0) X hN hK hP (c_X6_sign l D cI cB tx tp ed pa fb_ by_ T fb hT) (gV k_483 k_484 k_485 k_98 k_486) (by decide +kernel) ⟨Nat.le_of_ble_eq_true rfl, Nat.le_of_ble_eq_true rfl⟩ ⟨rfl, rfl⟩ [1, 2, 3] rfl rfl rfl rfl rfl rfl hl.1 (Nat.le_of_ble_eq_true rfl) dX2_readSum_18 ⟨Nat.le_of_ble_eq_true rfl, Nat.le_of_ble_eq_true rfl⟩ (fun r_7 hr_7 => ?_)
      subst hr_7
      refine lv_bipush (v := 43) hx hb dX2_readSum_21 (by decide) ?_
      refine lv_icmp_eq (tgt := 38) hx hb dX2_readSum_23 (by decide) (fun c_23 => ?_) (fun c_23 => ?_)
      · refine lv_aload_n hx hb dX2_readSum_38 rfl (lv_at hl 0 rfl) ?_
        refine va_get (D := D) (ci := 2) (v := .ref tx) (C := RX2) (T := TX2) (N := 2) hx hb htb itX2 hown hK hP 0 rfl rfl 0 (by decide) (htb _ k_288) (fun _ h9 => h9) rfl dX2_readSum_39 ?_
        refine cVR (As := []) (rest := []) (n := 0) (ci := 6) (q0 := 0) X hN hK hP (c_X6_sign l D cI cB tx tp ed pa fb_ by_ T fb hT) (gV k_483 k_484 k_485 k_98 k_486) (by decide +kernel) ⟨Nat.le_of_ble_eq_true rfl, Nat.le_of_ble_eq_true rfl⟩ ⟨rfl, rfl⟩ [1, 2, 3] rfl rfl rfl rfl rfl rfl hl.1 (Nat.le_of_ble_eq_true rfl) dX2_readSum_42 ⟨Nat.le_of_ble_eq_true rfl, Nat.le_of_ble_eq_true rfl⟩ (fun r_8 hr_8 => ?_)
        subst hr_8
        refine lv_bipush (v := 43) hx hb dX2_readSum_45 (by decide) ?_
        refine lv_icmp_ne (tgt := 54) hx hb dX2_readSum_47 (by decide) (fun c_47 => ?_) (fun c_47 => ?_)
        · refine lv_bipush (v := 6) hx hb dX2_readSum_54 (by decide) ?_
          refine lv_istore_n (lv' := [(3, .int 6), (0, .ref h0), (1, .int 6), (2, .int (nI i))]) hx hb dX2_readSum_56 rfl hl (by decide) rfl (fun ls hl => ?_)
          refine lv_aload_n hx hb dX2_readSum_57 rfl (lv_at hl 1 rfl) ?_
          refine va_get (D := D) (ci := 2) (v := .ref tx) (C := RX2) (T := TX2) (N := 2) hx hb htb itX2 hown hK hP 0 rfl rfl 0 (by decide) (htb _ k_288) (fun _ h9 => h9) rfl dX2_readSum_58 ?_
          refine lv_dup hx hb dX2_readSum_61 rfl ?_
          refine va_getN (D := D) (ci := 6) (v := .int pa) (C := RX6) (T := TX6) (N := 4) hx hb htb itX6 hown hK hP 1 rfl rfl 2 (by decide) (va_Nw.use rfl (hN _ n_264 rfl)) (fun _ h9 => h9) rfl dX2_readSum_62 ?_
          refine lv_iconst (v := 1) hx hb dX2_readSum_65 (by decide) ?_
          refine lv_iadd hx hb dX2_readSum_66 ?_
          refine lv_topi (fun x_9 ex_9 => ?_)
          refine va_putN (D := D) (ci := 6) (v := .int x_9) (ty := .int) (C := RX6) (T := TX6) (N := 4) hx hb htb itX6 tyX6 tyX6_ok nmX6 hown hK hP hD hS 1 rfl rfl 2 (by decide) (va_Nw.use rfl (hN _ n_264 rfl)) (fun _ h9 => h9) rfl (tyX6_ok 2 (by decide)) rfl rfl (Nat.le_of_ble_eq_true rfl) dX2_readSum_67 (fun H locs hP hD hS => ?_)
          have hP : va_P D vwCl [(h0, .inr (2, [.ref tx, .ref lw])), (tx, .inr (6, [.ref tp, .int ed, .int x_9, .int fb_])), (tp, .inr (5, [.ref by_, .int (nI T)])), (by_, .inl (cI, 260, .inl fb)), (lw, .inr (1, [.ref l1, .ref l2, .ref l3, .ref l4, .ref l5, .ref l6, .ref l7, .int (nI za), .int (nI k)])), (l1, .inl (cI, 240, .inl qa))] H := hP
          have hD : va_D A [(h0, .inr (2, [.ref tx, .ref lw])), (tx, .inr (6, [.ref tp, .int ed, .int x_9, .int fb_])), (tp, .inr (5, [.ref by_, .int (nI T)])), (by_, .inl (cI, 260, .inl fb)), (lw, .inr (1, [.ref l1, .ref l2, .ref l3, .ref l4, .ref l5, .ref l6, .ref l7, .int (nI za), .int (nI k)])), (l1, .inl (cI, 240, .inl qa))] := hD
          refine lv_aload_n hx hb dX2_readSum_70 rfl (lv_at hl 1 rfl) ?_
          refine lv_iload_n hx hb dX2_readSum_71 rfl (lv_at hl 2 rfl) ?_
          refine cVVk (As := [.int 6]) (rest := []) (n := 1) (ci := 2) (q0 := 0) (wr := []) X hN hKO hK hP hD hS hA (c_readTerm_6 l D cI cB _ kk h0 tx tp ed x_9 fb_ by_ T fb lw l1 l2 l3 l4 l5 l6 l7 za k qa hT hza hk) (gV k_585 k_587 k_3 k_99 k_588) (by decide +kernel) ⟨Nat.le_of_ble_eq_true rfl, Nat.le_of_ble_eq_true rfl⟩ ⟨rfl, rfl⟩ [0, 1, 2, 3, 4, 5] [] rfl rfl (by decide) (by decide) rfl rfl rfl rfl rfl hl.1 (Nat.le_of_ble_eq_true rfl) dX2_readSum_72 ⟨Nat.le_of_ble_eq_true rfl, Nat.le_of_ble_eq_true rfl⟩ (fun u H locs hw_15 hP hD hS => ?_)
          obtain ⟨plo_11, fao_12, zo_13, l1o_14⟩ := u
          try dsimp only at hw_15
          have hP : va_P D vwCl [(h0, .inr (2, [.ref tx, .ref lw])), (tx, .inr (6, [.ref tp, .int ed, .int plo_11, .int fao_12])), (tp, .inr (5, [.ref by_, .int (nI T)])), (by_, .inl (cI, 260, .inl fb)), (lw, .inr (1, [.ref l1, .ref l2, .ref l3, .ref l4, .ref l5, .ref l6, .ref l7, .int (nI zo_13), .int (nI k)])), (l1, .inl (cI, 240, .inl l1o_14))] H := hP
          have hD : va_D A [(h0, .inr (2, [.ref tx, .ref lw])), (tx, .inr (6, [.ref tp, .int ed, .int plo_11, .int fao_12])), (tp, .inr (5, [.ref by_, .int (nI T)])), (by_, .inl (cI, 260, .inl fb)), (lw, .inr (1, [.ref l1, .ref l2, .ref l3, .ref l4, .ref l5, .ref l6, .ref l7, .int (nI zo_13), .int (nI k)])), (l1, .inl (cI, 240, .inl l1o_14))] := hD
          refine lv_aload_n hx hb dX2_readSum_75 rfl (lv_at hl 1 rfl) ?_
          refine va_get (D := D) (ci := 2) (v := .ref lw) (C := RX2) (T := TX2) (N := 2) hx hb htb itX2 hown hK hP 0 rfl rfl 1 (by decide) (htb _ k_289) (fun _ h9 => h9) rfl dX2_readSum_76 ?_
          refine lv_iload_n hx hb dX2_readSum_79 rfl (lv_at hl 0 rfl) ?_
          refine lv_iconst (v := 0) hx hb dX2_readSum_80 (by decide) ?_
          refine cVV (As := [.int 6, .int 0]) (rest := []) (n := 2) (ci := 1) (q0 := 0) (wr := [(h0, .inr (2, [.ref tx, .ref lw])), (tx, .inr (6, [.ref tp, .int ed, .int plo_11, .int fao_12])), (tp, .inr (5, [.ref by_, .int (nI T)])), (by_, .inl (cI, 260, .inl fb))]) X hN hK hP hD hS hA (c_X1_addStep l D cI cB _ lw l1 l2 l3 l4 l5 l6 l7 zo_13 k 6 0 l1o_14 hw_15 hk) (gV k_594 k_595 k_596 k_97 k_597) (by decide +kernel) ⟨Nat.le_of_ble_eq_true rfl, Nat.le_of_ble_eq_true rfl⟩ ⟨rfl, rfl⟩ [4, 5] [0, 1, 2, 3] rfl rfl (by decide) (by decide) rfl rfl rfl rfl rfl hl.1 (Nat.le_of_ble_eq_true rfl) dX2_readSum_81 ⟨Nat.le_of_ble_eq_true rfl, Nat.le_of_ble_eq_true rfl⟩ (fun u H locs hw_19 hP hD hS => ?_)
          obtain ⟨zo_17, l1_fo_18⟩ := u
          try dsimp only at hw_19
          have hP : va_P D vwCl [(h0, .inr (2, [.ref tx, .ref lw])), (tx, .inr (6, [.ref tp, .int ed, .int plo_11, .int fao_12])), (tp, .inr (5, [.ref by_, .int (nI T)])), (by_, .inl (cI, 260, .inl fb)), (lw, .inr (1, [.ref l1, .ref l2, .ref l3, .ref l4, .ref l5, .ref l6, .ref l7, .int (nI zo_17), .int (nI k)])), (l1, .inl (cI, 240, .inl l1_fo_18))] H := hP
          have hD : va_D A [(h0, .inr (2, [.ref tx, .ref lw])), (tx, .inr (6, [.ref tp, .int ed, .int plo_11, .int fao_12])), (tp, .inr (5, [.ref by_, .int (nI T)])), (by_, .inl (cI, 260, .inl fb)), (lw, .inr (1, [.ref l1, .ref l2, .ref l3, .ref l4, .ref l5, .ref l6, .ref l7, .int (nI zo_17), .int (nI k)])), (l1, .inl (cI, 240, .inl l1_fo_18))] := hD
          refine lv_iinc (v := (nI (i + 1))) (lv' := [(2, .int (nI (i + 1))), (3, .int 6), (0, .ref h0), (1, .int 6)]) hx hb dX2_readSum_84 hl (k := 3) rfl (nI_1 i) (by decide) rfl (fun ls hl => ?_)
          refine lv_goto (tgt := 7) hx hb dX2_readSum_87 (by decide) ?_
          exact ih_7 (i + 1) plo_11 fao_12 zo_17 l1_fo_18 (by omega) hw_19 _ _ (hP.sub [0, 1, 2, 3, 4, 5] rfl) (hD.sub [0, 1, 2, 3, 4, 5] (by decide) rfl) hS _ (lv_sub hl [2, 3, 0] rfl)
        · refine lv_iconst (v := 5) hx hb dX2_readSum_50 (by decide) ?_
          refine lv_goto (tgt := 56) hx hb dX2_readSum_51 (by decide) ?_
          refine lv_istore_n (lv' := [(3, .int 5), (0, .ref h0), (1, .int 6), (2, .int (nI i))]) hx hb dX2_readSum_56 rfl hl (by decide) rfl (fun ls hl => ?_)
          refine lv_aload_n hx hb dX2_readSum_57 rfl (lv_at hl 1 rfl) ?_
          refine va_get (D := D) (ci := 2) (v := .ref tx) (C := RX2) (T := TX2) (N := 2) hx hb htb itX2 hown hK hP 0 rfl rfl 0 (by decide) (htb _ k_288) (fun _ h9 => h9) rfl dX2_readSum_58 ?_
          refine lv_dup hx hb dX2_readSum_61 rfl ?_
          refine va_getN (D := D) (ci := 6) (v := .int pa) (C := RX6) (T := TX6) (N := 4) hx hb htb itX6 hown hK hP 1 rfl rfl 2 (by decide) (va_Nw.use rfl (hN _ n_264 rfl)) (fun _ h9 => h9) rfl dX2_readSum_62 ?_
          refine lv_iconst (v := 1) hx hb dX2_readSum_65 (by decide) ?_
          refine lv_iadd hx hb dX2_readSum_66 ?_
          refine lv_topi (fun x_20 ex_20 => ?_)
          refine va_putN (D := D) (ci := 6) (v := .int x_20) (ty := .int) (C := RX6) (T := TX6) (N := 4) hx hb htb itX6 tyX6 tyX6_ok nmX6 hown hK hP hD hS 1 rfl rfl 2 (by decide) (va_Nw.use rfl (hN _ n_264 rfl)) (fun _ h9 => h9) rfl (tyX6_ok 2 (by decide)) rfl rfl (Nat.le_of_ble_eq_true rfl) dX2_readSum_67 (fun H locs hP hD hS => ?_)
          have hP : va_P D vwCl [(h0, .inr (2, [.ref tx, .ref lw])), (tx, .inr (6, [.ref tp, .int ed, .int x_20, .int fb_])), (tp, .inr (5, [.ref by_, .int (nI T)])), (by_, .inl (cI, 260, .inl fb)), (lw, .inr (1, [.ref l1, .ref l2, .ref l3, .ref l4, .ref l5, .ref l6, .ref l7, .int (nI za), .int (nI k)])), (l1, .inl (cI, 240, .inl qa))] H := hP
          have hD : va_D A [(h0, .inr (2, [.ref tx, .ref lw])), (tx, .inr (6, [.ref tp, .int ed, .int x_20, .int fb_])), (tp, .inr (5, [.ref by_, .int (nI T)])), (by_, .inl (cI, 260, .inl fb)), (lw, .inr (1, [.ref l1, .ref l2, .ref l3, .ref l4, .ref l5, .ref l6, .ref l7, .int (nI za), .int (nI k)])), (l1, .inl (cI, 240, .inl qa))] := hD
          refine lv_aload_n hx hb dX2_readSum_70 rfl (lv_at hl 1 rfl) ?_
          refine lv_iload_n hx hb dX2_readSum_71 rfl (lv_at hl 2 rfl) ?_
          refine cVVk (As := [.int 6]) (rest := []) (n := 1) (ci := 2) (q0 := 0) (wr := []) X hN hKO hK hP hD hS hA (c_readTerm_6 l D cI cB _ kk h0 tx tp ed x_20 fb_ by_ T fb lw l1 l2 l3 l4 l5 l6 l7 za k qa hT hza hk) (gV k_585 k_587 k_3 k_99 k_588) (by decide +kernel) ⟨Nat.le_of_ble_eq_true rfl, Nat.le_of_ble_eq_true rfl⟩ ⟨rfl, rfl⟩ [0, 1, 2, 3, 4, 5] [] rfl rfl (by decide) (by decide) rfl rfl rfl rfl rfl hl.1 (Nat.le_of_ble_eq_true rfl) dX2_readSum_72 ⟨Nat.le_of_ble_eq_true rfl, Nat.le_of_ble_eq_true rfl⟩ (fun u H locs hw_26 hP hD hS => ?_)
          obtain ⟨plo_22, fao_23, zo_24, l1o_25⟩ := u
          try dsimp only at hw_26
          have hP : va_P D vwCl [(h0, .inr (2, [.ref tx, .ref lw])), (tx, .inr (6, [.ref tp, .int ed, .int plo_22, .int fao_23])), (tp, .inr (5, [.ref by_, .int (nI T)])), (by_, .inl (cI, 260, .inl fb)), (lw, .inr (1, [.ref l1, .ref l2, .ref l3, .ref l4, .ref l5, .ref l6, .ref l7, .int (nI zo_24), .int (nI k)])), (l1, .inl (cI, 240, .inl l1o_25))] H := hP
          have hD : va_D A [(h0, .inr (2, [.ref tx, .ref lw])), (tx, .inr (6, [.ref tp, .int ed, .int plo_22, .int fao_23])), (tp, .inr (5, [.ref by_, .int (nI T)])), (by_, .inl (cI, 260, .inl fb)), (lw, .inr (1, [.ref l1, .ref l2, .ref l3, .ref l4, .ref l5, .ref l6, .ref l7, .int (nI zo_24), .int (nI k)])), (l1, .inl (cI, 240, .inl l1o_25))] := hD
          refine lv_aload_n hx hb dX2_readSum_75 rfl (lv_at hl 1 rfl) ?_
          refine va_get (D := D) (ci := 2) (v := .ref lw) (C := RX2) (T := TX2) (N := 2) hx hb htb itX2 hown hK hP 0 rfl rfl 1 (by decide) (htb _ k_289) (fun _ h9 => h9) rfl dX2_readSum_76 ?_
          refine lv_iload_n hx hb dX2_readSum_79 rfl (lv_at hl 0 rfl) ?_
          refine lv_iconst (v := 0) hx hb dX2_readSum_80 (by decide) ?_
          refine cVV (As := [.int 5, .int 0]) (rest := []) (n := 2) (ci := 1) (q0 := 0) (wr := [(h0, .inr (2, [.ref tx, .ref lw])), (tx, .inr (6, [.ref tp, .int ed, .int plo_22, .int fao_23])), (tp, .inr (5, [.ref by_, .int (nI T)])), (by_, .inl (cI, 260, .inl fb))]) X hN hK hP hD hS hA (c_X1_addStep l D cI cB _ lw l1 l2 l3 l4 l5 l6 l7 zo_24 k 5 0 l1o_25 hw_26 hk) (gV k_594 k_595 k_596 k_97 k_597) (by decide +kernel) ⟨Nat.le_of_ble_eq_true rfl, Nat.le_of_ble_eq_true rfl⟩ ⟨rfl, rfl⟩ [4, 5] [0, 1, 2, 3] rfl rfl (by decide) (by decide) rfl rfl rfl rfl rfl hl.1 (Nat.le_of_ble_eq_true rfl) dX2_readSum_81 ⟨Nat.le_of_ble_eq_true rfl, Nat.le_of_ble_eq_true rfl⟩ (fun u H locs hw_30 hP hD hS => ?_)
          obtain ⟨zo_28, l1_fo_29⟩ := u
          try dsimp only at hw_30
          have hP : va_P D vwCl [(h0, .inr (2, [.ref tx, .ref lw])), (tx, .inr (6, [.ref tp, .int ed, .int plo_22, .int fao_23])), (tp, .inr (5, [.ref by_, .int (nI T)])), (by_, .inl (cI, 260, .inl fb)), (lw, .inr (1, [.ref l1, .ref l2, .ref l3, .ref l4, .ref l5, .ref l6, .ref l7, .int (nI zo_28), .int (nI k)])), (l1, .inl (cI, 240, .inl l1_fo_29))] H := hP
          have hD : va_D A [(h0, .inr (2, [.ref tx, .ref lw])), (tx, .inr (6, [.ref tp, .int ed, .int plo_22, .int fao_23])), (tp, .inr (5, [.ref by_, .int (nI T)])), (by_, .inl (cI, 260, .inl fb)), (lw, .inr (1, [.ref l1, .ref l2, .ref l3, .ref l4, .ref l5, .ref l6, .ref l7, .int (nI zo_28), .int (nI k)])), (l1, .inl (cI, 240, .inl l1_fo_29))] := hD
          refine lv_iinc (v := (nI (i + 1))) (lv' := [(2, .int (nI (i + 1))), (3, .int 5), (0, .ref h0), (1, .int 6)]) hx hb dX2_readSum_84 hl (k := 3) rfl (nI_1 i) (by decide) rfl (fun ls hl => ?_)
          refine lv_goto (tgt := 7) hx hb dX2_readSum_87 (by decide) ?_
          exact ih_7 (i + 1) plo_22 fao_23 zo_28 l1_fo_29 (by omega) hw_30 _ _ (hP.sub [0, 1, 2, 3, 4, 5] rfl) (hD.sub [0, 1, 2, 3, 4, 5] (by decide) rfl) hS _ (lv_sub hl [2, 3, 0] rfl)
      · refine lv_aload_n hx hb dX2_readSum_26 rfl (lv_at hl 0 rfl) ?_
        refine va_get (D := D) (ci := 2) (v := .ref tx) (C := RX2) (T := TX2) (N := 2) hx hb htb itX2 hown hK hP 0 rfl rfl 0 (by decide) (htb _ k_288) (fun _ h9 => h9) rfl dX2_readSum_27 ?_
        refine cVR (As := []) (rest := []) (n := 0) (ci := 6) (q0 := 0) X hN hK hP (c_X6_sign l D cI cB tx tp ed pa fb_ by_ T fb hT) (gV k_483 k_484 k_485 k_98 k_486) (by decide +kernel) ⟨Nat.le_of_ble_eq_true rfl, Nat.le_of_ble_eq_true rfl⟩ ⟨rfl, rfl⟩ [1, 2, 3] rfl rfl rfl rfl rfl rfl hl.1 (Nat.le_of_ble_eq_true rfl) dX2_readSum_30 ⟨Nat.le_of_ble_eq_true rfl, Nat.le_of_ble_eq_true rfl⟩ (fun r_31 hr_31 => ?_)
        subst hr_31
        refine lv_bipush (v := 45) hx hb dX2_readSum_33 (by decide) ?_
        refine lv_icmp_ne (tgt := 90) hx hb dX2_readSum_35 (by decide) (fun c_35 => ?_) (fun c_35 => ?_)
        · exact ret _ _ _ _ (pa, fb_, za, qa) dX2_readSum_90 hza (hP.sub [0, 1, 2, 3, 4, 5] rfl) (hD.sub [0, 1, 2, 3, 4, 5] (by decide) rfl) hS
        · refine lv_aload_n hx hb dX2_readSum_38 rfl (lv_at hl 0 rfl) ?_
          refine va_get (D := D) (ci := 2) (v := .ref tx) (C := RX2) (T := TX2) (N := 2) hx hb htb itX2 hown hK hP 0 rfl rfl 0 (by decide) (htb _ k_288) (fun _ h9 => h9) rfl dX2_readSum_39 ?_
          refine cVR (As := []) (rest := []) (n := 0) (ci := 6) (q0 := 0) X hN hK hP (c_X6_sign l D cI cB tx tp ed pa fb_ by_ T fb hT) (gV k_483 k_484 k_485 k_98 k_486) (by decide +kernel) ⟨Nat.le_of_ble_eq_true rfl, Nat.le_of_ble_eq_true rfl⟩ ⟨rfl, rfl⟩ [1, 2, 3] rfl rfl rfl rfl rfl rfl hl.1 (Nat.le_of_ble_eq_true rfl) dX2_readSum_42 ⟨Nat.le_of_ble_eq_true rfl, Nat.le_of_ble_eq_true rfl⟩ (fun r_32 hr_32 => ?_)
          subst hr_32
          refine lv_bipush (v := 43) hx hb dX2_readSum_45 (by decide) ?_
          refine lv_icmp_ne (tgt := 54) hx hb dX2_readSum_47 (by decide) (fun c_47 => ?_) (fun c_47 => ?_)
          · refine lv_bipush (v := 6) hx hb dX2_readSum_54 (by decide) ?_
            refine lv_istore_n (lv' := [(3, .int 6), (0, .ref h0), (1, .int 6), (2, .int (nI i))]) hx hb dX2_readSum_56 rfl hl (by decide) rfl (fun ls hl => ?_)
            refine lv_aload_n hx hb dX2_readSum_57 rfl (lv_at hl 1 rfl) ?_
            refine va_get (D := D) (ci := 2) (v := .ref tx) (C := RX2) (T := TX2) (N := 2) hx hb htb itX2 hown hK hP 0 rfl rfl 0 (by decide) (htb _ k_288) (fun _ h9 => h9) rfl dX2_readSum_58 ?_
            refine lv_dup hx hb dX2_readSum_61 rfl ?_
            refine va_getN (D := D) (ci := 6) (v := .int pa) (C := RX6) (T := TX6) (N := 4) hx hb htb itX6 hown hK hP 1 rfl rfl 2 (by decide) (va_Nw.use rfl (hN _ n_264 rfl)) (fun _ h9 => h9) rfl dX2_readSum_62 ?_
            refine lv_iconst (v := 1) hx hb dX2_readSum_65 (by decide) ?_
            refine lv_iadd hx hb dX2_readSum_66 ?_
            refine lv_topi (fun x_33 ex_33 => ?_)
            refine va_putN (D := D) (ci := 6) (v := .int x_33) (ty := .int) (C := RX6) (T := TX6) (N := 4) hx hb htb itX6 tyX6 tyX6_ok nmX6 hown hK hP hD hS 1 rfl rfl 2 (by decide) (va_Nw.use rfl (hN _ n_264 rfl)) (fun _ h9 => h9) rfl (tyX6_ok 2 (by decide)) rfl rfl (Nat.le_of_ble_eq_true rfl) dX2_readSum_67 (fun H locs hP hD hS => ?_)
            have hP : va_P D vwCl [(h0, .inr (2, [.ref tx, .ref lw])), (tx, .inr (6, [.ref tp, .int ed, .int x_33, .int fb_])), (tp, .inr (5, [.ref by_, .int (nI T)])), (by_, .inl (cI, 260, .inl fb)), (lw, .inr (1, [.ref l1, .ref l2, .ref l3, .ref l4, .ref l5, .ref l6, .ref l7, .int (nI za), .int (nI k)])), (l1, .inl (cI, 240, .inl qa))] H := hP
            have hD : va_D A [(h0, .inr (2, [.ref tx, .ref lw])), (tx, .inr (6, [.ref tp, .int ed, .int x_33, .int fb_])), (tp, .inr (5, [.ref by_, .int (nI T)])), (by_, .inl (cI, 260, .inl fb)), (lw, .inr (1, [.ref l1, .ref l2, .ref l3, .ref l4, .ref l5, .ref l6, .ref l7, .int (nI za), .int (nI k)])), (l1, .inl (cI, 240, .inl qa))] := hD
            refine lv_aload_n hx hb dX2_readSum_70 rfl (lv_at hl 1 rfl) ?_
            refine lv_iload_n hx hb dX2_readSum_71 rfl (lv_at hl 2 rfl) ?_
            refine cVVk (As := [.int 6]) (rest := []) (n := 1) (ci := 2) (q0 := 0) (wr := []) X hN hKO hK hP hD hS hA (c_readTerm_6 l D cI cB _ kk h0 tx tp ed x_33 fb_ by_ T fb lw l1 l2 l3 l4 l5 l6 l7 za k qa hT hza hk) (gV k_585 k_587 k_3 k_99 k_588) (by decide +kernel) ⟨Nat.le_of_ble_eq_true rfl, Nat.le_of_ble_eq_true rfl⟩ ⟨rfl, rfl⟩ [0, 1, 2, 3, 4, 5] [] rfl rfl (by decide) (by decide) rfl rfl rfl rfl rfl hl.1 (Nat.le_of_ble_eq_true rfl) dX2_readSum_72 ⟨Nat.le_of_ble_eq_true rfl, Nat.le_of_ble_eq_true rfl⟩ (fun u H locs hw_39 hP hD hS => ?_)
            obtain ⟨plo_35, fao_36, zo_37, l1o_38⟩ := u
            try dsimp only at hw_39
            have hP : va_P D vwCl [(h0, .inr (2, [.ref tx, .ref lw])), (tx, .inr (6, [.ref tp, .int ed, .int plo_35, .int fao_36])), (tp, .inr (5, [.ref by_, .int (nI T)])), (by_, .inl (cI, 260, .inl fb)), (lw, .inr (1, [.ref l1, .ref l2, .ref l3, .ref l4, .ref l5, .ref l6, .ref l7, .int (nI zo_37), .int (nI k)])), (l1, .inl (cI, 240, .inl l1o_38))] H := hP
            have hD : va_D A [(h0, .inr (2, [.ref tx, .ref lw])), (tx, .inr (6, [.ref tp, .int ed, .int plo_35, .int fao_36])), (tp, .inr (5, [.ref by_, .int (nI T)])), (by_, .inl (cI, 260, .inl fb)), (lw, .inr (1, [.ref l1, .ref l2, .ref l3, .ref l4, .ref l5, .ref l6, .ref l7, .int (nI zo_37), .int (nI k)])), (l1, .inl (cI, 240, .inl l1o_38))] := hD
            refine lv_aload_n hx hb dX2_readSum_75 rfl (lv_at hl 1 rfl) ?_
            refine va_get (D := D) (ci := 2) (v := .ref lw) (C := RX2) (T := TX2) (N := 2) hx hb htb itX2 hown hK hP 0 rfl rfl 1 (by decide) (htb _ k_289) (fun _ h9 => h9) rfl dX2_readSum_76 ?_
            refine lv_iload_n hx hb dX2_readSum_79 rfl (lv_at hl 0 rfl) ?_
            refine lv_iconst (v := 0) hx hb dX2_readSum_80 (by decide) ?_
            refine cVV (As := [.int 6, .int 0]) (rest := []) (n := 2) (ci := 1) (q0 := 0) (wr := [(h0, .inr (2, [.ref tx, .ref lw])), (tx, .inr (6, [.ref tp, .int ed, .int plo_35, .int fao_36])), (tp, .inr (5, [.ref by_, .int (nI T)])), (by_, .inl (cI, 260, .inl fb))]) X hN hK hP hD hS hA (c_X1_addStep l D cI cB _ lw l1 l2 l3 l4 l5 l6 l7 zo_37 k 6 0 l1o_38 hw_39 hk) (gV k_594 k_595 k_596 k_97 k_597) (by decide +kernel) ⟨Nat.le_of_ble_eq_true rfl, Nat.le_of_ble_eq_true rfl⟩ ⟨rfl, rfl⟩ [4, 5] [0, 1, 2, 3] rfl rfl (by decide) (by decide) rfl rfl rfl rfl rfl hl.1 (Nat.le_of_ble_eq_true rfl) dX2_readSum_81 ⟨Nat.le_of_ble_eq_true rfl, Nat.le_of_ble_eq_true rfl⟩ (fun u H locs hw_43 hP hD hS => ?_)
            obtain ⟨zo_41, l1_fo_42⟩ := u
            try dsimp only at hw_43
            have hP : va_P D vwCl [(h0, .inr (2, [.ref tx, .ref lw])), (tx, .inr (6, [.ref tp, .int ed, .int plo_35, .int fao_36])), (tp, .inr (5, [.ref by_, .int (nI T)])), (by_, .inl (cI, 260, .inl fb)), (lw, .inr (1, [.ref l1, .ref l2, .ref l3, .ref l4, .ref l5, .ref l6, .ref l7, .int (nI zo_41), .int (nI k)])), (l1, .inl (cI, 240, .inl l1_fo_42))] H := hP
            have hD : va_D A [(h0, .inr (2, [.ref tx, .ref lw])), (tx, .inr (6, [.ref tp, .int ed, .int plo_35, .int fao_36])), (tp, .inr (5, [.ref by_, .int (nI T)])), (by_, .inl (cI, 260, .inl fb)), (lw, .inr (1, [.ref l1, .ref l2, .ref l3, .ref l4, .ref l5, .ref l6, .ref l7, .int (nI zo_41), .int (nI k)])), (l1, .inl (cI, 240, .inl l1_fo_42))] := hD
            refine lv_iinc (v := (nI (i + 1))) (lv' := [(2, .int (nI (i + 1))), (3, .int 6), (0, .ref h0), (1, .int 6)]) hx hb dX2_readSum_84 hl (k := 3) rfl (nI_1 i) (by decide) rfl (fun ls hl => ?_)
            refine lv_goto (tgt := 7) hx hb dX2_readSum_87 (by decide) ?_
            exact ih_7 (i + 1) plo_35 fao_36 zo_41 l1_fo_42 (by omega) hw_43 _ _ (hP.sub [0, 1, 2, 3, 4, 5] rfl) (hD.sub [0, 1, 2, 3, 4, 5] (by decide) rfl) hS _ (lv_sub hl [2, 3, 0] rfl)
          · refine lv_iconst (v := 5) hx hb dX2_readSum_50 (by decide) ?_
            refine lv_goto (tgt := 56) hx hb dX2_readSum_51 (by decide) ?_
            refine lv_istore_n (lv' := [(3, .int 5), (0, .ref h0), (1, .int 6), (2, .int (nI i))]) hx hb dX2_readSum_56 rfl hl (by decide) rfl (fun ls hl => ?_)
            refine lv_aload_n hx hb dX2_readSum_57 rfl (lv_at hl 1 rfl) ?_
            refine va_get (D := D) (ci := 2) (v := .ref tx) (C := RX2) (T := TX2) (N := 2) hx hb htb itX2 hown hK hP 0 rfl rfl 0 (by decide) (htb _ k_288) (fun _ h9 => h9) rfl dX2_readSum_58 ?_
            refine lv_dup hx hb dX2_readSum_61 rfl ?_
            refine va_getN (D := D) (ci := 6) (v := .int pa) (C := RX6) (T := TX6) (N := 4) hx hb htb itX6 hown hK hP 1 rfl rfl 2 (by decide) (va_Nw.use rfl (hN _ n_264 rfl)) (fun _ h9 => h9) rfl dX2_readSum_62 ?_
            refine lv_iconst (v := 1) hx hb dX2_readSum_65 (by decide) ?_
            refine lv_iadd hx hb dX2_readSum_66 ?_
            refine lv_topi (fun x_44 ex_44 => ?_)
            refine va_putN (D := D) (ci := 6) (v := .int x_44) (ty := .int) (C := RX6) (T := TX6) (N := 4) hx hb htb itX6 tyX6 tyX6_ok nmX6 hown hK hP hD hS 1 rfl rfl 2 (by decide) (va_Nw.use rfl (hN _ n_264 rfl)) (fun _ h9 => h9) rfl (tyX6_ok 2 (by decide)) rfl rfl (Nat.le_of_ble_eq_true rfl) dX2_readSum_67 (fun H locs hP hD hS => ?_)
            have hP : va_P D vwCl [(h0, .inr (2, [.ref tx, .ref lw])), (tx, .inr (6, [.ref tp, .int ed, .int x_44, .int fb_])), (tp, .inr (5, [.ref by_, .int (nI T)])), (by_, .inl (cI, 260, .inl fb)), (lw, .inr (1, [.ref l1, .ref l2, .ref l3, .ref l4, .ref l5, .ref l6, .ref l7, .int (nI za), .int (nI k)])), (l1, .inl (cI, 240, .inl qa))] H := hP
            have hD : va_D A [(h0, .inr (2, [.ref tx, .ref lw])), (tx, .inr (6, [.ref tp, .int ed, .int x_44, .int fb_])), (tp, .inr (5, [.ref by_, .int (nI T)])), (by_, .inl (cI, 260, .inl fb)), (lw, .inr (1, [.ref l1, .ref l2, .ref l3, .ref l4, .ref l5, .ref l6, .ref l7, .int (nI za), .int (nI k)])), (l1, .inl (cI, 240, .inl qa))] := hD
            refine lv_aload_n hx hb dX2_readSum_70 rfl (lv_at hl 1 rfl) ?_
            refine lv_iload_n hx hb dX2_readSum_71 rfl (lv_at hl 2 rfl) ?_
            refine cVVk (As := [.int 6]) (rest := []) (n := 1) (ci := 2) (q0 := 0) (wr := []) X hN hKO hK hP hD hS hA (c_readTerm_6 l D cI cB _ kk h0 tx tp ed x_44 fb_ by_ T fb lw l1 l2 l3 l4 l5 l6 l7 za k qa hT hza hk) (gV k_585 k_587 k_3 k_99 k_588) (by decide +kernel) ⟨Nat.le_of_ble_eq_true rfl, Nat.le_of_ble_eq_true rfl⟩ ⟨rfl, rfl⟩ [0, 1, 2, 3, 4, 5] [] rfl rfl (by decide) (by decide) rfl rfl rfl rfl rfl hl.1 (Nat.le_of_ble_eq_true rfl) dX2_readSum_72 ⟨Nat.le_of_ble_eq_true rfl, Nat.le_of_ble_eq_true rfl⟩ (fun u H locs hw_50 hP hD hS => ?_)
            obtain ⟨plo_46, fao_47, zo_48, l1o_49⟩ := u
            try dsimp only at hw_50
            have hP : va_P D vwCl [(h0, .inr (2, [.ref tx, .ref lw])), (tx, .inr (6, [.ref tp, .int ed, .int plo_46, .int fao_47])), (tp, .inr (5, [.ref by_, .int (nI T)])), (by_, .inl (cI, 260, .inl fb)), (lw, .inr (1, [.ref l1, .ref l2, .ref l3, .ref l4, .ref l5, .ref l6, .ref l7, .int (nI zo_48), .int (nI k)])), (l1, .inl (cI, 240, .inl l1o_49))] H := hP
            have hD : va_D A [(h0, .inr (2, [.ref tx, .ref lw])), (tx, .inr (6, [.ref tp, .int ed, .int plo_46, .int fao_47])), (tp, .inr (5, [.ref by_, .int (nI T)])), (by_, .inl (cI, 260, .inl fb)), (lw, .inr (1, [.ref l1, .ref l2, .ref l3, .ref l4, .ref l5, .ref l6, .ref l7, .int (nI zo_48), .int (nI k)])), (l1, .inl (cI, 240, .inl l1o_49))] := hD
            refine lv_aload_n hx hb dX2_readSum_75 rfl (lv_at hl 1 rfl) ?_
            refine va_get (D := D) (ci := 2) (v := .ref lw) (C := RX2) (T := TX2) (N := 2) hx hb htb itX2 hown hK hP 0 rfl rfl 1 (by decide) (htb _ k_289) (fun _ h9 => h9) rfl dX2_readSum_76 ?_
            refine lv_iload_n hx hb dX2_readSum_79 rfl (lv_at hl 0 rfl) ?_
            refine lv_iconst (v := 0) hx hb dX2_readSum_80 (by decide) ?_
            refine cVV (As := [.int 5, .int 0]) (rest := []) (n := 2) (ci := 1) (q0 := 0) (wr := [(h0, .inr (2, [.ref tx, .ref lw])), (tx, .inr (6, [.ref tp, .int ed, .int plo_46, .int fao_47])), (tp, .inr (5, [.ref by_, .int (nI T)])), (by_, .inl (cI, 260, .inl fb))]) X hN hK hP hD hS hA (c_X1_addStep l D cI cB _ lw l1 l2 l3 l4 l5 l6 l7 zo_48 k 5 0 l1o_49 hw_50 hk) (gV k_594 k_595 k_596 k_97 k_597) (by decide +kernel) ⟨Nat.le_of_ble_eq_true rfl, Nat.le_of_ble_eq_true rfl⟩ ⟨rfl, rfl⟩ [4, 5] [0, 1, 2, 3] rfl rfl (by decide) (by decide) rfl rfl rfl rfl rfl hl.1 (Nat.le_of_ble_eq_true rfl) dX2_readSum_81 ⟨Nat.le_of_ble_eq_true rfl, Nat.le_of_ble_eq_true rfl⟩ (fun u H locs hw_54 hP hD hS => ?_)
            obtain ⟨zo_52, l1_fo_53⟩ := u
            try dsimp only at hw_54
            have hP : va_P D vwCl [(h0, .inr (2, [.ref tx, .ref lw])), (tx, .inr (6, [.ref tp, .int ed, .int plo_46, .int fao_47])), (tp, .inr (5, [.ref by_, .int (nI T)])), (by_, .inl (cI, 260, .inl fb)), (lw, .inr (1, [.ref l1, .ref l2, .ref l3, .ref l4, .ref l5, .ref l6, .ref l7, .int (nI zo_52), .int (nI k)])), (l1, .inl (cI, 240, .inl l1_fo_53))] H := hP
            have hD : va_D A [(h0, .inr (2, [.ref tx, .ref lw])), (tx, .inr (6, [.ref tp, .int ed, .int plo_46, .int fao_47])), (tp, .inr (5, [.ref by_, .int (nI T)])), (by_, .inl (cI, 260, .inl fb)), (lw, .inr (1, [.ref l1, .ref l2, .ref l3, .ref l4, .ref l5, .ref l6, .ref l7, .int (nI zo_52), .int (nI k)])), (l1, .inl (cI, 240, .inl l1_fo_53))] := hD
            refine lv_iinc (v := (nI (i + 1))) (lv' := [(2, .int (nI (i + 1))), (3, .int 5), (0, .ref h0), (1, .int 6)]) hx hb dX2_readSum_84 hl (k := 3) rfl (nI_1 i) (by decide) rfl (fun ls hl => ?_)
            refine lv_goto (tgt := 7) hx hb dX2_readSum_87 (by decide) ?_
            exact ih_7 (i + 1) plo_46 fao_47 zo_52 l1_fo_53 (by omega) hw_54 _ _ (hP.sub [0, 1, 2, 3, 4, 5] rfl) (hD.sub [0, 1, 2, 3, 4, 5] (by decide) rfl) hS _ (lv_sub hl [2, 3, 0] rfl)
  exact loop_7 240 0 plo_2 fao_3 zo_4 l1o_5 (by omega) hw_6 _ _ (hP.sub [0, 1, 2, 3, 4, 5] rfl) (hD.sub [0, 1, 2, 3, 4, 5] (by decide) rfl) hS _ (lv_sub hl [1, 2, 0] rfl)

set_option maxRecDepth 100000 in
set_option maxHeartbeats 4000000 in
theorem c_readFactor_5 (l : Launch) (D : va_G) (cI cB : ClassId) (sz : Nat) (kk : KT) (h0 : Nat) (tx : Nat) (tp : Nat) (ed : Int32) (pl : Int32) (fa : Int32) (by_ : Nat) (T : Nat) (fb : Nat → Int32) (lw : Nat) (l1 : Nat) (l2 : Nat) (l3 : Nat) (l4 : Nat) (l5 : Nat) (l6 : Nat) (l7 : Nat) (z : Nat) (k : Nat) (q1 : Nat → Int32) (hT : T ≤ 260) (hz : z ≤ 240) (hk : k ≤ 16) : MVk (S := ((Int32) × (Int32) × (Nat) × (Nat → Int32))) l D cI cB kk yX2_readFactor cX2_readFactor 3 (rm 8 181) [.ref h0, .int 5] [(h0, .inr (2, [.ref tx, .ref lw])), (tx, .inr (6, [.ref tp, .int ed, .int pl, .int fa])), (tp, .inr (5, [.ref by_, .int (nI T)])), (by_, .inl (cI, 260, .inl fb)), (lw, .inr (1, [.ref l1, .ref l2, .ref l3, .ref l4, .ref l5, .ref l6, .ref l7, .int (nI z), .int (nI k)])), (l1, .inl (cI, 240, .inl q1))] sz (fun u => u.2.2.1 ≤ 240) (fun u : ((Int32) × (Int32) × (Nat) × (Nat → Int32)) => [(h0, .inr (2, [.ref tx, .ref lw])), (tx, .inr (6, [.ref tp, .int ed, .int u.1, .int u.2.1])), (tp, .inr (5, [.ref by_, .int (nI T)])), (by_, .inl (cI, 260, .inl fb)), (lw, .inr (1, [.ref l1, .ref l2, .ref l3, .ref l4, .ref l5, .ref l6, .ref l7, .int (nI u.2.2.1), .int (nI k)])), (l1, .inl (cI, 240, .inl u.2.2.2))]) := by
  refine MVk.of (by decide) (Nat.le_of_ble_eq_true rfl) ?_
  intro p e s m below meth c Q ls A X hin hN hKO hP hK hD hA hl ret
  have hS : va_S A s.heap s.heap [] := va_S.rf
  obtain ⟨hx, hb, hml, hown, htb⟩ := id X
  have hl : lv_has ls 3 [(0, .ref h0), (1, .int 5)] := hl
  refine lv_aload_n hx hb dX2_readFactor_0 rfl (lv_at hl 0 rfl) ?_
  refine va_ldcS hx hb hown hKO.2.2.2.2.2 dX2_readFactor_1 ?_
  refine cVRk (As := [.ref (kk.2.1 1)]) (rest := []) (n := 1) (ci := 2) (q0 := 0) X hN hKO hS hK hP (c_placeIn1 l D cI cB kk h0 lw tx tp ed pl fa by_ T fb hT) (gV k_479 k_481 k_1 k_99 k_482) (by decide +kernel) ⟨Nat.le_of_ble_eq_true rfl, Nat.le_of_ble_eq_true rfl⟩ ⟨rfl, rfl⟩ [0, 1, 2, 3] rfl rfl rfl rfl rfl rfl hl.1 (Nat.le_of_ble_eq_true rfl) dX2_readFactor_3 ⟨Nat.le_of_ble_eq_true rfl, Nat.le_of_ble_eq_true rfl⟩ (fun r_1 hr_1 => ?_)
  refine lv_istore_n (lv' := [(2, .int r_1), (0, .ref h0), (1, .int 5)]) hx hb dX2_readFactor_6 rfl hl (by decide) rfl (fun ls hl => ?_)
  refine lv_iload_n hx hb dX2_readFactor_7 rfl (lv_at hl 0 rfl) ?_
  refine lv_if_lt (tgt := 36) hx hb dX2_readFactor_8 (by decide) (fun c_8 => ?_) (fun c_8 => ?_)
  · refine lv_aload_n hx hb dX2_readFactor_36 rfl (lv_at hl 1 rfl) ?_
    refine va_get (D := D) (ci := 2) (v := .ref tx) (C := RX2) (T := TX2) (N := 2) hx hb htb itX2 hown hK hP 0 rfl rfl 0 (by decide) (htb _ k_288) (fun _ h9 => h9) rfl dX2_readFactor_37 ?_
    refine cVR (As := []) (rest := []) (n := 0) (ci := 6) (q0 := 0) X hN hK hP (c_X6_sign l D cI cB tx tp ed pl fa by_ T fb hT) (gV k_483 k_484 k_485 k_98 k_486) (by decide +kernel) ⟨Nat.le_of_ble_eq_true rfl, Nat.le_of_ble_eq_true rfl⟩ ⟨rfl, rfl⟩ [1, 2, 3] rfl rfl rfl rfl rfl rfl hl.1 (Nat.le_of_ble_eq_true rfl) dX2_readFactor_40 ⟨Nat.le_of_ble_eq_true rfl, Nat.le_of_ble_eq_true rfl⟩ (fun r_2 hr_2 => ?_)
    subst hr_2
    refine lv_bipush (v := 91) hx hb dX2_readFactor_43 (by decide) ?_
    refine lv_icmp_ne (tgt := 75) hx hb dX2_readFactor_45 (by decide) (fun c_45 => ?_) (fun c_45 => ?_)
    · refine lv_aload_n hx hb dX2_readFactor_75 rfl (lv_at hl 1 rfl) ?_
      refine va_get (D := D) (ci := 2) (v := .ref lw) (C := RX2) (T := TX2) (N := 2) hx hb htb itX2 hown hK hP 0 rfl rfl 1 (by decide) (htb _ k_289) (fun _ h9 => h9) rfl dX2_readFactor_76 ?_
      refine lv_iconst (v := 0) hx hb dX2_readFactor_79 (by decide) ?_
      refine lv_aload_n hx hb dX2_readFactor_80 rfl (lv_at hl 1 rfl) ?_
      refine va_get (D := D) (ci := 2) (v := .ref tx) (C := RX2) (T := TX2) (N := 2) hx hb htb itX2 hown hK hP 0 rfl rfl 0 (by decide) (htb _ k_288) (fun _ h9 => h9) rfl dX2_readFactor_81 ?_
      refine lv_iconst (v := 5) hx hb dX2_readFactor_84 (by decide) ?_
      refine lv_iconst (v := 2) hx hb dX2_readFactor_85 (by decide) ?_
      refine cVI (As := [.int 5, .int 2]) (rest := [.int 0, .ref lw]) (n := 2) (ci := 6) (q0 := 0) (wr := [(h0, .inr (2, [.ref tx, .ref lw])), (lw, .inr (1, [.ref l1, .ref l2, .ref l3, .ref l4, .ref l5, .ref l6, .ref l7, .int (nI z), .int (nI k)])), (l1, .inl (cI, 240, .inl q1))]) X hN hK hP hD hS hA (c_X6_number l D cI cB _ tx tp ed pl fa by_ T fb 5 2 hT (by decide)) (gV k_612 k_613 k_614 k_98 k_615) (by decide +kernel) ⟨Nat.le_of_ble_eq_true rfl, Nat.le_of_ble_eq_true rfl⟩ ⟨rfl, rfl⟩ [1, 2, 3] [0, 4, 5] rfl rfl (by decide) (by decide) rfl rfl rfl rfl rfl hl.1 (Nat.le_of_ble_eq_true rfl) dX2_readFactor_86 ⟨Nat.le_of_ble_eq_true rfl, Nat.le_of_ble_eq_true rfl⟩ (fun r_3 u H locs hw_6 hP hD hS => ?_)
      obtain ⟨h0_2o_4, h0_3o_5⟩ := u
      try dsimp only at hw_6
      have hP : va_P D vwCl [(h0, .inr (2, [.ref tx, .ref lw])), (lw, .inr (1, [.ref l1, .ref l2, .ref l3, .ref l4, .ref l5, .ref l6, .ref l7, .int (nI z), .int (nI k)])), (l1, .inl (cI, 240, .inl q1)), (tx, .inr (6, [.ref tp, .int ed, .int h0_2o_4, .int h0_3o_5])), (tp, .inr (5, [.ref by_, .int (nI T)])), (by_, .inl (cI, 260, .inl fb))] H := hP
      have hD : va_D A [(h0, .inr (2, [.ref tx, .ref lw])), (lw, .inr (1, [.ref l1, .ref l2, .ref l3, .ref l4, .ref l5, .ref l6, .ref l7, .int (nI z), .int (nI k)])), (l1, .inl (cI, 240, .inl q1)), (tx, .inr (6, [.ref tp, .int ed, .int h0_2o_4, .int h0_3o_5])), (tp, .inr (5, [.ref by_, .int (nI T)])), (by_, .inl (cI, 260, .inl fb))] := hD
      refine cVV (As := [.int 0, .int r_3]) (rest := []) (n := 2) (ci := 1) (q0 := 0) (wr := [(h0, .inr (2, [.ref tx, .ref lw])), (tx, .inr (6, [.ref tp, .int ed, .int h0_2o_4, .int h0_3o_5])), (tp, .inr (5, [.ref by_, .int (nI T)])), (by_, .inl (cI, 260, .inl fb))]) X hN hK hP hD hS hA (c_X1_addStep l D cI cB _ lw l1 l2 l3 l4 l5 l6 l7 z k 0 r_3 q1 hz hk) (gV k_594 k_595 k_596 k_97 k_597) (by decide +kernel) ⟨Nat.le_of_ble_eq_true rfl, Nat.le_of_ble_eq_true rfl⟩ ⟨rfl, rfl⟩ [1, 2] [0, 3, 4, 5] rfl rfl (by decide) (by decide) rfl rfl rfl rfl rfl hl.1 (Nat.le_of_ble_eq_true rfl) dX2_readFactor_89 ⟨Nat.le_of_ble_eq_true rfl, Nat.le_of_ble_eq_true rfl⟩ (fun u H locs hw_10 hP hD hS => ?_)
      obtain ⟨zo_8, l1_fo_9⟩ := u
      try dsimp only at hw_10
      have hP : va_P D vwCl [(h0, .inr (2, [.ref tx, .ref lw])), (tx, .inr (6, [.ref tp, .int ed, .int h0_2o_4, .int h0_3o_5])), (tp, .inr (5, [.ref by_, .int (nI T)])), (by_, .inl (cI, 260, .inl fb)), (lw, .inr (1, [.ref l1, .ref l2, .ref l3, .ref l4, .ref l5, .ref l6, .ref l7, .int (nI zo_8), .int (nI k)])), (l1, .inl (cI, 240, .inl l1_fo_9))] H := hP
      have hD : va_D A [(h0, .inr (2, [.ref tx, .ref lw])), (tx, .inr (6, [.ref tp, .int ed, .int h0_2o_4, .int h0_3o_5])), (tp, .inr (5, [.ref by_, .int (nI T)])), (by_, .inl (cI, 260, .inl fb)), (lw, .inr (1, [.ref l1, .ref l2, .ref l3, .ref l4, .ref l5, .ref l6, .ref l7, .int (nI zo_8), .int (nI k)])), (l1, .inl (cI, 240, .inl l1_fo_9))] := hD
      exact ret _ _ _ _ (h0_2o_4, h0_3o_5, zo_8, l1_fo_9) dX2_readFactor_92 hw_10 (hP.sub [0, 1, 2, 3, 4, 5] rfl) (hD.sub [0, 1, 2, 3, 4, 5] (by decide) rfl) hS
    · refine lv_aload_n hx hb dX2_readFactor_48 rfl (lv_at hl 1 rfl) ?_
      refine lv_iload_n hx hb dX2_readFactor_49 rfl (lv_at hl 2 rfl) ?_
      refine cVI (As := [.int 5]) (rest := []) (n := 1) (ci := 2) (q0 := 0) (wr := [(tp, .inr (5, [.ref by_, .int (nI T)])), (by_, .inl (cI, 260, .inl fb)), (lw, .inr (1, [.ref l1, .ref l2, .ref l3, .ref l4, .ref l5, .ref l6, .ref l7, .int (nI z), .int (nI k)])), (l1, .inl (cI, 240, .inl q1))]) X hN hK hP hD hS hA (c_X2_opens l D cI cB _ h0 lw tx tp ed pl fa 5) (gV k_598 k_600 k_5 k_99 k_601) (by decide +kernel) ⟨Nat.le_of_ble_eq_true rfl, Nat.le_of_ble_eq_true rfl⟩ ⟨rfl, rfl⟩ [0, 1] [2, 3, 4, 5] rfl rfl (by decide) (by decide) rfl rfl rfl rfl rfl hl.1 (Nat.le_of_ble_eq_true rfl) dX2_readFactor_50 ⟨Nat.le_of_ble_eq_true rfl, Nat.le_of_ble_eq_true rfl⟩ (fun r_11 u H locs hw_14 hP hD hS => ?_)
      obtain ⟨tx_2o_12, tx_3o_13⟩ := u
      try dsimp only at hw_14
      have hP : va_P D vwCl [(tp, .inr (5, [.ref by_, .int (nI T)])), (by_, .inl (cI, 260, .inl fb)), (lw, .inr (1, [.ref l1, .ref l2, .ref l3, .ref l4, .ref l5, .ref l6, .ref l7, .int (nI z), .int (nI k)])), (l1, .inl (cI, 240, .inl q1)), (h0, .inr (2, [.ref tx, .ref lw])), (tx, .inr (6, [.ref tp, .int ed, .int tx_2o_12, .int tx_3o_13]))] H := hP
      have hD : va_D A [(tp, .inr (5, [.ref by_, .int (nI T)])), (by_, .inl (cI, 260, .inl fb)), (lw, .inr (1, [.ref l1, .ref l2, .ref l3, .ref l4, .ref l5, .ref l6, .ref l7, .int (nI z), .int (nI k)])), (l1, .inl (cI, 240, .inl q1)), (h0, .inr (2, [.ref tx, .ref lw])), (tx, .inr (6, [.ref tp, .int ed, .int tx_2o_12, .int tx_3o_13]))] := hD
      obtain rfl : r_11 = 1 := hw_14.trans (by decide)
      refine lv_if_eq (tgt := 92) hx hb dX2_readFactor_53 (by decide) (fun c_53 => absurd c_53 (by decide)) (fun _ => ?_)
      refine lv_aload_n hx hb dX2_readFactor_56 rfl (lv_at hl 1 rfl) ?_
      refine lv_iload_n hx hb dX2_readFactor_57 rfl (lv_at hl 2 rfl) ?_
      refine lv_iconst (v := 1) hx hb dX2_readFactor_58 (by decide) ?_
      refine lv_iadd hx hb dX2_readFactor_59 ?_
      refine tv (z := 6) (by decide) ?_
      refine cVVk (As := [.int 6]) (rest := []) (n := 1) (ci := 2) (q0 := 0) (wr := []) X hN hKO hK hP hD hS hA (c_readSum_6 l D cI cB _ kk h0 tx tp ed tx_2o_12 tx_3o_13 by_ T fb lw l1 l2 l3 l4 l5 l6 l7 z k q1 hT hz hk) (gV k_581 k_583 k_2 k_99 k_584) (by decide +kernel) ⟨Nat.le_of_ble_eq_true rfl, Nat.le_of_ble_eq_true rfl⟩ ⟨rfl, rfl⟩ [4, 5, 0, 1, 2, 3] [] rfl rfl (by decide) (by decide) rfl rfl rfl rfl rfl hl.1 (Nat.le_of_ble_eq_true rfl) dX2_readFactor_60 ⟨Nat.le_of_ble_eq_true rfl, Nat.le_of_ble_eq_true rfl⟩ (fun u H locs hw_20 hP hD hS => ?_)
      obtain ⟨plo_16, fao_17, zo_18, l1o_19⟩ := u
      try dsimp only at hw_20
      have hP : va_P D vwCl [(h0, .inr (2, [.ref tx, .ref lw])), (tx, .inr (6, [.ref tp, .int ed, .int plo_16, .int fao_17])), (tp, .inr (5, [.ref by_, .int (nI T)])), (by_, .inl (cI, 260, .inl fb)), (lw, .inr (1, [.ref l1, .ref l2, .ref l3, .ref l4, .ref l5, .ref l6, .ref l7, .int (nI zo_18), .int (nI k)])), (l1, .inl (cI, 240, .inl l1o_19))] H := hP
      have hD : va_D A [(h0, .inr (2, [.ref tx, .ref lw])), (tx, .inr (6, [.ref tp, .int ed, .int plo_16, .int fao_17])), (tp, .inr (5, [.ref by_, .int (nI T)])), (by_, .inl (cI, 260, .inl fb)), (lw, .inr (1, [.ref l1, .ref l2, .ref l3, .ref l4, .ref l5, .ref l6, .ref l7, .int (nI zo_18), .int (nI k)])), (l1, .inl (cI, 240, .inl l1o_19))] := hD
      refine lv_aload_n hx hb dX2_readFactor_63 rfl (lv_at hl 1 rfl) ?_
      refine va_get (D := D) (ci := 2) (v := .ref tx) (C := RX2) (T := TX2) (N := 2) hx hb htb itX2 hown hK hP 0 rfl rfl 0 (by decide) (htb _ k_288) (fun _ h9 => h9) rfl dX2_readFactor_64 ?_
      refine lv_bipush (v := 93) hx hb dX2_readFactor_67 (by decide) ?_
      refine cVV (As := [.int 93]) (rest := []) (n := 1) (ci := 6) (q0 := 0) (wr := [(h0, .inr (2, [.ref tx, .ref lw])), (lw, .inr (1, [.ref l1, .ref l2, .ref l3, .ref l4, .ref l5, .ref l6, .ref l7, .int (nI zo_18), .int (nI k)])), (l1, .inl (cI, 240, .inl l1o_19))]) X hN hK hP hD hS hA (c_X6_expect l D cI cB _ tx tp ed plo_16 fao_17 by_ T fb 93 hT) (gV k_602 k_603 k_604 k_98 k_605) (by decide +kernel) ⟨Nat.le_of_ble_eq_true rfl, Nat.le_of_ble_eq_true rfl⟩ ⟨rfl, rfl⟩ [1, 2, 3] [0, 4, 5] rfl rfl (by decide) (by decide) rfl rfl rfl rfl rfl hl.1 (Nat.le_of_ble_eq_true rfl) dX2_readFactor_69 ⟨Nat.le_of_ble_eq_true rfl, Nat.le_of_ble_eq_true rfl⟩ (fun u H locs hw_24 hP hD hS => ?_)
      obtain ⟨h0_2o_22, h0_3o_23⟩ := u
      try dsimp only at hw_24
      have hP : va_P D vwCl [(h0, .inr (2, [.ref tx, .ref lw])), (lw, .inr (1, [.ref l1, .ref l2, .ref l3, .ref l4, .ref l5, .ref l6, .ref l7, .int (nI zo_18), .int (nI k)])), (l1, .inl (cI, 240, .inl l1o_19)), (tx, .inr (6, [.ref tp, .int ed, .int h0_2o_22, .int h0_3o_23])), (tp, .inr (5, [.ref by_, .int (nI T)])), (by_, .inl (cI, 260, .inl fb))] H := hP
      have hD : va_D A [(h0, .inr (2, [.ref tx, .ref lw])), (lw, .inr (1, [.ref l1, .ref l2, .ref l3, .ref l4, .ref l5, .ref l6, .ref l7, .int (nI zo_18), .int (nI k)])), (l1, .inl (cI, 240, .inl l1o_19)), (tx, .inr (6, [.ref tp, .int ed, .int h0_2o_22, .int h0_3o_23])), (tp, .inr (5, [.ref by_, .int (nI T)])), (by_, .inl (cI, 260, .inl fb))] := hD
      refine lv_goto (tgt := 92) hx hb dX2_readFactor_72 (by decide) ?_
      exact ret _ _ _ _ (h0_2o_22, h0_3o_23, zo_18, l1o_19) dX2_readFactor_92 hw_20 (hP.sub [0, 3, 4, 5, 1, 2] rfl) (hD.sub [0, 3, 4, 5, 1, 2] (by decide) rfl) hS
  · refine lv_aload_n hx hb dX2_readFactor_11 rfl (lv_at hl 1 rfl) ?_
    refine va_get (D := D) (ci := 2) (v := .ref tx) (C := RX2) (T := TX2) (N := 2) hx hb htb itX2 hown hK hP 0 rfl rfl 0 (by decide) (htb _ k_288) (fun _ h9 => h9) rfl dX2_readFactor_12 ?_
    refine lv_dup hx hb dX2_readFactor_15 rfl ?_
    refine va_getN (D := D) (ci := 6) (v := .int pl) (C := RX6) (T := TX6) (N := 4) hx hb htb itX6 hown hK hP 1 rfl rfl 2 (by decide) (va_Nw.use rfl (hN _ n_264 rfl)) (fun _ h9 => h9) rfl dX2_readFactor_16 ?_
    refine lv_iconst (v := 1) hx hb dX2_readFactor_19 (by decide) ?_
    refine lv_iadd hx hb dX2_readFactor_20 ?_
    refine lv_topi (fun x_25 ex_25 => ?_)
    refine va_putN (D := D) (ci := 6) (v := .int x_25) (ty := .int) (C := RX6) (T := TX6) (N := 4) hx hb htb itX6 tyX6 tyX6_ok nmX6 hown hK hP hD hS 1 rfl rfl 2 (by decide) (va_Nw.use rfl (hN _ n_264 rfl)) (fun _ h9 => h9) rfl (tyX6_ok 2 (by decide)) rfl rfl (Nat.le_of_ble_eq_true rfl) dX2_readFactor_21 (fun H locs hP hD hS => ?_)
    have hP : va_P D vwCl [(h0, .inr (2, [.ref tx, .ref lw])), (tx, .inr (6, [.ref tp, .int ed, .int x_25, .int fa])), (tp, .inr (5, [.ref by_, .int (nI T)])), (by_, .inl (cI, 260, .inl fb)), (lw, .inr (1, [.ref l1, .ref l2, .ref l3, .ref l4, .ref l5, .ref l6, .ref l7, .int (nI z), .int (nI k)])), (l1, .inl (cI, 240, .inl q1))] H := hP
    have hD : va_D A [(h0, .inr (2, [.ref tx, .ref lw])), (tx, .inr (6, [.ref tp, .int ed, .int x_25, .int fa])), (tp, .inr (5, [.ref by_, .int (nI T)])), (by_, .inl (cI, 260, .inl fb)), (lw, .inr (1, [.ref l1, .ref l2, .ref l3, .ref l4, .ref l5, .ref l6, .ref l7, .int (nI z), .int (nI k)])), (l1, .inl (cI, 240, .inl q1))] := hD
    refine lv_aload_n hx hb dX2_readFactor_24 rfl (lv_at hl 1 rfl) ?_
    refine va_get (D := D) (ci := 2) (v := .ref lw) (C := RX2) (T := TX2) (N := 2) hx hb htb itX2 hown hK hP 0 rfl rfl 1 (by decide) (htb _ k_289) (fun _ h9 => h9) rfl dX2_readFactor_25 ?_
    refine lv_iconst (v := 1) hx hb dX2_readFactor_28 (by decide) ?_
    refine lv_iload_n hx hb dX2_readFactor_29 rfl (lv_at hl 0 rfl) ?_
    refine cVV (As := [.int 1, .int r_1]) (rest := []) (n := 2) (ci := 1) (q0 := 0) (wr := [(h0, .inr (2, [.ref tx, .ref lw])), (tx, .inr (6, [.ref tp, .int ed, .int x_25, .int fa])), (tp, .inr (5, [.ref by_, .int (nI T)])), (by_, .inl (cI, 260, .inl fb))]) X hN hK hP hD hS hA (c_X1_addStep l D cI cB _ lw l1 l2 l3 l4 l5 l6 l7 z k 1 r_1 q1 hz hk) (gV k_594 k_595 k_596 k_97 k_597) (by decide +kernel) ⟨Nat.le_of_ble_eq_true rfl, Nat.le_of_ble_eq_true rfl⟩ ⟨rfl, rfl⟩ [4, 5] [0, 1, 2, 3] rfl rfl (by decide) (by decide) rfl rfl rfl rfl rfl hl.1 (Nat.le_of_ble_eq_true rfl) dX2_readFactor_30 ⟨Nat.le_of_ble_eq_true rfl, Nat.le_of_ble_eq_true rfl⟩ (fun u H locs hw_29 hP hD hS => ?_)
    obtain ⟨zo_27, l1_fo_28⟩ := u
    try dsimp only at hw_29
    have hP : va_P D vwCl [(h0, .inr (2, [.ref tx, .ref lw])), (tx, .inr (6, [.ref tp, .int ed, .int x_25, .int fa])), (tp, .inr (5, [.ref by_, .int (nI T)])), (by_, .inl (cI, 260, .inl fb)), (lw, .inr (1, [.ref l1, .ref l2, .ref l3, .ref l4, .ref l5, .ref l6, .ref l7, .int (nI zo_27), .int (nI k)])), (l1, .inl (cI, 240, .inl l1_fo_28))] H := hP
    have hD : va_D A [(h0, .inr (2, [.ref tx, .ref lw])), (tx, .inr (6, [.ref tp, .int ed, .int x_25, .int fa])), (tp, .inr (5, [.ref by_, .int (nI T)])), (by_, .inl (cI, 260, .inl fb)), (lw, .inr (1, [.ref l1, .ref l2, .ref l3, .ref l4, .ref l5, .ref l6, .ref l7, .int (nI zo_27), .int (nI k)])), (l1, .inl (cI, 240, .inl l1_fo_28))] := hD
    refine lv_goto (tgt := 92) hx hb dX2_readFactor_33 (by decide) ?_
    exact ret _ _ _ _ (x_25, fa, zo_27, l1_fo_28) dX2_readFactor_92 hw_29 (hP.sub [0, 1, 2, 3, 4, 5] rfl) (hD.sub [0, 1, 2, 3, 4, 5] (by decide) rfl) hS

set_option maxRecDepth 100000 in
set_option maxHeartbeats 4000000 in
theorem c_readTerm_5 (l : Launch) (D : va_G) (cI cB : ClassId) (sz : Nat) (kk : KT) (h0 : Nat) (tx : Nat) (tp : Nat) (ed : Int32) (pl : Int32) (fa : Int32) (by_ : Nat) (T : Nat) (fb : Nat → Int32) (lw : Nat) (l1 : Nat) (l2 : Nat) (l3 : Nat) (l4 : Nat) (l5 : Nat) (l6 : Nat) (l7 : Nat) (z : Nat) (k : Nat) (q1 : Nat → Int32) (hT : T ≤ 260) (hz : z ≤ 240) (hk : k ≤ 16) : MVk (S := ((Int32) × (Int32) × (Nat) × (Nat → Int32))) l D cI cB kk yX2_readTerm cX2_readTerm 4 (rm 9 203) [.ref h0, .int 5] [(h0, .inr (2, [.ref tx, .ref lw])), (tx, .inr (6, [.ref tp, .int ed, .int pl, .int fa])), (tp, .inr (5, [.ref by_, .int (nI T)])), (by_, .inl (cI, 260, .inl fb)), (lw, .inr (1, [.ref l1, .ref l2, .ref l3, .ref l4, .ref l5, .ref l6, .ref l7, .int (nI z), .int (nI k)])), (l1, .inl (cI, 240, .inl q1))] sz (fun u => u.2.2.1 ≤ 240) (fun u : ((Int32) × (Int32) × (Nat) × (Nat → Int32)) => [(h0, .inr (2, [.ref tx, .ref lw])), (tx, .inr (6, [.ref tp, .int ed, .int u.1, .int u.2.1])), (tp, .inr (5, [.ref by_, .int (nI T)])), (by_, .inl (cI, 260, .inl fb)), (lw, .inr (1, [.ref l1, .ref l2, .ref l3, .ref l4, .ref l5, .ref l6, .ref l7, .int (nI u.2.2.1), .int (nI k)])), (l1, .inl (cI, 240, .inl u.2.2.2))]) := by
  refine MVk.of (by decide) (Nat.le_of_ble_eq_true rfl) ?_
  intro p e s m below meth c Q ls A X hin hN hKO hP hK hD hA hl ret
  have hS : va_S A s.heap s.heap [] := va_S.rf
  obtain ⟨hx, hb, hml, hown, htb⟩ := id X
  have hl : lv_has ls 4 [(0, .ref h0), (1, .int 5)] := hl
  refine lv_aload_n hx hb dX2_readTerm_0 rfl (lv_at hl 0 rfl) ?_
  refine lv_iload_n hx hb dX2_readTerm_1 rfl (lv_at hl 1 rfl) ?_
  refine cVVk (As := [.int 5]) (rest := []) (n := 1) (ci := 2) (q0 := 0) (wr := []) X hN hKO hK hP hD hS hA (c_readFactor_5 l D cI cB _ kk h0 tx tp ed pl fa by_ T fb lw l1 l2 l3 l4 l5 l6 l7 z k q1 hT hz hk) (gV k_589 k_591 k_4 k_99 k_592) (by decide +kernel) ⟨Nat.le_of_ble_eq_true rfl, Nat.le_of_ble_eq_true rfl⟩ ⟨rfl, rfl⟩ [0, 1, 2, 3, 4, 5] [] rfl rfl (by decide) (by decide) rfl rfl rfl rfl rfl hl.1 (Nat.le_of_ble_eq_true rfl) dX2_readTerm_2 ⟨Nat.le_of_ble_eq_true rfl, Nat.le_of_ble_eq_true rfl⟩ (fun u H locs hw_6 hP hD hS => ?_)
  obtain ⟨plo_2, fao_3, zo_4, l1o_5⟩ := u
  try dsimp only at hw_6
  have hP : va_P D vwCl [(h0, .inr (2, [.ref tx, .ref lw])), (tx, .inr (6, [.ref tp, .int ed, .int plo_2, .int fao_3])), (tp, .inr (5, [.ref by_, .int (nI T)])), (by_, .inl (cI, 260, .inl fb)), (lw, .inr (1, [.ref l1, .ref l2, .ref l3, .ref l4, .ref l5, .ref l6, .ref l7, .int (nI zo_4), .int (nI k)])), (l1, .inl (cI, 240, .inl l1o_5))] H := hP
  have hD : va_D A [(h0, .inr (2, [.ref tx, .ref lw])), (tx, .inr (6, [.ref tp, .int ed, .int plo_2, .int fao_3])), (tp, .inr (5, [.ref by_, .int (nI T)])), (by_, .inl (cI, 260, .inl fb)), (lw, .inr (1, [.ref l1, .ref l2, .ref l3, .ref l4, .ref l5, .ref l6, .ref l7, .int (nI zo_4), .int (nI k)])), (l1, .inl (cI, 240, .inl l1o_5))] := hD
  refine lv_iconst (v := 0) hx hb dX2_readTerm_5 (by decide) ?_
  refine lv_istore_n (lv' := [(2, .int 0), (0, .ref h0), (1, .int 5)]) hx hb dX2_readTerm_6 rfl hl (by decide) rfl (fun ls hl => ?_)
  have loop_7 : ∀ (n i : Nat) (pa : Int32) (fb_ : Int32) (za : Nat) (qa : Nat → Int32), n + i = 240 → (za ≤ 240) → ∀ (H : Heap) (locs : List Loc), va_P D vwCl [(h0, .inr (2, [.ref tx, .ref lw])), (tx, .inr (6, [.ref tp, .int ed, .int pa, .int fb_])), (tp, .inr (5, [.ref by_, .int (nI T)])), (by_, .inl (cI, 260, .inl fb)), (lw, .inr (1, [.ref l1, .ref l2, .ref l3, .ref l4, .ref l5, .ref l6, .ref l7, .int (nI za), .int (nI k)])), (l1, .inl (cI, 240, .inl qa))] H → va_D A [(h0, .inr (2, [.ref tx, .ref lw])), (tx, .inr (6, [.ref tp, .int ed, .int pa, .int fb_])), (tp, .inr (5, [.ref by_, .int (nI T)])), (by_, .inl (cI, 260, .inl fb)), (lw, .inr (1, [.ref l1, .ref l2, .ref l3, .ref l4, .ref l5, .ref l6, .ref l7, .int (nI za), .int (nI k)])), (l1, .inl (cI, 240, .inl qa))] → va_S A s.heap H locs → ∀ (ls : Array Slot), lv_has ls 4 [(0, .ref h0), (1, .int 5), (2, .int (nI i))] → W p l e (rm 9 203) s m ([.ref h0, .int 5] : List Value).toArray below meth c H locs 0 0 Q (F0 m 7 ls []) := by
    intro n
    induction n with
    | zero =>
      intro i pa fb_ za qa hni hza H locs hP hD hS ls hl
      have hni_7 := hni
      have hi : i = 240 := by omega
      refine lv_iload_n hx hb dX2_readTerm_7 rfl (lv_at hl 2 rfl) ?_
      refine lv_sipush (v := 240) hx hb dX2_readTerm_8 (by decide) ?_
      refine lv_icmp_ge (tgt := 60) hx hb dX2_readTerm_11 (by decide) (fun _ => ?_) (fun c_11 => absurd (by rw [hi]; decide) c_11)
      exact ret _ _ _ _ (pa, fb_, za, qa) dX2_readTerm_60 hza (hP.sub [0, 1, 2, 3, 4, 5] rfl) (hD.sub [0, 1, 2, 3, 4, 5] (by decide) rfl) hS
    | succ n ih_7 =>
      intro i pa fb_ za qa hni hza H locs hP hD hS ls hl
      have hni_7 := hni
      have hi : i < 240 := by omega
      refine lv_iload_n hx hb dX2_readTerm_7 rfl (lv_at hl 2 rfl) ?_
      refine lv_sipush (v := 240) hx hb dX2_readTerm_8 (by decide) ?_
      refine lv_icmp_ge (tgt := 60) hx hb dX2_readTerm_11 (by decide) (fun c_11 => absurd c_11 (nI_ge hi (by decide))) (fun _ => ?_)
      refine lv_aload_n hx hb dX2_readTerm_14 rfl (lv_at hl 0 rfl) ?_
      refine cVR (As := []) (rest := []) (n := 0) (ci := 2) (q0 := 0) X hN hK hP (c_X2_factorStep l D cI cB h0 lw tx tp ed pa fb_ by_ T fb hT) (gV k_620 k_622 k_6 k_99 k_623) (by decide +kernel) ⟨Nat.le_of_ble_eq_true rfl, Nat.le_of_ble_eq_true rfl⟩ ⟨rfl, rfl⟩ [0, 1, 2, 3] rfl rfl rfl rfl rfl rfl hl.1 (Nat.le_of_ble_eq_true rfl) dX2_readTerm_15 ⟨Nat.le_of_ble_eq_true rfl, Nat.le_of_ble_eq_true rfl⟩ (fun r_7 hr_7 => ?_)
      refine lv_iconst (v := (-1)) hx hb dX2_readTerm_18 (by decide) ?_
      refine lv_icmp_eq (tgt := 60) hx hb dX2_readTerm_19 (by decide) (fun c_19 => ?_) (fun c_19 => ?_)
      · exact ret _ _ _ _ (pa, fb_, za, qa) dX2_readTerm_60 hza (hP.sub [0, 1, 2, 3, 4, 5] rfl) (hD.sub [0, 1, 2, 3, 4, 5] (by decide) rfl) hS
      · refine lv_aload_n hx hb dX2_readTerm_22 rfl (lv_at hl 0 rfl) ?_
        refine cVR (As := []) (rest := []) (n := 0) (ci := 2) (q0 := 0) X hN hK hP (c_X2_factorStep l D cI cB h0 lw tx tp ed pa fb_ by_ T fb hT) (gV k_620 k_622 k_6 k_99 k_623) (by decide +kernel) ⟨Nat.le_of_ble_eq_true rfl, Nat.le_of_ble_eq_true rfl⟩ ⟨rfl, rfl⟩ [0, 1, 2, 3] rfl rfl rfl rfl rfl rfl hl.1 (Nat.le_of_ble_eq_true rfl) dX2_readTerm_23 ⟨Nat.le_of_ble_eq_true rfl, Nat.le_of_ble_eq_true rfl⟩ (fun r_8 hr_8 => ?_)
        refine lv_istore_n (lv' := [(3, .int r_8), (0, .ref h0), (1, .int 5), (2, .int (nI i))]) hx hb dX2_readTerm_26 rfl hl (by decide) rfl (fun ls hl => ?_)
        refine lv_aload_n hx hb dX2_readTerm_27 rfl (lv_at hl 1 rfl) ?_
        refine va_get (D := D) (ci := 2) (v := .ref tx) (C := RX2) (T := TX2) (N := 2) hx hb htb itX2 hown hK hP 0 rfl rfl 0 (by decide) (htb _ k_288) (fun _ h9 => h9) rfl dX2_readTerm_28 ?_
        refine lv_dup hx hb dX2_readTerm_31 rfl ?_
        refine va_getN (D := D) (ci := 6) (v := .int pa) (C := RX6) (T := TX6) (N := 4) hx hb htb itX6 hown hK hP 1 rfl rfl 2 (by decide) (va_Nw.use rfl (hN _ n_264 rfl)) (fun _ h9 => h9) rfl dX2_readTerm_32 ?_
        refine lv_iconst (v := 1) hx hb dX2_readTerm_35 (by decide) ?_
        refine lv_iadd hx hb dX2_readTerm_36 ?_
        refine lv_topi (fun x_9 ex_9 => ?_)
        refine va_putN (D := D) (ci := 6) (v := .int x_9) (ty := .int) (C := RX6) (T := TX6) (N := 4) hx hb htb itX6 tyX6 tyX6_ok nmX6 hown hK hP hD hS 1 rfl rfl 2 (by decide) (va_Nw.use rfl (hN _ n_264 rfl)) (fun _ h9 => h9) rfl (tyX6_ok 2 (by decide)) rfl rfl (Nat.le_of_ble_eq_true rfl) dX2_readTerm_37 (fun H locs hP hD hS => ?_)
        have hP : va_P D vwCl [(h0, .inr (2, [.ref tx, .ref lw])), (tx, .inr (6, [.ref tp, .int ed, .int x_9, .int fb_])), (tp, .inr (5, [.ref by_, .int (nI T)])), (by_, .inl (cI, 260, .inl fb)), (lw, .inr (1, [.ref l1, .ref l2, .ref l3, .ref l4, .ref l5, .ref l6, .ref l7, .int (nI za), .int (nI k)])), (l1, .inl (cI, 240, .inl qa))] H := hP
        have hD : va_D A [(h0, .inr (2, [.ref tx, .ref lw])), (tx, .inr (6, [.ref tp, .int ed, .int x_9, .int fb_])), (tp, .inr (5, [.ref by_, .int (nI T)])), (by_, .inl (cI, 260, .inl fb)), (lw, .inr (1, [.ref l1, .ref l2, .ref l3, .ref l4, .ref l5, .ref l6, .ref l7, .int (nI za), .int (nI k)])), (l1, .inl (cI, 240, .inl qa))] := hD
        refine lv_aload_n hx hb dX2_readTerm_40 rfl (lv_at hl 1 rfl) ?_
        refine lv_iload_n hx hb dX2_readTerm_41 rfl (lv_at hl 2 rfl) ?_
        refine cVVk (As := [.int 5]) (rest := []) (n := 1) (ci := 2) (q0 := 0) (wr := []) X hN hKO hK hP hD hS hA (c_readFactor_5 l D cI cB _ kk h0 tx tp ed x_9 fb_ by_ T fb lw l1 l2 l3 l4 l5 l6 l7 za k qa hT hza hk) (gV k_589 k_591 k_4 k_99 k_592) (by decide +kernel) ⟨Nat.le_of_ble_eq_true rfl, Nat.le_of_ble_eq_true rfl⟩ ⟨rfl, rfl⟩ [0, 1, 2, 3, 4, 5] [] rfl rfl (by decide) (by decide) rfl rfl rfl rfl rfl hl.1 (Nat.le_of_ble_eq_true rfl) dX2_readTerm_42 ⟨Nat.le_of_ble_eq_true rfl, Nat.le_of_ble_eq_true rfl⟩ (fun u H locs hw_15 hP hD hS => ?_)
        obtain ⟨plo_11, fao_12, zo_13, l1o_14⟩ := u
        try dsimp only at hw_15
        have hP : va_P D vwCl [(h0, .inr (2, [.ref tx, .ref lw])), (tx, .inr (6, [.ref tp, .int ed, .int plo_11, .int fao_12])), (tp, .inr (5, [.ref by_, .int (nI T)])), (by_, .inl (cI, 260, .inl fb)), (lw, .inr (1, [.ref l1, .ref l2, .ref l3, .ref l4, .ref l5, .ref l6, .ref l7, .int (nI zo_13), .int (nI k)])), (l1, .inl (cI, 240, .inl l1o_14))] H := hP
        have hD : va_D A [(h0, .inr (2, [.ref tx, .ref lw])), (tx, .inr (6, [.ref tp, .int ed, .int plo_11, .int fao_12])), (tp, .inr (5, [.ref by_, .int (nI T)])), (by_, .inl (cI, 260, .inl fb)), (lw, .inr (1, [.ref l1, .ref l2, .ref l3, .ref l4, .ref l5, .ref l6, .ref l7, .int (nI zo_13), .int (nI k)])), (l1, .inl (cI, 240, .inl l1o_14))] := hD
        refine lv_aload_n hx hb dX2_readTerm_45 rfl (lv_at hl 1 rfl) ?_
        refine va_get (D := D) (ci := 2) (v := .ref lw) (C := RX2) (T := TX2) (N := 2) hx hb htb itX2 hown hK hP 0 rfl rfl 1 (by decide) (htb _ k_289) (fun _ h9 => h9) rfl dX2_readTerm_46 ?_
        refine lv_iload_n hx hb dX2_readTerm_49 rfl (lv_at hl 0 rfl) ?_
        refine lv_iconst (v := 0) hx hb dX2_readTerm_50 (by decide) ?_
        refine cVV (As := [.int r_8, .int 0]) (rest := []) (n := 2) (ci := 1) (q0 := 0) (wr := [(h0, .inr (2, [.ref tx, .ref lw])), (tx, .inr (6, [.ref tp, .int ed, .int plo_11, .int fao_12])), (tp, .inr (5, [.ref by_, .int (nI T)])), (by_, .inl (cI, 260, .inl fb))]) X hN hK hP hD hS hA (c_X1_addStep l D cI cB _ lw l1 l2 l3 l4 l5 l6 l7 zo_13 k r_8 0 l1o_14 hw_15 hk) (gV k_594 k_595 k_596 k_97 k_597) (by decide +kernel) ⟨Nat.le_of_ble_eq_true rfl, Nat.le_of_ble_eq_true rfl⟩ ⟨rfl, rfl⟩ [4, 5] [0, 1, 2, 3] rfl rfl (by decide) (by decide) rfl rfl rfl rfl rfl hl.1 (Nat.le_of_ble_eq_true rfl) dX2_readTerm_51 ⟨Nat.le_of_ble_eq_true rfl, Nat.le_of_ble_eq_true rfl⟩ (fun u H locs hw_19 hP hD hS => ?_)
        obtain ⟨zo_17, l1_fo_18⟩ := u
        try dsimp only at hw_19
        have hP : va_P D vwCl [(h0, .inr (2, [.ref tx, .ref lw])), (tx, .inr (6, [.ref tp, .int ed, .int plo_11, .int fao_12])), (tp, .inr (5, [.ref by_, .int (nI T)])), (by_, .inl (cI, 260, .inl fb)), (lw, .inr (1, [.ref l1, .ref l2, .ref l3, .ref l4, .ref l5, .ref l6, .ref l7, .int (nI zo_17), .int (nI k)])), (l1, .inl (cI, 240, .inl l1_fo_18))] H := hP
        have hD : va_D A [(h0, .inr (2, [.ref tx, .ref lw])), (tx, .inr (6, [.ref tp, .int ed, .int plo_11, .int fao_12])), (tp, .inr (5, [.ref by_, .int (nI T)])), (by_, .inl (cI, 260, .inl fb)), (lw, .inr (1, [.ref l1, .ref l2, .ref l3, .ref l4, .ref l5, .ref l6, .ref l7, .int (nI zo_17), .int (nI k)])), (l1, .inl (cI, 240, .inl l1_fo_18))] := hD
        refine lv_iinc (v := (nI (i + 1))) (lv' := [(2, .int (nI (i + 1))), (3, .int r_8), (0, .ref h0), (1, .int 5)]) hx hb dX2_readTerm_54 hl (k := 3) rfl (nI_1 i) (by decide) rfl (fun ls hl => ?_)
        refine lv_goto (tgt := 7) hx hb dX2_readTerm_57 (by decide) ?_
        exact ih_7 (i + 1) plo_11 fao_12 zo_17 l1_fo_18 (by omega) hw_19 _ _ (hP.sub [0, 1, 2, 3, 4, 5] rfl) (hD.sub [0, 1, 2, 3, 4, 5] (by decide) rfl) hS _ (lv_sub hl [2, 3, 0] rfl)
  exact loop_7 240 0 plo_2 fao_3 zo_4 l1o_5 (by omega) hw_6 _ _ (hP.sub [0, 1, 2, 3, 4, 5] rfl) (hD.sub [0, 1, 2, 3, 4, 5] (by decide) rfl) hS _ (lv_sub hl [1, 2, 0] rfl)

set_option maxRecDepth 100000 in
set_option maxHeartbeats 4000000 in
theorem c_readSum_5 (l : Launch) (D : va_G) (cI cB : ClassId) (sz : Nat) (kk : KT) (h0 : Nat) (tx : Nat) (tp : Nat) (ed : Int32) (pl : Int32) (fa : Int32) (by_ : Nat) (T : Nat) (fb : Nat → Int32) (lw : Nat) (l1 : Nat) (l2 : Nat) (l3 : Nat) (l4 : Nat) (l5 : Nat) (l6 : Nat) (l7 : Nat) (z : Nat) (k : Nat) (q1 : Nat → Int32) (hT : T ≤ 260) (hz : z ≤ 240) (hk : k ≤ 16) : MVk (S := ((Int32) × (Int32) × (Nat) × (Nat → Int32))) l D cI cB kk yX2_readSum cX2_readSum 4 (rm 10 226) [.ref h0, .int 5] [(h0, .inr (2, [.ref tx, .ref lw])), (tx, .inr (6, [.ref tp, .int ed, .int pl, .int fa])), (tp, .inr (5, [.ref by_, .int (nI T)])), (by_, .inl (cI, 260, .inl fb)), (lw, .inr (1, [.ref l1, .ref l2, .ref l3, .ref l4, .ref l5, .ref l6, .ref l7, .int (nI z), .int (nI k)])), (l1, .inl (cI, 240, .inl q1))] sz (fun u => u.2.2.1 ≤ 240) (fun u : ((Int32) × (Int32) × (Nat) × (Nat → Int32)) => [(h0, .inr (2, [.ref tx, .ref lw])), (tx, .inr (6, [.ref tp, .int ed, .int u.1, .int u.2.1])), (tp, .inr (5, [.ref by_, .int (nI T)])), (by_, .inl (cI, 260, .inl fb)), (lw, .inr (1, [.ref l1, .ref l2, .ref l3, .ref l4, .ref l5, .ref l6, .ref l7, .int (nI u.2.2.1), .int (nI k)])), (l1, .inl (cI, 240, .inl u.2.2.2))]) := by
  refine MVk.of (by decide) (Nat.le_of_ble_eq_true rfl) ?_
  intro p e s m below meth c Q ls A X hin hN hKO hP hK hD hA hl ret
  have hS : va_S A s.heap s.heap [] := va_S.rf
  obtain ⟨hx, hb, hml, hown, htb⟩ := id X
  have hl : lv_has ls 4 [(0, .ref h0), (1, .int 5)] := hl
  refine lv_aload_n hx hb dX2_readSum_0 rfl (lv_at hl 0 rfl) ?_
  refine lv_iload_n hx hb dX2_readSum_1 rfl (lv_at hl 1 rfl) ?_
  refine cVVk (As := [.int 5]) (rest := []) (n := 1) (ci := 2) (q0 := 0) (wr := []) X hN hKO hK hP hD hS hA (c_readTerm_5 l D cI cB _ kk h0 tx tp ed pl fa by_ T fb lw l1 l2 l3 l4 l5 l6 l7 z k q1 hT hz hk) (gV k_585 k_587 k_3 k_99 k_588) (by decide +kernel) ⟨Nat.le_of_ble_eq_true rfl, Nat.le_of_ble_eq_true rfl⟩ ⟨rfl, rfl⟩ [0, 1, 2, 3, 4, 5] [] rfl rfl (by decide) (by decide) rfl rfl rfl rfl rfl hl.1 (Nat.le_of_ble_eq_true rfl) dX2_readSum_2 ⟨Nat.le_of_ble_eq_true rfl, Nat.le_of_ble_eq_true rfl⟩ (fun u H locs hw_6 hP hD hS => ?_)
  obtain ⟨plo_2, fao_3, zo_4, l1o_5⟩ := u
  try dsimp only at hw_6
  have hP : va_P D vwCl [(h0, .inr (2, [.ref tx, .ref lw])), (tx, .inr (6, [.ref tp, .int ed, .int plo_2, .int fao_3])), (tp, .inr (5, [.ref by_, .int (nI T)])), (by_, .inl (cI, 260, .inl fb)), (lw, .inr (1, [.ref l1, .ref l2, .ref l3, .ref l4, .ref l5, .ref l6, .ref l7, .int (nI zo_4), .int (nI k)])), (l1, .inl (cI, 240, .inl l1o_5))] H := hP
  have hD : va_D A [(h0, .inr (2, [.ref tx, .ref lw])), (tx, .inr (6, [.ref tp, .int ed, .int plo_2, .int fao_3])), (tp, .inr (5, [.ref by_, .int (nI T)])), (by_, .inl (cI, 260, .inl fb)), (lw, .inr (1, [.ref l1, .ref l2, .ref l3, .ref l4, .ref l5, .ref l6, .ref l7, .int (nI zo_4), .int (nI k)])), (l1, .inl (cI, 240, .inl l1o_5))] := hD
  refine lv_iconst (v := 0) hx hb dX2_readSum_5 (by decide) ?_
  refine lv_istore_n (lv' := [(2, .int 0), (0, .ref h0), (1, .int 5)]) hx hb dX2_readSum_6 rfl hl (by decide) rfl (fun ls hl => ?_)
  have loop_7 : ∀ (n i : Nat) (pa : Int32) (fb_ : Int32) (za : Nat) (qa : Nat → Int32), n + i = 240 → (za ≤ 240) → ∀ (H : Heap) (locs : List Loc), va_P D vwCl [(h0, .inr (2, [.ref tx, .ref lw])), (tx, .inr (6, [.ref tp, .int ed, .int pa, .int fb_])), (tp, .inr (5, [.ref by_, .int (nI T)])), (by_, .inl (cI, 260, .inl fb)), (lw, .inr (1, [.ref l1, .ref l2, .ref l3, .ref l4, .ref l5, .ref l6, .ref l7, .int (nI za), .int (nI k)])), (l1, .inl (cI, 240, .inl qa))] H → va_D A [(h0, .inr (2, [.ref tx, .ref lw])), (tx, .inr (6, [.ref tp, .int ed, .int pa, .int fb_])), (tp, .inr (5, [.ref by_, .int (nI T)])), (by_, .inl (cI, 260, .inl fb)), (lw, .inr (1, [.ref l1, .ref l2, .ref l3, .ref l4, .ref l5, .ref l6, .ref l7, .int (nI za), .int (nI k)])), (l1, .inl (cI, 240, .inl qa))] → va_S A s.heap H locs → ∀ (ls : Array Slot), lv_has ls 4 [(0, .ref h0), (1, .int 5), (2, .int (nI i))] → W p l e (rm 10 226) s m ([.ref h0, .int 5] : List Value).toArray below meth c H locs 0 0 Q (F0 m 7 ls []) := by
    intro n
    induction n with
    | zero =>
      intro i pa fb_ za qa hni hza H locs hP hD hS ls hl
      have hni_7 := hni
      have hi : i = 240 := by omega
      refine lv_iload_n hx hb dX2_readSum_7 rfl (lv_at hl 2 rfl) ?_
      refine lv_sipush (v := 240) hx hb dX2_readSum_8 (by decide) ?_
      refine lv_icmp_ge (tgt := 90) hx hb dX2_readSum_11 (by decide) (fun _ => ?_) (fun c_11 => absurd (by rw [hi]; decide) c_11)
      exact ret _ _ _ _ (pa, fb_, za, qa) dX2_readSum_90 hza (hP.sub [0, 1, 2, 3, 4, 5] rfl) (hD.sub [0, 1, 2, 3, 4, 5] (by decide) rfl) hS
    | succ n ih_7 =>
      intro i pa fb_ za qa hni hza H locs hP hD hS ls hl
      have hni_7 := hni
      have hi : i < 240 := by omega
      refine lv_iload_n hx hb dX2_readSum_7 rfl (lv_at hl 2 rfl) ?_
      refine lv_sipush (v := 240) hx hb dX2_readSum_8 (by decide) ?_
      refine lv_icmp_ge (tgt := 90) hx hb dX2_readSum_11 (by decide) (fun c_11 => absurd c_11 (nI_ge hi (by decide))) (fun _ => ?_)
      refine lv_aload_n hx hb dX2_readSum_14 rfl (lv_at hl 0 rfl) ?_
      refine va_get (D := D) (ci := 2) (v := .ref tx) (C := RX2) (T := TX2) (N := 2) hx hb htb itX2 hown hK hP 0 rfl rfl 0 (by decide) (htb _ k_288) (fun _ h9 => h9) rfl dX2_readSum_15 ?_
      refine cVR (As := []) (rest := []) (n := 0) (ci := 6) (q0 := 0) X hN hK hP (c_X6_sign l D cI cB tx tp ed pa fb_ by_ T fb hT) (gV k_483 k_484 k_485 k_98 k_486) (by decide +kernel) ⟨Nat.le_of_ble_eq_true rfl, Nat.le_of_ble_eq_true rfl⟩ ⟨rfl, rfl⟩ [1, 2, 3] rfl rfl rfl rfl rfl rfl hl.1 (Nat.le_of_ble_eq_true rfl) dX2_readSum_18 ⟨Nat.le_of_ble_eq_true rfl, Nat.le_of_ble_eq_true rfl⟩ (fun r_7 hr_7 => ?_)
      subst hr_7
      refine lv_bipush (v := 43) hx hb dX2_readSum_21 (by decide) ?_
      refine lv_icmp_eq (tgt := 38) hx hb dX2_readSum_23 (by decide) (fun c_23 => ?_) (fun c_23 => ?_)
      · refine lv_aload_n hx hb dX2_readSum_38 rfl (lv_at hl 0 rfl) ?_
        refine va_get (D := D) (ci := 2) (v := .ref tx) (C := RX2) (T := TX2) (N := 2) hx hb htb itX2 hown hK hP 0 rfl rfl 0 (by decide) (htb _ k_288) (fun _ h9 => h9) rfl dX2_readSum_39 ?_
        refine cVR (As := []) (rest := []) (n := 0) (ci := 6) (q0 := 0) X hN hK hP (c_X6_sign l D cI cB tx tp ed pa fb_ by_ T fb hT) (gV k_483 k_484 k_485 k_98 k_486) (by decide +kernel) ⟨Nat.le_of_ble_eq_true rfl, Nat.le_of_ble_eq_true rfl⟩ ⟨rfl, rfl⟩ [1, 2, 3] rfl rfl rfl rfl rfl rfl hl.1 (Nat.le_of_ble_eq_true rfl) dX2_readSum_42 ⟨Nat.le_of_ble_eq_true rfl, Nat.le_of_ble_eq_true rfl⟩ (fun r_8 hr_8 => ?_)
        subst hr_8
        refine lv_bipush (v := 43) hx hb dX2_readSum_45 (by decide) ?_
        refine lv_icmp_ne (tgt := 54) hx hb dX2_readSum_47 (by decide) (fun c_47 => ?_) (fun c_47 => ?_)
        · refine lv_bipush (v := 6) hx hb dX2_readSum_54 (by decide) ?_
          refine lv_istore_n (lv' := [(3, .int 6), (0, .ref h0), (1, .int 5), (2, .int (nI i))]) hx hb dX2_readSum_56 rfl hl (by decide) rfl (fun ls hl => ?_)
          refine lv_aload_n hx hb dX2_readSum_57 rfl (lv_at hl 1 rfl) ?_
          refine va_get (D := D) (ci := 2) (v := .ref tx) (C := RX2) (T := TX2) (N := 2) hx hb htb itX2 hown hK hP 0 rfl rfl 0 (by decide) (htb _ k_288) (fun _ h9 => h9) rfl dX2_readSum_58 ?_
          refine lv_dup hx hb dX2_readSum_61 rfl ?_
          refine va_getN (D := D) (ci := 6) (v := .int pa) (C := RX6) (T := TX6) (N := 4) hx hb htb itX6 hown hK hP 1 rfl rfl 2 (by decide) (va_Nw.use rfl (hN _ n_264 rfl)) (fun _ h9 => h9) rfl dX2_readSum_62 ?_
          refine lv_iconst (v := 1) hx hb dX2_readSum_65 (by decide) ?_
          refine lv_iadd hx hb dX2_readSum_66 ?_
          refine lv_topi (fun x_9 ex_9 => ?_)
          refine va_putN (D := D) (ci := 6) (v := .int x_9) (ty := .int) (C := RX6) (T := TX6) (N := 4) hx hb htb itX6 tyX6 tyX6_ok nmX6 hown hK hP hD hS 1 rfl rfl 2 (by decide) (va_Nw.use rfl (hN _ n_264 rfl)) (fun _ h9 => h9) rfl (tyX6_ok 2 (by decide)) rfl rfl (Nat.le_of_ble_eq_true rfl) dX2_readSum_67 (fun H locs hP hD hS => ?_)
          have hP : va_P D vwCl [(h0, .inr (2, [.ref tx, .ref lw])), (tx, .inr (6, [.ref tp, .int ed, .int x_9, .int fb_])), (tp, .inr (5, [.ref by_, .int (nI T)])), (by_, .inl (cI, 260, .inl fb)), (lw, .inr (1, [.ref l1, .ref l2, .ref l3, .ref l4, .ref l5, .ref l6, .ref l7, .int (nI za), .int (nI k)])), (l1, .inl (cI, 240, .inl qa))] H := hP
          have hD : va_D A [(h0, .inr (2, [.ref tx, .ref lw])), (tx, .inr (6, [.ref tp, .int ed, .int x_9, .int fb_])), (tp, .inr (5, [.ref by_, .int (nI T)])), (by_, .inl (cI, 260, .inl fb)), (lw, .inr (1, [.ref l1, .ref l2, .ref l3, .ref l4, .ref l5, .ref l6, .ref l7, .int (nI za), .int (nI k)])), (l1, .inl (cI, 240, .inl qa))] := hD
          refine lv_aload_n hx hb dX2_readSum_70 rfl (lv_at hl 1 rfl) ?_
          refine lv_iload_n hx hb dX2_readSum_71 rfl (lv_at hl 2 rfl) ?_
          refine cVVk (As := [.int 5]) (rest := []) (n := 1) (ci := 2) (q0 := 0) (wr := []) X hN hKO hK hP hD hS hA (c_readTerm_5 l D cI cB _ kk h0 tx tp ed x_9 fb_ by_ T fb lw l1 l2 l3 l4 l5 l6 l7 za k qa hT hza hk) (gV k_585 k_587 k_3 k_99 k_588) (by decide +kernel) ⟨Nat.le_of_ble_eq_true rfl, Nat.le_of_ble_eq_true rfl⟩ ⟨rfl, rfl⟩ [0, 1, 2, 3, 4, 5] [] rfl rfl (by decide) (by decide) rfl rfl rfl rfl rfl hl.1 (Nat.le_of_ble_eq_true rfl) dX2_readSum_72 ⟨Nat.le_of_ble_eq_true rfl, Nat.le_of_ble_eq_true rfl⟩ (fun u H locs hw_15 hP hD hS => ?_)
          obtain ⟨plo_11, fao_12, zo_13, l1o_14⟩ := u
          try dsimp only at hw_15
          have hP : va_P D vwCl [(h0, .inr (2, [.ref tx, .ref lw])), (tx, .inr (6, [.ref tp, .int ed, .int plo_11, .int fao_12])), (tp, .inr (5, [.ref by_, .int (nI T)])), (by_, .inl (cI, 260, .inl fb)), (lw, .inr (1, [.ref l1, .ref l2, .ref l3, .ref l4, .ref l5, .ref l6, .ref l7, .int (nI zo_13), .int (nI k)])), (l1, .inl (cI, 240, .inl l1o_14))] H := hP
          have hD : va_D A [(h0, .inr (2, [.ref tx, .ref lw])), (tx, .inr (6, [.ref tp, .int ed, .int plo_11, .int fao_12])), (tp, .inr (5, [.ref by_, .int (nI T)])), (by_, .inl (cI, 260, .inl fb)), (lw, .inr (1, [.ref l1, .ref l2, .ref l3, .ref l4, .ref l5, .ref l6, .ref l7, .int (nI zo_13), .int (nI k)])), (l1, .inl (cI, 240, .inl l1o_14))] := hD
          refine lv_aload_n hx hb dX2_readSum_75 rfl (lv_at hl 1 rfl) ?_
          refine va_get (D := D) (ci := 2) (v := .ref lw) (C := RX2) (T := TX2) (N := 2) hx hb htb itX2 hown hK hP 0 rfl rfl 1 (by decide) (htb _ k_289) (fun _ h9 => h9) rfl dX2_readSum_76 ?_
          refine lv_iload_n hx hb dX2_readSum_79 rfl (lv_at hl 0 rfl) ?_
          refine lv_iconst (v := 0) hx hb dX2_readSum_80 (by decide) ?_
          refine cVV (As := [.int 6, .int 0]) (rest := []) (n := 2) (ci := 1) (q0 := 0) (wr := [(h0, .inr (2, [.ref tx, .ref lw])), (tx, .inr (6, [.ref tp, .int ed, .int plo_11, .int fao_12])), (tp, .inr (5, [.ref by_, .int (nI T)])), (by_, .inl (cI, 260, .inl fb))]) X hN hK hP hD hS hA (c_X1_addStep l D cI cB _ lw l1 l2 l3 l4 l5 l6 l7 zo_13 k 6 0 l1o_14 hw_15 hk) (gV k_594 k_595 k_596 k_97 k_597) (by decide +kernel) ⟨Nat.le_of_ble_eq_true rfl, Nat.le_of_ble_eq_true rfl⟩ ⟨rfl, rfl⟩ [4, 5] [0, 1, 2, 3] rfl rfl (by decide) (by decide) rfl rfl rfl rfl rfl hl.1 (Nat.le_of_ble_eq_true rfl) dX2_readSum_81 ⟨Nat.le_of_ble_eq_true rfl, Nat.le_of_ble_eq_true rfl⟩ (fun u H locs hw_19 hP hD hS => ?_)
          obtain ⟨zo_17, l1_fo_18⟩ := u
          try dsimp only at hw_19
          have hP : va_P D vwCl [(h0, .inr (2, [.ref tx, .ref lw])), (tx, .inr (6, [.ref tp, .int ed, .int plo_11, .int fao_12])), (tp, .inr (5, [.ref by_, .int (nI T)])), (by_, .inl (cI, 260, .inl fb)), (lw, .inr (1, [.ref l1, .ref l2, .ref l3, .ref l4, .ref l5, .ref l6, .ref l7, .int (nI zo_17), .int (nI k)])), (l1, .inl (cI, 240, .inl l1_fo_18))] H := hP
          have hD : va_D A [(h0, .inr (2, [.ref tx, .ref lw])), (tx, .inr (6, [.ref tp, .int ed, .int plo_11, .int fao_12])), (tp, .inr (5, [.ref by_, .int (nI T)])), (by_, .inl (cI, 260, .inl fb)), (lw, .inr (1, [.ref l1, .ref l2, .ref l3, .ref l4, .ref l5, .ref l6, .ref l7, .int (nI zo_17), .int (nI k)])), (l1, .inl (cI, 240, .inl l1_fo_18))] := hD
          refine lv_iinc (v := (nI (i + 1))) (lv' := [(2, .int (nI (i + 1))), (3, .int 6), (0, .ref h0), (1, .int 5)]) hx hb dX2_readSum_84 hl (k := 3) rfl (nI_1 i) (by decide) rfl (fun ls hl => ?_)
          refine lv_goto (tgt := 7) hx hb dX2_readSum_87 (by decide) ?_
          exact ih_7 (i + 1) plo_11 fao_12 zo_17 l1_fo_18 (by omega) hw_19 _ _ (hP.sub [0, 1, 2, 3, 4, 5] rfl) (hD.sub [0, 1, 2, 3, 4, 5] (by decide) rfl) hS _ (lv_sub hl [2, 3, 0] rfl)
        · refine lv_iconst (v := 5) hx hb dX2_readSum_50 (by decide) ?_
          refine lv_goto (tgt := 56) hx hb dX2_readSum_51 (by decide) ?_
          refine lv_istore_n (lv' := [(3, .int 5), (0, .ref h0), (1, .int 5), (2, .int (nI i))]) hx hb dX2_readSum_56 rfl hl (by decide) rfl (fun ls hl => ?_)
          refine lv_aload_n hx hb dX2_readSum_57 rfl (lv_at hl 1 rfl) ?_
          refine va_get (D := D) (ci := 2) (v := .ref tx) (C := RX2) (T := TX2) (N := 2) hx hb htb itX2 hown hK hP 0 rfl rfl 0 (by decide) (htb _ k_288) (fun _ h9 => h9) rfl dX2_readSum_58 ?_
          refine lv_dup hx hb dX2_readSum_61 rfl ?_
          refine va_getN (D := D) (ci := 6) (v := .int pa) (C := RX6) (T := TX6) (N := 4) hx hb htb itX6 hown hK hP 1 rfl rfl 2 (by decide) (va_Nw.use rfl (hN _ n_264 rfl)) (fun _ h9 => h9) rfl dX2_readSum_62 ?_
          refine lv_iconst (v := 1) hx hb dX2_readSum_65 (by decide) ?_
          refine lv_iadd hx hb dX2_readSum_66 ?_
          refine lv_topi (fun x_20 ex_20 => ?_)
          refine va_putN (D := D) (ci := 6) (v := .int x_20) (ty := .int) (C := RX6) (T := TX6) (N := 4) hx hb htb itX6 tyX6 tyX6_ok nmX6 hown hK hP hD hS 1 rfl rfl 2 (by decide) (va_Nw.use rfl (hN _ n_264 rfl)) (fun _ h9 => h9) rfl (tyX6_ok 2 (by decide)) rfl rfl (Nat.le_of_ble_eq_true rfl) dX2_readSum_67 (fun H locs hP hD hS => ?_)
          have hP : va_P D vwCl [(h0, .inr (2, [.ref tx, .ref lw])), (tx, .inr (6, [.ref tp, .int ed, .int x_20, .int fb_])), (tp, .inr (5, [.ref by_, .int (nI T)])), (by_, .inl (cI, 260, .inl fb)), (lw, .inr (1, [.ref l1, .ref l2, .ref l3, .ref l4, .ref l5, .ref l6, .ref l7, .int (nI za), .int (nI k)])), (l1, .inl (cI, 240, .inl qa))] H := hP
          have hD : va_D A [(h0, .inr (2, [.ref tx, .ref lw])), (tx, .inr (6, [.ref tp, .int ed, .int x_20, .int fb_])), (tp, .inr (5, [.ref by_, .int (nI T)])), (by_, .inl (cI, 260, .inl fb)), (lw, .inr (1, [.ref l1, .ref l2, .ref l3, .ref l4, .ref l5, .ref l6, .ref l7, .int (nI za), .int (nI k)])), (l1, .inl (cI, 240, .inl qa))] := hD
          refine lv_aload_n hx hb dX2_readSum_70 rfl (lv_at hl 1 rfl) ?_
          refine lv_iload_n hx hb dX2_readSum_71 rfl (lv_at hl 2 rfl) ?_
          refine cVVk (As := [.int 5]) (rest := []) (n := 1) (ci := 2) (q0 := 0) (wr := []) X hN hKO hK hP hD hS hA (c_readTerm_5 l D cI cB _ kk h0 tx tp ed x_20 fb_ by_ T fb lw l1 l2 l3 l4 l5 l6 l7 za k qa hT hza hk) (gV k_585 k_587 k_3 k_99 k_588) (by decide +kernel) ⟨Nat.le_of_ble_eq_true rfl, Nat.le_of_ble_eq_true rfl⟩ ⟨rfl, rfl⟩ [0, 1, 2, 3, 4, 5] [] rfl rfl (by decide) (by decide) rfl rfl rfl rfl rfl hl.1 (Nat.le_of_ble_eq_true rfl) dX2_readSum_72 ⟨Nat.le_of_ble_eq_true rfl, Nat.le_of_ble_eq_true rfl⟩ (fun u H locs hw_26 hP hD hS => ?_)
          obtain ⟨plo_22, fao_23, zo_24, l1o_25⟩ := u
          try dsimp only at hw_26
          have hP : va_P D vwCl [(h0, .inr (2, [.ref tx, .ref lw])), (tx, .inr (6, [.ref tp, .int ed, .int plo_22, .int fao_23])), (tp, .inr (5, [.ref by_, .int (nI T)])), (by_, .inl (cI, 260, .inl fb)), (lw, .inr (1, [.ref l1, .ref l2, .ref l3, .ref l4, .ref l5, .ref l6, .ref l7, .int (nI zo_24), .int (nI k)])), (l1, .inl (cI, 240, .inl l1o_25))] H := hP
          have hD : va_D A [(h0, .inr (2, [.ref tx, .ref lw])), (tx, .inr (6, [.ref tp, .int ed, .int plo_22, .int fao_23])), (tp, .inr (5, [.ref by_, .int (nI T)])), (by_, .inl (cI, 260, .inl fb)), (lw, .inr (1, [.ref l1, .ref l2, .ref l3, .ref l4, .ref l5, .ref l6, .ref l7, .int (nI zo_24), .int (nI k)])), (l1, .inl (cI, 240, .inl l1o_25))] := hD
          refine lv_aload_n hx hb dX2_readSum_75 rfl (lv_at hl 1 rfl) ?_
          refine va_get (D := D) (ci := 2) (v := .ref lw) (C := RX2) (T := TX2) (N := 2) hx hb htb itX2 hown hK hP 0 rfl rfl 1 (by decide) (htb _ k_289) (fun _ h9 => h9) rfl dX2_readSum_76 ?_
          refine lv_iload_n hx hb dX2_readSum_79 rfl (lv_at hl 0 rfl) ?_
          refine lv_iconst (v := 0) hx hb dX2_readSum_80 (by decide) ?_
          refine cVV (As := [.int 5, .int 0]) (rest := []) (n := 2) (ci := 1) (q0 := 0) (wr := [(h0, .inr (2, [.ref tx, .ref lw])), (tx, .inr (6, [.ref tp, .int ed, .int plo_22, .int fao_23])), (tp, .inr (5, [.ref by_, .int (nI T)])), (by_, .inl (cI, 260, .inl fb))]) X hN hK hP hD hS hA (c_X1_addStep l D cI cB _ lw l1 l2 l3 l4 l5 l6 l7 zo_24 k 5 0 l1o_25 hw_26 hk) (gV k_594 k_595 k_596 k_97 k_597) (by decide +kernel) ⟨Nat.le_of_ble_eq_true rfl, Nat.le_of_ble_eq_true rfl⟩ ⟨rfl, rfl⟩ [4, 5] [0, 1, 2, 3] rfl rfl (by decide) (by decide) rfl rfl rfl rfl rfl hl.1 (Nat.le_of_ble_eq_true rfl) dX2_readSum_81 ⟨Nat.le_of_ble_eq_true rfl, Nat.le_of_ble_eq_true rfl⟩ (fun u H locs hw_30 hP hD hS => ?_)
          obtain ⟨zo_28, l1_fo_29⟩ := u
          try dsimp only at hw_30
          have hP : va_P D vwCl [(h0, .inr (2, [.ref tx, .ref lw])), (tx, .inr (6, [.ref tp, .int ed, .int plo_22, .int fao_23])), (tp, .inr (5, [.ref by_, .int (nI T)])), (by_, .inl (cI, 260, .inl fb)), (lw, .inr (1, [.ref l1, .ref l2, .ref l3, .ref l4, .ref l5, .ref l6, .ref l7, .int (nI zo_28), .int (nI k)])), (l1, .inl (cI, 240, .inl l1_fo_29))] H := hP
          have hD : va_D A [(h0, .inr (2, [.ref tx, .ref lw])), (tx, .inr (6, [.ref tp, .int ed, .int plo_22, .int fao_23])), (tp, .inr (5, [.ref by_, .int (nI T)])), (by_, .inl (cI, 260, .inl fb)), (lw, .inr (1, [.ref l1, .ref l2, .ref l3, .ref l4, .ref l5, .ref l6, .ref l7, .int (nI zo_28), .int (nI k)])), (l1, .inl (cI, 240, .inl l1_fo_29))] := hD
          refine lv_iinc (v := (nI (i + 1))) (lv' := [(2, .int (nI (i + 1))), (3, .int 5), (0, .ref h0), (1, .int 5)]) hx hb dX2_readSum_84 hl (k := 3) rfl (nI_1 i) (by decide) rfl (fun ls hl => ?_)
          refine lv_goto (tgt := 7) hx hb dX2_readSum_87 (by decide) ?_
          exact ih_7 (i + 1) plo_22 fao_23 zo_28 l1_fo_29 (by omega) hw_30 _ _ (hP.sub [0, 1, 2, 3, 4, 5] rfl) (hD.sub [0, 1, 2, 3, 4, 5] (by decide) rfl) hS _ (lv_sub hl [2, 3, 0] rfl)
      · refine lv_aload_n hx hb dX2_readSum_26 rfl (lv_at hl 0 rfl) ?_
        refine va_get (D := D) (ci := 2) (v := .ref tx) (C := RX2) (T := TX2) (N := 2) hx hb htb itX2 hown hK hP 0 rfl rfl 0 (by decide) (htb _ k_288) (fun _ h9 => h9) rfl dX2_readSum_27 ?_
        refine cVR (As := []) (rest := []) (n := 0) (ci := 6) (q0 := 0) X hN hK hP (c_X6_sign l D cI cB tx tp ed pa fb_ by_ T fb hT) (gV k_483 k_484 k_485 k_98 k_486) (by decide +kernel) ⟨Nat.le_of_ble_eq_true rfl, Nat.le_of_ble_eq_true rfl⟩ ⟨rfl, rfl⟩ [1, 2, 3] rfl rfl rfl rfl rfl rfl hl.1 (Nat.le_of_ble_eq_true rfl) dX2_readSum_30 ⟨Nat.le_of_ble_eq_true rfl, Nat.le_of_ble_eq_true rfl⟩ (fun r_31 hr_31 => ?_)
        subst hr_31
        refine lv_bipush (v := 45) hx hb dX2_readSum_33 (by decide) ?_
        refine lv_icmp_ne (tgt := 90) hx hb dX2_readSum_35 (by decide) (fun c_35 => ?_) (fun c_35 => ?_)
        · exact ret _ _ _ _ (pa, fb_, za, qa) dX2_readSum_90 hza (hP.sub [0, 1, 2, 3, 4, 5] rfl) (hD.sub [0, 1, 2, 3, 4, 5] (by decide) rfl) hS
        · refine lv_aload_n hx hb dX2_readSum_38 rfl (lv_at hl 0 rfl) ?_
          refine va_get (D := D) (ci := 2) (v := .ref tx) (C := RX2) (T := TX2) (N := 2) hx hb htb itX2 hown hK hP 0 rfl rfl 0 (by decide) (htb _ k_288) (fun _ h9 => h9) rfl dX2_readSum_39 ?_
          refine cVR (As := []) (rest := []) (n := 0) (ci := 6) (q0 := 0) X hN hK hP (c_X6_sign l D cI cB tx tp ed pa fb_ by_ T fb hT) (gV k_483 k_484 k_485 k_98 k_486) (by decide +kernel) ⟨Nat.le_of_ble_eq_true rfl, Nat.le_of_ble_eq_true rfl⟩ ⟨rfl, rfl⟩ [1, 2, 3] rfl rfl rfl rfl rfl rfl hl.1 (Nat.le_of_ble_eq_true rfl) dX2_readSum_42 ⟨Nat.le_of_ble_eq_true rfl, Nat.le_of_ble_eq_true rfl⟩ (fun r_32 hr_32 => ?_)
          subst hr_32
          refine lv_bipush (v := 43) hx hb dX2_readSum_45 (by decide) ?_
          refine lv_icmp_ne (tgt := 54) hx hb dX2_readSum_47 (by decide) (fun c_47 => ?_) (fun c_47 => ?_)
          · refine lv_bipush (v := 6) hx hb dX2_readSum_54 (by decide) ?_
            refine lv_istore_n (lv' := [(3, .int 6), (0, .ref h0), (1, .int 5), (2, .int (nI i))]) hx hb dX2_readSum_56 rfl hl (by decide) rfl (fun ls hl => ?_)
            refine lv_aload_n hx hb dX2_readSum_57 rfl (lv_at hl 1 rfl) ?_
            refine va_get (D := D) (ci := 2) (v := .ref tx) (C := RX2) (T := TX2) (N := 2) hx hb htb itX2 hown hK hP 0 rfl rfl 0 (by decide) (htb _ k_288) (fun _ h9 => h9) rfl dX2_readSum_58 ?_
            refine lv_dup hx hb dX2_readSum_61 rfl ?_
            refine va_getN (D := D) (ci := 6) (v := .int pa) (C := RX6) (T := TX6) (N := 4) hx hb htb itX6 hown hK hP 1 rfl rfl 2 (by decide) (va_Nw.use rfl (hN _ n_264 rfl)) (fun _ h9 => h9) rfl dX2_readSum_62 ?_
            refine lv_iconst (v := 1) hx hb dX2_readSum_65 (by decide) ?_
            refine lv_iadd hx hb dX2_readSum_66 ?_
            refine lv_topi (fun x_33 ex_33 => ?_)
            refine va_putN (D := D) (ci := 6) (v := .int x_33) (ty := .int) (C := RX6) (T := TX6) (N := 4) hx hb htb itX6 tyX6 tyX6_ok nmX6 hown hK hP hD hS 1 rfl rfl 2 (by decide) (va_Nw.use rfl (hN _ n_264 rfl)) (fun _ h9 => h9) rfl (tyX6_ok 2 (by decide)) rfl rfl (Nat.le_of_ble_eq_true rfl) dX2_readSum_67 (fun H locs hP hD hS => ?_)
            have hP : va_P D vwCl [(h0, .inr (2, [.ref tx, .ref lw])), (tx, .inr (6, [.ref tp, .int ed, .int x_33, .int fb_])), (tp, .inr (5, [.ref by_, .int (nI T)])), (by_, .inl (cI, 260, .inl fb)), (lw, .inr (1, [.ref l1, .ref l2, .ref l3, .ref l4, .ref l5, .ref l6, .ref l7, .int (nI za), .int (nI k)])), (l1, .inl (cI, 240, .inl qa))] H := hP
            have hD : va_D A [(h0, .inr (2, [.ref tx, .ref lw])), (tx, .inr (6, [.ref tp, .int ed, .int x_33, .int fb_])), (tp, .inr (5, [.ref by_, .int (nI T)])), (by_, .inl (cI, 260, .inl fb)), (lw, .inr (1, [.ref l1, .ref l2, .ref l3, .ref l4, .ref l5, .ref l6, .ref l7, .int (nI za), .int (nI k)])), (l1, .inl (cI, 240, .inl qa))] := hD
            refine lv_aload_n hx hb dX2_readSum_70 rfl (lv_at hl 1 rfl) ?_
            refine lv_iload_n hx hb dX2_readSum_71 rfl (lv_at hl 2 rfl) ?_
            refine cVVk (As := [.int 5]) (rest := []) (n := 1) (ci := 2) (q0 := 0) (wr := []) X hN hKO hK hP hD hS hA (c_readTerm_5 l D cI cB _ kk h0 tx tp ed x_33 fb_ by_ T fb lw l1 l2 l3 l4 l5 l6 l7 za k qa hT hza hk) (gV k_585 k_587 k_3 k_99 k_588) (by decide +kernel) ⟨Nat.le_of_ble_eq_true rfl, Nat.le_of_ble_eq_true rfl⟩ ⟨rfl, rfl⟩ [0, 1, 2, 3, 4, 5] [] rfl rfl (by decide) (by decide) rfl rfl rfl rfl rfl hl.1 (Nat.le_of_ble_eq_true rfl) dX2_readSum_72 ⟨Nat.le_of_ble_eq_true rfl, Nat.le_of_ble_eq_true rfl⟩ (fun u H locs hw_39 hP hD hS => ?_)
            obtain ⟨plo_35, fao_36, zo_37, l1o_38⟩ := u
            try dsimp only at hw_39
            have hP : va_P D vwCl [(h0, .inr (2, [.ref tx, .ref lw])), (tx, .inr (6, [.ref tp, .int ed, .int plo_35, .int fao_36])), (tp, .inr (5, [.ref by_, .int (nI T)])), (by_, .inl (cI, 260, .inl fb)), (lw, .inr (1, [.ref l1, .ref l2, .ref l3, .ref l4, .ref l5, .ref l6, .ref l7, .int (nI zo_37), .int (nI k)])), (l1, .inl (cI, 240, .inl l1o_38))] H := hP
            have hD : va_D A [(h0, .inr (2, [.ref tx, .ref lw])), (tx, .inr (6, [.ref tp, .int ed, .int plo_35, .int fao_36])), (tp, .inr (5, [.ref by_, .int (nI T)])), (by_, .inl (cI, 260, .inl fb)), (lw, .inr (1, [.ref l1, .ref l2, .ref l3, .ref l4, .ref l5, .ref l6, .ref l7, .int (nI zo_37), .int (nI k)])), (l1, .inl (cI, 240, .inl l1o_38))] := hD
            refine lv_aload_n hx hb dX2_readSum_75 rfl (lv_at hl 1 rfl) ?_
            refine va_get (D := D) (ci := 2) (v := .ref lw) (C := RX2) (T := TX2) (N := 2) hx hb htb itX2 hown hK hP 0 rfl rfl 1 (by decide) (htb _ k_289) (fun _ h9 => h9) rfl dX2_readSum_76 ?_
            refine lv_iload_n hx hb dX2_readSum_79 rfl (lv_at hl 0 rfl) ?_
            refine lv_iconst (v := 0) hx hb dX2_readSum_80 (by decide) ?_
            refine cVV (As := [.int 6, .int 0]) (rest := []) (n := 2) (ci := 1) (q0 := 0) (wr := [(h0, .inr (2, [.ref tx, .ref lw])), (tx, .inr (6, [.ref tp, .int ed, .int plo_35, .int fao_36])), (tp, .inr (5, [.ref by_, .int (nI T)])), (by_, .inl (cI, 260, .inl fb))]) X hN hK hP hD hS hA (c_X1_addStep l D cI cB _ lw l1 l2 l3 l4 l5 l6 l7 zo_37 k 6 0 l1o_38 hw_39 hk) (gV k_594 k_595 k_596 k_97 k_597) (by decide +kernel) ⟨Nat.le_of_ble_eq_true rfl, Nat.le_of_ble_eq_true rfl⟩ ⟨rfl, rfl⟩ [4, 5] [0, 1, 2, 3] rfl rfl (by decide) (by decide) rfl rfl rfl rfl rfl hl.1 (Nat.le_of_ble_eq_true rfl) dX2_readSum_81 ⟨Nat.le_of_ble_eq_true rfl, Nat.le_of_ble_eq_true rfl⟩ (fun u H locs hw_43 hP hD hS => ?_)
            obtain ⟨zo_41, l1_fo_42⟩ := u
            try dsimp only at hw_43
            have hP : va_P D vwCl [(h0, .inr (2, [.ref tx, .ref lw])), (tx, .inr (6, [.ref tp, .int ed, .int plo_35, .int fao_36])), (tp, .inr (5, [.ref by_, .int (nI T)])), (by_, .inl (cI, 260, .inl fb)), (lw, .inr (1, [.ref l1, .ref l2, .ref l3, .ref l4, .ref l5, .ref l6, .ref l7, .int (nI zo_41), .int (nI k)])), (l1, .inl (cI, 240, .inl l1_fo_42))] H := hP
            have hD : va_D A [(h0, .inr (2, [.ref tx, .ref lw])), (tx, .inr (6, [.ref tp, .int ed, .int plo_35, .int fao_36])), (tp, .inr (5, [.ref by_, .int (nI T)])), (by_, .inl (cI, 260, .inl fb)), (lw, .inr (1, [.ref l1, .ref l2, .ref l3, .ref l4, .ref l5, .ref l6, .ref l7, .int (nI zo_41), .int (nI k)])), (l1, .inl (cI, 240, .inl l1_fo_42))] := hD
            refine lv_iinc (v := (nI (i + 1))) (lv' := [(2, .int (nI (i + 1))), (3, .int 6), (0, .ref h0), (1, .int 5)]) hx hb dX2_readSum_84 hl (k := 3) rfl (nI_1 i) (by decide) rfl (fun ls hl => ?_)
            refine lv_goto (tgt := 7) hx hb dX2_readSum_87 (by decide) ?_
            exact ih_7 (i + 1) plo_35 fao_36 zo_41 l1_fo_42 (by omega) hw_43 _ _ (hP.sub [0, 1, 2, 3, 4, 5] rfl) (hD.sub [0, 1, 2, 3, 4, 5] (by decide) rfl) hS _ (lv_sub hl [2, 3, 0] rfl)
          · refine lv_iconst (v := 5) hx hb dX2_readSum_50 (by decide) ?_
            refine lv_goto (tgt := 56) hx hb dX2_readSum_51 (by decide) ?_
            refine lv_istore_n (lv' := [(3, .int 5), (0, .ref h0), (1, .int 5), (2, .int (nI i))]) hx hb dX2_readSum_56 rfl hl (by decide) rfl (fun ls hl => ?_)
            refine lv_aload_n hx hb dX2_readSum_57 rfl (lv_at hl 1 rfl) ?_
            refine va_get (D := D) (ci := 2) (v := .ref tx) (C := RX2) (T := TX2) (N := 2) hx hb htb itX2 hown hK hP 0 rfl rfl 0 (by decide) (htb _ k_288) (fun _ h9 => h9) rfl dX2_readSum_58 ?_
            refine lv_dup hx hb dX2_readSum_61 rfl ?_
            refine va_getN (D := D) (ci := 6) (v := .int pa) (C := RX6) (T := TX6) (N := 4) hx hb htb itX6 hown hK hP 1 rfl rfl 2 (by decide) (va_Nw.use rfl (hN _ n_264 rfl)) (fun _ h9 => h9) rfl dX2_readSum_62 ?_
            refine lv_iconst (v := 1) hx hb dX2_readSum_65 (by decide) ?_
            refine lv_iadd hx hb dX2_readSum_66 ?_
            refine lv_topi (fun x_44 ex_44 => ?_)
            refine va_putN (D := D) (ci := 6) (v := .int x_44) (ty := .int) (C := RX6) (T := TX6) (N := 4) hx hb htb itX6 tyX6 tyX6_ok nmX6 hown hK hP hD hS 1 rfl rfl 2 (by decide) (va_Nw.use rfl (hN _ n_264 rfl)) (fun _ h9 => h9) rfl (tyX6_ok 2 (by decide)) rfl rfl (Nat.le_of_ble_eq_true rfl) dX2_readSum_67 (fun H locs hP hD hS => ?_)
            have hP : va_P D vwCl [(h0, .inr (2, [.ref tx, .ref lw])), (tx, .inr (6, [.ref tp, .int ed, .int x_44, .int fb_])), (tp, .inr (5, [.ref by_, .int (nI T)])), (by_, .inl (cI, 260, .inl fb)), (lw, .inr (1, [.ref l1, .ref l2, .ref l3, .ref l4, .ref l5, .ref l6, .ref l7, .int (nI za), .int (nI k)])), (l1, .inl (cI, 240, .inl qa))] H := hP
            have hD : va_D A [(h0, .inr (2, [.ref tx, .ref lw])), (tx, .inr (6, [.ref tp, .int ed, .int x_44, .int fb_])), (tp, .inr (5, [.ref by_, .int (nI T)])), (by_, .inl (cI, 260, .inl fb)), (lw, .inr (1, [.ref l1, .ref l2, .ref l3, .ref l4, .ref l5, .ref l6, .ref l7, .int (nI za), .int (nI k)])), (l1, .inl (cI, 240, .inl qa))] := hD
            refine lv_aload_n hx hb dX2_readSum_70 rfl (lv_at hl 1 rfl) ?_
            refine lv_iload_n hx hb dX2_readSum_71 rfl (lv_at hl 2 rfl) ?_
            refine cVVk (As := [.int 5]) (rest := []) (n := 1) (ci := 2) (q0 := 0) (wr := []) X hN hKO hK hP hD hS hA (c_readTerm_5 l D cI cB _ kk h0 tx tp ed x_44 fb_ by_ T fb lw l1 l2 l3 l4 l5 l6 l7 za k qa hT hza hk) (gV k_585 k_587 k_3 k_99 k_588) (by decide +kernel) ⟨Nat.le_of_ble_eq_true rfl, Nat.le_of_ble_eq_true rfl⟩ ⟨rfl, rfl⟩ [0, 1, 2, 3, 4, 5] [] rfl rfl (by decide) (by decide) rfl rfl rfl rfl rfl hl.1 (Nat.le_of_ble_eq_true rfl) dX2_readSum_72 ⟨Nat.le_of_ble_eq_true rfl, Nat.le_of_ble_eq_true rfl⟩ (fun u H locs hw_50 hP hD hS => ?_)
            obtain ⟨plo_46, fao_47, zo_48, l1o_49⟩ := u
            try dsimp only at hw_50
            have hP : va_P D vwCl [(h0, .inr (2, [.ref tx, .ref lw])), (tx, .inr (6, [.ref tp, .int ed, .int plo_46, .int fao_47])), (tp, .inr (5, [.ref by_, .int (nI T)])), (by_, .inl (cI, 260, .inl fb)), (lw, .inr (1, [.ref l1, .ref l2, .ref l3, .ref l4, .ref l5, .ref l6, .ref l7, .int (nI zo_48), .int (nI k)])), (l1, .inl (cI, 240, .inl l1o_49))] H := hP
            have hD : va_D A [(h0, .inr (2, [.ref tx, .ref lw])), (tx, .inr (6, [.ref tp, .int ed, .int plo_46, .int fao_47])), (tp, .inr (5, [.ref by_, .int (nI T)])), (by_, .inl (cI, 260, .inl fb)), (lw, .inr (1, [.ref l1, .ref l2, .ref l3, .ref l4, .ref l5, .ref l6, .ref l7, .int (nI zo_48), .int (nI k)])), (l1, .inl (cI, 240, .inl l1o_49))] := hD
            refine lv_aload_n hx hb dX2_readSum_75 rfl (lv_at hl 1 rfl) ?_
            refine va_get (D := D) (ci := 2) (v := .ref lw) (C := RX2) (T := TX2) (N := 2) hx hb htb itX2 hown hK hP 0 rfl rfl 1 (by decide) (htb _ k_289) (fun _ h9 => h9) rfl dX2_readSum_76 ?_
            refine lv_iload_n hx hb dX2_readSum_79 rfl (lv_at hl 0 rfl) ?_
            refine lv_iconst (v := 0) hx hb dX2_readSum_80 (by decide) ?_
            refine cVV (As := [.int 5, .int 0]) (rest := []) (n := 2) (ci := 1) (q0 := 0) (wr := [(h0, .inr (2, [.ref tx, .ref lw])), (tx, .inr (6, [.ref tp, .int ed, .int plo_46, .int fao_47])), (tp, .inr (5, [.ref by_, .int (nI T)])), (by_, .inl (cI, 260, .inl fb))]) X hN hK hP hD hS hA (c_X1_addStep l D cI cB _ lw l1 l2 l3 l4 l5 l6 l7 zo_48 k 5 0 l1o_49 hw_50 hk) (gV k_594 k_595 k_596 k_97 k_597) (by decide +kernel) ⟨Nat.le_of_ble_eq_true rfl, Nat.le_of_ble_eq_true rfl⟩ ⟨rfl, rfl⟩ [4, 5] [0, 1, 2, 3] rfl rfl (by decide) (by decide) rfl rfl rfl rfl rfl hl.1 (Nat.le_of_ble_eq_true rfl) dX2_readSum_81 ⟨Nat.le_of_ble_eq_true rfl, Nat.le_of_ble_eq_true rfl⟩ (fun u H locs hw_54 hP hD hS => ?_)
            obtain ⟨zo_52, l1_fo_53⟩ := u
            try dsimp only at hw_54
            have hP : va_P D vwCl [(h0, .inr (2, [.ref tx, .ref lw])), (tx, .inr (6, [.ref tp, .int ed, .int plo_46, .int fao_47])), (tp, .inr (5, [.ref by_, .int (nI T)])), (by_, .inl (cI, 260, .inl fb)), (lw, .inr (1, [.ref l1, .ref l2, .ref l3, .ref l4, .ref l5, .ref l6, .ref l7, .int (nI zo_52), .int (nI k)])), (l1, .inl (cI, 240, .inl l1_fo_53))] H := hP
            have hD : va_D A [(h0, .inr (2, [.ref tx, .ref lw])), (tx, .inr (6, [.ref tp, .int ed, .int plo_46, .int fao_47])), (tp, .inr (5, [.ref by_, .int (nI T)])), (by_, .inl (cI, 260, .inl fb)), (lw, .inr (1, [.ref l1, .ref l2, .ref l3, .ref l4, .ref l5, .ref l6, .ref l7, .int (nI zo_52), .int (nI k)])), (l1, .inl (cI, 240, .inl l1_fo_53))] := hD
            refine lv_iinc (v := (nI (i + 1))) (lv' := [(2, .int (nI (i + 1))), (3, .int 5), (0, .ref h0), (1, .int 5)]) hx hb dX2_readSum_84 hl (k := 3) rfl (nI_1 i) (by decide) rfl (fun ls hl => ?_)
            refine lv_goto (tgt := 7) hx hb dX2_readSum_87 (by decide) ?_
            exact ih_7 (i + 1) plo_46 fao_47 zo_52 l1_fo_53 (by omega) hw_54 _ _ (hP.sub [0, 1, 2, 3, 4, 5] rfl) (hD.sub [0, 1, 2, 3, 4, 5] (by decide) rfl) hS _ (lv_sub hl [2, 3, 0] rfl)
  exact loop_7 240 0 plo_2 fao_3 zo_4 l1o_5 (by omega) hw_6 _ _ (hP.sub [0, 1, 2, 3, 4, 5] rfl) (hD.sub [0, 1, 2, 3, 4, 5] (by decide) rfl) hS _ (lv_sub hl [1, 2, 0] rfl)

set_option maxRecDepth 100000 in
set_option maxHeartbeats 4000000 in
theorem c_readFactor_4 (l : Launch) (D : va_G) (cI cB : ClassId) (sz : Nat) (kk : KT) (h0 : Nat) (tx : Nat) (tp : Nat) (ed : Int32) (pl : Int32) (fa : Int32) (by_ : Nat) (T : Nat) (fb : Nat → Int32) (lw : Nat) (l1 : Nat) (l2 : Nat) (l3 : Nat) (l4 : Nat) (l5 : Nat) (l6 : Nat) (l7 : Nat) (z : Nat) (k : Nat) (q1 : Nat → Int32) (hT : T ≤ 260) (hz : z ≤ 240) (hk : k ≤ 16) : MVk (S := ((Int32) × (Int32) × (Nat) × (Nat → Int32))) l D cI cB kk yX2_readFactor cX2_readFactor 3 (rm 11 249) [.ref h0, .int 4] [(h0, .inr (2, [.ref tx, .ref lw])), (tx, .inr (6, [.ref tp, .int ed, .int pl, .int fa])), (tp, .inr (5, [.ref by_, .int (nI T)])), (by_, .inl (cI, 260, .inl fb)), (lw, .inr (1, [.ref l1, .ref l2, .ref l3, .ref l4, .ref l5, .ref l6, .ref l7, .int (nI z), .int (nI k)])), (l1, .inl (cI, 240, .inl q1))] sz (fun u => u.2.2.1 ≤ 240) (fun u : ((Int32) × (Int32) × (Nat) × (Nat → Int32)) => [(h0, .inr (2, [.ref tx, .ref lw])), (tx, .inr (6, [.ref tp, .int ed, .int u.1, .int u.2.1])), (tp, .inr (5, [.ref by_, .int (nI T)])), (by_, .inl (cI, 260, .inl fb)), (lw, .inr (1, [.ref l1, .ref l2, .ref l3, .ref l4, .ref l5, .ref l6, .ref l7, .int (nI u.2.2.1), .int (nI k)])), (l1, .inl (cI, 240, .inl u.2.2.2))]) := by
  refine MVk.of (by decide) (Nat.le_of_ble_eq_true rfl) ?_
  intro p e s m below meth c Q ls A X hin hN hKO hP hK hD hA hl ret
  have hS : va_S A s.heap s.heap [] := va_S.rf
  obtain ⟨hx, hb, hml, hown, htb⟩ := id X
  have hl : lv_has ls 3 [(0, .ref h0), (1, .int 4)] := hl
  refine lv_aload_n hx hb dX2_readFactor_0 rfl (lv_at hl 0 rfl) ?_
  refine va_ldcS hx hb hown hKO.2.2.2.2.2 dX2_readFactor_1 ?_
  refine cVRk (As := [.ref (kk.2.1 1)]) (rest := []) (n := 1) (ci := 2) (q0 := 0) X hN hKO hS hK hP (c_placeIn1 l D cI cB kk h0 lw tx tp ed pl fa by_ T fb hT) (gV k_479 k_481 k_1 k_99 k_482) (by decide +kernel) ⟨Nat.le_of_ble_eq_true rfl, Nat.le_of_ble_eq_true rfl⟩ ⟨rfl, rfl⟩ [0, 1, 2, 3] rfl rfl rfl rfl rfl rfl hl.1 (Nat.le_of_ble_eq_true rfl) dX2_readFactor_3 ⟨Nat.le_of_ble_eq_true rfl, Nat.le_of_ble_eq_true rfl⟩ (fun r_1 hr_1 => ?_)
  refine lv_istore_n (lv' := [(2, .int r_1), (0, .ref h0), (1, .int 4)]) hx hb dX2_readFactor_6 rfl hl (by decide) rfl (fun ls hl => ?_)
  refine lv_iload_n hx hb dX2_readFactor_7 rfl (lv_at hl 0 rfl) ?_
  refine lv_if_lt (tgt := 36) hx hb dX2_readFactor_8 (by decide) (fun c_8 => ?_) (fun c_8 => ?_)
  · refine lv_aload_n hx hb dX2_readFactor_36 rfl (lv_at hl 1 rfl) ?_
    refine va_get (D := D) (ci := 2) (v := .ref tx) (C := RX2) (T := TX2) (N := 2) hx hb htb itX2 hown hK hP 0 rfl rfl 0 (by decide) (htb _ k_288) (fun _ h9 => h9) rfl dX2_readFactor_37 ?_
    refine cVR (As := []) (rest := []) (n := 0) (ci := 6) (q0 := 0) X hN hK hP (c_X6_sign l D cI cB tx tp ed pl fa by_ T fb hT) (gV k_483 k_484 k_485 k_98 k_486) (by decide +kernel) ⟨Nat.le_of_ble_eq_true rfl, Nat.le_of_ble_eq_true rfl⟩ ⟨rfl, rfl⟩ [1, 2, 3] rfl rfl rfl rfl rfl rfl hl.1 (Nat.le_of_ble_eq_true rfl) dX2_readFactor_40 ⟨Nat.le_of_ble_eq_true rfl, Nat.le_of_ble_eq_true rfl⟩ (fun r_2 hr_2 => ?_)
    subst hr_2
    refine lv_bipush (v := 91) hx hb dX2_readFactor_43 (by decide) ?_
    refine lv_icmp_ne (tgt := 75) hx hb dX2_readFactor_45 (by decide) (fun c_45 => ?_) (fun c_45 => ?_)
    · refine lv_aload_n hx hb dX2_readFactor_75 rfl (lv_at hl 1 rfl) ?_
      refine va_get (D := D) (ci := 2) (v := .ref lw) (C := RX2) (T := TX2) (N := 2) hx hb htb itX2 hown hK hP 0 rfl rfl 1 (by decide) (htb _ k_289) (fun _ h9 => h9) rfl dX2_readFactor_76 ?_
      refine lv_iconst (v := 0) hx hb dX2_readFactor_79 (by decide) ?_
      refine lv_aload_n hx hb dX2_readFactor_80 rfl (lv_at hl 1 rfl) ?_
      refine va_get (D := D) (ci := 2) (v := .ref tx) (C := RX2) (T := TX2) (N := 2) hx hb htb itX2 hown hK hP 0 rfl rfl 0 (by decide) (htb _ k_288) (fun _ h9 => h9) rfl dX2_readFactor_81 ?_
      refine lv_iconst (v := 5) hx hb dX2_readFactor_84 (by decide) ?_
      refine lv_iconst (v := 2) hx hb dX2_readFactor_85 (by decide) ?_
      refine cVI (As := [.int 5, .int 2]) (rest := [.int 0, .ref lw]) (n := 2) (ci := 6) (q0 := 0) (wr := [(h0, .inr (2, [.ref tx, .ref lw])), (lw, .inr (1, [.ref l1, .ref l2, .ref l3, .ref l4, .ref l5, .ref l6, .ref l7, .int (nI z), .int (nI k)])), (l1, .inl (cI, 240, .inl q1))]) X hN hK hP hD hS hA (c_X6_number l D cI cB _ tx tp ed pl fa by_ T fb 5 2 hT (by decide)) (gV k_612 k_613 k_614 k_98 k_615) (by decide +kernel) ⟨Nat.le_of_ble_eq_true rfl, Nat.le_of_ble_eq_true rfl⟩ ⟨rfl, rfl⟩ [1, 2, 3] [0, 4, 5] rfl rfl (by decide) (by decide) rfl rfl rfl rfl rfl hl.1 (Nat.le_of_ble_eq_true rfl) dX2_readFactor_86 ⟨Nat.le_of_ble_eq_true rfl, Nat.le_of_ble_eq_true rfl⟩ (fun r_3 u H locs hw_6 hP hD hS => ?_)
      obtain ⟨h0_2o_4, h0_3o_5⟩ := u
      try dsimp only at hw_6
      have hP : va_P D vwCl [(h0, .inr (2, [.ref tx, .ref lw])), (lw, .inr (1, [.ref l1, .ref l2, .ref l3, .ref l4, .ref l5, .ref l6, .ref l7, .int (nI z), .int (nI k)])), (l1, .inl (cI, 240, .inl q1)), (tx, .inr (6, [.ref tp, .int ed, .int h0_2o_4, .int h0_3o_5])), (tp, .inr (5, [.ref by_, .int (nI T)])), (by_, .inl (cI, 260, .inl fb))] H := hP
      have hD : va_D A [(h0, .inr (2, [.ref tx, .ref lw])), (lw, .inr (1, [.ref l1, .ref l2, .ref l3, .ref l4, .ref l5, .ref l6, .ref l7, .int (nI z), .int (nI k)])), (l1, .inl (cI, 240, .inl q1)), (tx, .inr (6, [.ref tp, .int ed, .int h0_2o_4, .int h0_3o_5])), (tp, .inr (5, [.ref by_, .int (nI T)])), (by_, .inl (cI, 260, .inl fb))] := hD
      refine cVV (As := [.int 0, .int r_3]) (rest := []) (n := 2) (ci := 1) (q0 := 0) (wr := [(h0, .inr (2, [.ref tx, .ref lw])), (tx, .inr (6, [.ref tp, .int ed, .int h0_2o_4, .int h0_3o_5])), (tp, .inr (5, [.ref by_, .int (nI T)])), (by_, .inl (cI, 260, .inl fb))]) X hN hK hP hD hS hA (c_X1_addStep l D cI cB _ lw l1 l2 l3 l4 l5 l6 l7 z k 0 r_3 q1 hz hk) (gV k_594 k_595 k_596 k_97 k_597) (by decide +kernel) ⟨Nat.le_of_ble_eq_true rfl, Nat.le_of_ble_eq_true rfl⟩ ⟨rfl, rfl⟩ [1, 2] [0, 3, 4, 5] rfl rfl (by decide) (by decide) rfl rfl rfl rfl rfl hl.1 (Nat.le_of_ble_eq_true rfl) dX2_readFactor_89 ⟨Nat.le_of_ble_eq_true rfl, Nat.le_of_ble_eq_true rfl⟩ (fun u H locs hw_10 hP hD hS => ?_)
      obtain ⟨zo_8, l1_fo_9⟩ := u
      try dsimp only at hw_10
      have hP : va_P D vwCl [(h0, .inr (2, [.ref tx, .ref lw])), (tx, .inr (6, [.ref tp, .int ed, .int h0_2o_4, .int h0_3o_5])), (tp, .inr (5, [.ref by_, .int (nI T)])), (by_, .inl (cI, 260, .inl fb)), (lw, .inr (1, [.ref l1, .ref l2, .ref l3, .ref l4, .ref l5, .ref l6, .ref l7, .int (nI zo_8), .int (nI k)])), (l1, .inl (cI, 240, .inl l1_fo_9))] H := hP
      have hD : va_D A [(h0, .inr (2, [.ref tx, .ref lw])), (tx, .inr (6, [.ref tp, .int ed, .int h0_2o_4, .int h0_3o_5])), (tp, .inr (5, [.ref by_, .int (nI T)])), (by_, .inl (cI, 260, .inl fb)), (lw, .inr (1, [.ref l1, .ref l2, .ref l3, .ref l4, .ref l5, .ref l6, .ref l7, .int (nI zo_8), .int (nI k)])), (l1, .inl (cI, 240, .inl l1_fo_9))] := hD
      exact ret _ _ _ _ (h0_2o_4, h0_3o_5, zo_8, l1_fo_9) dX2_readFactor_92 hw_10 (hP.sub [0, 1, 2, 3, 4, 5] rfl) (hD.sub [0, 1, 2, 3, 4, 5] (by decide) rfl) hS
    · refine lv_aload_n hx hb dX2_readFactor_48 rfl (lv_at hl 1 rfl) ?_
      refine lv_iload_n hx hb dX2_readFactor_49 rfl (lv_at hl 2 rfl) ?_
      refine cVI (As := [.int 4]) (rest := []) (n := 1) (ci := 2) (q0 := 0) (wr := [(tp, .inr (5, [.ref by_, .int (nI T)])), (by_, .inl (cI, 260, .inl fb)), (lw, .inr (1, [.ref l1, .ref l2, .ref l3, .ref l4, .ref l5, .ref l6, .ref l7, .int (nI z), .int (nI k)])), (l1, .inl (cI, 240, .inl q1))]) X hN hK hP hD hS hA (c_X2_opens l D cI cB _ h0 lw tx tp ed pl fa 4) (gV k_598 k_600 k_5 k_99 k_601) (by decide +kernel) ⟨Nat.le_of_ble_eq_true rfl, Nat.le_of_ble_eq_true rfl⟩ ⟨rfl, rfl⟩ [0, 1] [2, 3, 4, 5] rfl rfl (by decide) (by decide) rfl rfl rfl rfl rfl hl.1 (Nat.le_of_ble_eq_true rfl) dX2_readFactor_50 ⟨Nat.le_of_ble_eq_true rfl, Nat.le_of_ble_eq_true rfl⟩ (fun r_11 u H locs hw_14 hP hD hS => ?_)
      obtain ⟨tx_2o_12, tx_3o_13⟩ := u
      try dsimp only at hw_14
      have hP : va_P D vwCl [(tp, .inr (5, [.ref by_, .int (nI T)])), (by_, .inl (cI, 260, .inl fb)), (lw, .inr (1, [.ref l1, .ref l2, .ref l3, .ref l4, .ref l5, .ref l6, .ref l7, .int (nI z), .int (nI k)])), (l1, .inl (cI, 240, .inl q1)), (h0, .inr (2, [.ref tx, .ref lw])), (tx, .inr (6, [.ref tp, .int ed, .int tx_2o_12, .int tx_3o_13]))] H := hP
      have hD : va_D A [(tp, .inr (5, [.ref by_, .int (nI T)])), (by_, .inl (cI, 260, .inl fb)), (lw, .inr (1, [.ref l1, .ref l2, .ref l3, .ref l4, .ref l5, .ref l6, .ref l7, .int (nI z), .int (nI k)])), (l1, .inl (cI, 240, .inl q1)), (h0, .inr (2, [.ref tx, .ref lw])), (tx, .inr (6, [.ref tp, .int ed, .int tx_2o_12, .int tx_3o_13]))] := hD
      obtain rfl : r_11 = 1 := hw_14.trans (by decide)
      refine lv_if_eq (tgt := 92) hx hb dX2_readFactor_53 (by decide) (fun c_53 => absurd c_53 (by decide)) (fun _ => ?_)
      refine lv_aload_n hx hb dX2_readFactor_56 rfl (lv_at hl 1 rfl) ?_
      refine lv_iload_n hx hb dX2_readFactor_57 rfl (lv_at hl 2 rfl) ?_
      refine lv_iconst (v := 1) hx hb dX2_readFactor_58 (by decide) ?_
      refine lv_iadd hx hb dX2_readFactor_59 ?_
      refine tv (z := 5) (by decide) ?_
      refine cVVk (As := [.int 5]) (rest := []) (n := 1) (ci := 2) (q0 := 0) (wr := []) X hN hKO hK hP hD hS hA (c_readSum_5 l D cI cB _ kk h0 tx tp ed tx_2o_12 tx_3o_13 by_ T fb lw l1 l2 l3 l4 l5 l6 l7 z k q1 hT hz hk) (gV k_581 k_583 k_2 k_99 k_584) (by decide +kernel) ⟨Nat.le_of_ble_eq_true rfl, Nat.le_of_ble_eq_true rfl⟩ ⟨rfl, rfl⟩ [4, 5, 0, 1, 2, 3] [] rfl rfl (by decide) (by decide) rfl rfl rfl rfl rfl hl.1 (Nat.le_of_ble_eq_true rfl) dX2_readFactor_60 ⟨Nat.le_of_ble_eq_true rfl, Nat.le_of_ble_eq_true rfl⟩ (fun u H locs hw_20 hP hD hS => ?_)
      obtain ⟨plo_16, fao_17, zo_18, l1o_19⟩ := u
      try dsimp only at hw_20
      have hP : va_P D vwCl [(h0, .inr (2, [.ref tx, .ref lw])), (tx, .inr (6, [.ref tp, .int ed, .int plo_16, .int fao_17])), (tp, .inr (5, [.ref by_, .int (nI T)])), (by_, .inl (cI, 260, .inl fb)), (lw, .inr (1, [.ref l1, .ref l2, .ref l3, .ref l4, .ref l5, .ref l6, .ref l7, .int (nI zo_18), .int (nI k)])), (l1, .inl (cI, 240, .inl l1o_19))] H := hP
      have hD : va_D A [(h0, .inr (2, [.ref tx, .ref lw])), (tx, .inr (6, [.ref tp, .int ed, .int plo_16, .int fao_17])), (tp, .inr (5, [.ref by_, .int (nI T)])), (by_, .inl (cI, 260, .inl fb)), (lw, .inr (1, [.ref l1, .ref l2, .ref l3, .ref l4, .ref l5, .ref l6, .ref l7, .int (nI zo_18), .int (nI k)])), (l1, .inl (cI, 240, .inl l1o_19))] := hD
      refine lv_aload_n hx hb dX2_readFactor_63 rfl (lv_at hl 1 rfl) ?_
      refine va_get (D := D) (ci := 2) (v := .ref tx) (C := RX2) (T := TX2) (N := 2) hx hb htb itX2 hown hK hP 0 rfl rfl 0 (by decide) (htb _ k_288) (fun _ h9 => h9) rfl dX2_readFactor_64 ?_
      refine lv_bipush (v := 93) hx hb dX2_readFactor_67 (by decide) ?_
      refine cVV (As := [.int 93]) (rest := []) (n := 1) (ci := 6) (q0 := 0) (wr := [(h0, .inr (2, [.ref tx, .ref lw])), (lw, .inr (1, [.ref l1, .ref l2, .ref l3, .ref l4, .ref l5, .ref l6, .ref l7, .int (nI zo_18), .int (nI k)])), (l1, .inl (cI, 240, .inl l1o_19))]) X hN hK hP hD hS hA (c_X6_expect l D cI cB _ tx tp ed plo_16 fao_17 by_ T fb 93 hT) (gV k_602 k_603 k_604 k_98 k_605) (by decide +kernel) ⟨Nat.le_of_ble_eq_true rfl, Nat.le_of_ble_eq_true rfl⟩ ⟨rfl, rfl⟩ [1, 2, 3] [0, 4, 5] rfl rfl (by decide) (by decide) rfl rfl rfl rfl rfl hl.1 (Nat.le_of_ble_eq_true rfl) dX2_readFactor_69 ⟨Nat.le_of_ble_eq_true rfl, Nat.le_of_ble_eq_true rfl⟩ (fun u H locs hw_24 hP hD hS => ?_)
      obtain ⟨h0_2o_22, h0_3o_23⟩ := u
      try dsimp only at hw_24
      have hP : va_P D vwCl [(h0, .inr (2, [.ref tx, .ref lw])), (lw, .inr (1, [.ref l1, .ref l2, .ref l3, .ref l4, .ref l5, .ref l6, .ref l7, .int (nI zo_18), .int (nI k)])), (l1, .inl (cI, 240, .inl l1o_19)), (tx, .inr (6, [.ref tp, .int ed, .int h0_2o_22, .int h0_3o_23])), (tp, .inr (5, [.ref by_, .int (nI T)])), (by_, .inl (cI, 260, .inl fb))] H := hP
      have hD : va_D A [(h0, .inr (2, [.ref tx, .ref lw])), (lw, .inr (1, [.ref l1, .ref l2, .ref l3, .ref l4, .ref l5, .ref l6, .ref l7, .int (nI zo_18), .int (nI k)])), (l1, .inl (cI, 240, .inl l1o_19)), (tx, .inr (6, [.ref tp, .int ed, .int h0_2o_22, .int h0_3o_23])), (tp, .inr (5, [.ref by_, .int (nI T)])), (by_, .inl (cI, 260, .inl fb))] := hD
      refine lv_goto (tgt := 92) hx hb dX2_readFactor_72 (by decide) ?_
      exact ret _ _ _ _ (h0_2o_22, h0_3o_23, zo_18, l1o_19) dX2_readFactor_92 hw_20 (hP.sub [0, 3, 4, 5, 1, 2] rfl) (hD.sub [0, 3, 4, 5, 1, 2] (by decide) rfl) hS
  · refine lv_aload_n hx hb dX2_readFactor_11 rfl (lv_at hl 1 rfl) ?_
    refine va_get (D := D) (ci := 2) (v := .ref tx) (C := RX2) (T := TX2) (N := 2) hx hb htb itX2 hown hK hP 0 rfl rfl 0 (by decide) (htb _ k_288) (fun _ h9 => h9) rfl dX2_readFactor_12 ?_
    refine lv_dup hx hb dX2_readFactor_15 rfl ?_
    refine va_getN (D := D) (ci := 6) (v := .int pl) (C := RX6) (T := TX6) (N := 4) hx hb htb itX6 hown hK hP 1 rfl rfl 2 (by decide) (va_Nw.use rfl (hN _ n_264 rfl)) (fun _ h9 => h9) rfl dX2_readFactor_16 ?_
    refine lv_iconst (v := 1) hx hb dX2_readFactor_19 (by decide) ?_
    refine lv_iadd hx hb dX2_readFactor_20 ?_
    refine lv_topi (fun x_25 ex_25 => ?_)
    refine va_putN (D := D) (ci := 6) (v := .int x_25) (ty := .int) (C := RX6) (T := TX6) (N := 4) hx hb htb itX6 tyX6 tyX6_ok nmX6 hown hK hP hD hS 1 rfl rfl 2 (by decide) (va_Nw.use rfl (hN _ n_264 rfl)) (fun _ h9 => h9) rfl (tyX6_ok 2 (by decide)) rfl rfl (Nat.le_of_ble_eq_true rfl) dX2_readFactor_21 (fun H locs hP hD hS => ?_)
    have hP : va_P D vwCl [(h0, .inr (2, [.ref tx, .ref lw])), (tx, .inr (6, [.ref tp, .int ed, .int x_25, .int fa])), (tp, .inr (5, [.ref by_, .int (nI T)])), (by_, .inl (cI, 260, .inl fb)), (lw, .inr (1, [.ref l1, .ref l2, .ref l3, .ref l4, .ref l5, .ref l6, .ref l7, .int (nI z), .int (nI k)])), (l1, .inl (cI, 240, .inl q1))] H := hP
    have hD : va_D A [(h0, .inr (2, [.ref tx, .ref lw])), (tx, .inr (6, [.ref tp, .int ed, .int x_25, .int fa])), (tp, .inr (5, [.ref by_, .int (nI T)])), (by_, .inl (cI, 260, .inl fb)), (lw, .inr (1, [.ref l1, .ref l2, .ref l3, .ref l4, .ref l5, .ref l6, .ref l7, .int (nI z), .int (nI k)])), (l1, .inl (cI, 240, .inl q1))] := hD
    refine lv_aload_n hx hb dX2_readFactor_24 rfl (lv_at hl 1 rfl) ?_
    refine va_get (D := D) (ci := 2) (v := .ref lw) (C := RX2) (T := TX2) (N := 2) hx hb htb itX2 hown hK hP 0 rfl rfl 1 (by decide) (htb _ k_289) (fun _ h9 => h9) rfl dX2_readFactor_25 ?_
    refine lv_iconst (v := 1) hx hb dX2_readFactor_28 (by decide) ?_
    refine lv_iload_n hx hb dX2_readFactor_29 rfl (lv_at hl 0 rfl) ?_
    refine cVV (As := [.int 1, .int r_1]) (rest := []) (n := 2) (ci := 1) (q0 := 0) (wr := [(h0, .inr (2, [.ref tx, .ref lw])), (tx, .inr (6, [.ref tp, .int ed, .int x_25, .int fa])), (tp, .inr (5, [.ref by_, .int (nI T)])), (by_, .inl (cI, 260, .inl fb))]) X hN hK hP hD hS hA (c_X1_addStep l D cI cB _ lw l1 l2 l3 l4 l5 l6 l7 z k 1 r_1 q1 hz hk) (gV k_594 k_595 k_596 k_97 k_597) (by decide +kernel) ⟨Nat.le_of_ble_eq_true rfl, Nat.le_of_ble_eq_true rfl⟩ ⟨rfl, rfl⟩ [4, 5] [0, 1, 2, 3] rfl rfl (by decide) (by decide) rfl rfl rfl rfl rfl hl.1 (Nat.le_of_ble_eq_true rfl) dX2_readFactor_30 ⟨Nat.le_of_ble_eq_true rfl, Nat.le_of_ble_eq_true rfl⟩ (fun u H locs hw_29 hP hD hS => ?_)
    obtain ⟨zo_27, l1_fo_28⟩ := u
    try dsimp only at hw_29
    have hP : va_P D vwCl [(h0, .inr (2, [.ref tx, .ref lw])), (tx, .inr (6, [.ref tp, .int ed, .int x_25, .int fa])), (tp, .inr (5, [.ref by_, .int (nI T)])), (by_, .inl (cI, 260, .inl fb)), (lw, .inr (1, [.ref l1, .ref l2, .ref l3, .ref l4, .ref l5, .ref l6, .ref l7, .int (nI zo_27), .int (nI k)])), (l1, .inl (cI, 240, .inl l1_fo_28))] H := hP
    have hD : va_D A [(h0, .inr (2, [.ref tx, .ref lw])), (tx, .inr (6, [.ref tp, .int ed, .int x_25, .int fa])), (tp, .inr (5, [.ref by_, .int (nI T)])), (by_, .inl (cI, 260, .inl fb)), (lw, .inr (1, [.ref l1, .ref l2, .ref l3, .ref l4, .ref l5, .ref l6, .ref l7, .int (nI zo_27), .int (nI k)])), (l1, .inl (cI, 240, .inl l1_fo_28))] := hD
    refine lv_goto (tgt := 92) hx hb dX2_readFactor_33 (by decide) ?_
    exact ret _ _ _ _ (x_25, fa, zo_27, l1_fo_28) dX2_readFactor_92 hw_29 (hP.sub [0, 1, 2, 3, 4, 5] rfl) (hD.sub [0, 1, 2, 3, 4, 5] (by decide) rfl) hS

set_option maxRecDepth 100000 in
set_option maxHeartbeats 4000000 in
theorem c_readTerm_4 (l : Launch) (D : va_G) (cI cB : ClassId) (sz : Nat) (kk : KT) (h0 : Nat) (tx : Nat) (tp : Nat) (ed : Int32) (pl : Int32) (fa : Int32) (by_ : Nat) (T : Nat) (fb : Nat → Int32) (lw : Nat) (l1 : Nat) (l2 : Nat) (l3 : Nat) (l4 : Nat) (l5 : Nat) (l6 : Nat) (l7 : Nat) (z : Nat) (k : Nat) (q1 : Nat → Int32) (hT : T ≤ 260) (hz : z ≤ 240) (hk : k ≤ 16) : MVk (S := ((Int32) × (Int32) × (Nat) × (Nat → Int32))) l D cI cB kk yX2_readTerm cX2_readTerm 4 (rm 12 271) [.ref h0, .int 4] [(h0, .inr (2, [.ref tx, .ref lw])), (tx, .inr (6, [.ref tp, .int ed, .int pl, .int fa])), (tp, .inr (5, [.ref by_, .int (nI T)])), (by_, .inl (cI, 260, .inl fb)), (lw, .inr (1, [.ref l1, .ref l2, .ref l3, .ref l4, .ref l5, .ref l6, .ref l7, .int (nI z), .int (nI k)])), (l1, .inl (cI, 240, .inl q1))] sz (fun u => u.2.2.1 ≤ 240) (fun u : ((Int32) × (Int32) × (Nat) × (Nat → Int32)) => [(h0, .inr (2, [.ref tx, .ref lw])), (tx, .inr (6, [.ref tp, .int ed, .int u.1, .int u.2.1])), (tp, .inr (5, [.ref by_, .int (nI T)])), (by_, .inl (cI, 260, .inl fb)), (lw, .inr (1, [.ref l1, .ref l2, .ref l3, .ref l4, .ref l5, .ref l6, .ref l7, .int (nI u.2.2.1), .int (nI k)])), (l1, .inl (cI, 240, .inl u.2.2.2))]) := by
  refine MVk.of (by decide) (Nat.le_of_ble_eq_true rfl) ?_
  intro p e s m below meth c Q ls A X hin hN hKO hP hK hD hA hl ret
  have hS : va_S A s.heap s.heap [] := va_S.rf
  obtain ⟨hx, hb, hml, hown, htb⟩ := id X
  have hl : lv_has ls 4 [(0, .ref h0), (1, .int 4)] := hl
  refine lv_aload_n hx hb dX2_readTerm_0 rfl (lv_at hl 0 rfl) ?_
  refine lv_iload_n hx hb dX2_readTerm_1 rfl (lv_at hl 1 rfl) ?_
  refine cVVk (As := [.int 4]) (rest := []) (n := 1) (ci := 2) (q0 := 0) (wr := []) X hN hKO hK hP hD hS hA (c_readFactor_4 l D cI cB _ kk h0 tx tp ed pl fa by_ T fb lw l1 l2 l3 l4 l5 l6 l7 z k q1 hT hz hk) (gV k_589 k_591 k_4 k_99 k_592) (by decide +kernel) ⟨Nat.le_of_ble_eq_true rfl, Nat.le_of_ble_eq_true rfl⟩ ⟨rfl, rfl⟩ [0, 1, 2, 3, 4, 5] [] rfl rfl (by decide) (by decide) rfl rfl rfl rfl rfl hl.1 (Nat.le_of_ble_eq_true rfl) dX2_readTerm_2 ⟨Nat.le_of_ble_eq_true rfl, Nat.le_of_ble_eq_true rfl⟩ (fun u H locs hw_6 hP hD hS => ?_)
  obtain ⟨plo_2, fao_3, zo_4, l1o_5⟩ := u
  try dsimp only at hw_6
  have hP : va_P D vwCl [(h0, .inr (2, [.ref tx, .ref lw])), (tx, .inr (6, [.ref tp, .int ed, .int plo_2, .int fao_3])), (tp, .inr (5, [.ref by_, .int (nI T)])), (by_, .inl (cI, 260, .inl fb)), (lw, .inr (1, [.ref l1, .ref l2, .ref l3, .ref l4, .ref l5, .ref l6, .ref l7, .int (nI zo_4), .int (nI k)])), (l1, .inl (cI, 240, .inl l1o_5))] H := hP
  have hD : va_D A [(h0, .inr (2, [.ref tx, .ref lw])), (tx, .inr (6, [.ref tp, .int ed, .int plo_2, .int fao_3])), (tp, .inr (5, [.ref by_, .int (nI T)])), (by_, .inl (cI, 260, .inl fb)), (lw, .inr (1, [.ref l1, .ref l2, .ref l3, .ref l4, .ref l5, .ref l6, .ref l7, .int (nI zo_4), .int (nI k)])), (l1, .inl (cI, 240, .inl l1o_5))] := hD
  refine lv_iconst (v := 0) hx hb dX2_readTerm_5 (by decide) ?_
  refine lv_istore_n (lv' := [(2, .int 0), (0, .ref h0), (1, .int 4)]) hx hb dX2_readTerm_6 rfl hl (by decide) rfl (fun ls hl => ?_)
  have loop_7 : ∀ (n i : Nat) (pa : Int32) (fb_ : Int32) (za : Nat) (qa : Nat → Int32), n + i = 240 → (za ≤ 240) → ∀ (H : Heap) (locs : List Loc), va_P D vwCl [(h0, .inr (2, [.ref tx, .ref lw])), (tx, .inr (6, [.ref tp, .int ed, .int pa, .int fb_])), (tp, .inr (5, [.ref by_, .int (nI T)])), (by_, .inl (cI, 260, .inl fb)), (lw, .inr (1, [.ref l1, .ref l2, .ref l3, .ref l4, .ref l5, .ref l6, .ref l7, .int (nI za), .int (nI k)])), (l1, .inl (cI, 240, .inl qa))] H → va_D A [(h0, .inr (2, [.ref tx, .ref lw])), (tx, .inr (6, [.ref tp, .int ed, .int pa, .int fb_])), (tp, .inr (5, [.ref by_, .int (nI T)])), (by_, .inl (cI, 260, .inl fb)), (lw, .inr (1, [.ref l1, .ref l2, .ref l3, .ref l4, .ref l5, .ref l6, .ref l7, .int (nI za), .int (nI k)])), (l1, .inl (cI, 240, .inl qa))] → va_S A s.heap H locs → ∀ (ls : Array Slot), lv_has ls 4 [(0, .ref h0), (1, .int 4), (2, .int (nI i))] → W p l e (rm 12 271) s m ([.ref h0, .int 4] : List Value).toArray below meth c H locs 0 0 Q (F0 m 7 ls []) := by
    intro n
    induction n with
    | zero =>
      intro i pa fb_ za qa hni hza H locs hP hD hS ls hl
      have hni_7 := hni
      have hi : i = 240 := by omega
      refine lv_iload_n hx hb dX2_readTerm_7 rfl (lv_at hl 2 rfl) ?_
      refine lv_sipush (v := 240) hx hb dX2_readTerm_8 (by decide) ?_
      refine lv_icmp_ge (tgt := 60) hx hb dX2_readTerm_11 (by decide) (fun _ => ?_) (fun c_11 => absurd (by rw [hi]; decide) c_11)
      exact ret _ _ _ _ (pa, fb_, za, qa) dX2_readTerm_60 hza (hP.sub [0, 1, 2, 3, 4, 5] rfl) (hD.sub [0, 1, 2, 3, 4, 5] (by decide) rfl) hS
    | succ n ih_7 =>
      intro i pa fb_ za qa hni hza H locs hP hD hS ls hl
      have hni_7 := hni
      have hi : i < 240 := by omega
      refine lv_iload_n hx hb dX2_readTerm_7 rfl (lv_at hl 2 rfl) ?_
      refine lv_sipush (v := 240) hx hb dX2_readTerm_8 (by decide) ?_
      refine lv_icmp_ge (tgt := 60) hx hb dX2_readTerm_11 (by decide) (fun c_11 => absurd c_11 (nI_ge hi (by decide))) (fun _ => ?_)
      refine lv_aload_n hx hb dX2_readTerm_14 rfl (lv_at hl 0 rfl) ?_
      refine cVR (As := []) (rest := []) (n := 0) (ci := 2) (q0 := 0) X hN hK hP (c_X2_factorStep l D cI cB h0 lw tx tp ed pa fb_ by_ T fb hT) (gV k_620 k_622 k_6 k_99 k_623) (by decide +kernel) ⟨Nat.le_of_ble_eq_true rfl, Nat.le_of_ble_eq_true rfl⟩ ⟨rfl, rfl⟩ [0, 1, 2, 3] rfl rfl rfl rfl rfl rfl hl.1 (Nat.le_of_ble_eq_true rfl) dX2_readTerm_15 ⟨Nat.le_of_ble_eq_true rfl, Nat.le_of_ble_eq_true rfl⟩ (fun r_7 hr_7 => ?_)
      refine lv_iconst (v := (-1)) hx hb dX2_readTerm_18 (by decide) ?_
      refine lv_icmp_eq (tgt := 60) hx hb dX2_readTerm_19 (by decide) (fun c_19 => ?_) (fun c_19 => ?_)
      · exact ret _ _ _ _ (pa, fb_, za, qa) dX2_readTerm_60 hza (hP.sub [0, 1, 2, 3, 4, 5] rfl) (hD.sub [0, 1, 2, 3, 4, 5] (by decide) rfl) hS
      · refine lv_aload_n hx hb dX2_readTerm_22 rfl (lv_at hl 0 rfl) ?_
        refine cVR (As := []) (rest := []) (n := 0) (ci := 2) (q0 := 0) X hN hK hP (c_X2_factorStep l D cI cB h0 lw tx tp ed pa fb_ by_ T fb hT) (gV k_620 k_622 k_6 k_99 k_623) (by decide +kernel) ⟨Nat.le_of_ble_eq_true rfl, Nat.le_of_ble_eq_true rfl⟩ ⟨rfl, rfl⟩ [0, 1, 2, 3] rfl rfl rfl rfl rfl rfl hl.1 (Nat.le_of_ble_eq_true rfl) dX2_readTerm_23 ⟨Nat.le_of_ble_eq_true rfl, Nat.le_of_ble_eq_true rfl⟩ (fun r_8 hr_8 => ?_)
        refine lv_istore_n (lv' := [(3, .int r_8), (0, .ref h0), (1, .int 4), (2, .int (nI i))]) hx hb dX2_readTerm_26 rfl hl (by decide) rfl (fun ls hl => ?_)
        refine lv_aload_n hx hb dX2_readTerm_27 rfl (lv_at hl 1 rfl) ?_
        refine va_get (D := D) (ci := 2) (v := .ref tx) (C := RX2) (T := TX2) (N := 2) hx hb htb itX2 hown hK hP 0 rfl rfl 0 (by decide) (htb _ k_288) (fun _ h9 => h9) rfl dX2_readTerm_28 ?_
        refine lv_dup hx hb dX2_readTerm_31 rfl ?_
        refine va_getN (D := D) (ci := 6) (v := .int pa) (C := RX6) (T := TX6) (N := 4) hx hb htb itX6 hown hK hP 1 rfl rfl 2 (by decide) (va_Nw.use rfl (hN _ n_264 rfl)) (fun _ h9 => h9) rfl dX2_readTerm_32 ?_
        refine lv_iconst (v := 1) hx hb dX2_readTerm_35 (by decide) ?_
        refine lv_iadd hx hb dX2_readTerm_36 ?_
        refine lv_topi (fun x_9 ex_9 => ?_)
        refine va_putN (D := D) (ci := 6) (v := .int x_9) (ty := .int) (C := RX6) (T := TX6) (N := 4) hx hb htb itX6 tyX6 tyX6_ok nmX6 hown hK hP hD hS 1 rfl rfl 2 (by decide) (va_Nw.use rfl (hN _ n_264 rfl)) (fun _ h9 => h9) rfl (tyX6_ok 2 (by decide)) rfl rfl (Nat.le_of_ble_eq_true rfl) dX2_readTerm_37 (fun H locs hP hD hS => ?_)
        have hP : va_P D vwCl [(h0, .inr (2, [.ref tx, .ref lw])), (tx, .inr (6, [.ref tp, .int ed, .int x_9, .int fb_])), (tp, .inr (5, [.ref by_, .int (nI T)])), (by_, .inl (cI, 260, .inl fb)), (lw, .inr (1, [.ref l1, .ref l2, .ref l3, .ref l4, .ref l5, .ref l6, .ref l7, .int (nI za), .int (nI k)])), (l1, .inl (cI, 240, .inl qa))] H := hP
        have hD : va_D A [(h0, .inr (2, [.ref tx, .ref lw])), (tx, .inr (6, [.ref tp, .int ed, .int x_9, .int fb_])), (tp, .inr (5, [.ref by_, .int (nI T)])), (by_, .inl (cI, 260, .inl fb)), (lw, .inr (1, [.ref l1, .ref l2, .ref l3, .ref l4, .ref l5, .ref l6, .ref l7, .int (nI za), .int (nI k)])), (l1, .inl (cI, 240, .inl qa))] := hD
        refine lv_aload_n hx hb dX2_readTerm_40 rfl (lv_at hl 1 rfl) ?_
        refine lv_iload_n hx hb dX2_readTerm_41 rfl (lv_at hl 2 rfl) ?_
        refine cVVk (As := [.int 4]) (rest := []) (n := 1) (ci := 2) (q0 := 0) (wr := []) X hN hKO hK hP hD hS hA (c_readFactor_4 l D cI cB _ kk h0 tx tp ed x_9 fb_ by_ T fb lw l1 l2 l3 l4 l5 l6 l7 za k qa hT hza hk) (gV k_589 k_591 k_4 k_99 k_592) (by decide +kernel) ⟨Nat.le_of_ble_eq_true rfl, Nat.le_of_ble_eq_true rfl⟩ ⟨rfl, rfl⟩ [0, 1, 2, 3, 4, 5] [] rfl rfl (by decide) (by decide) rfl rfl rfl rfl rfl hl.1 (Nat.le_of_ble_eq_true rfl) dX2_readTerm_42 ⟨Nat.le_of_ble_eq_true rfl, Nat.le_of_ble_eq_true rfl⟩ (fun u H locs hw_15 hP hD hS => ?_)
        obtain ⟨plo_11, fao_12, zo_13, l1o_14⟩ := u
        try dsimp only at hw_15
        have hP : va_P D vwCl [(h0, .inr (2, [.ref tx, .ref lw])), (tx, .inr (6, [.ref tp, .int ed, .int plo_11, .int fao_12])), (tp, .inr (5, [.ref by_, .int (nI T)])), (by_, .inl (cI, 260, .inl fb)), (lw, .inr (1, [.ref l1, .ref l2, .ref l3, .ref l4, .ref l5, .ref l6, .ref l7, .int (nI zo_13), .int (nI k)])), (l1, .inl (cI, 240, .inl l1o_14))] H := hP
        have hD : va_D A [(h0, .inr (2, [.ref tx, .ref lw])), (tx, .inr (6, [.ref tp, .int ed, .int plo_11, .int fao_12])), (tp, .inr (5, [.ref by_, .int (nI T)])), (by_, .inl (cI, 260, .inl fb)), (lw, .inr (1, [.ref l1, .ref l2, .ref l3, .ref l4, .ref l5, .ref l6, .ref l7, .int (nI zo_13), .int (nI k)])), (l1, .inl (cI, 240, .inl l1o_14))] := hD
        refine lv_aload_n hx hb dX2_readTerm_45 rfl (lv_at hl 1 rfl) ?_
        refine va_get (D := D) (ci := 2) (v := .ref lw) (C := RX2) (T := TX2) (N := 2) hx hb htb itX2 hown hK hP 0 rfl rfl 1 (by decide) (htb _ k_289) (fun _ h9 => h9) rfl dX2_readTerm_46 ?_
        refine lv_iload_n hx hb dX2_readTerm_49 rfl (lv_at hl 0 rfl) ?_
        refine lv_iconst (v := 0) hx hb dX2_readTerm_50 (by decide) ?_
        refine cVV (As := [.int r_8, .int 0]) (rest := []) (n := 2) (ci := 1) (q0 := 0) (wr := [(h0, .inr (2, [.ref tx, .ref lw])), (tx, .inr (6, [.ref tp, .int ed, .int plo_11, .int fao_12])), (tp, .inr (5, [.ref by_, .int (nI T)])), (by_, .inl (cI, 260, .inl fb))]) X hN hK hP hD hS hA (c_X1_addStep l D cI cB _ lw l1 l2 l3 l4 l5 l6 l7 zo_13 k r_8 0 l1o_14 hw_15 hk) (gV k_594 k_595 k_596 k_97 k_597) (by decide +kernel) ⟨Nat.le_of_ble_eq_true rfl, Nat.le_of_ble_eq_true rfl⟩ ⟨rfl, rfl⟩ [4, 5] [0, 1, 2, 3] rfl rfl (by decide) (by decide) rfl rfl rfl rfl rfl hl.1 (Nat.le_of_ble_eq_true rfl) dX2_readTerm_51 ⟨Nat.le_of_ble_eq_true rfl, Nat.le_of_ble_eq_true rfl⟩ (fun u H locs hw_19 hP hD hS => ?_)
        obtain ⟨zo_17, l1_fo_18⟩ := u
        try dsimp only at hw_19
        have hP : va_P D vwCl [(h0, .inr (2, [.ref tx, .ref lw])), (tx, .inr (6, [.ref tp, .int ed, .int plo_11, .int fao_12])), (tp, .inr (5, [.ref by_, .int (nI T)])), (by_, .inl (cI, 260, .inl fb)), (lw, .inr (1, [.ref l1, .ref l2, .ref l3, .ref l4, .ref l5, .ref l6, .ref l7, .int (nI zo_17), .int (nI k)])), (l1, .inl (cI, 240, .inl l1_fo_18))] H := hP
        have hD : va_D A [(h0, .inr (2, [.ref tx, .ref lw])), (tx, .inr (6, [.ref tp, .int ed, .int plo_11, .int fao_12])), (tp, .inr (5, [.ref by_, .int (nI T)])), (by_, .inl (cI, 260, .inl fb)), (lw, .inr (1, [.ref l1, .ref l2, .ref l3, .ref l4, .ref l5, .ref l6, .ref l7, .int (nI zo_17), .int (nI k)])), (l1, .inl (cI, 240, .inl l1_fo_18))] := hD
        refine lv_iinc (v := (nI (i + 1))) (lv' := [(2, .int (nI (i + 1))), (3, .int r_8), (0, .ref h0), (1, .int 4)]) hx hb dX2_readTerm_54 hl (k := 3) rfl (nI_1 i) (by decide) rfl (fun ls hl => ?_)
        refine lv_goto (tgt := 7) hx hb dX2_readTerm_57 (by decide) ?_
        exact ih_7 (i + 1) plo_11 fao_12 zo_17 l1_fo_18 (by omega) hw_19 _ _ (hP.sub [0, 1, 2, 3, 4, 5] rfl) (hD.sub [0, 1, 2, 3, 4, 5] (by decide) rfl) hS _ (lv_sub hl [2, 3, 0] rfl)
  exact loop_7 240 0 plo_2 fao_3 zo_4 l1o_5 (by omega) hw_6 _ _ (hP.sub [0, 1, 2, 3, 4, 5] rfl) (hD.sub [0, 1, 2, 3, 4, 5] (by decide) rfl) hS _ (lv_sub hl [1, 2, 0] rfl)

set_option maxRecDepth 100000 in
set_option maxHeartbeats 4000000 in
theorem c_readSum_4 (l : Launch) (D : va_G) (cI cB : ClassId) (sz : Nat) (kk : KT) (h0 : Nat) (tx : Nat) (tp : Nat) (ed : Int32) (pl : Int32) (fa : Int32) (by_ : Nat) (T : Nat) (fb : Nat → Int32) (lw : Nat) (l1 : Nat) (l2 : Nat) (l3 : Nat) (l4 : Nat) (l5 : Nat) (l6 : Nat) (l7 : Nat) (z : Nat) (k : Nat) (q1 : Nat → Int32) (hT : T ≤ 260) (hz : z ≤ 240) (hk : k ≤ 16) : MVk (S := ((Int32) × (Int32) × (Nat) × (Nat → Int32))) l D cI cB kk yX2_readSum cX2_readSum 4 (rm 13 294) [.ref h0, .int 4] [(h0, .inr (2, [.ref tx, .ref lw])), (tx, .inr (6, [.ref tp, .int ed, .int pl, .int fa])), (tp, .inr (5, [.ref by_, .int (nI T)])), (by_, .inl (cI, 260, .inl fb)), (lw, .inr (1, [.ref l1, .ref l2, .ref l3, .ref l4, .ref l5, .ref l6, .ref l7, .int (nI z), .int (nI k)])), (l1, .inl (cI, 240, .inl q1))] sz (fun u => u.2.2.1 ≤ 240) (fun u : ((Int32) × (Int32) × (Nat) × (Nat → Int32)) => [(h0, .inr (2, [.ref tx, .ref lw])), (tx, .inr (6, [.ref tp, .int ed, .int u.1, .int u.2.1])), (tp, .inr (5, [.ref by_, .int (nI T)])), (by_, .inl (cI, 260, .inl fb)), (lw, .inr (1, [.ref l1, .ref l2, .ref l3, .ref l4, .ref l5, .ref l6, .ref l7, .int (nI u.2.2.1), .int (nI k)])), (l1, .inl (cI, 240, .inl u.2.2.2))]) := by
  refine MVk.of (by decide) (Nat.le_of_ble_eq_true rfl) ?_
  intro p e s m below meth c Q ls A X hin hN hKO hP hK hD hA hl ret
  have hS : va_S A s.heap s.heap [] := va_S.rf
  obtain ⟨hx, hb, hml, hown, htb⟩ := id X
  have hl : lv_has ls 4 [(0, .ref h0), (1, .int 4)] := hl
  refine lv_aload_n hx hb dX2_readSum_0 rfl (lv_at hl 0 rfl) ?_
  refine lv_iload_n hx hb dX2_readSum_1 rfl (lv_at hl 1 rfl) ?_
  refine cVVk (As := [.int 4]) (rest := []) (n := 1) (ci := 2) (q0 := 0) (wr := []) X hN hKO hK hP hD hS hA (c_readTerm_4 l D cI cB _ kk h0 tx tp ed pl fa by_ T fb lw l1 l2 l3 l4 l5 l6 l7 z k q1 hT hz hk) (gV k_585 k_587 k_3 k_99 k_588) (by decide +kernel) ⟨Nat.le_of_ble_eq_true rfl, Nat.le_of_ble_eq_true rfl⟩ ⟨rfl, rfl⟩ [0, 1, 2, 3, 4, 5] [] rfl rfl (by decide) (by decide) rfl rfl rfl rfl rfl hl.1 (Nat.le_of_ble_eq_true rfl) dX2_readSum_2 ⟨Nat.le_of_ble_eq_true rfl, Nat.le_of_ble_eq_true rfl⟩ (fun u H locs hw_6 hP hD hS => ?_)
  obtain ⟨plo_2, fao_3, zo_4, l1o_5⟩ := u
  try dsimp only at hw_6
  have hP : va_P D vwCl [(h0, .inr (2, [.ref tx, .ref lw])), (tx, .inr (6, [.ref tp, .int ed, .int plo_2, .int fao_3])), (tp, .inr (5, [.ref by_, .int (nI T)])), (by_, .inl (cI, 260, .inl fb)), (lw, .inr (1, [.ref l1, .ref l2, .ref l3, .ref l4, .ref l5, .ref l6, .ref l7, .int (nI zo_4), .int (nI k)])), (l1, .inl (cI, 240, .inl l1o_5))] H := hP
  have hD : va_D A [(h0, .inr (2, [.ref tx, .ref lw])), (tx, .inr (6, [.ref tp, .int ed, .int plo_2, .int fao_3])), (tp, .inr (5, [.ref by_, .int (nI T)])), (by_, .inl (cI, 260, .inl fb)), (lw, .inr (1, [.ref l1, .ref l2, .ref l3, .ref l4, .ref l5, .ref l6, .ref l7, .int (nI zo_4), .int (nI k)])), (l1, .inl (cI, 240, .inl l1o_5))] := hD
  refine lv_iconst (v := 0) hx hb dX2_readSum_5 (by decide) ?_
  refine lv_istore_n (lv' := [(2, .int 0), (0, .ref h0), (1, .int 4)]) hx hb dX2_readSum_6 rfl hl (by decide) rfl (fun ls hl => ?_)
  have loop_7 : ∀ (n i : Nat) (pa : Int32) (fb_ : Int32) (za : Nat) (qa : Nat → Int32), n + i = 240 → (za ≤ 240) → ∀ (H : Heap) (locs : List Loc), va_P D vwCl [(h0, .inr (2, [.ref tx, .ref lw])), (tx, .inr (6, [.ref tp, .int ed, .int pa, .int fb_])), (tp, .inr (5, [.ref by_, .int (nI T)])), (by_, .inl (cI, 260, .inl fb)), (lw, .inr (1, [.ref l1, .ref l2, .ref l3, .ref l4, .ref l5, .ref l6, .ref l7, .int (nI za), .int (nI k)])), (l1, .inl (cI, 240, .inl qa))] H → va_D A [(h0, .inr (2, [.ref tx, .ref lw])), (tx, .inr (6, [.ref tp, .int ed, .int pa, .int fb_])), (tp, .inr (5, [.ref by_, .int (nI T)])), (by_, .inl (cI, 260, .inl fb)), (lw, .inr (1, [.ref l1, .ref l2, .ref l3, .ref l4, .ref l5, .ref l6, .ref l7, .int (nI za), .int (nI k)])), (l1, .inl (cI, 240, .inl qa))] → va_S A s.heap H locs → ∀ (ls : Array Slot), lv_has ls 4 [(0, .ref h0), (1, .int 4), (2, .int (nI i))] → W p l e (rm 13 294) s m ([.ref h0, .int 4] : List Value).toArray below meth c H locs 0 0 Q (F0 m 7 ls []) := by
    intro n
    induction n with
    | zero =>
      intro i pa fb_ za qa hni hza H locs hP hD hS ls hl
      have hni_7 := hni
      have hi : i = 240 := by omega
      refine lv_iload_n hx hb dX2_readSum_7 rfl (lv_at hl 2 rfl) ?_
      refine lv_sipush (v := 240) hx hb dX2_readSum_8 (by decide) ?_
      refine lv_icmp_ge (tgt := 90) hx hb dX2_readSum_11 (by decide) (fun _ => ?_) (fun c_11 => absurd (by rw [hi]; decide) c_11)
      exact ret _ _ _ _ (pa, fb_, za, qa) dX2_readSum_90 hza (hP.sub [0, 1, 2, 3, 4, 5] rfl) (hD.sub [0, 1, 2, 3, 4, 5] (by decide) rfl) hS
    | succ n ih_7 =>
      intro i pa fb_ za qa hni hza H locs hP hD hS ls hl
      have hni_7 := hni
      have hi : i < 240 := by omega
      refine lv_iload_n hx hb dX2_readSum_7 rfl (lv_at hl 2 rfl) ?_
      refine lv_sipush (v := 240) hx hb dX2_readSum_8 (by decide) ?_
      refine lv_icmp_ge (tgt := 90) hx hb dX2_readSum_11 (by decide) (fun c_11 => absurd c_11 (nI_ge hi (by decide))) (fun _ => ?_)
      refine lv_aload_n hx hb dX2_readSum_14 rfl (lv_at hl 0 rfl) ?_
      refine va_get (D := D) (ci := 2) (v := .ref tx) (C := RX2) (T := TX2) (N := 2) hx hb htb itX2 hown hK hP 0 rfl rfl 0 (by decide) (htb _ k_288) (fun _ h9 => h9) rfl dX2_readSum_15 ?_
      refine cVR (As := []) (rest := []) (n := 0) (ci := 6) (q0 := 0) X hN hK hP (c_X6_sign l D cI cB tx tp ed pa fb_ by_ T fb hT) (gV k_483 k_484 k_485 k_98 k_486) (by decide +kernel) ⟨Nat.le_of_ble_eq_true rfl, Nat.le_of_ble_eq_true rfl⟩ ⟨rfl, rfl⟩ [1, 2, 3] rfl rfl rfl rfl rfl rfl hl.1 (Nat.le_of_ble_eq_true rfl) dX2_readSum_18 ⟨Nat.le_of_ble_eq_true rfl, Nat.le_of_ble_eq_true rfl⟩ (fun r_7 hr_7 => ?_)
      subst hr_7
      refine lv_bipush (v := 43) hx hb dX2_readSum_21 (by decide) ?_
      refine lv_icmp_eq (tgt := 38) hx hb dX2_readSum_23 (by decide) (fun c_23 => ?_) (fun c_23 => ?_)
      · refine lv_aload_n hx hb dX2_readSum_38 rfl (lv_at hl 0 rfl) ?_
        refine va_get (D := D) (ci := 2) (v := .ref tx) (C := RX2) (T := TX2) (N := 2) hx hb htb itX2 hown hK hP 0 rfl rfl 0 (by decide) (htb _ k_288) (fun _ h9 => h9) rfl dX2_readSum_39 ?_
        refine cVR (As := []) (rest := []) (n := 0) (ci := 6) (q0 := 0) X hN hK hP (c_X6_sign l D cI cB tx tp ed pa fb_ by_ T fb hT) (gV k_483 k_484 k_485 k_98 k_486) (by decide +kernel) ⟨Nat.le_of_ble_eq_true rfl, Nat.le_of_ble_eq_true rfl⟩ ⟨rfl, rfl⟩ [1, 2, 3] rfl rfl rfl rfl rfl rfl hl.1 (Nat.le_of_ble_eq_true rfl) dX2_readSum_42 ⟨Nat.le_of_ble_eq_true rfl, Nat.le_of_ble_eq_true rfl⟩ (fun r_8 hr_8 => ?_)
        subst hr_8
        refine lv_bipush (v := 43) hx hb dX2_readSum_45 (by decide) ?_
        refine lv_icmp_ne (tgt := 54) hx hb dX2_readSum_47 (by decide) (fun c_47 => ?_) (fun c_47 => ?_)
        · refine lv_bipush (v := 6) hx hb dX2_readSum_54 (by decide) ?_
          refine lv_istore_n (lv' := [(3, .int 6), (0, .ref h0), (1, .int 4), (2, .int (nI i))]) hx hb dX2_readSum_56 rfl hl (by decide) rfl (fun ls hl => ?_)
          refine lv_aload_n hx hb dX2_readSum_57 rfl (lv_at hl 1 rfl) ?_
          refine va_get (D := D) (ci := 2) (v := .ref tx) (C := RX2) (T := TX2) (N := 2) hx hb htb itX2 hown hK hP 0 rfl rfl 0 (by decide) (htb _ k_288) (fun _ h9 => h9) rfl dX2_readSum_58 ?_
          refine lv_dup hx hb dX2_readSum_61 rfl ?_
          refine va_getN (D := D) (ci := 6) (v := .int pa) (C := RX6) (T := TX6) (N := 4) hx hb htb itX6 hown hK hP 1 rfl rfl 2 (by decide) (va_Nw.use rfl (hN _ n_264 rfl)) (fun _ h9 => h9) rfl dX2_readSum_62 ?_
          refine lv_iconst (v := 1) hx hb dX2_readSum_65 (by decide) ?_
          refine lv_iadd hx hb dX2_readSum_66 ?_
          refine lv_topi (fun x_9 ex_9 => ?_)
          refine va_putN (D := D) (ci := 6) (v := .int x_9) (ty := .int) (C := RX6) (T := TX6) (N := 4) hx hb htb itX6 tyX6 tyX6_ok nmX6 hown hK hP hD hS 1 rfl rfl 2 (by decide) (va_Nw.use rfl (hN _ n_264 rfl)) (fun _ h9 => h9) rfl (tyX6_ok 2 (by decide)) rfl rfl (Nat.le_of_ble_eq_true rfl) dX2_readSum_67 (fun H locs hP hD hS => ?_)
          have hP : va_P D vwCl [(h0, .inr (2, [.ref tx, .ref lw])), (tx, .inr (6, [.ref tp, .int ed, .int x_9, .int fb_])), (tp, .inr (5, [.ref by_, .int (nI T)])), (by_, .inl (cI, 260, .inl fb)), (lw, .inr (1, [.ref l1, .ref l2, .ref l3, .ref l4, .ref l5, .ref l6, .ref l7, .int (nI za), .int (nI k)])), (l1, .inl (cI, 240, .inl qa))] H := hP
          have hD : va_D A [(h0, .inr (2, [.ref tx, .ref lw])), (tx, .inr (6, [.ref tp, .int ed, .int x_9, .int fb_])), (tp, .inr (5, [.ref by_, .int (nI T)])), (by_, .inl (cI, 260, .inl fb)), (lw, .inr (1, [.ref l1, .ref l2, .ref l3, .ref l4, .ref l5, .ref l6, .ref l7, .int (nI za), .int (nI k)])), (l1, .inl (cI, 240, .inl qa))] := hD
          refine lv_aload_n hx hb dX2_readSum_70 rfl (lv_at hl 1 rfl) ?_
          refine lv_iload_n hx hb dX2_readSum_71 rfl (lv_at hl 2 rfl) ?_
          refine cVVk (As := [.int 4]) (rest := []) (n := 1) (ci := 2) (q0 := 0) (wr := []) X hN hKO hK hP hD hS hA (c_readTerm_4 l D cI cB _ kk h0 tx tp ed x_9 fb_ by_ T fb lw l1 l2 l3 l4 l5 l6 l7 za k qa hT hza hk) (gV k_585 k_587 k_3 k_99 k_588) (by decide +kernel) ⟨Nat.le_of_ble_eq_true rfl, Nat.le_of_ble_eq_true rfl⟩ ⟨rfl, rfl⟩ [0, 1, 2, 3, 4, 5] [] rfl rfl (by decide) (by decide) rfl rfl rfl rfl rfl hl.1 (Nat.le_of_ble_eq_true rfl) dX2_readSum_72 ⟨Nat.le_of_ble_eq_true rfl, Nat.le_of_ble_eq_true rfl⟩ (fun u H locs hw_15 hP hD hS => ?_)
          obtain ⟨plo_11, fao_12, zo_13, l1o_14⟩ := u
          try dsimp only at hw_15
          have hP : va_P D vwCl [(h0, .inr (2, [.ref tx, .ref lw])), (tx, .inr (6, [.ref tp, .int ed, .int plo_11, .int fao_12])), (tp, .inr (5, [.ref by_, .int (nI T)])), (by_, .inl (cI, 260, .inl fb)), (lw, .inr (1, [.ref l1, .ref l2, .ref l3, .ref l4, .ref l5, .ref l6, .ref l7, .int (nI zo_13), .int (nI k)])), (l1, .inl (cI, 240, .inl l1o_14))] H := hP
          have hD : va_D A [(h0, .inr (2, [.ref tx, .ref lw])), (tx, .inr (6, [.ref tp, .int ed, .int plo_11, .int fao_12])), (tp, .inr (5, [.ref by_, .int (nI T)])), (by_, .inl (cI, 260, .inl fb)), (lw, .inr (1, [.ref l1, .ref l2, .ref l3, .ref l4, .ref l5, .ref l6, .ref l7, .int (nI zo_13), .int (nI k)])), (l1, .inl (cI, 240, .inl l1o_14))] := hD
          refine lv_aload_n hx hb dX2_readSum_75 rfl (lv_at hl 1 rfl) ?_
          refine va_get (D := D) (ci := 2) (v := .ref lw) (C := RX2) (T := TX2) (N := 2) hx hb htb itX2 hown hK hP 0 rfl rfl 1 (by decide) (htb _ k_289) (fun _ h9 => h9) rfl dX2_readSum_76 ?_
          refine lv_iload_n hx hb dX2_readSum_79 rfl (lv_at hl 0 rfl) ?_
          refine lv_iconst (v := 0) hx hb dX2_readSum_80 (by decide) ?_
          refine cVV (As := [.int 6, .int 0]) (rest := []) (n := 2) (ci := 1) (q0 := 0) (wr := [(h0, .inr (2, [.ref tx, .ref lw])), (tx, .inr (6, [.ref tp, .int ed, .int plo_11, .int fao_12])), (tp, .inr (5, [.ref by_, .int (nI T)])), (by_, .inl (cI, 260, .inl fb))]) X hN hK hP hD hS hA (c_X1_addStep l D cI cB _ lw l1 l2 l3 l4 l5 l6 l7 zo_13 k 6 0 l1o_14 hw_15 hk) (gV k_594 k_595 k_596 k_97 k_597) (by decide +kernel) ⟨Nat.le_of_ble_eq_true rfl, Nat.le_of_ble_eq_true rfl⟩ ⟨rfl, rfl⟩ [4, 5] [0, 1, 2, 3] rfl rfl (by decide) (by decide) rfl rfl rfl rfl rfl hl.1 (Nat.le_of_ble_eq_true rfl) dX2_readSum_81 ⟨Nat.le_of_ble_eq_true rfl, Nat.le_of_ble_eq_true rfl⟩ (fun u H locs hw_19 hP hD hS => ?_)
          obtain ⟨zo_17, l1_fo_18⟩ := u
          try dsimp only at hw_19
          have hP : va_P D vwCl [(h0, .inr (2, [.ref tx, .ref lw])), (tx, .inr (6, [.ref tp, .int ed, .int plo_11, .int fao_12])), (tp, .inr (5, [.ref by_, .int (nI T)])), (by_, .inl (cI, 260, .inl fb)), (lw, .inr (1, [.ref l1, .ref l2, .ref l3, .ref l4, .ref l5, .ref l6, .ref l7, .int (nI zo_17), .int (nI k)])), (l1, .inl (cI, 240, .inl l1_fo_18))] H := hP
          have hD : va_D A [(h0, .inr (2, [.ref tx, .ref lw])), (tx, .inr (6, [.ref tp, .int ed, .int plo_11, .int fao_12])), (tp, .inr (5, [.ref by_, .int (nI T)])), (by_, .inl (cI, 260, .inl fb)), (lw, .inr (1, [.ref l1, .ref l2, .ref l3, .ref l4, .ref l5, .ref l6, .ref l7, .int (nI zo_17), .int (nI k)])), (l1, .inl (cI, 240, .inl l1_fo_18))] := hD
          refine lv_iinc (v := (nI (i + 1))) (lv' := [(2, .int (nI (i + 1))), (3, .int 6), (0, .ref h0), (1, .int 4)]) hx hb dX2_readSum_84 hl (k := 3) rfl (nI_1 i) (by decide) rfl (fun ls hl => ?_)
          refine lv_goto (tgt := 7) hx hb dX2_readSum_87 (by decide) ?_
          exact ih_7 (i + 1) plo_11 fao_12 zo_17 l1_fo_18 (by omega) hw_19 _ _ (hP.sub [0, 1, 2, 3, 4, 5] rfl) (hD.sub [0, 1, 2, 3, 4, 5] (by decide) rfl) hS _ (lv_sub hl [2, 3, 0] rfl)
        · refine lv_iconst (v := 5) hx hb dX2_readSum_50 (by decide) ?_
          refine lv_goto (tgt := 56) hx hb dX2_readSum_51 (by decide) ?_
          refine lv_istore_n (lv' := [(3, .int 5), (0, .ref h0), (1, .int 4), (2, .int (nI i))]) hx hb dX2_readSum_56 rfl hl (by decide) rfl (fun ls hl => ?_)
          refine lv_aload_n hx hb dX2_readSum_57 rfl (lv_at hl 1 rfl) ?_
          refine va_get (D := D) (ci := 2) (v := .ref tx) (C := RX2) (T := TX2) (N := 2) hx hb htb itX2 hown hK hP 0 rfl rfl 0 (by decide) (htb _ k_288) (fun _ h9 => h9) rfl dX2_readSum_58 ?_
          refine lv_dup hx hb dX2_readSum_61 rfl ?_
          refine va_getN (D := D) (ci := 6) (v := .int pa) (C := RX6) (T := TX6) (N := 4) hx hb htb itX6 hown hK hP 1 rfl rfl 2 (by decide) (va_Nw.use rfl (hN _ n_264 rfl)) (fun _ h9 => h9) rfl dX2_readSum_62 ?_
          refine lv_iconst (v := 1) hx hb dX2_readSum_65 (by decide) ?_
          refine lv_iadd hx hb dX2_readSum_66 ?_
          refine lv_topi (fun x_20 ex_20 => ?_)
          refine va_putN (D := D) (ci := 6) (v := .int x_20) (ty := .int) (C := RX6) (T := TX6) (N := 4) hx hb htb itX6 tyX6 tyX6_ok nmX6 hown hK hP hD hS 1 rfl rfl 2 (by decide) (va_Nw.use rfl (hN _ n_264 rfl)) (fun _ h9 => h9) rfl (tyX6_ok 2 (by decide)) rfl rfl (Nat.le_of_ble_eq_true rfl) dX2_readSum_67 (fun H locs hP hD hS => ?_)
          have hP : va_P D vwCl [(h0, .inr (2, [.ref tx, .ref lw])), (tx, .inr (6, [.ref tp, .int ed, .int x_20, .int fb_])), (tp, .inr (5, [.ref by_, .int (nI T)])), (by_, .inl (cI, 260, .inl fb)), (lw, .inr (1, [.ref l1, .ref l2, .ref l3, .ref l4, .ref l5, .ref l6, .ref l7, .int (nI za), .int (nI k)])), (l1, .inl (cI, 240, .inl qa))] H := hP
          have hD : va_D A [(h0, .inr (2, [.ref tx, .ref lw])), (tx, .inr (6, [.ref tp, .int ed, .int x_20, .int fb_])), (tp, .inr (5, [.ref by_, .int (nI T)])), (by_, .inl (cI, 260, .inl fb)), (lw, .inr (1, [.ref l1, .ref l2, .ref l3, .ref l4, .ref l5, .ref l6, .ref l7, .int (nI za), .int (nI k)])), (l1, .inl (cI, 240, .inl qa))] := hD
          refine lv_aload_n hx hb dX2_readSum_70 rfl (lv_at hl 1 rfl) ?_
          refine lv_iload_n hx hb dX2_readSum_71 rfl (lv_at hl 2 rfl) ?_
          refine cVVk (As := [.int 4]) (rest := []) (n := 1) (ci := 2) (q0 := 0) (wr := []) X hN hKO hK hP hD hS hA (c_readTerm_4 l D cI cB _ kk h0 tx tp ed x_20 fb_ by_ T fb lw l1 l2 l3 l4 l5 l6 l7 za k qa hT hza hk) (gV k_585 k_587 k_3 k_99 k_588) (by decide +kernel) ⟨Nat.le_of_ble_eq_true rfl, Nat.le_of_ble_eq_true rfl⟩ ⟨rfl, rfl⟩ [0, 1, 2, 3, 4, 5] [] rfl rfl (by decide) (by decide) rfl rfl rfl rfl rfl hl.1 (Nat.le_of_ble_eq_true rfl) dX2_readSum_72 ⟨Nat.le_of_ble_eq_true rfl, Nat.le_of_ble_eq_true rfl⟩ (fun u H locs hw_26 hP hD hS => ?_)
          obtain ⟨plo_22, fao_23, zo_24, l1o_25⟩ := u
          try dsimp only at hw_26
          have hP : va_P D vwCl [(h0, .inr (2, [.ref tx, .ref lw])), (tx, .inr (6, [.ref tp, .int ed, .int plo_22, .int fao_23])), (tp, .inr (5, [.ref by_, .int (nI T)])), (by_, .inl (cI, 260, .inl fb)), (lw, .inr (1, [.ref l1, .ref l2, .ref l3, .ref l4, .ref l5, .ref l6, .ref l7, .int (nI zo_24), .int (nI k)])), (l1, .inl (cI, 240, .inl l1o_25))] H := hP
          have hD : va_D A [(h0, .inr (2, [.ref tx, .ref lw])), (tx, .inr (6, [.ref tp, .int ed, .int plo_22, .int fao_23])), (tp, .inr (5, [.ref by_, .int (nI T)])), (by_, .inl (cI, 260, .inl fb)), (lw, .inr (1, [.ref l1, .ref l2, .ref l3, .ref l4, .ref l5, .ref l6, .ref l7, .int (nI zo_24), .int (nI k)])), (l1, .inl (cI, 240, .inl l1o_25))] := hD
          refine lv_aload_n hx hb dX2_readSum_75 rfl (lv_at hl 1 rfl) ?_
          refine va_get (D := D) (ci := 2) (v := .ref lw) (C := RX2) (T := TX2) (N := 2) hx hb htb itX2 hown hK hP 0 rfl rfl 1 (by decide) (htb _ k_289) (fun _ h9 => h9) rfl dX2_readSum_76 ?_
          refine lv_iload_n hx hb dX2_readSum_79 rfl (lv_at hl 0 rfl) ?_
          refine lv_iconst (v := 0) hx hb dX2_readSum_80 (by decide) ?_
          refine cVV (As := [.int 5, .int 0]) (rest := []) (n := 2) (ci := 1) (q0 := 0) (wr := [(h0, .inr (2, [.ref tx, .ref lw])), (tx, .inr (6, [.ref tp, .int ed, .int plo_22, .int fao_23])), (tp, .inr (5, [.ref by_, .int (nI T)])), (by_, .inl (cI, 260, .inl fb))]) X hN hK hP hD hS hA (c_X1_addStep l D cI cB _ lw l1 l2 l3 l4 l5 l6 l7 zo_24 k 5 0 l1o_25 hw_26 hk) (gV k_594 k_595 k_596 k_97 k_597) (by decide +kernel) ⟨Nat.le_of_ble_eq_true rfl, Nat.le_of_ble_eq_true rfl⟩ ⟨rfl, rfl⟩ [4, 5] [0, 1, 2, 3] rfl rfl (by decide) (by decide) rfl rfl rfl rfl rfl hl.1 (Nat.le_of_ble_eq_true rfl) dX2_readSum_81 ⟨Nat.le_of_ble_eq_true rfl, Nat.le_of_ble_eq_true rfl⟩ (fun u H locs hw_30 hP hD hS => ?_)
          obtain ⟨zo_28, l1_fo_29⟩ := u
          try dsimp only at hw_30
          have hP : va_P D vwCl [(h0, .inr (2, [.ref tx, .ref lw])), (tx, .inr (6, [.ref tp, .int ed, .int plo_22, .int fao_23])), (tp, .inr (5, [.ref by_, .int (nI T)])), (by_, .inl (cI, 260, .inl fb)), (lw, .inr (1, [.ref l1, .ref l2, .ref l3, .ref l4, .ref l5, .ref l6, .ref l7, .int (nI zo_28), .int (nI k)])), (l1, .inl (cI, 240, .inl l1_fo_29))] H := hP
          have hD : va_D A [(h0, .inr (2, [.ref tx, .ref lw])), (tx, .inr (6, [.ref tp, .int ed, .int plo_22, .int fao_23])), (tp, .inr (5, [.ref by_, .int (nI T)])), (by_, .inl (cI, 260, .inl fb)), (lw, .inr (1, [.ref l1, .ref l2, .ref l3, .ref l4, .ref l5, .ref l6, .ref l7, .int (nI zo_28), .int (nI k)])), (l1, .inl (cI, 240, .inl l1_fo_29))] := hD
          refine lv_iinc (v := (nI (i + 1))) (lv' := [(2, .int (nI (i + 1))), (3, .int 5), (0, .ref h0), (1, .int 4)]) hx hb dX2_readSum_84 hl (k := 3) rfl (nI_1 i) (by decide) rfl (fun ls hl => ?_)
          refine lv_goto (tgt := 7) hx hb dX2_readSum_87 (by decide) ?_
          exact ih_7 (i + 1) plo_22 fao_23 zo_28 l1_fo_29 (by omega) hw_30 _ _ (hP.sub [0, 1, 2, 3, 4, 5] rfl) (hD.sub [0, 1, 2, 3, 4, 5] (by decide) rfl) hS _ (lv_sub hl [2, 3, 0] rfl)
      · refine lv_aload_n hx hb dX2_readSum_26 rfl (lv_at hl 0 rfl) ?_
        refine va_get (D := D) (ci := 2) (v := .ref tx) (C := RX2) (T := TX2) (N := 2) hx hb htb itX2 hown hK hP 0 rfl rfl 0 (by decide) (htb _ k_288) (fun _ h9 => h9) rfl dX2_readSum_27 ?_
        refine cVR (As := []) (rest := []) (n := 0) (ci := 6) (q0 := 0) X hN hK hP (c_X6_sign l D cI cB tx tp ed pa fb_ by_ T fb hT) (gV k_483 k_484 k_485 k_98 k_486) (by decide +kernel) ⟨Nat.le_of_ble_eq_true rfl, Nat.le_of_ble_eq_true rfl⟩ ⟨rfl, rfl⟩ [1, 2, 3] rfl rfl rfl rfl rfl rfl hl.1 (Nat.le_of_ble_eq_true rfl) dX2_readSum_30 ⟨Nat.le_of_ble_eq_true rfl, Nat.le_of_ble_eq_true rfl⟩ (fun r_31 hr_31 => ?_)
        subst hr_31
        refine lv_bipush (v := 45) hx hb dX2_readSum_33 (by decide) ?_
        refine lv_icmp_ne (tgt := 90) hx hb dX2_readSum_35 (by decide) (fun c_35 => ?_) (fun c_35 => ?_)
        · exact ret _ _ _ _ (pa, fb_, za, qa) dX2_readSum_90 hza (hP.sub [0, 1, 2, 3, 4, 5] rfl) (hD.sub [0, 1, 2, 3, 4, 5] (by decide) rfl) hS
        · refine lv_aload_n hx hb dX2_readSum_38 rfl (lv_at hl 0 rfl) ?_
          refine va_get (D := D) (ci := 2) (v := .ref tx) (C := RX2) (T := TX2) (N := 2) hx hb htb itX2 hown hK hP 0 rfl rfl 0 (by decide) (htb _ k_288) (fun _ h9 => h9) rfl dX2_readSum_39 ?_
          refine cVR (As := []) (rest := []) (n := 0) (ci := 6) (q0 := 0) X hN hK hP (c_X6_sign l D cI cB tx tp ed pa fb_ by_ T fb hT) (gV k_483 k_484 k_485 k_98 k_486) (by decide +kernel) ⟨Nat.le_of_ble_eq_true rfl, Nat.le_of_ble_eq_true rfl⟩ ⟨rfl, rfl⟩ [1, 2, 3] rfl rfl rfl rfl rfl rfl hl.1 (Nat.le_of_ble_eq_true rfl) dX2_readSum_42 ⟨Nat.le_of_ble_eq_true rfl, Nat.le_of_ble_eq_true rfl⟩ (fun r_32 hr_32 => ?_)
          subst hr_32
          refine lv_bipush (v := 43) hx hb dX2_readSum_45 (by decide) ?_
          refine lv_icmp_ne (tgt := 54) hx hb dX2_readSum_47 (by decide) (fun c_47 => ?_) (fun c_47 => ?_)
          · refine lv_bipush (v := 6) hx hb dX2_readSum_54 (by decide) ?_
            refine lv_istore_n (lv' := [(3, .int 6), (0, .ref h0), (1, .int 4), (2, .int (nI i))]) hx hb dX2_readSum_56 rfl hl (by decide) rfl (fun ls hl => ?_)
            refine lv_aload_n hx hb dX2_readSum_57 rfl (lv_at hl 1 rfl) ?_
            refine va_get (D := D) (ci := 2) (v := .ref tx) (C := RX2) (T := TX2) (N := 2) hx hb htb itX2 hown hK hP 0 rfl rfl 0 (by decide) (htb _ k_288) (fun _ h9 => h9) rfl dX2_readSum_58 ?_
            refine lv_dup hx hb dX2_readSum_61 rfl ?_
            refine va_getN (D := D) (ci := 6) (v := .int pa) (C := RX6) (T := TX6) (N := 4) hx hb htb itX6 hown hK hP 1 rfl rfl 2 (by decide) (va_Nw.use rfl (hN _ n_264 rfl)) (fun _ h9 => h9) rfl dX2_readSum_62 ?_
            refine lv_iconst (v := 1) hx hb dX2_readSum_65 (by decide) ?_
            refine lv_iadd hx hb dX2_readSum_66 ?_
            refine lv_topi (fun x_33 ex_33 => ?_)
            refine va_putN (D := D) (ci := 6) (v := .int x_33) (ty := .int) (C := RX6) (T := TX6) (N := 4) hx hb htb itX6 tyX6 tyX6_ok nmX6 hown hK hP hD hS 1 rfl rfl 2 (by decide) (va_Nw.use rfl (hN _ n_264 rfl)) (fun _ h9 => h9) rfl (tyX6_ok 2 (by decide)) rfl rfl (Nat.le_of_ble_eq_true rfl) dX2_readSum_67 (fun H locs hP hD hS => ?_)
            have hP : va_P D vwCl [(h0, .inr (2, [.ref tx, .ref lw])), (tx, .inr (6, [.ref tp, .int ed, .int x_33, .int fb_])), (tp, .inr (5, [.ref by_, .int (nI T)])), (by_, .inl (cI, 260, .inl fb)), (lw, .inr (1, [.ref l1, .ref l2, .ref l3, .ref l4, .ref l5, .ref l6, .ref l7, .int (nI za), .int (nI k)])), (l1, .inl (cI, 240, .inl qa))] H := hP
            have hD : va_D A [(h0, .inr (2, [.ref tx, .ref lw])), (tx, .inr (6, [.ref tp, .int ed, .int x_33, .int fb_])), (tp, .inr (5, [.ref by_, .int (nI T)])), (by_, .inl (cI, 260, .inl fb)), (lw, .inr (1, [.ref l1, .ref l2, .ref l3, .ref l4, .ref l5, .ref l6, .ref l7, .int (nI za), .int (nI k)])), (l1, .inl (cI, 240, .inl qa))] := hD
            refine lv_aload_n hx hb dX2_readSum_70 rfl (lv_at hl 1 rfl) ?_
            refine lv_iload_n hx hb dX2_readSum_71 rfl (lv_at hl 2 rfl) ?_
            refine cVVk (As := [.int 4]) (rest := []) (n := 1) (ci := 2) (q0 := 0) (wr := []) X hN hKO hK hP hD hS hA (c_readTerm_4 l D cI cB _ kk h0 tx tp ed x_33 fb_ by_ T fb lw l1 l2 l3 l4 l5 l6 l7 za k qa hT hza hk) (gV k_585 k_587 k_3 k_99 k_588) (by decide +kernel) ⟨Nat.le_of_ble_eq_true rfl, Nat.le_of_ble_eq_true rfl⟩ ⟨rfl, rfl⟩ [0, 1, 2, 3, 4, 5] [] rfl rfl (by decide) (by decide) rfl rfl rfl rfl rfl hl.1 (Nat.le_of_ble_eq_true rfl) dX2_readSum_72 ⟨Nat.le_of_ble_eq_true rfl, Nat.le_of_ble_eq_true rfl⟩ (fun u H locs hw_39 hP hD hS => ?_)
            obtain ⟨plo_35, fao_36, zo_37, l1o_38⟩ := u
            try dsimp only at hw_39
            have hP : va_P D vwCl [(h0, .inr (2, [.ref tx, .ref lw])), (tx, .inr (6, [.ref tp, .int ed, .int plo_35, .int fao_36])), (tp, .inr (5, [.ref by_, .int (nI T)])), (by_, .inl (cI, 260, .inl fb)), (lw, .inr (1, [.ref l1, .ref l2, .ref l3, .ref l4, .ref l5, .ref l6, .ref l7, .int (nI zo_37), .int (nI k)])), (l1, .inl (cI, 240, .inl l1o_38))] H := hP
            have hD : va_D A [(h0, .inr (2, [.ref tx, .ref lw])), (tx, .inr (6, [.ref tp, .int ed, .int plo_35, .int fao_36])), (tp, .inr (5, [.ref by_, .int (nI T)])), (by_, .inl (cI, 260, .inl fb)), (lw, .inr (1, [.ref l1, .ref l2, .ref l3, .ref l4, .ref l5, .ref l6, .ref l7, .int (nI zo_37), .int (nI k)])), (l1, .inl (cI, 240, .inl l1o_38))] := hD
            refine lv_aload_n hx hb dX2_readSum_75 rfl (lv_at hl 1 rfl) ?_
            refine va_get (D := D) (ci := 2) (v := .ref lw) (C := RX2) (T := TX2) (N := 2) hx hb htb itX2 hown hK hP 0 rfl rfl 1 (by decide) (htb _ k_289) (fun _ h9 => h9) rfl dX2_readSum_76 ?_
            refine lv_iload_n hx hb dX2_readSum_79 rfl (lv_at hl 0 rfl) ?_
            refine lv_iconst (v := 0) hx hb dX2_readSum_80 (by decide) ?_
            refine cVV (As := [.int 6, .int 0]) (rest := []) (n := 2) (ci := 1) (q0 := 0) (wr := [(h0, .inr (2, [.ref tx, .ref lw])), (tx, .inr (6, [.ref tp, .int ed, .int plo_35, .int fao_36])), (tp, .inr (5, [.ref by_, .int (nI T)])), (by_, .inl (cI, 260, .inl fb))]) X hN hK hP hD hS hA (c_X1_addStep l D cI cB _ lw l1 l2 l3 l4 l5 l6 l7 zo_37 k 6 0 l1o_38 hw_39 hk) (gV k_594 k_595 k_596 k_97 k_597) (by decide +kernel) ⟨Nat.le_of_ble_eq_true rfl, Nat.le_of_ble_eq_true rfl⟩ ⟨rfl, rfl⟩ [4, 5] [0, 1, 2, 3] rfl rfl (by decide) (by decide) rfl rfl rfl rfl rfl hl.1 (Nat.le_of_ble_eq_true rfl) dX2_readSum_81 ⟨Nat.le_of_ble_eq_true rfl, Nat.le_of_ble_eq_true rfl⟩ (fun u H locs hw_43 hP hD hS => ?_)
            obtain ⟨zo_41, l1_fo_42⟩ := u
            try dsimp only at hw_43
            have hP : va_P D vwCl [(h0, .inr (2, [.ref tx, .ref lw])), (tx, .inr (6, [.ref tp, .int ed, .int plo_35, .int fao_36])), (tp, .inr (5, [.ref by_, .int (nI T)])), (by_, .inl (cI, 260, .inl fb)), (lw, .inr (1, [.ref l1, .ref l2, .ref l3, .ref l4, .ref l5, .ref l6, .ref l7, .int (nI zo_41), .int (nI k)])), (l1, .inl (cI, 240, .inl l1_fo_42))] H := hP
            have hD : va_D A [(h0, .inr (2, [.ref tx, .ref lw])), (tx, .inr (6, [.ref tp, .int ed, .int plo_35, .int fao_36])), (tp, .inr (5, [.ref by_, .int (nI T)])), (by_, .inl (cI, 260, .inl fb)), (lw, .inr (1, [.ref l1, .ref l2, .ref l3, .ref l4, .ref l5, .ref l6, .ref l7, .int (nI zo_41), .int (nI k)])), (l1, .inl (cI, 240, .inl l1_fo_42))] := hD
            refine lv_iinc (v := (nI (i + 1))) (lv' := [(2, .int (nI (i + 1))), (3, .int 6), (0, .ref h0), (1, .int 4)]) hx hb dX2_readSum_84 hl (k := 3) rfl (nI_1 i) (by decide) rfl (fun ls hl => ?_)
            refine lv_goto (tgt := 7) hx hb dX2_readSum_87 (by decide) ?_
            exact ih_7 (i + 1) plo_35 fao_36 zo_41 l1_fo_42 (by omega) hw_43 _ _ (hP.sub [0, 1, 2, 3, 4, 5] rfl) (hD.sub [0, 1, 2, 3, 4, 5] (by decide) rfl) hS _ (lv_sub hl [2, 3, 0] rfl)
          · refine lv_iconst (v := 5) hx hb dX2_readSum_50 (by decide) ?_
            refine lv_goto (tgt := 56) hx hb dX2_readSum_51 (by decide) ?_
            refine lv_istore_n (lv' := [(3, .int 5), (0, .ref h0), (1, .int 4), (2, .int (nI i))]) hx hb dX2_readSum_56 rfl hl (by decide) rfl (fun ls hl => ?_)
            refine lv_aload_n hx hb dX2_readSum_57 rfl (lv_at hl 1 rfl) ?_
            refine va_get (D := D) (ci := 2) (v := .ref tx) (C := RX2) (T := TX2) (N := 2) hx hb htb itX2 hown hK hP 0 rfl rfl 0 (by decide) (htb _ k_288) (fun _ h9 => h9) rfl dX2_readSum_58 ?_
            refine lv_dup hx hb dX2_readSum_61 rfl ?_
            refine va_getN (D := D) (ci := 6) (v := .int pa) (C := RX6) (T := TX6) (N := 4) hx hb htb itX6 hown hK hP 1 rfl rfl 2 (by decide) (va_Nw.use rfl (hN _ n_264 rfl)) (fun _ h9 => h9) rfl dX2_readSum_62 ?_
            refine lv_iconst (v := 1) hx hb dX2_readSum_65 (by decide) ?_
            refine lv_iadd hx hb dX2_readSum_66 ?_
            refine lv_topi (fun x_44 ex_44 => ?_)
            refine va_putN (D := D) (ci := 6) (v := .int x_44) (ty := .int) (C := RX6) (T := TX6) (N := 4) hx hb htb itX6 tyX6 tyX6_ok nmX6 hown hK hP hD hS 1 rfl rfl 2 (by decide) (va_Nw.use rfl (hN _ n_264 rfl)) (fun _ h9 => h9) rfl (tyX6_ok 2 (by decide)) rfl rfl (Nat.le_of_ble_eq_true rfl) dX2_readSum_67 (fun H locs hP hD hS => ?_)
            have hP : va_P D vwCl [(h0, .inr (2, [.ref tx, .ref lw])), (tx, .inr (6, [.ref tp, .int ed, .int x_44, .int fb_])), (tp, .inr (5, [.ref by_, .int (nI T)])), (by_, .inl (cI, 260, .inl fb)), (lw, .inr (1, [.ref l1, .ref l2, .ref l3, .ref l4, .ref l5, .ref l6, .ref l7, .int (nI za), .int (nI k)])), (l1, .inl (cI, 240, .inl qa))] H := hP
            have hD : va_D A [(h0, .inr (2, [.ref tx, .ref lw])), (tx, .inr (6, [.ref tp, .int ed, .int x_44, .int fb_])), (tp, .inr (5, [.ref by_, .int (nI T)])), (by_, .inl (cI, 260, .inl fb)), (lw, .inr (1, [.ref l1, .ref l2, .ref l3, .ref l4, .ref l5, .ref l6, .ref l7, .int (nI za), .int (nI k)])), (l1, .inl (cI, 240, .inl qa))] := hD
            refine lv_aload_n hx hb dX2_readSum_70 rfl (lv_at hl 1 rfl) ?_
            refine lv_iload_n hx hb dX2_readSum_71 rfl (lv_at hl 2 rfl) ?_
            refine cVVk (As := [.int 4]) (rest := []) (n := 1) (ci := 2) (q0 := 0) (wr := []) X hN hKO hK hP hD hS hA (c_readTerm_4 l D cI cB _ kk h0 tx tp ed x_44 fb_ by_ T fb lw l1 l2 l3 l4 l5 l6 l7 za k qa hT hza hk) (gV k_585 k_587 k_3 k_99 k_588) (by decide +kernel) ⟨Nat.le_of_ble_eq_true rfl, Nat.le_of_ble_eq_true rfl⟩ ⟨rfl, rfl⟩ [0, 1, 2, 3, 4, 5] [] rfl rfl (by decide) (by decide) rfl rfl rfl rfl rfl hl.1 (Nat.le_of_ble_eq_true rfl) dX2_readSum_72 ⟨Nat.le_of_ble_eq_true rfl, Nat.le_of_ble_eq_true rfl⟩ (fun u H locs hw_50 hP hD hS => ?_)
            obtain ⟨plo_46, fao_47, zo_48, l1o_49⟩ := u
            try dsimp only at hw_50
            have hP : va_P D vwCl [(h0, .inr (2, [.ref tx, .ref lw])), (tx, .inr (6, [.ref tp, .int ed, .int plo_46, .int fao_47])), (tp, .inr (5, [.ref by_, .int (nI T)])), (by_, .inl (cI, 260, .inl fb)), (lw, .inr (1, [.ref l1, .ref l2, .ref l3, .ref l4, .ref l5, .ref l6, .ref l7, .int (nI zo_48), .int (nI k)])), (l1, .inl (cI, 240, .inl l1o_49))] H := hP
            have hD : va_D A [(h0, .inr (2, [.ref tx, .ref lw])), (tx, .inr (6, [.ref tp, .int ed, .int plo_46, .int fao_47])), (tp, .inr (5, [.ref by_, .int (nI T)])), (by_, .inl (cI, 260, .inl fb)), (lw, .inr (1, [.ref l1, .ref l2, .ref l3, .ref l4, .ref l5, .ref l6, .ref l7, .int (nI zo_48), .int (nI k)])), (l1, .inl (cI, 240, .inl l1o_49))] := hD
            refine lv_aload_n hx hb dX2_readSum_75 rfl (lv_at hl 1 rfl) ?_
            refine va_get (D := D) (ci := 2) (v := .ref lw) (C := RX2) (T := TX2) (N := 2) hx hb htb itX2 hown hK hP 0 rfl rfl 1 (by decide) (htb _ k_289) (fun _ h9 => h9) rfl dX2_readSum_76 ?_
            refine lv_iload_n hx hb dX2_readSum_79 rfl (lv_at hl 0 rfl) ?_
            refine lv_iconst (v := 0) hx hb dX2_readSum_80 (by decide) ?_
            refine cVV (As := [.int 5, .int 0]) (rest := []) (n := 2) (ci := 1) (q0 := 0) (wr := [(h0, .inr (2, [.ref tx, .ref lw])), (tx, .inr (6, [.ref tp, .int ed, .int plo_46, .int fao_47])), (tp, .inr (5, [.ref by_, .int (nI T)])), (by_, .inl (cI, 260, .inl fb))]) X hN hK hP hD hS hA (c_X1_addStep l D cI cB _ lw l1 l2 l3 l4 l5 l6 l7 zo_48 k 5 0 l1o_49 hw_50 hk) (gV k_594 k_595 k_596 k_97 k_597) (by decide +kernel) ⟨Nat.le_of_ble_eq_true rfl, Nat.le_of_ble_eq_true rfl⟩ ⟨rfl, rfl⟩ [4, 5] [0, 1, 2, 3] rfl rfl (by decide) (by decide) rfl rfl rfl rfl rfl hl.1 (Nat.le_of_ble_eq_true rfl) dX2_readSum_81 ⟨Nat.le_of_ble_eq_true rfl, Nat.le_of_ble_eq_true rfl⟩ (fun u H locs hw_54 hP hD hS => ?_)
            obtain ⟨zo_52, l1_fo_53⟩ := u
            try dsimp only at hw_54
            have hP : va_P D vwCl [(h0, .inr (2, [.ref tx, .ref lw])), (tx, .inr (6, [.ref tp, .int ed, .int plo_46, .int fao_47])), (tp, .inr (5, [.ref by_, .int (nI T)])), (by_, .inl (cI, 260, .inl fb)), (lw, .inr (1, [.ref l1, .ref l2, .ref l3, .ref l4, .ref l5, .ref l6, .ref l7, .int (nI zo_52), .int (nI k)])), (l1, .inl (cI, 240, .inl l1_fo_53))] H := hP
            have hD : va_D A [(h0, .inr (2, [.ref tx, .ref lw])), (tx, .inr (6, [.ref tp, .int ed, .int plo_46, .int fao_47])), (tp, .inr (5, [.ref by_, .int (nI T)])), (by_, .inl (cI, 260, .inl fb)), (lw, .inr (1, [.ref l1, .ref l2, .ref l3, .ref l4, .ref l5, .ref l6, .ref l7, .int (nI zo_52), .int (nI k)])), (l1, .inl (cI, 240, .inl l1_fo_53))] := hD
            refine lv_iinc (v := (nI (i + 1))) (lv' := [(2, .int (nI (i + 1))), (3, .int 5), (0, .ref h0), (1, .int 4)]) hx hb dX2_readSum_84 hl (k := 3) rfl (nI_1 i) (by decide) rfl (fun ls hl => ?_)
            refine lv_goto (tgt := 7) hx hb dX2_readSum_87 (by decide) ?_
            exact ih_7 (i + 1) plo_46 fao_47 zo_52 l1_fo_53 (by omega) hw_54 _ _ (hP.sub [0, 1, 2, 3, 4, 5] rfl) (hD.sub [0, 1, 2, 3, 4, 5] (by decide) rfl) hS _ (lv_sub hl [2, 3, 0] rfl)
  exact loop_7 240 0 plo_2 fao_3 zo_4 l1o_5 (by omega) hw_6 _ _ (hP.sub [0, 1, 2, 3, 4, 5] rfl) (hD.sub [0, 1, 2, 3, 4, 5] (by decide) rfl) hS _ (lv_sub hl [1, 2, 0] rfl)

set_option maxRecDepth 100000 in
set_option maxHeartbeats 4000000 in
theorem c_readFactor_3 (l : Launch) (D : va_G) (cI cB : ClassId) (sz : Nat) (kk : KT) (h0 : Nat) (tx : Nat) (tp : Nat) (ed : Int32) (pl : Int32) (fa : Int32) (by_ : Nat) (T : Nat) (fb : Nat → Int32) (lw : Nat) (l1 : Nat) (l2 : Nat) (l3 : Nat) (l4 : Nat) (l5 : Nat) (l6 : Nat) (l7 : Nat) (z : Nat) (k : Nat) (q1 : Nat → Int32) (hT : T ≤ 260) (hz : z ≤ 240) (hk : k ≤ 16) : MVk (S := ((Int32) × (Int32) × (Nat) × (Nat → Int32))) l D cI cB kk yX2_readFactor cX2_readFactor 3 (rm 14 317) [.ref h0, .int 3] [(h0, .inr (2, [.ref tx, .ref lw])), (tx, .inr (6, [.ref tp, .int ed, .int pl, .int fa])), (tp, .inr (5, [.ref by_, .int (nI T)])), (by_, .inl (cI, 260, .inl fb)), (lw, .inr (1, [.ref l1, .ref l2, .ref l3, .ref l4, .ref l5, .ref l6, .ref l7, .int (nI z), .int (nI k)])), (l1, .inl (cI, 240, .inl q1))] sz (fun u => u.2.2.1 ≤ 240) (fun u : ((Int32) × (Int32) × (Nat) × (Nat → Int32)) => [(h0, .inr (2, [.ref tx, .ref lw])), (tx, .inr (6, [.ref tp, .int ed, .int u.1, .int u.2.1])), (tp, .inr (5, [.ref by_, .int (nI T)])), (by_, .inl (cI, 260, .inl fb)), (lw, .inr (1, [.ref l1, .ref l2, .ref l3, .ref l4, .ref l5, .ref l6, .ref l7, .int (nI u.2.2.1), .int (nI k)])), (l1, .inl (cI, 240, .inl u.2.2.2))]) := by
  refine MVk.of (by decide) (Nat.le_of_ble_eq_true rfl) ?_
  intro p e s m below meth c Q ls A X hin hN hKO hP hK hD hA hl ret
  have hS : va_S A s.heap s.heap [] := va_S.rf
  obtain ⟨hx, hb, hml, hown, htb⟩ := id X
  have hl : lv_has ls 3 [(0, .ref h0), (1, .int 3)] := hl
  refine lv_aload_n hx hb dX2_readFactor_0 rfl (lv_at hl 0 rfl) ?_
  refine va_ldcS hx hb hown hKO.2.2.2.2.2 dX2_readFactor_1 ?_
  refine cVRk (As := [.ref (kk.2.1 1)]) (rest := []) (n := 1) (ci := 2) (q0 := 0) X hN hKO hS hK hP (c_placeIn1 l D cI cB kk h0 lw tx tp ed pl fa by_ T fb hT) (gV k_479 k_481 k_1 k_99 k_482) (by decide +kernel) ⟨Nat.le_of_ble_eq_true rfl, Nat.le_of_ble_eq_true rfl⟩ ⟨rfl, rfl⟩ [0, 1, 2, 3] rfl rfl rfl rfl rfl rfl hl.1 (Nat.le_of_ble_eq_true rfl) dX2_readFactor_3 ⟨Nat.le_of_ble_eq_true rfl, Nat.le_of_ble_eq_true rfl⟩ (fun r_1 hr_1 => ?_)
  refine lv_istore_n (lv' := [(2, .int r_1), (0, .ref h0), (1, .int 3)]) hx hb dX2_readFactor_6 rfl hl (by decide) rfl (fun ls hl => ?_)
  refine lv_iload_n hx hb dX2_readFactor_7 rfl (lv_at hl 0 rfl) ?_
  refine lv_if_lt (tgt := 36) hx hb dX2_readFactor_8 (by decide) (fun c_8 => ?_) (fun c_8 => ?_)
  · refine lv_aload_n hx hb dX2_readFactor_36 rfl (lv_at hl 1 rfl) ?_
    refine va_get (D := D) (ci := 2) (v := .ref tx) (C := RX2) (T := TX2) (N := 2) hx hb htb itX2 hown hK hP 0 rfl rfl 0 (by decide) (htb _ k_288) (fun _ h9 => h9) rfl dX2_readFactor_37 ?_
    refine cVR (As := []) (rest := []) (n := 0) (ci := 6) (q0 := 0) X hN hK hP (c_X6_sign l D cI cB tx tp ed pl fa by_ T fb hT) (gV k_483 k_484 k_485 k_98 k_486) (by decide +kernel) ⟨Nat.le_of_ble_eq_true rfl, Nat.le_of_ble_eq_true rfl⟩ ⟨rfl, rfl⟩ [1, 2, 3] rfl rfl rfl rfl rfl rfl hl.1 (Nat.le_of_ble_eq_true rfl) dX2_readFactor_40 ⟨Nat.le_of_ble_eq_true rfl, Nat.le_of_ble_eq_true rfl⟩ (fun r_2 hr_2 => ?_)
    subst hr_2
    refine lv_bipush (v := 91) hx hb dX2_readFactor_43 (by decide) ?_
    refine lv_icmp_ne (tgt := 75) hx hb dX2_readFactor_45 (by decide) (fun c_45 => ?_) (fun c_45 => ?_)
    · refine lv_aload_n hx hb dX2_readFactor_75 rfl (lv_at hl 1 rfl) ?_
      refine va_get (D := D) (ci := 2) (v := .ref lw) (C := RX2) (T := TX2) (N := 2) hx hb htb itX2 hown hK hP 0 rfl rfl 1 (by decide) (htb _ k_289) (fun _ h9 => h9) rfl dX2_readFactor_76 ?_
      refine lv_iconst (v := 0) hx hb dX2_readFactor_79 (by decide) ?_
      refine lv_aload_n hx hb dX2_readFactor_80 rfl (lv_at hl 1 rfl) ?_
      refine va_get (D := D) (ci := 2) (v := .ref tx) (C := RX2) (T := TX2) (N := 2) hx hb htb itX2 hown hK hP 0 rfl rfl 0 (by decide) (htb _ k_288) (fun _ h9 => h9) rfl dX2_readFactor_81 ?_
      refine lv_iconst (v := 5) hx hb dX2_readFactor_84 (by decide) ?_
      refine lv_iconst (v := 2) hx hb dX2_readFactor_85 (by decide) ?_
      refine cVI (As := [.int 5, .int 2]) (rest := [.int 0, .ref lw]) (n := 2) (ci := 6) (q0 := 0) (wr := [(h0, .inr (2, [.ref tx, .ref lw])), (lw, .inr (1, [.ref l1, .ref l2, .ref l3, .ref l4, .ref l5, .ref l6, .ref l7, .int (nI z), .int (nI k)])), (l1, .inl (cI, 240, .inl q1))]) X hN hK hP hD hS hA (c_X6_number l D cI cB _ tx tp ed pl fa by_ T fb 5 2 hT (by decide)) (gV k_612 k_613 k_614 k_98 k_615) (by decide +kernel) ⟨Nat.le_of_ble_eq_true rfl, Nat.le_of_ble_eq_true rfl⟩ ⟨rfl, rfl⟩ [1, 2, 3] [0, 4, 5] rfl rfl (by decide) (by decide) rfl rfl rfl rfl rfl hl.1 (Nat.le_of_ble_eq_true rfl) dX2_readFactor_86 ⟨Nat.le_of_ble_eq_true rfl, Nat.le_of_ble_eq_true rfl⟩ (fun r_3 u H locs hw_6 hP hD hS => ?_)
      obtain ⟨h0_2o_4, h0_3o_5⟩ := u
      try dsimp only at hw_6
      have hP : va_P D vwCl [(h0, .inr (2, [.ref tx, .ref lw])), (lw, .inr (1, [.ref l1, .ref l2, .ref l3, .ref l4, .ref l5, .ref l6, .ref l7, .int (nI z), .int (nI k)])), (l1, .inl (cI, 240, .inl q1)), (tx, .inr (6, [.ref tp, .int ed, .int h0_2o_4, .int h0_3o_5])), (tp, .inr (5, [.ref by_, .int (nI T)])), (by_, .inl (cI, 260, .inl fb))] H := hP
      have hD : va_D A [(h0, .inr (2, [.ref tx, .ref lw])), (lw, .inr (1, [.ref l1, .ref l2, .ref l3, .ref l4, .ref l5, .ref l6, .ref l7, .int (nI z), .int (nI k)])), (l1, .inl (cI, 240, .inl q1)), (tx, .inr (6, [.ref tp, .int ed, .int h0_2o_4, .int h0_3o_5])), (tp, .inr (5, [.ref by_, .int (nI T)])), (by_, .inl (cI, 260, .inl fb))] := hD
      refine cVV (As := [.int 0, .int r_3]) (rest := []) (n := 2) (ci := 1) (q0 := 0) (wr := [(h0, .inr (2, [.ref tx, .ref lw])), (tx, .inr (6, [.ref tp, .int ed, .int h0_2o_4, .int h0_3o_5])), (tp, .inr (5, [.ref by_, .int (nI T)])), (by_, .inl (cI, 260, .inl fb))]) X hN hK hP hD hS hA (c_X1_addStep l D cI cB _ lw l1 l2 l3 l4 l5 l6 l7 z k 0 r_3 q1 hz hk) (gV k_594 k_595 k_596 k_97 k_597) (by decide +kernel) ⟨Nat.le_of_ble_eq_true rfl, Nat.le_of_ble_eq_true rfl⟩ ⟨rfl, rfl⟩ [1, 2] [0, 3, 4, 5] rfl rfl (by decide) (by decide) rfl rfl rfl rfl rfl hl.1 (Nat.le_of_ble_eq_true rfl) dX2_readFactor_89 ⟨Nat.le_of_ble_eq_true rfl, Nat.le_of_ble_eq_true rfl⟩ (fun u H locs hw_10 hP hD hS => ?_)
      obtain ⟨zo_8, l1_fo_9⟩ := u
      try dsimp only at hw_10
      have hP : va_P D vwCl [(h0, .inr (2, [.ref tx, .ref lw])), (tx, .inr (6, [.ref tp, .int ed, .int h0_2o_4, .int h0_3o_5])), (tp, .inr (5, [.ref by_, .int (nI T)])), (by_, .inl (cI, 260, .inl fb)), (lw, .inr (1, [.ref l1, .ref l2, .ref l3, .ref l4, .ref l5, .ref l6, .ref l7, .int (nI zo_8), .int (nI k)])), (l1, .inl (cI, 240, .inl l1_fo_9))] H := hP
      have hD : va_D A [(h0, .inr (2, [.ref tx, .ref lw])), (tx, .inr (6, [.ref tp, .int ed, .int h0_2o_4, .int h0_3o_5])), (tp, .inr (5, [.ref by_, .int (nI T)])), (by_, .inl (cI, 260, .inl fb)), (lw, .inr (1, [.ref l1, .ref l2, .ref l3, .ref l4, .ref l5, .ref l6, .ref l7, .int (nI zo_8), .int (nI k)])), (l1, .inl (cI, 240, .inl l1_fo_9))] := hD
      exact ret _ _ _ _ (h0_2o_4, h0_3o_5, zo_8, l1_fo_9) dX2_readFactor_92 hw_10 (hP.sub [0, 1, 2, 3, 4, 5] rfl) (hD.sub [0, 1, 2, 3, 4, 5] (by decide) rfl) hS
    · refine lv_aload_n hx hb dX2_readFactor_48 rfl (lv_at hl 1 rfl) ?_
      refine lv_iload_n hx hb dX2_readFactor_49 rfl (lv_at hl 2 rfl) ?_
      refine cVI (As := [.int 3]) (rest := []) (n := 1) (ci := 2) (q0 := 0) (wr := [(tp, .inr (5, [.ref by_, .int (nI T)])), (by_, .inl (cI, 260, .inl fb)), (lw, .inr (1, [.ref l1, .ref l2, .ref l3, .ref l4, .ref l5, .ref l6, .ref l7, .int (nI z), .int (nI k)])), (l1, .inl (cI, 240, .inl q1))]) X hN hK hP hD hS hA (c_X2_opens l D cI cB _ h0 lw tx tp ed pl fa 3) (gV k_598 k_600 k_5 k_99 k_601) (by decide +kernel) ⟨Nat.le_of_ble_eq_true rfl, Nat.le_of_ble_eq_true rfl⟩ ⟨rfl, rfl⟩ [0, 1] [2, 3, 4, 5] rfl rfl (by decide) (by decide) rfl rfl rfl rfl rfl hl.1 (Nat.le_of_ble_eq_true rfl) dX2_readFactor_50 ⟨Nat.le_of_ble_eq_true rfl, Nat.le_of_ble_eq_true rfl⟩ (fun r_11 u H locs hw_14 hP hD hS => ?_)
      obtain ⟨tx_2o_12, tx_3o_13⟩ := u
      try dsimp only at hw_14
      have hP : va_P D vwCl [(tp, .inr (5, [.ref by_, .int (nI T)])), (by_, .inl (cI, 260, .inl fb)), (lw, .inr (1, [.ref l1, .ref l2, .ref l3, .ref l4, .ref l5, .ref l6, .ref l7, .int (nI z), .int (nI k)])), (l1, .inl (cI, 240, .inl q1)), (h0, .inr (2, [.ref tx, .ref lw])), (tx, .inr (6, [.ref tp, .int ed, .int tx_2o_12, .int tx_3o_13]))] H := hP
      have hD : va_D A [(tp, .inr (5, [.ref by_, .int (nI T)])), (by_, .inl (cI, 260, .inl fb)), (lw, .inr (1, [.ref l1, .ref l2, .ref l3, .ref l4, .ref l5, .ref l6, .ref l7, .int (nI z), .int (nI k)])), (l1, .inl (cI, 240, .inl q1)), (h0, .inr (2, [.ref tx, .ref lw])), (tx, .inr (6, [.ref tp, .int ed, .int tx_2o_12, .int tx_3o_13]))] := hD
      obtain rfl : r_11 = 1 := hw_14.trans (by decide)
      refine lv_if_eq (tgt := 92) hx hb dX2_readFactor_53 (by decide) (fun c_53 => absurd c_53 (by decide)) (fun _ => ?_)
      refine lv_aload_n hx hb dX2_readFactor_56 rfl (lv_at hl 1 rfl) ?_
      refine lv_iload_n hx hb dX2_readFactor_57 rfl (lv_at hl 2 rfl) ?_
      refine lv_iconst (v := 1) hx hb dX2_readFactor_58 (by decide) ?_
      refine lv_iadd hx hb dX2_readFactor_59 ?_
      refine tv (z := 4) (by decide) ?_
      refine cVVk (As := [.int 4]) (rest := []) (n := 1) (ci := 2) (q0 := 0) (wr := []) X hN hKO hK hP hD hS hA (c_readSum_4 l D cI cB _ kk h0 tx tp ed tx_2o_12 tx_3o_13 by_ T fb lw l1 l2 l3 l4 l5 l6 l7 z k q1 hT hz hk) (gV k_581 k_583 k_2 k_99 k_584) (by decide +kernel) ⟨Nat.le_of_ble_eq_true rfl, Nat.le_of_ble_eq_true rfl⟩ ⟨rfl, rfl⟩ [4, 5, 0, 1, 2, 3] [] rfl rfl (by decide) (by decide) rfl rfl rfl rfl rfl hl.1 (Nat.le_of_ble_eq_true rfl) dX2_readFactor_60 ⟨Nat.le_of_ble_eq_true rfl, Nat.le_of_ble_eq_true rfl⟩ (fun u H locs hw_20 hP hD hS => ?_)
      obtain ⟨plo_16, fao_17, zo_18, l1o_19⟩ := u
      try dsimp only at hw_20
      have hP : va_P D vwCl [(h0, .inr (2, [.ref tx, .ref lw])), (tx, .inr (6, [.ref tp, .int ed, .int plo_16, .int fao_17])), (tp, .inr (5, [.ref by_, .int (nI T)])), (by_, .inl (cI, 260, .inl fb)), (lw, .inr (1, [.ref l1, .ref l2, .ref l3, .ref l4, .ref l5, .ref l6, .ref l7, .int (nI zo_18), .int (nI k)])), (l1, .inl (cI, 240, .inl l1o_19))] H := hP
      have hD : va_D A [(h0, .inr (2, [.ref tx, .ref lw])), (tx, .inr (6, [.ref tp, .int ed, .int plo_16, .int fao_17])), (tp, .inr (5, [.ref by_, .int (nI T)])), (by_, .inl (cI, 260, .inl fb)), (lw, .inr (1, [.ref l1, .ref l2, .ref l3, .ref l4, .ref l5, .ref l6, .ref l7, .int (nI zo_18), .int (nI k)])), (l1, .inl (cI, 240, .inl l1o_19))] := hD
      refine lv_aload_n hx hb dX2_readFactor_63 rfl (lv_at hl 1 rfl) ?_
      refine va_get (D := D) (ci := 2) (v := .ref tx) (C := RX2) (T := TX2) (N := 2) hx hb htb itX2 hown hK hP 0 rfl rfl 0 (by decide) (htb _ k_288) (fun _ h9 => h9) rfl dX2_readFactor_64 ?_
      refine lv_bipush (v := 93) hx hb dX2_readFactor_67 (by decide) ?_
      refine cVV (As := [.int 93]) (rest := []) (n := 1) (ci := 6) (q0 := 0) (wr := [(h0, .inr (2, [.ref tx, .ref lw])), (lw, .inr (1, [.ref l1, .ref l2, .ref l3, .ref l4, .ref l5, .ref l6, .ref l7, .int (nI zo_18), .int (nI k)])), (l1, .inl (cI, 240, .inl l1o_19))]) X hN hK hP hD hS hA (c_X6_expect l D cI cB _ tx tp ed plo_16 fao_17 by_ T fb 93 hT) (gV k_602 k_603 k_604 k_98 k_605) (by decide +kernel) ⟨Nat.le_of_ble_eq_true rfl, Nat.le_of_ble_eq_true rfl⟩ ⟨rfl, rfl⟩ [1, 2, 3] [0, 4, 5] rfl rfl (by decide) (by decide) rfl rfl rfl rfl rfl hl.1 (Nat.le_of_ble_eq_true rfl) dX2_readFactor_69 ⟨Nat.le_of_ble_eq_true rfl, Nat.le_of_ble_eq_true rfl⟩ (fun u H locs hw_24 hP hD hS => ?_)
      obtain ⟨h0_2o_22, h0_3o_23⟩ := u
      try dsimp only at hw_24
      have hP : va_P D vwCl [(h0, .inr (2, [.ref tx, .ref lw])), (lw, .inr (1, [.ref l1, .ref l2, .ref l3, .ref l4, .ref l5, .ref l6, .ref l7, .int (nI zo_18), .int (nI k)])), (l1, .inl (cI, 240, .inl l1o_19)), (tx, .inr (6, [.ref tp, .int ed, .int h0_2o_22, .int h0_3o_23])), (tp, .inr (5, [.ref by_, .int (nI T)])), (by_, .inl (cI, 260, .inl fb))] H := hP
      have hD : va_D A [(h0, .inr (2, [.ref tx, .ref lw])), (lw, .inr (1, [.ref l1, .ref l2, .ref l3, .ref l4, .ref l5, .ref l6, .ref l7, .int (nI zo_18), .int (nI k)])), (l1, .inl (cI, 240, .inl l1o_19)), (tx, .inr (6, [.ref tp, .int ed, .int h0_2o_22, .int h0_3o_23])), (tp, .inr (5, [.ref by_, .int (nI T)])), (by_, .inl (cI, 260, .inl fb))] := hD
      refine lv_goto (tgt := 92) hx hb dX2_readFactor_72 (by decide) ?_
      exact ret _ _ _ _ (h0_2o_22, h0_3o_23, zo_18, l1o_19) dX2_readFactor_92 hw_20 (hP.sub [0, 3, 4, 5, 1, 2] rfl) (hD.sub [0, 3, 4, 5, 1, 2] (by decide) rfl) hS
  · refine lv_aload_n hx hb dX2_readFactor_11 rfl (lv_at hl 1 rfl) ?_
    refine va_get (D := D) (ci := 2) (v := .ref tx) (C := RX2) (T := TX2) (N := 2) hx hb htb itX2 hown hK hP 0 rfl rfl 0 (by decide) (htb _ k_288) (fun _ h9 => h9) rfl dX2_readFactor_12 ?_
    refine lv_dup hx hb dX2_readFactor_15 rfl ?_
    refine va_getN (D := D) (ci := 6) (v := .int pl) (C := RX6) (T := TX6) (N := 4) hx hb htb itX6 hown hK hP 1 rfl rfl 2 (by decide) (va_Nw.use rfl (hN _ n_264 rfl)) (fun _ h9 => h9) rfl dX2_readFactor_16 ?_
    refine lv_iconst (v := 1) hx hb dX2_readFactor_19 (by decide) ?_
    refine lv_iadd hx hb dX2_readFactor_20 ?_
    refine lv_topi (fun x_25 ex_25 => ?_)
    refine va_putN (D := D) (ci := 6) (v := .int x_25) (ty := .int) (C := RX6) (T := TX6) (N := 4) hx hb htb itX6 tyX6 tyX6_ok nmX6 hown hK hP hD hS 1 rfl rfl 2 (by decide) (va_Nw.use rfl (hN _ n_264 rfl)) (fun _ h9 => h9) rfl (tyX6_ok 2 (by decide)) rfl rfl (Nat.le_of_ble_eq_true rfl) dX2_readFactor_21 (fun H locs hP hD hS => ?_)
    have hP : va_P D vwCl [(h0, .inr (2, [.ref tx, .ref lw])), (tx, .inr (6, [.ref tp, .int ed, .int x_25, .int fa])), (tp, .inr (5, [.ref by_, .int (nI T)])), (by_, .inl (cI, 260, .inl fb)), (lw, .inr (1, [.ref l1, .ref l2, .ref l3, .ref l4, .ref l5, .ref l6, .ref l7, .int (nI z), .int (nI k)])), (l1, .inl (cI, 240, .inl q1))] H := hP
    have hD : va_D A [(h0, .inr (2, [.ref tx, .ref lw])), (tx, .inr (6, [.ref tp, .int ed, .int x_25, .int fa])), (tp, .inr (5, [.ref by_, .int (nI T)])), (by_, .inl (cI, 260, .inl fb)), (lw, .inr (1, [.ref l1, .ref l2, .ref l3, .ref l4, .ref l5, .ref l6, .ref l7, .int (nI z), .int (nI k)])), (l1, .inl (cI, 240, .inl q1))] := hD
    refine lv_aload_n hx hb dX2_readFactor_24 rfl (lv_at hl 1 rfl) ?_
    refine va_get (D := D) (ci := 2) (v := .ref lw) (C := RX2) (T := TX2) (N := 2) hx hb htb itX2 hown hK hP 0 rfl rfl 1 (by decide) (htb _ k_289) (fun _ h9 => h9) rfl dX2_readFactor_25 ?_
    refine lv_iconst (v := 1) hx hb dX2_readFactor_28 (by decide) ?_
    refine lv_iload_n hx hb dX2_readFactor_29 rfl (lv_at hl 0 rfl) ?_
    refine cVV (As := [.int 1, .int r_1]) (rest := []) (n := 2) (ci := 1) (q0 := 0) (wr := [(h0, .inr (2, [.ref tx, .ref lw])), (tx, .inr (6, [.ref tp, .int ed, .int x_25, .int fa])), (tp, .inr (5, [.ref by_, .int (nI T)])), (by_, .inl (cI, 260, .inl fb))]) X hN hK hP hD hS hA (c_X1_addStep l D cI cB _ lw l1 l2 l3 l4 l5 l6 l7 z k 1 r_1 q1 hz hk) (gV k_594 k_595 k_596 k_97 k_597) (by decide +kernel) ⟨Nat.le_of_ble_eq_true rfl, Nat.le_of_ble_eq_true rfl⟩ ⟨rfl, rfl⟩ [4, 5] [0, 1, 2, 3] rfl rfl (by decide) (by decide) rfl rfl rfl rfl rfl hl.1 (Nat.le_of_ble_eq_true rfl) dX2_readFactor_30 ⟨Nat.le_of_ble_eq_true rfl, Nat.le_of_ble_eq_true rfl⟩ (fun u H locs hw_29 hP hD hS => ?_)
    obtain ⟨zo_27, l1_fo_28⟩ := u
    try dsimp only at hw_29
    have hP : va_P D vwCl [(h0, .inr (2, [.ref tx, .ref lw])), (tx, .inr (6, [.ref tp, .int ed, .int x_25, .int fa])), (tp, .inr (5, [.ref by_, .int (nI T)])), (by_, .inl (cI, 260, .inl fb)), (lw, .inr (1, [.ref l1, .ref l2, .ref l3, .ref l4, .ref l5, .ref l6, .ref l7, .int (nI zo_27), .int (nI k)])), (l1, .inl (cI, 240, .inl l1_fo_28))] H := hP
    have hD : va_D A [(h0, .inr (2, [.ref tx, .ref lw])), (tx, .inr (6, [.ref tp, .int ed, .int x_25, .int fa])), (tp, .inr (5, [.ref by_, .int (nI T)])), (by_, .inl (cI, 260, .inl fb)), (lw, .inr (1, [.ref l1, .ref l2, .ref l3, .ref l4, .ref l5, .ref l6, .ref l7, .int (nI zo_27), .int (nI k)])), (l1, .inl (cI, 240, .inl l1_fo_28))] := hD
    refine lv_goto (tgt := 92) hx hb dX2_readFactor_33 (by decide) ?_
    exact ret _ _ _ _ (x_25, fa, zo_27, l1_fo_28) dX2_readFactor_92 hw_29 (hP.sub [0, 1, 2, 3, 4, 5] rfl) (hD.sub [0, 1, 2, 3, 4, 5] (by decide) rfl) hS

set_option maxRecDepth 100000 in
set_option maxHeartbeats 4000000 in
theorem c_readTerm_3 (l : Launch) (D : va_G) (cI cB : ClassId) (sz : Nat) (kk : KT) (h0 : Nat) (tx : Nat) (tp : Nat) (ed : Int32) (pl : Int32) (fa : Int32) (by_ : Nat) (T : Nat) (fb : Nat → Int32) (lw : Nat) (l1 : Nat) (l2 : Nat) (l3 : Nat) (l4 : Nat) (l5 : Nat) (l6 : Nat) (l7 : Nat) (z : Nat) (k : Nat) (q1 : Nat → Int32) (hT : T ≤ 260) (hz : z ≤ 240) (hk : k ≤ 16) : MVk (S := ((Int32) × (Int32) × (Nat) × (Nat → Int32))) l D cI cB kk yX2_readTerm cX2_readTerm 4 (rm 15 339) [.ref h0, .int 3] [(h0, .inr (2, [.ref tx, .ref lw])), (tx, .inr (6, [.ref tp, .int ed, .int pl, .int fa])), (tp, .inr (5, [.ref by_, .int (nI T)])), (by_, .inl (cI, 260, .inl fb)), (lw, .inr (1, [.ref l1, .ref l2, .ref l3, .ref l4, .ref l5, .ref l6, .ref l7, .int (nI z), .int (nI k)])), (l1, .inl (cI, 240, .inl q1))] sz (fun u => u.2.2.1 ≤ 240) (fun u : ((Int32) × (Int32) × (Nat) × (Nat → Int32)) => [(h0, .inr (2, [.ref tx, .ref lw])), (tx, .inr (6, [.ref tp, .int ed, .int u.1, .int u.2.1])), (tp, .inr (5, [.ref by_, .int (nI T)])), (by_, .inl (cI, 260, .inl fb)), (lw, .inr (1, [.ref l1, .ref l2, .ref l3, .ref l4, .ref l5, .ref l6, .ref l7, .int (nI u.2.2.1), .int (nI k)])), (l1, .inl (cI, 240, .inl u.2.2.2))]) := by
  refine MVk.of (by decide) (Nat.le_of_ble_eq_true rfl) ?_
  intro p e s m below meth c Q ls A X hin hN hKO hP hK hD hA hl ret
  have hS : va_S A s.heap s.heap [] := va_S.rf
  obtain ⟨hx, hb, hml, hown, htb⟩ := id X
  have hl : lv_has ls 4 [(0, .ref h0), (1, .int 3)] := hl
  refine lv_aload_n hx hb dX2_readTerm_0 rfl (lv_at hl 0 rfl) ?_
  refine lv_iload_n hx hb dX2_readTerm_1 rfl (lv_at hl 1 rfl) ?_
  refine cVVk (As := [.int 3]) (rest := []) (n := 1) (ci := 2) (q0 := 0) (wr := []) X hN hKO hK hP hD hS hA (c_readFactor_3 l D cI cB _ kk h0 tx tp ed pl fa by_ T fb lw l1 l2 l3 l4 l5 l6 l7 z k q1 hT hz hk) (gV k_589 k_591 k_4 k_99 k_592) (by decide +kernel) ⟨Nat.le_of_ble_eq_true rfl, Nat.le_of_ble_eq_true rfl⟩ ⟨rfl, rfl⟩ [0, 1, 2, 3, 4, 5] [] rfl rfl (by decide) (by decide) rfl rfl rfl rfl rfl hl.1 (Nat.le_of_ble_eq_true rfl) dX2_readTerm_2 ⟨Nat.le_of_ble_eq_true rfl, Nat.le_of_ble_eq_true rfl⟩ (fun u H locs hw_6 hP hD hS => ?_)
  obtain ⟨plo_2, fao_3, zo_4, l1o_5⟩ := u
  try dsimp only at hw_6
  have hP : va_P D vwCl [(h0, .inr (2, [.ref tx, .ref lw])), (tx, .inr (6, [.ref tp, .int ed, .int plo_2, .int fao_3])), (tp, .inr (5, [.ref by_, .int (nI T)])), (by_, .inl (cI, 260, .inl fb)), (lw, .inr (1, [.ref l1, .ref l2, .ref l3, .ref l4, .ref l5, .ref l6, .ref l7, .int (nI zo_4), .int (nI k)])), (l1, .inl (cI, 240, .inl l1o_5))] H := hP
  have hD : va_D A [(h0, .inr (2, [.ref tx, .ref lw])), (tx, .inr (6, [.ref tp, .int ed, .int plo_2, .int fao_3])), (tp, .inr (5, [.ref by_, .int (nI T)])), (by_, .inl (cI, 260, .inl fb)), (lw, .inr (1, [.ref l1, .ref l2, .ref l3, .ref l4, .ref l5, .ref l6, .ref l7, .int (nI zo_4), .int (nI k)])), (l1, .inl (cI, 240, .inl l1o_5))] := hD
  refine lv_iconst (v := 0) hx hb dX2_readTerm_5 (by decide) ?_
  refine lv_istore_n (lv' := [(2, .int 0), (0, .ref h0), (1, .int 3)]) hx hb dX2_readTerm_6 rfl hl (by decide) rfl (fun ls hl => ?_)
  have loop_7 : ∀ (n i : Nat) (pa : Int32) (fb_ : Int32) (za : Nat) (qa : Nat → Int32), n + i = 240 → (za ≤ 240) → ∀ (H : Heap) (locs : List Loc), va_P D vwCl [(h0, .inr (2, [.ref tx, .ref lw])), (tx, .inr (6, [.ref tp, .int ed, .int pa, .int fb_])), (tp, .inr (5, [.ref by_, .int (nI T)])), (by_, .inl (cI, 260, .inl fb)), (lw, .inr (1, [.ref l1, .ref l2, .ref l3, .ref l4, .ref l5, .ref l6, .ref l7, .int (nI za), .int (nI k)])), (l1, .inl (cI, 240, .inl qa))] H → va_D A [(h0, .inr (2, [.ref tx, .ref lw])), (tx, .inr (6, [.ref tp, .int ed, .int pa, .int fb_])), (tp, .inr (5, [.ref by_, .int (nI T)])), (by_, .inl (cI, 260, .inl fb)), (lw, .inr (1, [.ref l1, .ref l2, .ref l3, .ref l4, .ref l5, .ref l6, .ref l7, .int (nI za), .int (nI k)])), (l1, .inl (cI, 240, .inl qa))] → va_S A s.heap H locs → ∀ (ls : Array Slot), lv_has ls 4 [(0, .ref h0), (1, .int 3), (2, .int (nI i))] → W p l e (rm 15 339) s m ([.ref h0, .int 3] : List Value).toArray below meth c H locs 0 0 Q (F0 m 7 ls []) := by
    intro n
    induction n with
    | zero =>
      intro i pa fb_ za qa hni hza H locs hP hD hS ls hl
      have hni_7 := hni
      have hi : i = 240 := by omega
      refine lv_iload_n hx hb dX2_readTerm_7 rfl (lv_at hl 2 rfl) ?_
      refine lv_sipush (v := 240) hx hb dX2_readTerm_8 (by decide) ?_
      refine lv_icmp_ge (tgt := 60) hx hb dX2_readTerm_11 (by decide) (fun _ => ?_) (fun c_11 => absurd (by rw [hi]; decide) c_11)
      exact ret _ _ _ _ (pa, fb_, za, qa) dX2_readTerm_60 hza (hP.sub [0, 1, 2, 3, 4, 5] rfl) (hD.sub [0, 1, 2, 3, 4, 5] (by decide) rfl) hS
    | succ n ih_7 =>
      intro i pa fb_ za qa hni hza H locs hP hD hS ls hl
      have hni_7 := hni
      have hi : i < 240 := by omega
      refine lv_iload_n hx hb dX2_readTerm_7 rfl (lv_at hl 2 rfl) ?_
      refine lv_sipush (v := 240) hx hb dX2_readTerm_8 (by decide) ?_
      refine lv_icmp_ge (tgt := 60) hx hb dX2_readTerm_11 (by decide) (fun c_11 => absurd c_11 (nI_ge hi (by decide))) (fun _ => ?_)
      refine lv_aload_n hx hb dX2_readTerm_14 rfl (lv_at hl 0 rfl) ?_
      refine cVR (As := []) (rest := []) (n := 0) (ci := 2) (q0 := 0) X hN hK hP (c_X2_factorStep l D cI cB h0 lw tx tp ed pa fb_ by_ T fb hT) (gV k_620 k_622 k_6 k_99 k_623) (by decide +kernel) ⟨Nat.le_of_ble_eq_true rfl, Nat.le_of_ble_eq_true rfl⟩ ⟨rfl, rfl⟩ [0, 1, 2, 3] rfl rfl rfl rfl rfl rfl hl.1 (Nat.le_of_ble_eq_true rfl) dX2_readTerm_15 ⟨Nat.le_of_ble_eq_true rfl, Nat.le_of_ble_eq_true rfl⟩ (fun r_7 hr_7 => ?_)
      refine lv_iconst (v := (-1)) hx hb dX2_readTerm_18 (by decide) ?_
      refine lv_icmp_eq (tgt := 60) hx hb dX2_readTerm_19 (by decide) (fun c_19 => ?_) (fun c_19 => ?_)
      · exact ret _ _ _ _ (pa, fb_, za, qa) dX2_readTerm_60 hza (hP.sub [0, 1, 2, 3, 4, 5] rfl) (hD.sub [0, 1, 2, 3, 4, 5] (by decide) rfl) hS
      · refine lv_aload_n hx hb dX2_readTerm_22 rfl (lv_at hl 0 rfl) ?_
        refine cVR (As := []) (rest := []) (n := 0) (ci := 2) (q0 := 0) X hN hK hP (c_X2_factorStep l D cI cB h0 lw tx tp ed pa fb_ by_ T fb hT) (gV k_620 k_622 k_6 k_99 k_623) (by decide +kernel) ⟨Nat.le_of_ble_eq_true rfl, Nat.le_of_ble_eq_true rfl⟩ ⟨rfl, rfl⟩ [0, 1, 2, 3] rfl rfl rfl rfl rfl rfl hl.1 (Nat.le_of_ble_eq_true rfl) dX2_readTerm_23 ⟨Nat.le_of_ble_eq_true rfl, Nat.le_of_ble_eq_true rfl⟩ (fun r_8 hr_8 => ?_)
        refine lv_istore_n (lv' := [(3, .int r_8), (0, .ref h0), (1, .int 3), (2, .int (nI i))]) hx hb dX2_readTerm_26 rfl hl (by decide) rfl (fun ls hl => ?_)
        refine lv_aload_n hx hb dX2_readTerm_27 rfl (lv_at hl 1 rfl) ?_
        refine va_get (D := D) (ci := 2) (v := .ref tx) (C := RX2) (T := TX2) (N := 2) hx hb htb itX2 hown hK hP 0 rfl rfl 0 (by decide) (htb _ k_288) (fun _ h9 => h9) rfl dX2_readTerm_28 ?_
        refine lv_dup hx hb dX2_readTerm_31 rfl ?_
        refine va_getN (D := D) (ci := 6) (v := .int pa) (C := RX6) (T := TX6) (N := 4) hx hb htb itX6 hown hK hP 1 rfl rfl 2 (by decide) (va_Nw.use rfl (hN _ n_264 rfl)) (fun _ h9 => h9) rfl dX2_readTerm_32 ?_
        refine lv_iconst (v := 1) hx hb dX2_readTerm_35 (by decide) ?_
        refine lv_iadd hx hb dX2_readTerm_36 ?_
        refine lv_topi (fun x_9 ex_9 => ?_)
        refine va_putN (D := D) (ci := 6) (v := .int x_9) (ty := .int) (C := RX6) (T := TX6) (N := 4) hx hb htb itX6 tyX6 tyX6_ok nmX6 hown hK hP hD hS 1 rfl rfl 2 (by decide) (va_Nw.use rfl (hN _ n_264 rfl)) (fun _ h9 => h9) rfl (tyX6_ok 2 (by decide)) rfl rfl (Nat.le_of_ble_eq_true rfl) dX2_readTerm_37 (fun H locs hP hD hS => ?_)
        have hP : va_P D vwCl [(h0, .inr (2, [.ref tx, .ref lw])), (tx, .inr (6, [.ref tp, .int ed, .int x_9, .int fb_])), (tp, .inr (5, [.ref by_, .int (nI T)])), (by_, .inl (cI, 260, .inl fb)), (lw, .inr (1, [.ref l1, .ref l2, .ref l3, .ref l4, .ref l5, .ref l6, .ref l7, .int (nI za), .int (nI k)])), (l1, .inl (cI, 240, .inl qa))] H := hP
        have hD : va_D A [(h0, .inr (2, [.ref tx, .ref lw])), (tx, .inr (6, [.ref tp, .int ed, .int x_9, .int fb_])), (tp, .inr (5, [.ref by_, .int (nI T)])), (by_, .inl (cI, 260, .inl fb)), (lw, .inr (1, [.ref l1, .ref l2, .ref l3, .ref l4, .ref l5, .ref l6, .ref l7, .int (nI za), .int (nI k)])), (l1, .inl (cI, 240, .inl qa))] := hD
        refine lv_aload_n hx hb dX2_readTerm_40 rfl (lv_at hl 1 rfl) ?_
        refine lv_iload_n hx hb dX2_readTerm_41 rfl (lv_at hl 2 rfl) ?_
        refine cVVk (As := [.int 3]) (rest := []) (n := 1) (ci := 2) (q0 := 0) (wr := []) X hN hKO hK hP hD hS hA (c_readFactor_3 l D cI cB _ kk h0 tx tp ed x_9 fb_ by_ T fb lw l1 l2 l3 l4 l5 l6 l7 za k qa hT hza hk) (gV k_589 k_591 k_4 k_99 k_592) (by decide +kernel) ⟨Nat.le_of_ble_eq_true rfl, Nat.le_of_ble_eq_true rfl⟩ ⟨rfl, rfl⟩ [0, 1, 2, 3, 4, 5] [] rfl rfl (by decide) (by decide) rfl rfl rfl rfl rfl hl.1 (Nat.le_of_ble_eq_true rfl) dX2_readTerm_42 ⟨Nat.le_of_ble_eq_true rfl, Nat.le_of_ble_eq_true rfl⟩ (fun u H locs hw_15 hP hD hS => ?_)
        obtain ⟨plo_11, fao_12, zo_13, l1o_14⟩ := u
        try dsimp only at hw_15
        have hP : va_P D vwCl [(h0, .inr (2, [.ref tx, .ref lw])), (tx, .inr (6, [.ref tp, .int ed, .int plo_11, .int fao_12])), (tp, .inr (5, [.ref by_, .int (nI T)])), (by_, .inl (cI, 260, .inl fb)), (lw, .inr (1, [.ref l1, .ref l2, .ref l3, .ref l4, .ref l5, .ref l6, .ref l7, .int (nI zo_13), .int (nI k)])), (l1, .inl (cI, 240, .inl l1o_14))] H := hP
        have hD : va_D A [(h0, .inr (2, [.ref tx, .ref lw])), (tx, .inr (6, [.ref tp, .int ed, .int plo_11, .int fao_12])), (tp, .inr (5, [.ref by_, .int (nI T)])), (by_, .inl (cI, 260, .inl fb)), (lw, .inr (1, [.ref l1, .ref l2, .ref l3, .ref l4, .ref l5, .ref l6, .ref l7, .int (nI zo_13), .int (nI k)])), (l1, .inl (cI, 240, .inl l1o_14))] := hD
        refine lv_aload_n hx hb dX2_readTerm_45 rfl (lv_at hl 1 rfl) ?_
        refine va_get (D := D) (ci := 2) (v := .ref lw) (C := RX2) (T := TX2) (N := 2) hx hb htb itX2 hown hK hP 0 rfl rfl 1 (by decide) (htb _ k_289) (fun _ h9 => h9) rfl dX2_readTerm_46 ?_
        refine lv_iload_n hx hb dX2_readTerm_49 rfl (lv_at hl 0 rfl) ?_
        refine lv_iconst (v := 0) hx hb dX2_readTerm_50 (by decide) ?_
        refine cVV (As := [.int r_8, .int 0]) (rest := []) (n := 2) (ci := 1) (q0 := 0) (wr := [(h0, .inr (2, [.ref tx, .ref lw])), (tx, .inr (6, [.ref tp, .int ed, .int plo_11, .int fao_12])), (tp, .inr (5, [.ref by_, .int (nI T)])), (by_, .inl (cI, 260, .inl fb))]) X hN hK hP hD hS hA (c_X1_addStep l D cI cB _ lw l1 l2 l3 l4 l5 l6 l7 zo_13 k r_8 0 l1o_14 hw_15 hk) (gV k_594 k_595 k_596 k_97 k_597) (by decide +kernel) ⟨Nat.le_of_ble_eq_true rfl, Nat.le_of_ble_eq_true rfl⟩ ⟨rfl, rfl⟩ [4, 5] [0, 1, 2, 3] rfl rfl (by decide) (by decide) rfl rfl rfl rfl rfl hl.1 (Nat.le_of_ble_eq_true rfl) dX2_readTerm_51 ⟨Nat.le_of_ble_eq_true rfl, Nat.le_of_ble_eq_true rfl⟩ (fun u H locs hw_19 hP hD hS => ?_)
        obtain ⟨zo_17, l1_fo_18⟩ := u
        try dsimp only at hw_19
        have hP : va_P D vwCl [(h0, .inr (2, [.ref tx, .ref lw])), (tx, .inr (6, [.ref tp, .int ed, .int plo_11, .int fao_12])), (tp, .inr (5, [.ref by_, .int (nI T)])), (by_, .inl (cI, 260, .inl fb)), (lw, .inr (1, [.ref l1, .ref l2, .ref l3, .ref l4, .ref l5, .ref l6, .ref l7, .int (nI zo_17), .int (nI k)])), (l1, .inl (cI, 240, .inl l1_fo_18))] H := hP
        have hD : va_D A [(h0, .inr (2, [.ref tx, .ref lw])), (tx, .inr (6, [.ref tp, .int ed, .int plo_11, .int fao_12])), (tp, .inr (5, [.ref by_, .int (nI T)])), (by_, .inl (cI, 260, .inl fb)), (lw, .inr (1, [.ref l1, .ref l2, .ref l3, .ref l4, .ref l5, .ref l6, .ref l7, .int (nI zo_17), .int (nI k)])), (l1, .inl (cI, 240, .inl l1_fo_18))] := hD
        refine lv_iinc (v := (nI (i + 1))) (lv' := [(2, .int (nI (i + 1))), (3, .int r_8), (0, .ref h0), (1, .int 3)]) hx hb dX2_readTerm_54 hl (k := 3) rfl (nI_1 i) (by decide) rfl (fun ls hl => ?_)
        refine lv_goto (tgt := 7) hx hb dX2_readTerm_57 (by decide) ?_
        exact ih_7 (i + 1) plo_11 fao_12 zo_17 l1_fo_18 (by omega) hw_19 _ _ (hP.sub [0, 1, 2, 3, 4, 5] rfl) (hD.sub [0, 1, 2, 3, 4, 5] (by decide) rfl) hS _ (lv_sub hl [2, 3, 0] rfl)
  exact loop_7 240 0 plo_2 fao_3 zo_4 l1o_5 (by omega) hw_6 _ _ (hP.sub [0, 1, 2, 3, 4, 5] rfl) (hD.sub [0, 1, 2, 3, 4, 5] (by decide) rfl) hS _ (lv_sub hl [1, 2, 0] rfl)

set_option maxRecDepth 100000 in
set_option maxHeartbeats 4000000 in
theorem c_readSum_3 (l : Launch) (D : va_G) (cI cB : ClassId) (sz : Nat) (kk : KT) (h0 : Nat) (tx : Nat) (tp : Nat) (ed : Int32) (pl : Int32) (fa : Int32) (by_ : Nat) (T : Nat) (fb : Nat → Int32) (lw : Nat) (l1 : Nat) (l2 : Nat) (l3 : Nat) (l4 : Nat) (l5 : Nat) (l6 : Nat) (l7 : Nat) (z : Nat) (k : Nat) (q1 : Nat → Int32) (hT : T ≤ 260) (hz : z ≤ 240) (hk : k ≤ 16) : MVk (S := ((Int32) × (Int32) × (Nat) × (Nat → Int32))) l D cI cB kk yX2_readSum cX2_readSum 4 (rm 16 362) [.ref h0, .int 3] [(h0, .inr (2, [.ref tx, .ref lw])), (tx, .inr (6, [.ref tp, .int ed, .int pl, .int fa])), (tp, .inr (5, [.ref by_, .int (nI T)])), (by_, .inl (cI, 260, .inl fb)), (lw, .inr (1, [.ref l1, .ref l2, .ref l3, .ref l4, .ref l5, .ref l6, .ref l7, .int (nI z), .int (nI k)])), (l1, .inl (cI, 240, .inl q1))] sz (fun u => u.2.2.1 ≤ 240) (fun u : ((Int32) × (Int32) × (Nat) × (Nat → Int32)) => [(h0, .inr (2, [.ref tx, .ref lw])), (tx, .inr (6, [.ref tp, .int ed, .int u.1, .int u.2.1])), (tp, .inr (5, [.ref by_, .int (nI T)])), (by_, .inl (cI, 260, .inl fb)), (lw, .inr (1, [.ref l1, .ref l2, .ref l3, .ref l4, .ref l5, .ref l6, .ref l7, .int (nI u.2.2.1), .int (nI k)])), (l1, .inl (cI, 240, .inl u.2.2.2))]) := by
  refine MVk.of (by decide) (Nat.le_of_ble_eq_true rfl) ?_
  intro p e s m below meth c Q ls A X hin hN hKO hP hK hD hA hl ret
  have hS : va_S A s.heap s.heap [] := va_S.rf
  obtain ⟨hx, hb, hml, hown, htb⟩ := id X
  have hl : lv_has ls 4 [(0, .ref h0), (1, .int 3)] := hl
  refine lv_aload_n hx hb dX2_readSum_0 rfl (lv_at hl 0 rfl) ?_
  refine lv_iload_n hx hb dX2_readSum_1 rfl (lv_at hl 1 rfl) ?_
  refine cVVk (As := [.int 3]) (rest := []) (n := 1) (ci := 2) (q0 := 0) (wr := []) X hN hKO hK hP hD hS hA (c_readTerm_3 l D cI cB _ kk h0 tx tp ed pl fa by_ T fb lw l1 l2 l3 l4 l5 l6 l7 z k q1 hT hz hk) (gV k_585 k_587 k_3 k_99 k_588) (by decide +kernel) ⟨Nat.le_of_ble_eq_true rfl, Nat.le_of_ble_eq_true rfl⟩ ⟨rfl, rfl⟩ [0, 1, 2, 3, 4, 5] [] rfl rfl (by decide) (by decide) rfl rfl rfl rfl rfl hl.1 (Nat.le_of_ble_eq_true rfl) dX2_readSum_2 ⟨Nat.le_of_ble_eq_true rfl, Nat.le_of_ble_eq_true rfl⟩ (fun u H locs hw_6 hP hD hS => ?_)
  obtain ⟨plo_2, fao_3, zo_4, l1o_5⟩ := u
  try dsimp only at hw_6
  have hP : va_P D vwCl [(h0, .inr (2, [.ref tx, .ref lw])), (tx, .inr (6, [.ref tp, .int ed, .int plo_2, .int fao_3])), (tp, .inr (5, [.ref by_, .int (nI T)])), (by_, .inl (cI, 260, .inl fb)), (lw, .inr (1, [.ref l1, .ref l2, .ref l3, .ref l4, .ref l5, .ref l6, .ref l7, .int (nI zo_4), .int (nI k)])), (l1, .inl (cI, 240, .inl l1o_5))] H := hP
  have hD : va_D A [(h0, .inr (2, [.ref tx, .ref lw])), (tx, .inr (6, [.ref tp, .int ed, .int plo_2, .int fao_3])), (tp, .inr (5, [.ref by_, .int (nI T)])), (by_, .inl (cI, 260, .inl fb)), (lw, .inr (1, [.ref l1, .ref l2, .ref l3, .ref l4, .ref l5, .ref l6, .ref l7, .int (nI zo_4), .int (nI k)])), (l1, .inl (cI, 240, .inl l1o_5))] := hD
  refine lv_iconst (v := 0) hx hb dX2_readSum_5 (by decide) ?_
  refine lv_istore_n (lv' := [(2, .int 0), (0, .ref h0), (1, .int 3)]) hx hb dX2_readSum_6 rfl hl (by decide) rfl (fun ls hl => ?_)
  have loop_7 : ∀ (n i : Nat) (pa : Int32) (fb_ : Int32) (za : Nat) (qa : Nat → Int32), n + i = 240 → (za ≤ 240) → ∀ (H : Heap) (locs : List Loc), va_P D vwCl [(h0, .inr (2, [.ref tx, .ref lw])), (tx, .inr (6, [.ref tp, .int ed, .int pa, .int fb_])), (tp, .inr (5, [.ref by_, .int (nI T)])), (by_, .inl (cI, 260, .inl fb)), (lw, .inr (1, [.ref l1, .ref l2, .ref l3, .ref l4, .ref l5, .ref l6, .ref l7, .int (nI za), .int (nI k)])), (l1, .inl (cI, 240, .inl qa))] H → va_D A [(h0, .inr (2, [.ref tx, .ref lw])), (tx, .inr (6, [.ref tp, .int ed, .int pa, .int fb_])), (tp, .inr (5, [.ref by_, .int (nI T)])), (by_, .inl (cI, 260, .inl fb)), (lw, .inr (1, [.ref l1, .ref l2, .ref l3, .ref l4, .ref l5, .ref l6, .ref l7, .int (nI za), .int (nI k)])), (l1, .inl (cI, 240, .inl qa))] → va_S A s.heap H locs → ∀ (ls : Array Slot), lv_has ls 4 [(0, .ref h0), (1, .int 3), (2, .int (nI i))] → W p l e (rm 16 362) s m ([.ref h0, .int 3] : List Value).toArray below meth c H locs 0 0 Q (F0 m 7 ls []) := by
    intro n
    induction n with
    | zero =>
      intro i pa fb_ za qa hni hza H locs hP hD hS ls hl
      have hni_7 := hni
      have hi : i = 240 := by omega
      refine lv_iload_n hx hb dX2_readSum_7 rfl (lv_at hl 2 rfl) ?_
      refine lv_sipush (v := 240) hx hb dX2_readSum_8 (by decide) ?_
      refine lv_icmp_ge (tgt := 90) hx hb dX2_readSum_11 (by decide) (fun _ => ?_) (fun c_11 => absurd (by rw [hi]; decide) c_11)
      exact ret _ _ _ _ (pa, fb_, za, qa) dX2_readSum_90 hza (hP.sub [0, 1, 2, 3, 4, 5] rfl) (hD.sub [0, 1, 2, 3, 4, 5] (by decide) rfl) hS
    | succ n ih_7 =>
      intro i pa fb_ za qa hni hza H locs hP hD hS ls hl
      have hni_7 := hni
      have hi : i < 240 := by omega
      refine lv_iload_n hx hb dX2_readSum_7 rfl (lv_at hl 2 rfl) ?_
      refine lv_sipush (v := 240) hx hb dX2_readSum_8 (by decide) ?_
      refine lv_icmp_ge (tgt := 90) hx hb dX2_readSum_11 (by decide) (fun c_11 => absurd c_11 (nI_ge hi (by decide))) (fun _ => ?_)
      refine lv_aload_n hx hb dX2_readSum_14 rfl (lv_at hl 0 rfl) ?_
      refine va_get (D := D) (ci := 2) (v := .ref tx) (C := RX2) (T := TX2) (N := 2) hx hb htb itX2 hown hK hP 0 rfl rfl 0 (by decide) (htb _ k_288) (fun _ h9 => h9) rfl dX2_readSum_15 ?_
      refine cVR (As := []) (rest := []) (n := 0) (ci := 6) (q0 := 0) X hN hK hP (c_X6_sign l D cI cB tx tp ed pa fb_ by_ T fb hT) (gV k_483 k_484 k_485 k_98 k_486) (by decide +kernel) ⟨Nat.le_of_ble_eq_true rfl, Nat.le_of_ble_eq_true rfl⟩ ⟨rfl, rfl⟩ [1, 2, 3] rfl rfl rfl rfl rfl rfl hl.1 (Nat.le_of_ble_eq_true rfl) dX2_readSum_18 ⟨Nat.le_of_ble_eq_true rfl, Nat.le_of_ble_eq_true rfl⟩ (fun r_7 hr_7 => ?_)
      subst hr_7
      refine lv_bipush (v := 43) hx hb dX2_readSum_21 (by decide) ?_
      refine lv_icmp_eq (tgt := 38) hx hb dX2_readSum_23 (by decide) (fun c_23 => ?_) (fun c_23 => ?_)
      · refine lv_aload_n hx hb dX2_readSum_38 rfl (lv_at hl 0 rfl) ?_
        refine va_get (D := D) (ci := 2) (v := .ref tx) (C := RX2) (T := TX2) (N := 2) hx hb htb itX2 hown hK hP 0 rfl rfl 0 (by decide) (htb _ k_288) (fun _ h9 => h9) rfl dX2_readSum_39 ?_
        refine cVR (As := []) (rest := []) (n := 0) (ci := 6) (q0 := 0) X hN hK hP (c_X6_sign l D cI cB tx tp ed pa fb_ by_ T fb hT) (gV k_483 k_484 k_485 k_98 k_486) (by decide +kernel) ⟨Nat.le_of_ble_eq_true rfl, Nat.le_of_ble_eq_true rfl⟩ ⟨rfl, rfl⟩ [1, 2, 3] rfl rfl rfl rfl rfl rfl hl.1 (Nat.le_of_ble_eq_true rfl) dX2_readSum_42 ⟨Nat.le_of_ble_eq_true rfl, Nat.le_of_ble_eq_true rfl⟩ (fun r_8 hr_8 => ?_)
        subst hr_8
        refine lv_bipush (v := 43) hx hb dX2_readSum_45 (by decide) ?_
        refine lv_icmp_ne (tgt := 54) hx hb dX2_readSum_47 (by decide) (fun c_47 => ?_) (fun c_47 => ?_)
        · refine lv_bipush (v := 6) hx hb dX2_readSum_54 (by decide) ?_
          refine lv_istore_n (lv' := [(3, .int 6), (0, .ref h0), (1, .int 3), (2, .int (nI i))]) hx hb dX2_readSum_56 rfl hl (by decide) rfl (fun ls hl => ?_)
          refine lv_aload_n hx hb dX2_readSum_57 rfl (lv_at hl 1 rfl) ?_
          refine va_get (D := D) (ci := 2) (v := .ref tx) (C := RX2) (T := TX2) (N := 2) hx hb htb itX2 hown hK hP 0 rfl rfl 0 (by decide) (htb _ k_288) (fun _ h9 => h9) rfl dX2_readSum_58 ?_
          refine lv_dup hx hb dX2_readSum_61 rfl ?_
          refine va_getN (D := D) (ci := 6) (v := .int pa) (C := RX6) (T := TX6) (N := 4) hx hb htb itX6 hown hK hP 1 rfl rfl 2 (by decide) (va_Nw.use rfl (hN _ n_264 rfl)) (fun _ h9 => h9) rfl dX2_readSum_62 ?_
          refine lv_iconst (v := 1) hx hb dX2_readSum_65 (by decide) ?_
          refine lv_iadd hx hb dX2_readSum_66 ?_
          refine lv_topi (fun x_9 ex_9 => ?_)
          refine va_putN (D := D) (ci := 6) (v := .int x_9) (ty := .int) (C := RX6) (T := TX6) (N := 4) hx hb htb itX6 tyX6 tyX6_ok nmX6 hown hK hP hD hS 1 rfl rfl 2 (by decide) (va_Nw.use rfl (hN _ n_264 rfl)) (fun _ h9 => h9) rfl (tyX6_ok 2 (by decide)) rfl rfl (Nat.le_of_ble_eq_true rfl) dX2_readSum_67 (fun H locs hP hD hS => ?_)
          have hP : va_P D vwCl [(h0, .inr (2, [.ref tx, .ref lw])), (tx, .inr (6, [.ref tp, .int ed, .int x_9, .int fb_])), (tp, .inr (5, [.ref by_, .int (nI T)])), (by_, .inl (cI, 260, .inl fb)), (lw, .inr (1, [.ref l1, .ref l2, .ref l3, .ref l4, .ref l5, .ref l6, .ref l7, .int (nI za), .int (nI k)])), (l1, .inl (cI, 240, .inl qa))] H := hP
          have hD : va_D A [(h0, .inr (2, [.ref tx, .ref lw])), (tx, .inr (6, [.ref tp, .int ed, .int x_9, .int fb_])), (tp, .inr (5, [.ref by_, .int (nI T)])), (by_, .inl (cI, 260, .inl fb)), (lw, .inr (1, [.ref l1, .ref l2, .ref l3, .ref l4, .ref l5, .ref l6, .ref l7, .int (nI za), .int (nI k)])), (l1, .inl (cI, 240, .inl qa))] := hD
          refine lv_aload_n hx hb dX2_readSum_70 rfl (lv_at hl 1 rfl) ?_
          refine lv_iload_n hx hb dX2_readSum_71 rfl (lv_at hl 2 rfl) ?_
          refine cVVk (As := [.int 3]) (rest := []) (n := 1) (ci := 2) (q0 := 0) (wr := []) X hN hKO hK hP hD hS hA (c_readTerm_3 l D cI cB _ kk h0 tx tp ed x_9 fb_ by_ T fb lw l1 l2 l3 l4 l5 l6 l7 za k qa hT hza hk) (gV k_585 k_587 k_3 k_99 k_588) (by decide +kernel) ⟨Nat.le_of_ble_eq_true rfl, Nat.le_of_ble_eq_true rfl⟩ ⟨rfl, rfl⟩ [0, 1, 2, 3, 4, 5] [] rfl rfl (by decide) (by decide) rfl rfl rfl rfl rfl hl.1 (Nat.le_of_ble_eq_true rfl) dX2_readSum_72 ⟨Nat.le_of_ble_eq_true rfl, Nat.le_of_ble_eq_true rfl⟩ (fun u H locs hw_15 hP hD hS => ?_)
          obtain ⟨plo_11, fao_12, zo_13, l1o_14⟩ := u
          try dsimp only at hw_15
          have hP : va_P D vwCl [(h0, .inr (2, [.ref tx, .ref lw])), (tx, .inr (6, [.ref tp, .int ed, .int plo_11, .int fao_12])), (tp, .inr (5, [.ref by_, .int (nI T)])), (by_, .inl (cI, 260, .inl fb)), (lw, .inr (1, [.ref l1, .ref l2, .ref l3, .ref l4, .ref l5, .ref l6, .ref l7, .int (nI zo_13), .int (nI k)])), (l1, .inl (cI, 240, .inl l1o_14))] H := hP
          have hD : va_D A [(h0, .inr (2, [.ref tx, .ref lw])), (tx, .inr (6, [.ref tp, .int ed, .int plo_11, .int fao_12])), (tp, .inr (5, [.ref by_, .int (nI T)])), (by_, .inl (cI, 260, .inl fb)), (lw, .inr (1, [.ref l1, .ref l2, .ref l3, .ref l4, .ref l5, .ref l6, .ref l7, .int (nI zo_13), .int (nI k)])), (l1, .inl (cI, 240, .inl l1o_14))] := hD
          refine lv_aload_n hx hb dX2_readSum_75 rfl (lv_at hl 1 rfl) ?_
          refine va_get (D := D) (ci := 2) (v := .ref lw) (C := RX2) (T := TX2) (N := 2) hx hb htb itX2 hown hK hP 0 rfl rfl 1 (by decide) (htb _ k_289) (fun _ h9 => h9) rfl dX2_readSum_76 ?_
          refine lv_iload_n hx hb dX2_readSum_79 rfl (lv_at hl 0 rfl) ?_
          refine lv_iconst (v := 0) hx hb dX2_readSum_80 (by decide) ?_
          refine cVV (As := [.int 6, .int 0]) (rest := []) (n := 2) (ci := 1) (q0 := 0) (wr := [(h0, .inr (2, [.ref tx, .ref lw])), (tx, .inr (6, [.ref tp, .int ed, .int plo_11, .int fao_12])), (tp, .inr (5, [.ref by_, .int (nI T)])), (by_, .inl (cI, 260, .inl fb))]) X hN hK hP hD hS hA (c_X1_addStep l D cI cB _ lw l1 l2 l3 l4 l5 l6 l7 zo_13 k 6 0 l1o_14 hw_15 hk) (gV k_594 k_595 k_596 k_97 k_597) (by decide +kernel) ⟨Nat.le_of_ble_eq_true rfl, Nat.le_of_ble_eq_true rfl⟩ ⟨rfl, rfl⟩ [4, 5] [0, 1, 2, 3] rfl rfl (by decide) (by decide) rfl rfl rfl rfl rfl hl.1 (Nat.le_of_ble_eq_true rfl) dX2_readSum_81 ⟨Nat.le_of_ble_eq_true rfl, Nat.le_of_ble_eq_true rfl⟩ (fun u H locs hw_19 hP hD hS => ?_)
          obtain ⟨zo_17, l1_fo_18⟩ := u
          try dsimp only at hw_19
          have hP : va_P D vwCl [(h0, .inr (2, [.ref tx, .ref lw])), (tx, .inr (6, [.ref tp, .int ed, .int plo_11, .int fao_12])), (tp, .inr (5, [.ref by_, .int (nI T)])), (by_, .inl (cI, 260, .inl fb)), (lw, .inr (1, [.ref l1, .ref l2, .ref l3, .ref l4, .ref l5, .ref l6, .ref l7, .int (nI zo_17), .int (nI k)])), (l1, .inl (cI, 240, .inl l1_fo_18))] H := hP
          have hD : va_D A [(h0, .inr (2, [.ref tx, .ref lw])), (tx, .inr (6, [.ref tp, .int ed, .int plo_11, .int fao_12])), (tp, .inr (5, [.ref by_, .int (nI T)])), (by_, .inl (cI, 260, .inl fb)), (lw, .inr (1, [.ref l1, .ref l2, .ref l3, .ref l4, .ref l5, .ref l6, .ref l7, .int (nI zo_17), .int (nI k)])), (l1, .inl (cI, 240, .inl l1_fo_18))] := hD
          refine lv_iinc (v := (nI (i + 1))) (lv' := [(2, .int (nI (i + 1))), (3, .int 6), (0, .ref h0), (1, .int 3)]) hx hb dX2_readSum_84 hl (k := 3) rfl (nI_1 i) (by decide) rfl (fun ls hl => ?_)
          refine lv_goto (tgt := 7) hx hb dX2_readSum_87 (by decide) ?_
          exact ih_7 (i + 1) plo_11 fao_12 zo_17 l1_fo_18 (by omega) hw_19 _ _ (hP.sub [0, 1, 2, 3, 4, 5] rfl) (hD.sub [0, 1, 2, 3, 4, 5] (by decide) rfl) hS _ (lv_sub hl [2, 3, 0] rfl)
        · refine lv_iconst (v := 5) hx hb dX2_readSum_50 (by decide) ?_
          refine lv_goto (tgt := 56) hx hb dX2_readSum_51 (by decide) ?_
          refine lv_istore_n (lv' := [(3, .int 5), (0, .ref h0), (1, .int 3), (2, .int (nI i))]) hx hb dX2_readSum_56 rfl hl (by decide) rfl (fun ls hl => ?_)
          refine lv_aload_n hx hb dX2_readSum_57 rfl (lv_at hl 1 rfl) ?_
          refine va_get (D := D) (ci := 2) (v := .ref tx) (C := RX2) (T := TX2) (N := 2) hx hb htb itX2 hown hK hP 0 rfl rfl 0 (by decide) (htb _ k_288) (fun _ h9 => h9) rfl dX2_readSum_58 ?_
          refine lv_dup hx hb dX2_readSum_61 rfl ?_
          refine va_getN (D := D) (ci := 6) (v := .int pa) (C := RX6) (T := TX6) (N := 4) hx hb htb itX6 hown hK hP 1 rfl rfl 2 (by decide) (va_Nw.use rfl (hN _ n_264 rfl)) (fun _ h9 => h9) rfl dX2_readSum_62 ?_
          refine lv_iconst (v := 1) hx hb dX2_readSum_65 (by decide) ?_
          refine lv_iadd hx hb dX2_readSum_66 ?_
          refine lv_topi (fun x_20 ex_20 => ?_)
          refine va_putN (D := D) (ci := 6) (v := .int x_20) (ty := .int) (C := RX6) (T := TX6) (N := 4) hx hb htb itX6 tyX6 tyX6_ok nmX6 hown hK hP hD hS 1 rfl rfl 2 (by decide) (va_Nw.use rfl (hN _ n_264 rfl)) (fun _ h9 => h9) rfl (tyX6_ok 2 (by decide)) rfl rfl (Nat.le_of_ble_eq_true rfl) dX2_readSum_67 (fun H locs hP hD hS => ?_)
          have hP : va_P D vwCl [(h0, .inr (2, [.ref tx, .ref lw])), (tx, .inr (6, [.ref tp, .int ed, .int x_20, .int fb_])), (tp, .inr (5, [.ref by_, .int (nI T)])), (by_, .inl (cI, 260, .inl fb)), (lw, .inr (1, [.ref l1, .ref l2, .ref l3, .ref l4, .ref l5, .ref l6, .ref l7, .int (nI za), .int (nI k)])), (l1, .inl (cI, 240, .inl qa))] H := hP
          have hD : va_D A [(h0, .inr (2, [.ref tx, .ref lw])), (tx, .inr (6, [.ref tp, .int ed, .int x_20, .int fb_])), (tp, .inr (5, [.ref by_, .int (nI T)])), (by_, .inl (cI, 260, .inl fb)), (lw, .inr (1, [.ref l1, .ref l2, .ref l3, .ref l4, .ref l5, .ref l6, .ref l7, .int (nI za), .int (nI k)])), (l1, .inl (cI, 240, .inl qa))] := hD
          refine lv_aload_n hx hb dX2_readSum_70 rfl (lv_at hl 1 rfl) ?_
          refine lv_iload_n hx hb dX2_readSum_71 rfl (lv_at hl 2 rfl) ?_
          refine cVVk (As := [.int 3]) (rest := []) (n := 1) (ci := 2) (q0 := 0) (wr := []) X hN hKO hK hP hD hS hA (c_readTerm_3 l D cI cB _ kk h0 tx tp ed x_20 fb_ by_ T fb lw l1 l2 l3 l4 l5 l6 l7 za k qa hT hza hk) (gV k_585 k_587 k_3 k_99 k_588) (by decide +kernel) ⟨Nat.le_of_ble_eq_true rfl, Nat.le_of_ble_eq_true rfl⟩ ⟨rfl, rfl⟩ [0, 1, 2, 3, 4, 5] [] rfl rfl (by decide) (by decide) rfl rfl rfl rfl rfl hl.1 (Nat.le_of_ble_eq_true rfl) dX2_readSum_72 ⟨Nat.le_of_ble_eq_true rfl, Nat.le_of_ble_eq_true rfl⟩ (fun u H locs hw_26 hP hD hS => ?_)
          obtain ⟨plo_22, fao_23, zo_24, l1o_25⟩ := u
          try dsimp only at hw_26
          have hP : va_P D vwCl [(h0, .inr (2, [.ref tx, .ref lw])), (tx, .inr (6, [.ref tp, .int ed, .int plo_22, .int fao_23])), (tp, .inr (5, [.ref by_, .int (nI T)])), (by_, .inl (cI, 260, .inl fb)), (lw, .inr (1, [.ref l1, .ref l2, .ref l3, .ref l4, .ref l5, .ref l6, .ref l7, .int (nI zo_24), .int (nI k)])), (l1, .inl (cI, 240, .inl l1o_25))] H := hP
          have hD : va_D A [(h0, .inr (2, [.ref tx, .ref lw])), (tx, .inr (6, [.ref tp, .int ed, .int plo_22, .int fao_23])), (tp, .inr (5, [.ref by_, .int (nI T)])), (by_, .inl (cI, 260, .inl fb)), (lw, .inr (1, [.ref l1, .ref l2, .ref l3, .ref l4, .ref l5, .ref l6, .ref l7, .int (nI zo_24), .int (nI k)])), (l1, .inl (cI, 240, .inl l1o_25))] := hD
          refine lv_aload_n hx hb dX2_readSum_75 rfl (lv_at hl 1 rfl) ?_
          refine va_get (D := D) (ci := 2) (v := .ref lw) (C := RX2) (T := TX2) (N := 2) hx hb htb itX2 hown hK hP 0 rfl rfl 1 (by decide) (htb _ k_289) (fun _ h9 => h9) rfl dX2_readSum_76 ?_
          refine lv_iload_n hx hb dX2_readSum_79 rfl (lv_at hl 0 rfl) ?_
          refine lv_iconst (v := 0) hx hb dX2_readSum_80 (by decide) ?_
          refine cVV (As := [.int 5, .int 0]) (rest := []) (n := 2) (ci := 1) (q0 := 0) (wr := [(h0, .inr (2, [.ref tx, .ref lw])), (tx, .inr (6, [.ref tp, .int ed, .int plo_22, .int fao_23])), (tp, .inr (5, [.ref by_, .int (nI T)])), (by_, .inl (cI, 260, .inl fb))]) X hN hK hP hD hS hA (c_X1_addStep l D cI cB _ lw l1 l2 l3 l4 l5 l6 l7 zo_24 k 5 0 l1o_25 hw_26 hk) (gV k_594 k_595 k_596 k_97 k_597) (by decide +kernel) ⟨Nat.le_of_ble_eq_true rfl, Nat.le_of_ble_eq_true rfl⟩ ⟨rfl, rfl⟩ [4, 5] [0, 1, 2, 3] rfl rfl (by decide) (by decide) rfl rfl rfl rfl rfl hl.1 (Nat.le_of_ble_eq_true rfl) dX2_readSum_81 ⟨Nat.le_of_ble_eq_true rfl, Nat.le_of_ble_eq_true rfl⟩ (fun u H locs hw_30 hP hD hS => ?_)
          obtain ⟨zo_28, l1_fo_29⟩ := u
          try dsimp only at hw_30
          have hP : va_P D vwCl [(h0, .inr (2, [.ref tx, .ref lw])), (tx, .inr (6, [.ref tp, .int ed, .int plo_22, .int fao_23])), (tp, .inr (5, [.ref by_, .int (nI T)])), (by_, .inl (cI, 260, .inl fb)), (lw, .inr (1, [.ref l1, .ref l2, .ref l3, .ref l4, .ref l5, .ref l6, .ref l7, .int (nI zo_28), .int (nI k)])), (l1, .inl (cI, 240, .inl l1_fo_29))] H := hP
          have hD : va_D A [(h0, .inr (2, [.ref tx, .ref lw])), (tx, .inr (6, [.ref tp, .int ed, .int plo_22, .int fao_23])), (tp, .inr (5, [.ref by_, .int (nI T)])), (by_, .inl (cI, 260, .inl fb)), (lw, .inr (1, [.ref l1, .ref l2, .ref l3, .ref l4, .ref l5, .ref l6, .ref l7, .int (nI zo_28), .int (nI k)])), (l1, .inl (cI, 240, .inl l1_fo_29))] := hD
          refine lv_iinc (v := (nI (i + 1))) (lv' := [(2, .int (nI (i + 1))), (3, .int 5), (0, .ref h0), (1, .int 3)]) hx hb dX2_readSum_84 hl (k := 3) rfl (nI_1 i) (by decide) rfl (fun ls hl => ?_)
          refine lv_goto (tgt := 7) hx hb dX2_readSum_87 (by decide) ?_
          exact ih_7 (i + 1) plo_22 fao_23 zo_28 l1_fo_29 (by omega) hw_30 _ _ (hP.sub [0, 1, 2, 3, 4, 5] rfl) (hD.sub [0, 1, 2, 3, 4, 5] (by decide) rfl) hS _ (lv_sub hl [2, 3, 0] rfl)
      · refine lv_aload_n hx hb dX2_readSum_26 rfl (lv_at hl 0 rfl) ?_
        refine va_get (D := D) (ci := 2) (v := .ref tx) (C := RX2) (T := TX2) (N := 2) hx hb htb itX2 hown hK hP 0 rfl rfl 0 (by decide) (htb _ k_288) (fun _ h9 => h9) rfl dX2_readSum_27 ?_
        refine cVR (As := []) (rest := []) (n := 0) (ci := 6) (q0 := 0) X hN hK hP (c_X6_sign l D cI cB tx tp ed pa fb_ by_ T fb hT) (gV k_483 k_484 k_485 k_98 k_486) (by decide +kernel) ⟨Nat.le_of_ble_eq_true rfl, Nat.le_of_ble_eq_true rfl⟩ ⟨rfl, rfl⟩ [1, 2, 3] rfl rfl rfl rfl rfl rfl hl.1 (Nat.le_of_ble_eq_true rfl) dX2_readSum_30 ⟨Nat.le_of_ble_eq_true rfl, Nat.le_of_ble_eq_true rfl⟩ (fun r_31 hr_31 => ?_)
        subst hr_31
        refine lv_bipush (v := 45) hx hb dX2_readSum_33 (by decide) ?_
        refine lv_icmp_ne (tgt := 90) hx hb dX2_readSum_35 (by decide) (fun c_35 => ?_) (fun c_35 => ?_)
        · exact ret _ _ _ _ (pa, fb_, za, qa) dX2_readSum_90 hza (hP.sub [0, 1, 2, 3, 4, 5] rfl) (hD.sub [0, 1, 2, 3, 4, 5] (by decide) rfl) hS
        · refine lv_aload_n hx hb dX2_readSum_38 rfl (lv_at hl 0 rfl) ?_
          refine va_get (D := D) (ci := 2) (v := .ref tx) (C := RX2) (T := TX2) (N := 2) hx hb htb itX2 hown hK hP 0 rfl rfl 0 (by decide) (htb _ k_288) (fun _ h9 => h9) rfl dX2_readSum_39 ?_
          refine cVR (As := []) (rest := []) (n := 0) (ci := 6) (q0 := 0) X hN hK hP (c_X6_sign l D cI cB tx tp ed pa fb_ by_ T fb hT) (gV k_483 k_484 k_485 k_98 k_486) (by decide +kernel) ⟨Nat.le_of_ble_eq_true rfl, Nat.le_of_ble_eq_true rfl⟩ ⟨rfl, rfl⟩ [1, 2, 3] rfl rfl rfl rfl rfl rfl hl.1 (Nat.le_of_ble_eq_true rfl) dX2_readSum_42 ⟨Nat.le_of_ble_eq_true rfl, Nat.le_of_ble_eq_true rfl⟩ (fun r_32 hr_32 => ?_)
          subst hr_32
          refine lv_bipush (v := 43) hx hb dX2_readSum_45 (by decide) ?_
          refine lv_icmp_ne (tgt := 54) hx hb dX2_readSum_47 (by decide) (fun c_47 => ?_) (fun c_47 => ?_)
          · refine lv_bipush (v := 6) hx hb dX2_readSum_54 (by decide) ?_
            refine lv_istore_n (lv' := [(3, .int 6), (0, .ref h0), (1, .int 3), (2, .int (nI i))]) hx hb dX2_readSum_56 rfl hl (by decide) rfl (fun ls hl => ?_)
            refine lv_aload_n hx hb dX2_readSum_57 rfl (lv_at hl 1 rfl) ?_
            refine va_get (D := D) (ci := 2) (v := .ref tx) (C := RX2) (T := TX2) (N := 2) hx hb htb itX2 hown hK hP 0 rfl rfl 0 (by decide) (htb _ k_288) (fun _ h9 => h9) rfl dX2_readSum_58 ?_
            refine lv_dup hx hb dX2_readSum_61 rfl ?_
            refine va_getN (D := D) (ci := 6) (v := .int pa) (C := RX6) (T := TX6) (N := 4) hx hb htb itX6 hown hK hP 1 rfl rfl 2 (by decide) (va_Nw.use rfl (hN _ n_264 rfl)) (fun _ h9 => h9) rfl dX2_readSum_62 ?_
            refine lv_iconst (v := 1) hx hb dX2_readSum_65 (by decide) ?_
            refine lv_iadd hx hb dX2_readSum_66 ?_
            refine lv_topi (fun x_33 ex_33 => ?_)
            refine va_putN (D := D) (ci := 6) (v := .int x_33) (ty := .int) (C := RX6) (T := TX6) (N := 4) hx hb htb itX6 tyX6 tyX6_ok nmX6 hown hK hP hD hS 1 rfl rfl 2 (by decide) (va_Nw.use rfl (hN _ n_264 rfl)) (fun _ h9 => h9) rfl (tyX6_ok 2 (by decide)) rfl rfl (Nat.le_of_ble_eq_true rfl) dX2_readSum_67 (fun H locs hP hD hS => ?_)
            have hP : va_P D vwCl [(h0, .inr (2, [.ref tx, .ref lw])), (tx, .inr (6, [.ref tp, .int ed, .int x_33, .int fb_])), (tp, .inr (5, [.ref by_, .int (nI T)])), (by_, .inl (cI, 260, .inl fb)), (lw, .inr (1, [.ref l1, .ref l2, .ref l3, .ref l4, .ref l5, .ref l6, .ref l7, .int (nI za), .int (nI k)])), (l1, .inl (cI, 240, .inl qa))] H := hP
            have hD : va_D A [(h0, .inr (2, [.ref tx, .ref lw])), (tx, .inr (6, [.ref tp, .int ed, .int x_33, .int fb_])), (tp, .inr (5, [.ref by_, .int (nI T)])), (by_, .inl (cI, 260, .inl fb)), (lw, .inr (1, [.ref l1, .ref l2, .ref l3, .ref l4, .ref l5, .ref l6, .ref l7, .int (nI za), .int (nI k)])), (l1, .inl (cI, 240, .inl qa))] := hD
            refine lv_aload_n hx hb dX2_readSum_70 rfl (lv_at hl 1 rfl) ?_
            refine lv_iload_n hx hb dX2_readSum_71 rfl (lv_at hl 2 rfl) ?_
            refine cVVk (As := [.int 3]) (rest := []) (n := 1) (ci := 2) (q0 := 0) (wr := []) X hN hKO hK hP hD hS hA (c_readTerm_3 l D cI cB _ kk h0 tx tp ed x_33 fb_ by_ T fb lw l1 l2 l3 l4 l5 l6 l7 za k qa hT hza hk) (gV k_585 k_587 k_3 k_99 k_588) (by decide +kernel) ⟨Nat.le_of_ble_eq_true rfl, Nat.le_of_ble_eq_true rfl⟩ ⟨rfl, rfl⟩ [0, 1, 2, 3, 4, 5] [] rfl rfl (by decide) (by decide) rfl rfl rfl rfl rfl hl.1 (Nat.le_of_ble_eq_true rfl) dX2_readSum_72 ⟨Nat.le_of_ble_eq_true rfl, Nat.le_of_ble_eq_true rfl⟩ (fun u H locs hw_39 hP hD hS => ?_)
            obtain ⟨plo_35, fao_36, zo_37, l1o_38⟩ := u
            try dsimp only at hw_39
            have hP : va_P D vwCl [(h0, .inr (2, [.ref tx, .ref lw])), (tx, .inr (6, [.ref tp, .int ed, .int plo_35, .int fao_36])), (tp, .inr (5, [.ref by_, .int (nI T)])), (by_, .inl (cI, 260, .inl fb)), (lw, .inr (1, [.ref l1, .ref l2, .ref l3, .ref l4, .ref l5, .ref l6, .ref l7, .int (nI zo_37), .int (nI k)])), (l1, .inl (cI, 240, .inl l1o_38))] H := hP
            have hD : va_D A [(h0, .inr (2, [.ref tx, .ref lw])), (tx, .inr (6, [.ref tp, .int ed, .int plo_35, .int fao_36])), (tp, .inr (5, [.ref by_, .int (nI T)])), (by_, .inl (cI, 260, .inl fb)), (lw, .inr (1, [.ref l1, .ref l2, .ref l3, .ref l4, .ref l5, .ref l6, .ref l7, .int (nI zo_37), .int (nI k)])), (l1, .inl (cI, 240, .inl l1o_38))] := hD
            refine lv_aload_n hx hb dX2_readSum_75 rfl (lv_at hl 1 rfl) ?_
            refine va_get (D := D) (ci := 2) (v := .ref lw) (C := RX2) (T := TX2) (N := 2) hx hb htb itX2 hown hK hP 0 rfl rfl 1 (by decide) (htb _ k_289) (fun _ h9 => h9) rfl dX2_readSum_76 ?_
            refine lv_iload_n hx hb dX2_readSum_79 rfl (lv_at hl 0 rfl) ?_
            refine lv_iconst (v := 0) hx hb dX2_readSum_80 (by decide) ?_
            refine cVV (As := [.int 6, .int 0]) (rest := []) (n := 2) (ci := 1) (q0 := 0) (wr := [(h0, .inr (2, [.ref tx, .ref lw])), (tx, .inr (6, [.ref tp, .int ed, .int plo_35, .int fao_36])), (tp, .inr (5, [.ref by_, .int (nI T)])), (by_, .inl (cI, 260, .inl fb))]) X hN hK hP hD hS hA (c_X1_addStep l D cI cB _ lw l1 l2 l3 l4 l5 l6 l7 zo_37 k 6 0 l1o_38 hw_39 hk) (gV k_594 k_595 k_596 k_97 k_597) (by decide +kernel) ⟨Nat.le_of_ble_eq_true rfl, Nat.le_of_ble_eq_true rfl⟩ ⟨rfl, rfl⟩ [4, 5] [0, 1, 2, 3] rfl rfl (by decide) (by decide) rfl rfl rfl rfl rfl hl.1 (Nat.le_of_ble_eq_true rfl) dX2_readSum_81 ⟨Nat.le_of_ble_eq_true rfl, Nat.le_of_ble_eq_true rfl⟩ (fun u H locs hw_43 hP hD hS => ?_)
            obtain ⟨zo_41, l1_fo_42⟩ := u
            try dsimp only at hw_43
            have hP : va_P D vwCl [(h0, .inr (2, [.ref tx, .ref lw])), (tx, .inr (6, [.ref tp, .int ed, .int plo_35, .int fao_36])), (tp, .inr (5, [.ref by_, .int (nI T)])), (by_, .inl (cI, 260, .inl fb)), (lw, .inr (1, [.ref l1, .ref l2, .ref l3, .ref l4, .ref l5, .ref l6, .ref l7, .int (nI zo_41), .int (nI k)])), (l1, .inl (cI, 240, .inl l1_fo_42))] H := hP
            have hD : va_D A [(h0, .inr (2, [.ref tx, .ref lw])), (tx, .inr (6, [.ref tp, .int ed, .int plo_35, .int fao_36])), (tp, .inr (5, [.ref by_, .int (nI T)])), (by_, .inl (cI, 260, .inl fb)), (lw, .inr (1, [.ref l1, .ref l2, .ref l3, .ref l4, .ref l5, .ref l6, .ref l7, .int (nI zo_41), .int (nI k)])), (l1, .inl (cI, 240, .inl l1_fo_42))] := hD
            refine lv_iinc (v := (nI (i + 1))) (lv' := [(2, .int (nI (i + 1))), (3, .int 6), (0, .ref h0), (1, .int 3)]) hx hb dX2_readSum_84 hl (k := 3) rfl (nI_1 i) (by decide) rfl (fun ls hl => ?_)
            refine lv_goto (tgt := 7) hx hb dX2_readSum_87 (by decide) ?_
            exact ih_7 (i + 1) plo_35 fao_36 zo_41 l1_fo_42 (by omega) hw_43 _ _ (hP.sub [0, 1, 2, 3, 4, 5] rfl) (hD.sub [0, 1, 2, 3, 4, 5] (by decide) rfl) hS _ (lv_sub hl [2, 3, 0] rfl)
          · refine lv_iconst (v := 5) hx hb dX2_readSum_50 (by decide) ?_
            refine lv_goto (tgt := 56) hx hb dX2_readSum_51 (by decide) ?_
            refine lv_istore_n (lv' := [(3, .int 5), (0, .ref h0), (1, .int 3), (2, .int (nI i))]) hx hb dX2_readSum_56 rfl hl (by decide) rfl (fun ls hl => ?_)
            refine lv_aload_n hx hb dX2_readSum_57 rfl (lv_at hl 1 rfl) ?_
            refine va_get (D := D) (ci := 2) (v := .ref tx) (C := RX2) (T := TX2) (N := 2) hx hb htb itX2 hown hK hP 0 rfl rfl 0 (by decide) (htb _ k_288) (fun _ h9 => h9) rfl dX2_readSum_58 ?_
            refine lv_dup hx hb dX2_readSum_61 rfl ?_
            refine va_getN (D := D) (ci := 6) (v := .int pa) (C := RX6) (T := TX6) (N := 4) hx hb htb itX6 hown hK hP 1 rfl rfl 2 (by decide) (va_Nw.use rfl (hN _ n_264 rfl)) (fun _ h9 => h9) rfl dX2_readSum_62 ?_
            refine lv_iconst (v := 1) hx hb dX2_readSum_65 (by decide) ?_
            refine lv_iadd hx hb dX2_readSum_66 ?_
            refine lv_topi (fun x_44 ex_44 => ?_)
            refine va_putN (D := D) (ci := 6) (v := .int x_44) (ty := .int) (C := RX6) (T := TX6) (N := 4) hx hb htb itX6 tyX6 tyX6_ok nmX6 hown hK hP hD hS 1 rfl rfl 2 (by decide) (va_Nw.use rfl (hN _ n_264 rfl)) (fun _ h9 => h9) rfl (tyX6_ok 2 (by decide)) rfl rfl (Nat.le_of_ble_eq_true rfl) dX2_readSum_67 (fun H locs hP hD hS => ?_)
            have hP : va_P D vwCl [(h0, .inr (2, [.ref tx, .ref lw])), (tx, .inr (6, [.ref tp, .int ed, .int x_44, .int fb_])), (tp, .inr (5, [.ref by_, .int (nI T)])), (by_, .inl (cI, 260, .inl fb)), (lw, .inr (1, [.ref l1, .ref l2, .ref l3, .ref l4, .ref l5, .ref l6, .ref l7, .int (nI za), .int (nI k)])), (l1, .inl (cI, 240, .inl qa))] H := hP
            have hD : va_D A [(h0, .inr (2, [.ref tx, .ref lw])), (tx, .inr (6, [.ref tp, .int ed, .int x_44, .int fb_])), (tp, .inr (5, [.ref by_, .int (nI T)])), (by_, .inl (cI, 260, .inl fb)), (lw, .inr (1, [.ref l1, .ref l2, .ref l3, .ref l4, .ref l5, .ref l6, .ref l7, .int (nI za), .int (nI k)])), (l1, .inl (cI, 240, .inl qa))] := hD
            refine lv_aload_n hx hb dX2_readSum_70 rfl (lv_at hl 1 rfl) ?_
            refine lv_iload_n hx hb dX2_readSum_71 rfl (lv_at hl 2 rfl) ?_
            refine cVVk (As := [.int 3]) (rest := []) (n := 1) (ci := 2) (q0 := 0) (wr := []) X hN hKO hK hP hD hS hA (c_readTerm_3 l D cI cB _ kk h0 tx tp ed x_44 fb_ by_ T fb lw l1 l2 l3 l4 l5 l6 l7 za k qa hT hza hk) (gV k_585 k_587 k_3 k_99 k_588) (by decide +kernel) ⟨Nat.le_of_ble_eq_true rfl, Nat.le_of_ble_eq_true rfl⟩ ⟨rfl, rfl⟩ [0, 1, 2, 3, 4, 5] [] rfl rfl (by decide) (by decide) rfl rfl rfl rfl rfl hl.1 (Nat.le_of_ble_eq_true rfl) dX2_readSum_72 ⟨Nat.le_of_ble_eq_true rfl, Nat.le_of_ble_eq_true rfl⟩ (fun u H locs hw_50 hP hD hS => ?_)
            obtain ⟨plo_46, fao_47, zo_48, l1o_49⟩ := u
            try dsimp only at hw_50
            have hP : va_P D vwCl [(h0, .inr (2, [.ref tx, .ref lw])), (tx, .inr (6, [.ref tp, .int ed, .int plo_46, .int fao_47])), (tp, .inr (5, [.ref by_, .int (nI T)])), (by_, .inl (cI, 260, .inl fb)), (lw, .inr (1, [.ref l1, .ref l2, .ref l3, .ref l4, .ref l5, .ref l6, .ref l7, .int (nI zo_48), .int (nI k)])), (l1, .inl (cI, 240, .inl l1o_49))] H := hP
            have hD : va_D A [(h0, .inr (2, [.ref tx, .ref lw])), (tx, .inr (6, [.ref tp, .int ed, .int plo_46, .int fao_47])), (tp, .inr (5, [.ref by_, .int (nI T)])), (by_, .inl (cI, 260, .inl fb)), (lw, .inr (1, [.ref l1, .ref l2, .ref l3, .ref l4, .ref l5, .ref l6, .ref l7, .int (nI zo_48), .int (nI k)])), (l1, .inl (cI, 240, .inl l1o_49))] := hD
            refine lv_aload_n hx hb dX2_readSum_75 rfl (lv_at hl 1 rfl) ?_
            refine va_get (D := D) (ci := 2) (v := .ref lw) (C := RX2) (T := TX2) (N := 2) hx hb htb itX2 hown hK hP 0 rfl rfl 1 (by decide) (htb _ k_289) (fun _ h9 => h9) rfl dX2_readSum_76 ?_
            refine lv_iload_n hx hb dX2_readSum_79 rfl (lv_at hl 0 rfl) ?_
            refine lv_iconst (v := 0) hx hb dX2_readSum_80 (by decide) ?_
            refine cVV (As := [.int 5, .int 0]) (rest := []) (n := 2) (ci := 1) (q0 := 0) (wr := [(h0, .inr (2, [.ref tx, .ref lw])), (tx, .inr (6, [.ref tp, .int ed, .int plo_46, .int fao_47])), (tp, .inr (5, [.ref by_, .int (nI T)])), (by_, .inl (cI, 260, .inl fb))]) X hN hK hP hD hS hA (c_X1_addStep l D cI cB _ lw l1 l2 l3 l4 l5 l6 l7 zo_48 k 5 0 l1o_49 hw_50 hk) (gV k_594 k_595 k_596 k_97 k_597) (by decide +kernel) ⟨Nat.le_of_ble_eq_true rfl, Nat.le_of_ble_eq_true rfl⟩ ⟨rfl, rfl⟩ [4, 5] [0, 1, 2, 3] rfl rfl (by decide) (by decide) rfl rfl rfl rfl rfl hl.1 (Nat.le_of_ble_eq_true rfl) dX2_readSum_81 ⟨Nat.le_of_ble_eq_true rfl, Nat.le_of_ble_eq_true rfl⟩ (fun u H locs hw_54 hP hD hS => ?_)
            obtain ⟨zo_52, l1_fo_53⟩ := u
            try dsimp only at hw_54
            have hP : va_P D vwCl [(h0, .inr (2, [.ref tx, .ref lw])), (tx, .inr (6, [.ref tp, .int ed, .int plo_46, .int fao_47])), (tp, .inr (5, [.ref by_, .int (nI T)])), (by_, .inl (cI, 260, .inl fb)), (lw, .inr (1, [.ref l1, .ref l2, .ref l3, .ref l4, .ref l5, .ref l6, .ref l7, .int (nI zo_52), .int (nI k)])), (l1, .inl (cI, 240, .inl l1_fo_53))] H := hP
            have hD : va_D A [(h0, .inr (2, [.ref tx, .ref lw])), (tx, .inr (6, [.ref tp, .int ed, .int plo_46, .int fao_47])), (tp, .inr (5, [.ref by_, .int (nI T)])), (by_, .inl (cI, 260, .inl fb)), (lw, .inr (1, [.ref l1, .ref l2, .ref l3, .ref l4, .ref l5, .ref l6, .ref l7, .int (nI zo_52), .int (nI k)])), (l1, .inl (cI, 240, .inl l1_fo_53))] := hD
            refine lv_iinc (v := (nI (i + 1))) (lv' := [(2, .int (nI (i + 1))), (3, .int 5), (0, .ref h0), (1, .int 3)]) hx hb dX2_readSum_84 hl (k := 3) rfl (nI_1 i) (by decide) rfl (fun ls hl => ?_)
            refine lv_goto (tgt := 7) hx hb dX2_readSum_87 (by decide) ?_
            exact ih_7 (i + 1) plo_46 fao_47 zo_52 l1_fo_53 (by omega) hw_54 _ _ (hP.sub [0, 1, 2, 3, 4, 5] rfl) (hD.sub [0, 1, 2, 3, 4, 5] (by decide) rfl) hS _ (lv_sub hl [2, 3, 0] rfl)
  exact loop_7 240 0 plo_2 fao_3 zo_4 l1o_5 (by omega) hw_6 _ _ (hP.sub [0, 1, 2, 3, 4, 5] rfl) (hD.sub [0, 1, 2, 3, 4, 5] (by decide) rfl) hS _ (lv_sub hl [1, 2, 0] rfl)

set_option maxRecDepth 100000 in
set_option maxHeartbeats 4000000 in
theorem c_readFactor_2 (l : Launch) (D : va_G) (cI cB : ClassId) (sz : Nat) (kk : KT) (h0 : Nat) (tx : Nat) (tp : Nat) (ed : Int32) (pl : Int32) (fa : Int32) (by_ : Nat) (T : Nat) (fb : Nat → Int32) (lw : Nat) (l1 : Nat) (l2 : Nat) (l3 : Nat) (l4 : Nat) (l5 : Nat) (l6 : Nat) (l7 : Nat) (z : Nat) (k : Nat) (q1 : Nat → Int32) (hT : T ≤ 260) (hz : z ≤ 240) (hk : k ≤ 16) : MVk (S := ((Int32) × (Int32) × (Nat) × (Nat → Int32))) l D cI cB kk yX2_readFactor cX2_readFactor 3 (rm 17 385) [.ref h0, .int 2] [(h0, .inr (2, [.ref tx, .ref lw])), (tx, .inr (6, [.ref tp, .int ed, .int pl, .int fa])), (tp, .inr (5, [.ref by_, .int (nI T)])), (by_, .inl (cI, 260, .inl fb)), (lw, .inr (1, [.ref l1, .ref l2, .ref l3, .ref l4, .ref l5, .ref l6, .ref l7, .int (nI z), .int (nI k)])), (l1, .inl (cI, 240, .inl q1))] sz (fun u => u.2.2.1 ≤ 240) (fun u : ((Int32) × (Int32) × (Nat) × (Nat → Int32)) => [(h0, .inr (2, [.ref tx, .ref lw])), (tx, .inr (6, [.ref tp, .int ed, .int u.1, .int u.2.1])), (tp, .inr (5, [.ref by_, .int (nI T)])), (by_, .inl (cI, 260, .inl fb)), (lw, .inr (1, [.ref l1, .ref l2, .ref l3, .ref l4, .ref l5, .ref l6, .ref l7, .int (nI u.2.2.1), .int (nI k)])), (l1, .inl (cI, 240, .inl u.2.2.2))]) := by
  refine MVk.of (by decide) (Nat.le_of_ble_eq_true rfl) ?_
  intro p e s m below meth c Q ls A X hin hN hKO hP hK hD hA hl ret
  have hS : va_S A s.heap s.heap [] := va_S.rf
  obtain ⟨hx, hb, hml, hown, htb⟩ := id X
  have hl : lv_has ls 3 [(0, .ref h0), (1, .int 2)] := hl
  refine lv_aload_n hx hb dX2_readFactor_0 rfl (lv_at hl 0 rfl) ?_
  refine va_ldcS hx hb hown hKO.2.2.2.2.2 dX2_readFactor_1 ?_
  refine cVRk (As := [.ref (kk.2.1 1)]) (rest := []) (n := 1) (ci := 2) (q0 := 0) X hN hKO hS hK hP (c_placeIn1 l D cI cB kk h0 lw tx tp ed pl fa by_ T fb hT) (gV k_479 k_481 k_1 k_99 k_482) (by decide +kernel) ⟨Nat.le_of_ble_eq_true rfl, Nat.le_of_ble_eq_true rfl⟩ ⟨rfl, rfl⟩ [0, 1, 2, 3] rfl rfl rfl rfl rfl rfl hl.1 (Nat.le_of_ble_eq_true rfl) dX2_readFactor_3 ⟨Nat.le_of_ble_eq_true rfl, Nat.le_of_ble_eq_true rfl⟩ (fun r_1 hr_1 => ?_)
  refine lv_istore_n (lv' := [(2, .int r_1), (0, .ref h0), (1, .int 2)]) hx hb dX2_readFactor_6 rfl hl (by decide) rfl (fun ls hl => ?_)
  refine lv_iload_n hx hb dX2_readFactor_7 rfl (lv_at hl 0 rfl) ?_
  refine lv_if_lt (tgt := 36) hx hb dX2_readFactor_8 (by decide) (fun c_8 => ?_) (fun c_8 => ?_)
  · refine lv_aload_n hx hb dX2_readFactor_36 rfl (lv_at hl 1 rfl) ?_
    refine va_get (D := D) (ci := 2) (v := .ref tx) (C := RX2) (T := TX2) (N := 2) hx hb htb itX2 hown hK hP 0 rfl rfl 0 (by decide) (htb _ k_288) (fun _ h9 => h9) rfl dX2_readFactor_37 ?_
    refine cVR (As := []) (rest := []) (n := 0) (ci := 6) (q0 := 0) X hN hK hP (c_X6_sign l D cI cB tx tp ed pl fa by_ T fb hT) (gV k_483 k_484 k_485 k_98 k_486) (by decide +kernel) ⟨Nat.le_of_ble_eq_true rfl, Nat.le_of_ble_eq_true rfl⟩ ⟨rfl, rfl⟩ [1, 2, 3] rfl rfl rfl rfl rfl rfl hl.1 (Nat.le_of_ble_eq_true rfl) dX2_readFactor_40 ⟨Nat.le_of_ble_eq_true rfl, Nat.le_of_ble_eq_true rfl⟩ (fun r_2 hr_2 => ?_)
    subst hr_2
    refine lv_bipush (v := 91) hx hb dX2_readFactor_43 (by decide) ?_
    refine lv_icmp_ne (tgt := 75) hx hb dX2_readFactor_45 (by decide) (fun c_45 => ?_) (fun c_45 => ?_)
    · refine lv_aload_n hx hb dX2_readFactor_75 rfl (lv_at hl 1 rfl) ?_
      refine va_get (D := D) (ci := 2) (v := .ref lw) (C := RX2) (T := TX2) (N := 2) hx hb htb itX2 hown hK hP 0 rfl rfl 1 (by decide) (htb _ k_289) (fun _ h9 => h9) rfl dX2_readFactor_76 ?_
      refine lv_iconst (v := 0) hx hb dX2_readFactor_79 (by decide) ?_
      refine lv_aload_n hx hb dX2_readFactor_80 rfl (lv_at hl 1 rfl) ?_
      refine va_get (D := D) (ci := 2) (v := .ref tx) (C := RX2) (T := TX2) (N := 2) hx hb htb itX2 hown hK hP 0 rfl rfl 0 (by decide) (htb _ k_288) (fun _ h9 => h9) rfl dX2_readFactor_81 ?_
      refine lv_iconst (v := 5) hx hb dX2_readFactor_84 (by decide) ?_
      refine lv_iconst (v := 2) hx hb dX2_readFactor_85 (by decide) ?_
      refine cVI (As := [.int 5, .int 2]) (rest := [.int 0, .ref lw]) (n := 2) (ci := 6) (q0 := 0) (wr := [(h0, .inr (2, [.ref tx, .ref lw])), (lw, .inr (1, [.ref l1, .ref l2, .ref l3, .ref l4, .ref l5, .ref l6, .ref l7, .int (nI z), .int (nI k)])), (l1, .inl (cI, 240, .inl q1))]) X hN hK hP hD hS hA (c_X6_number l D cI cB _ tx tp ed pl fa by_ T fb 5 2 hT (by decide)) (gV k_612 k_613 k_614 k_98 k_615) (by decide +kernel) ⟨Nat.le_of_ble_eq_true rfl, Nat.le_of_ble_eq_true rfl⟩ ⟨rfl, rfl⟩ [1, 2, 3] [0, 4, 5] rfl rfl (by decide) (by decide) rfl rfl rfl rfl rfl hl.1 (Nat.le_of_ble_eq_true rfl) dX2_readFactor_86 ⟨Nat.le_of_ble_eq_true rfl, Nat.le_of_ble_eq_true rfl⟩ (fun r_3 u H locs hw_6 hP hD hS => ?_)
      obtain ⟨h0_2o_4, h0_3o_5⟩ := u
      try dsimp only at hw_6
      have hP : va_P D vwCl [(h0, .inr (2, [.ref tx, .ref lw])), (lw, .inr (1, [.ref l1, .ref l2, .ref l3, .ref l4, .ref l5, .ref l6, .ref l7, .int (nI z), .int (nI k)])), (l1, .inl (cI, 240, .inl q1)), (tx, .inr (6, [.ref tp, .int ed, .int h0_2o_4, .int h0_3o_5])), (tp, .inr (5, [.ref by_, .int (nI T)])), (by_, .inl (cI, 260, .inl fb))] H := hP
      have hD : va_D A [(h0, .inr (2, [.ref tx, .ref lw])), (lw, .inr (1, [.ref l1, .ref l2, .ref l3, .ref l4, .ref l5, .ref l6, .ref l7, .int (nI z), .int (nI k)])), (l1, .inl (cI, 240, .inl q1)), (tx, .inr (6, [.ref tp, .int ed, .int h0_2o_4, .int h0_3o_5])), (tp, .inr (5, [.ref by_, .int (nI T)])), (by_, .inl (cI, 260, .inl fb))] := hD
      refine cVV (As := [.int 0, .int r_3]) (rest := []) (n := 2) (ci := 1) (q0 := 0) (wr := [(h0, .inr (2, [.ref tx, .ref lw])), (tx, .inr (6, [.ref tp, .int ed, .int h0_2o_4, .int h0_3o_5])), (tp, .inr (5, [.ref by_, .int (nI T)])), (by_, .inl (cI, 260, .inl fb))]) X hN hK hP hD hS hA (c_X1_addStep l D cI cB _ lw l1 l2 l3 l4 l5 l6 l7 z k 0 r_3 q1 hz hk) (gV k_594 k_595 k_596 k_97 k_597) (by decide +kernel) ⟨Nat.le_of_ble_eq_true rfl, Nat.le_of_ble_eq_true rfl⟩ ⟨rfl, rfl⟩ [1, 2] [0, 3, 4, 5] rfl rfl (by decide) (by decide) rfl rfl rfl rfl rfl hl.1 (Nat.le_of_ble_eq_true rfl) dX2_readFactor_89 ⟨Nat.le_of_ble_eq_true rfl, Nat.le_of_ble_eq_true rfl⟩ (fun u H locs hw_10 hP hD hS => ?_)
      obtain ⟨zo_8, l1_fo_9⟩ := u
      try dsimp only at hw_10
      have hP : va_P D vwCl [(h0, .inr (2, [.ref tx, .ref lw])), (tx, .inr (6, [.ref tp, .int ed, .int h0_2o_4, .int h0_3o_5])), (tp, .inr (5, [.ref by_, .int (nI T)])), (by_, .inl (cI, 260, .inl fb)), (lw, .inr (1, [.ref l1, .ref l2, .ref l3, .ref l4, .ref l5, .ref l6, .ref l7, .int (nI zo_8), .int (nI k)])), (l1, .inl (cI, 240, .inl l1_fo_9))] H := hP
      have hD : va_D A [(h0, .inr (2, [.ref tx, .ref lw])), (tx, .inr (6, [.ref tp, .int ed, .int h0_2o_4, .int h0_3o_5])), (tp, .inr (5, [.ref by_, .int (nI T)])), (by_, .inl (cI, 260, .inl fb)), (lw, .inr (1, [.ref l1, .ref l2, .ref l3, .ref l4, .ref l5, .ref l6, .ref l7, .int (nI zo_8), .int (nI k)])), (l1, .inl (cI, 240, .inl l1_fo_9))] := hD
      exact ret _ _ _ _ (h0_2o_4, h0_3o_5, zo_8, l1_fo_9) dX2_readFactor_92 hw_10 (hP.sub [0, 1, 2, 3, 4, 5] rfl) (hD.sub [0, 1, 2, 3, 4, 5] (by decide) rfl) hS
    · refine lv_aload_n hx hb dX2_readFactor_48 rfl (lv_at hl 1 rfl) ?_
      refine lv_iload_n hx hb dX2_readFactor_49 rfl (lv_at hl 2 rfl) ?_
      refine cVI (As := [.int 2]) (rest := []) (n := 1) (ci := 2) (q0 := 0) (wr := [(tp, .inr (5, [.ref by_, .int (nI T)])), (by_, .inl (cI, 260, .inl fb)), (lw, .inr (1, [.ref l1, .ref l2, .ref l3, .ref l4, .ref l5, .ref l6, .ref l7, .int (nI z), .int (nI k)])), (l1, .inl (cI, 240, .inl q1))]) X hN hK hP hD hS hA (c_X2_opens l D cI cB _ h0 lw tx tp ed pl fa 2) (gV k_598 k_600 k_5 k_99 k_601) (by decide +kernel) ⟨Nat.le_of_ble_eq_true rfl, Nat.le_of_ble_eq_true rfl⟩ ⟨rfl, rfl⟩ [0, 1] [2, 3, 4, 5] rfl rfl (by decide) (by decide) rfl rfl rfl rfl rfl hl.1 (Nat.le_of_ble_eq_true rfl) dX2_readFactor_50 ⟨Nat.le_of_ble_eq_true rfl, Nat.le_of_ble_eq_true rfl⟩ (fun r_11 u H locs hw_14 hP hD hS => ?_)
      obtain ⟨tx_2o_12, tx_3o_13⟩ := u
      try dsimp only at hw_14
      have hP : va_P D vwCl [(tp, .inr (5, [.ref by_, .int (nI T)])), (by_, .inl (cI, 260, .inl fb)), (lw, .inr (1, [.ref l1, .ref l2, .ref l3, .ref l4, .ref l5, .ref l6, .ref l7, .int (nI z), .int (nI k)])), (l1, .inl (cI, 240, .inl q1)), (h0, .inr (2, [.ref tx, .ref lw])), (tx, .inr (6, [.ref tp, .int ed, .int tx_2o_12, .int tx_3o_13]))] H := hP
      have hD : va_D A [(tp, .inr (5, [.ref by_, .int (nI T)])), (by_, .inl (cI, 260, .inl fb)), (lw, .inr (1, [.ref l1, .ref l2, .ref l3, .ref l4, .ref l5, .ref l6, .ref l7, .int (nI z), .int (nI k)])), (l1, .inl (cI, 240, .inl q1)), (h0, .inr (2, [.ref tx, .ref lw])), (tx, .inr (6, [.ref tp, .int ed, .int tx_2o_12, .int tx_3o_13]))] := hD
      obtain rfl : r_11 = 1 := hw_14.trans (by decide)
      refine lv_if_eq (tgt := 92) hx hb dX2_readFactor_53 (by decide) (fun c_53 => absurd c_53 (by decide)) (fun _ => ?_)
      refine lv_aload_n hx hb dX2_readFactor_56 rfl (lv_at hl 1 rfl) ?_
      refine lv_iload_n hx hb dX2_readFactor_57 rfl (lv_at hl 2 rfl) ?_
      refine lv_iconst (v := 1) hx hb dX2_readFactor_58 (by decide) ?_
      refine lv_iadd hx hb dX2_readFactor_59 ?_
      refine tv (z := 3) (by decide) ?_
      refine cVVk (As := [.int 3]) (rest := []) (n := 1) (ci := 2) (q0 := 0) (wr := []) X hN hKO hK hP hD hS hA (c_readSum_3 l D cI cB _ kk h0 tx tp ed tx_2o_12 tx_3o_13 by_ T fb lw l1 l2 l3 l4 l5 l6 l7 z k q1 hT hz hk) (gV k_581 k_583 k_2 k_99 k_584) (by decide +kernel) ⟨Nat.le_of_ble_eq_true rfl, Nat.le_of_ble_eq_true rfl⟩ ⟨rfl, rfl⟩ [4, 5, 0, 1, 2, 3] [] rfl rfl (by decide) (by decide) rfl rfl rfl rfl rfl hl.1 (Nat.le_of_ble_eq_true rfl) dX2_readFactor_60 ⟨Nat.le_of_ble_eq_true rfl, Nat.le_of_ble_eq_true rfl⟩ (fun u H locs hw_20 hP hD hS => ?_)
      obtain ⟨plo_16, fao_17, zo_18, l1o_19⟩ := u
      try dsimp only at hw_20
      have hP : va_P D vwCl [(h0, .inr (2, [.ref tx, .ref lw])), (tx, .inr (6, [.ref tp, .int ed, .int plo_16, .int fao_17])), (tp, .inr (5, [.ref by_, .int (nI T)])), (by_, .inl (cI, 260, .inl fb)), (lw, .inr (1, [.ref l1, .ref l2, .ref l3, .ref l4, .ref l5, .ref l6, .ref l7, .int (nI zo_18), .int (nI k)])), (l1, .inl (cI, 240, .inl l1o_19))] H := hP
      have hD : va_D A [(h0, .inr (2, [.ref tx, .ref lw])), (tx, .inr (6, [.ref tp, .int ed, .int plo_16, .int fao_17])), (tp, .inr (5, [.ref by_, .int (nI T)])), (by_, .inl (cI, 260, .inl fb)), (lw, .inr (1, [.ref l1, .ref l2, .ref l3, .ref l4, .ref l5, .ref l6, .ref l7, .int (nI zo_18), .int (nI k)])), (l1, .inl (cI, 240, .inl l1o_19))] := hD
      refine lv_aload_n hx hb dX2_readFactor_63 rfl (lv_at hl 1 rfl) ?_
      refine va_get (D := D) (ci := 2) (v := .ref tx) (C := RX2) (T := TX2) (N := 2) hx hb htb itX2 hown hK hP 0 rfl rfl 0 (by decide) (htb _ k_288) (fun _ h9 => h9) rfl dX2_readFactor_64 ?_
      refine lv_bipush (v := 93) hx hb dX2_readFactor_67 (by decide) ?_
      refine cVV (As := [.int 93]) (rest := []) (n := 1) (ci := 6) (q0 := 0) (wr := [(h0, .inr (2, [.ref tx, .ref lw])), (lw, .inr (1, [.ref l1, .ref l2, .ref l3, .ref l4, .ref l5, .ref l6, .ref l7, .int (nI zo_18), .int (nI k)])), (l1, .inl (cI, 240, .inl l1o_19))]) X hN hK hP hD hS hA (c_X6_expect l D cI cB _ tx tp ed plo_16 fao_17 by_ T fb 93 hT) (gV k_602 k_603 k_604 k_98 k_605) (by decide +kernel) ⟨Nat.le_of_ble_eq_true rfl, Nat.le_of_ble_eq_true rfl⟩ ⟨rfl, rfl⟩ [1, 2, 3] [0, 4, 5] rfl rfl (by decide) (by decide) rfl rfl rfl rfl rfl hl.1 (Nat.le_of_ble_eq_true rfl) dX2_readFactor_69 ⟨Nat.le_of_ble_eq_true rfl, Nat.le_of_ble_eq_true rfl⟩ (fun u H locs hw_24 hP hD hS => ?_)
      obtain ⟨h0_2o_22, h0_3o_23⟩ := u
      try dsimp only at hw_24
      have hP : va_P D vwCl [(h0, .inr (2, [.ref tx, .ref lw])), (lw, .inr (1, [.ref l1, .ref l2, .ref l3, .ref l4, .ref l5, .ref l6, .ref l7, .int (nI zo_18), .int (nI k)])), (l1, .inl (cI, 240, .inl l1o_19)), (tx, .inr (6, [.ref tp, .int ed, .int h0_2o_22, .int h0_3o_23])), (tp, .inr (5, [.ref by_, .int (nI T)])), (by_, .inl (cI, 260, .inl fb))] H := hP
      have hD : va_D A [(h0, .inr (2, [.ref tx, .ref lw])), (lw, .inr (1, [.ref l1, .ref l2, .ref l3, .ref l4, .ref l5, .ref l6, .ref l7, .int (nI zo_18), .int (nI k)])), (l1, .inl (cI, 240, .inl l1o_19)), (tx, .inr (6, [.ref tp, .int ed, .int h0_2o_22, .int h0_3o_23])), (tp, .inr (5, [.ref by_, .int (nI T)])), (by_, .inl (cI, 260, .inl fb))] := hD
      refine lv_goto (tgt := 92) hx hb dX2_readFactor_72 (by decide) ?_
      exact ret _ _ _ _ (h0_2o_22, h0_3o_23, zo_18, l1o_19) dX2_readFactor_92 hw_20 (hP.sub [0, 3, 4, 5, 1, 2] rfl) (hD.sub [0, 3, 4, 5, 1, 2] (by decide) rfl) hS
  · refine lv_aload_n hx hb dX2_readFactor_11 rfl (lv_at hl 1 rfl) ?_
    refine va_get (D := D) (ci := 2) (v := .ref tx) (C := RX2) (T := TX2) (N := 2) hx hb htb itX2 hown hK hP 0 rfl rfl 0 (by decide) (htb _ k_288) (fun _ h9 => h9) rfl dX2_readFactor_12 ?_
    refine lv_dup hx hb dX2_readFactor_15 rfl ?_
    refine va_getN (D := D) (ci := 6) (v := .int pl) (C := RX6) (T := TX6) (N := 4) hx hb htb itX6 hown hK hP 1 rfl rfl 2 (by decide) (va_Nw.use rfl (hN _ n_264 rfl)) (fun _ h9 => h9) rfl dX2_readFactor_16 ?_
    refine lv_iconst (v := 1) hx hb dX2_readFactor_19 (by decide) ?_
    refine lv_iadd hx hb dX2_readFactor_20 ?_
    refine lv_topi (fun x_25 ex_25 => ?_)
    refine va_putN (D := D) (ci := 6) (v := .int x_25) (ty := .int) (C := RX6) (T := TX6) (N := 4) hx hb htb itX6 tyX6 tyX6_ok nmX6 hown hK hP hD hS 1 rfl rfl 2 (by decide) (va_Nw.use rfl (hN _ n_264 rfl)) (fun _ h9 => h9) rfl (tyX6_ok 2 (by decide)) rfl rfl (Nat.le_of_ble_eq_true rfl) dX2_readFactor_21 (fun H locs hP hD hS => ?_)
    have hP : va_P D vwCl [(h0, .inr (2, [.ref tx, .ref lw])), (tx, .inr (6, [.ref tp, .int ed, .int x_25, .int fa])), (tp, .inr (5, [.ref by_, .int (nI T)])), (by_, .inl (cI, 260, .inl fb)), (lw, .inr (1, [.ref l1, .ref l2, .ref l3, .ref l4, .ref l5, .ref l6, .ref l7, .int (nI z), .int (nI k)])), (l1, .inl (cI, 240, .inl q1))] H := hP
    have hD : va_D A [(h0, .inr (2, [.ref tx, .ref lw])), (tx, .inr (6, [.ref tp, .int ed, .int x_25, .int fa])), (tp, .inr (5, [.ref by_, .int (nI T)])), (by_, .inl (cI, 260, .inl fb)), (lw, .inr (1, [.ref l1, .ref l2, .ref l3, .ref l4, .ref l5, .ref l6, .ref l7, .int (nI z), .int (nI k)])), (l1, .inl (cI, 240, .inl q1))] := hD
    refine lv_aload_n hx hb dX2_readFactor_24 rfl (lv_at hl 1 rfl) ?_
    refine va_get (D := D) (ci := 2) (v := .ref lw) (C := RX2) (T := TX2) (N := 2) hx hb htb itX2 hown hK hP 0 rfl rfl 1 (by decide) (htb _ k_289) (fun _ h9 => h9) rfl dX2_readFactor_25 ?_
    refine lv_iconst (v := 1) hx hb dX2_readFactor_28 (by decide) ?_
    refine lv_iload_n hx hb dX2_readFactor_29 rfl (lv_at hl 0 rfl) ?_
    refine cVV (As := [.int 1, .int r_1]) (rest := []) (n := 2) (ci := 1) (q0 := 0) (wr := [(h0, .inr (2, [.ref tx, .ref lw])), (tx, .inr (6, [.ref tp, .int ed, .int x_25, .int fa])), (tp, .inr (5, [.ref by_, .int (nI T)])), (by_, .inl (cI, 260, .inl fb))]) X hN hK hP hD hS hA (c_X1_addStep l D cI cB _ lw l1 l2 l3 l4 l5 l6 l7 z k 1 r_1 q1 hz hk) (gV k_594 k_595 k_596 k_97 k_597) (by decide +kernel) ⟨Nat.le_of_ble_eq_true rfl, Nat.le_of_ble_eq_true rfl⟩ ⟨rfl, rfl⟩ [4, 5] [0, 1, 2, 3] rfl rfl (by decide) (by decide) rfl rfl rfl rfl rfl hl.1 (Nat.le_of_ble_eq_true rfl) dX2_readFactor_30 ⟨Nat.le_of_ble_eq_true rfl, Nat.le_of_ble_eq_true rfl⟩ (fun u H locs hw_29 hP hD hS => ?_)
    obtain ⟨zo_27, l1_fo_28⟩ := u
    try dsimp only at hw_29
    have hP : va_P D vwCl [(h0, .inr (2, [.ref tx, .ref lw])), (tx, .inr (6, [.ref tp, .int ed, .int x_25, .int fa])), (tp, .inr (5, [.ref by_, .int (nI T)])), (by_, .inl (cI, 260, .inl fb)), (lw, .inr (1, [.ref l1, .ref l2, .ref l3, .ref l4, .ref l5, .ref l6, .ref l7, .int (nI zo_27), .int (nI k)])), (l1, .inl (cI, 240, .inl l1_fo_28))] H := hP
    have hD : va_D A [(h0, .inr (2, [.ref tx, .ref lw])), (tx, .inr (6, [.ref tp, .int ed, .int x_25, .int fa])), (tp, .inr (5, [.ref by_, .int (nI T)])), (by_, .inl (cI, 260, .inl fb)), (lw, .inr (1, [.ref l1, .ref l2, .ref l3, .ref l4, .ref l5, .ref l6, .ref l7, .int (nI zo_27), .int (nI k)])), (l1, .inl (cI, 240, .inl l1_fo_28))] := hD
    refine lv_goto (tgt := 92) hx hb dX2_readFactor_33 (by decide) ?_
    exact ret _ _ _ _ (x_25, fa, zo_27, l1_fo_28) dX2_readFactor_92 hw_29 (hP.sub [0, 1, 2, 3, 4, 5] rfl) (hD.sub [0, 1, 2, 3, 4, 5] (by decide) rfl) hS

set_option maxRecDepth 100000 in
set_option maxHeartbeats 4000000 in
theorem c_readTerm_2 (l : Launch) (D : va_G) (cI cB : ClassId) (sz : Nat) (kk : KT) (h0 : Nat) (tx : Nat) (tp : Nat) (ed : Int32) (pl : Int32) (fa : Int32) (by_ : Nat) (T : Nat) (fb : Nat → Int32) (lw : Nat) (l1 : Nat) (l2 : Nat) (l3 : Nat) (l4 : Nat) (l5 : Nat) (l6 : Nat) (l7 : Nat) (z : Nat) (k : Nat) (q1 : Nat → Int32) (hT : T ≤ 260) (hz : z ≤ 240) (hk : k ≤ 16) : MVk (S := ((Int32) × (Int32) × (Nat) × (Nat → Int32))) l D cI cB kk yX2_readTerm cX2_readTerm 4 (rm 18 407) [.ref h0, .int 2] [(h0, .inr (2, [.ref tx, .ref lw])), (tx, .inr (6, [.ref tp, .int ed, .int pl, .int fa])), (tp, .inr (5, [.ref by_, .int (nI T)])), (by_, .inl (cI, 260, .inl fb)), (lw, .inr (1, [.ref l1, .ref l2, .ref l3, .ref l4, .ref l5, .ref l6, .ref l7, .int (nI z), .int (nI k)])), (l1, .inl (cI, 240, .inl q1))] sz (fun u => u.2.2.1 ≤ 240) (fun u : ((Int32) × (Int32) × (Nat) × (Nat → Int32)) => [(h0, .inr (2, [.ref tx, .ref lw])), (tx, .inr (6, [.ref tp, .int ed, .int u.1, .int u.2.1])), (tp, .inr (5, [.ref by_, .int (nI T)])), (by_, .inl (cI, 260, .inl fb)), (lw, .inr (1, [.ref l1, .ref l2, .ref l3, .ref l4, .ref l5, .ref l6, .ref l7, .int (nI u.2.2.1), .int (nI k)])), (l1, .inl (cI, 240, .inl u.2.2.2))]) := by
  refine MVk.of (by decide) (Nat.le_of_ble_eq_true rfl) ?_
  intro p e s m below meth c Q ls A X hin hN hKO hP hK hD hA hl ret
  have hS : va_S A s.heap s.heap [] := va_S.rf
  obtain ⟨hx, hb, hml, hown, htb⟩ := id X
  have hl : lv_has ls 4 [(0, .ref h0), (1, .int 2)] := hl
  refine lv_aload_n hx hb dX2_readTerm_0 rfl (lv_at hl 0 rfl) ?_
  refine lv_iload_n hx hb dX2_readTerm_1 rfl (lv_at hl 1 rfl) ?_
  refine cVVk (As := [.int 2]) (rest := []) (n := 1) (ci := 2) (q0 := 0) (wr := []) X hN hKO hK hP hD hS hA (c_readFactor_2 l D cI cB _ kk h0 tx tp ed pl fa by_ T fb lw l1 l2 l3 l4 l5 l6 l7 z k q1 hT hz hk) (gV k_589 k_591 k_4 k_99 k_592) (by decide +kernel) ⟨Nat.le_of_ble_eq_true rfl, Nat.le_of_ble_eq_true rfl⟩ ⟨rfl, rfl⟩ [0, 1, 2, 3, 4, 5] [] rfl rfl (by decide) (by decide) rfl rfl rfl rfl rfl hl.1 (Nat.le_of_ble_eq_true rfl) dX2_readTerm_2 ⟨Nat.le_of_ble_eq_true rfl, Nat.le_of_ble_eq_true rfl⟩ (fun u H locs hw_6 hP hD hS => ?_)
  obtain ⟨plo_2, fao_3, zo_4, l1o_5⟩ := u
  try dsimp only at hw_6
  have hP : va_P D vwCl [(h0, .inr (2, [.ref tx, .ref lw])), (tx, .inr (6, [.ref tp, .int ed, .int plo_2, .int fao_3])), (tp, .inr (5, [.ref by_, .int (nI T)])), (by_, .inl (cI, 260, .inl fb)), (lw, .inr (1, [.ref l1, .ref l2, .ref l3, .ref l4, .ref l5, .ref l6, .ref l7, .int (nI zo_4), .int (nI k)])), (l1, .inl (cI, 240, .inl l1o_5))] H := hP
  have hD : va_D A [(h0, .inr (2, [.ref tx, .ref lw])), (tx, .inr (6, [.ref tp, .int ed, .int plo_2, .int fao_3])), (tp, .inr (5, [.ref by_, .int (nI T)])), (by_, .inl (cI, 260, .inl fb)), (lw, .inr (1, [.ref l1, .ref l2, .ref l3, .ref l4, .ref l5, .ref l6, .ref l7, .int (nI zo_4), .int (nI k)])), (l1, .inl (cI, 240, .inl l1o_5))] := hD
  refine lv_iconst (v := 0) hx hb dX2_readTerm_5 (by decide) ?_
  refine lv_istore_n (lv' := [(2, .int 0), (0, .ref h0), (1, .int 2)]) hx hb dX2_readTerm_6 rfl hl (by decide) rfl (fun ls hl => ?_)
  have loop_7 : ∀ (n i : Nat) (pa : Int32) (fb_ : Int32) (za : Nat) (qa : Nat → Int32), n + i = 240 → (za ≤ 240) → ∀ (H : Heap) (locs : List Loc), va_P D vwCl [(h0, .inr (2, [.ref tx, .ref lw])), (tx, .inr (6, [.ref tp, .int ed, .int pa, .int fb_])), (tp, .inr (5, [.ref by_, .int (nI T)])), (by_, .inl (cI, 260, .inl fb)), (lw, .inr (1, [.ref l1, .ref l2, .ref l3, .ref l4, .ref l5, .ref l6, .ref l7, .int (nI za), .int (nI k)])), (l1, .inl (cI, 240, .inl qa))] H → va_D A [(h0, .inr (2, [.ref tx, .ref lw])), (tx, .inr (6, [.ref tp, .int ed, .int pa, .int fb_])), (tp, .inr (5, [.ref by_, .int (nI T)])), (by_, .inl (cI, 260, .inl fb)), (lw, .inr (1, [.ref l1, .ref l2, .ref l3, .ref l4, .ref l5, .ref l6, .ref l7, .int (nI za), .int (nI k)])), (l1, .inl (cI, 240, .inl qa))] → va_S A s.heap H locs → ∀ (ls : Array Slot), lv_has ls 4 [(0, .ref h0), (1, .int 2), (2, .int (nI i))] → W p l e (rm 18 407) s m ([.ref h0, .int 2] : List Value).toArray below meth c H locs 0 0 Q (F0 m 7 ls []) := by
    intro n
    induction n with
    | zero =>
      intro i pa fb_ za qa hni hza H locs hP hD hS ls hl
      have hni_7 := hni
      have hi : i = 240 := by omega
      refine lv_iload_n hx hb dX2_readTerm_7 rfl (lv_at hl 2 rfl) ?_
      refine lv_sipush (v := 240) hx hb dX2_readTerm_8 (by decide) ?_
      refine lv_icmp_ge (tgt := 60) hx hb dX2_readTerm_11 (by decide) (fun _ => ?_) (fun c_11 => absurd (by rw [hi]; decide) c_11)
      exact ret _ _ _ _ (pa, fb_, za, qa) dX2_readTerm_60 hza (hP.sub [0, 1, 2, 3, 4, 5] rfl) (hD.sub [0, 1, 2, 3, 4, 5] (by decide) rfl) hS
    | succ n ih_7 =>
      intro i pa fb_ za qa hni hza H locs hP hD hS ls hl
      have hni_7 := hni
      have hi : i < 240 := by omega
      refine lv_iload_n hx hb dX2_readTerm_7 rfl (lv_at hl 2 rfl) ?_
      refine lv_sipush (v := 240) hx hb dX2_readTerm_8 (by decide) ?_
      refine lv_icmp_ge (tgt := 60) hx hb dX2_readTerm_11 (by decide) (fun c_11 => absurd c_11 (nI_ge hi (by decide))) (fun _ => ?_)
      refine lv_aload_n hx hb dX2_readTerm_14 rfl (lv_at hl 0 rfl) ?_
      refine cVR (As := []) (rest := []) (n := 0) (ci := 2) (q0 := 0) X hN hK hP (c_X2_factorStep l D cI cB h0 lw tx tp ed pa fb_ by_ T fb hT) (gV k_620 k_622 k_6 k_99 k_623) (by decide +kernel) ⟨Nat.le_of_ble_eq_true rfl, Nat.le_of_ble_eq_true rfl⟩ ⟨rfl, rfl⟩ [0, 1, 2, 3] rfl rfl rfl rfl rfl rfl hl.1 (Nat.le_of_ble_eq_true rfl) dX2_readTerm_15 ⟨Nat.le_of_ble_eq_true rfl, Nat.le_of_ble_eq_true rfl⟩ (fun r_7 hr_7 => ?_)
      refine lv_iconst (v := (-1)) hx hb dX2_readTerm_18 (by decide) ?_
      refine lv_icmp_eq (tgt := 60) hx hb dX2_readTerm_19 (by decide) (fun c_19 => ?_) (fun c_19 => ?_)
      · exact ret _ _ _ _ (pa, fb_, za, qa) dX2_readTerm_60 hza (hP.sub [0, 1, 2, 3, 4, 5] rfl) (hD.sub [0, 1, 2, 3, 4, 5] (by decide) rfl) hS
      · refine lv_aload_n hx hb dX2_readTerm_22 rfl (lv_at hl 0 rfl) ?_
        refine cVR (As := []) (rest := []) (n := 0) (ci := 2) (q0 := 0) X hN hK hP (c_X2_factorStep l D cI cB h0 lw tx tp ed pa fb_ by_ T fb hT) (gV k_620 k_622 k_6 k_99 k_623) (by decide +kernel) ⟨Nat.le_of_ble_eq_true rfl, Nat.le_of_ble_eq_true rfl⟩ ⟨rfl, rfl⟩ [0, 1, 2, 3] rfl rfl rfl rfl rfl rfl hl.1 (Nat.le_of_ble_eq_true rfl) dX2_readTerm_23 ⟨Nat.le_of_ble_eq_true rfl, Nat.le_of_ble_eq_true rfl⟩ (fun r_8 hr_8 => ?_)
        refine lv_istore_n (lv' := [(3, .int r_8), (0, .ref h0), (1, .int 2), (2, .int (nI i))]) hx hb dX2_readTerm_26 rfl hl (by decide) rfl (fun ls hl => ?_)
        refine lv_aload_n hx hb dX2_readTerm_27 rfl (lv_at hl 1 rfl) ?_
        refine va_get (D := D) (ci := 2) (v := .ref tx) (C := RX2) (T := TX2) (N := 2) hx hb htb itX2 hown hK hP 0 rfl rfl 0 (by decide) (htb _ k_288) (fun _ h9 => h9) rfl dX2_readTerm_28 ?_
        refine lv_dup hx hb dX2_readTerm_31 rfl ?_
        refine va_getN (D := D) (ci := 6) (v := .int pa) (C := RX6) (T := TX6) (N := 4) hx hb htb itX6 hown hK hP 1 rfl rfl 2 (by decide) (va_Nw.use rfl (hN _ n_264 rfl)) (fun _ h9 => h9) rfl dX2_readTerm_32 ?_
        refine lv_iconst (v := 1) hx hb dX2_readTerm_35 (by decide) ?_
        refine lv_iadd hx hb dX2_readTerm_36 ?_
        refine lv_topi (fun x_9 ex_9 => ?_)
        refine va_putN (D := D) (ci := 6) (v := .int x_9) (ty := .int) (C := RX6) (T := TX6) (N := 4) hx hb htb itX6 tyX6 tyX6_ok nmX6 hown hK hP hD hS 1 rfl rfl 2 (by decide) (va_Nw.use rfl (hN _ n_264 rfl)) (fun _ h9 => h9) rfl (tyX6_ok 2 (by decide)) rfl rfl (Nat.le_of_ble_eq_true rfl) dX2_readTerm_37 (fun H locs hP hD hS => ?_)
        have hP : va_P D vwCl [(h0, .inr (2, [.ref tx, .ref lw])), (tx, .inr (6, [.ref tp, .int ed, .int x_9, .int fb_])), (tp, .inr (5, [.ref by_, .int (nI T)])), (by_, .inl (cI, 260, .inl fb)), (lw, .inr (1, [.ref l1, .ref l2, .ref l3, .ref l4, .ref l5, .ref l6, .ref l7, .int (nI za), .int (nI k)])), (l1, .inl (cI, 240, .inl qa))] H := hP
        have hD : va_D A [(h0, .inr (2, [.ref tx, .ref lw])), (tx, .inr (6, [.ref tp, .int ed, .int x_9, .int fb_])), (tp, .inr (5, [.ref by_, .int (nI T)])), (by_, .inl (cI, 260, .inl fb)), (lw, .inr (1, [.ref l1, .ref l2, .ref l3, .ref l4, .ref l5, .ref l6, .ref l7, .int (nI za), .int (nI k)])), (l1, .inl (cI, 240, .inl qa))] := hD
        refine lv_aload_n hx hb dX2_readTerm_40 rfl (lv_at hl 1 rfl) ?_
        refine lv_iload_n hx hb dX2_readTerm_41 rfl (lv_at hl 2 rfl) ?_
        refine cVVk (As := [.int 2]) (rest := []) (n := 1) (ci := 2) (q0 := 0) (wr := []) X hN hKO hK hP hD hS hA (c_readFactor_2 l D cI cB _ kk h0 tx tp ed x_9 fb_ by_ T fb lw l1 l2 l3 l4 l5 l6 l7 za k qa hT hza hk) (gV k_589 k_591 k_4 k_99 k_592) (by decide +kernel) ⟨Nat.le_of_ble_eq_true rfl, Nat.le_of_ble_eq_true rfl⟩ ⟨rfl, rfl⟩ [0, 1, 2, 3, 4, 5] [] rfl rfl (by decide) (by decide) rfl rfl rfl rfl rfl hl.1 (Nat.le_of_ble_eq_true rfl) dX2_readTerm_42 ⟨Nat.le_of_ble_eq_true rfl, Nat.le_of_ble_eq_true rfl⟩ (fun u H locs hw_15 hP hD hS => ?_)
        obtain ⟨plo_11, fao_12, zo_13, l1o_14⟩ := u
        try dsimp only at hw_15
        have hP : va_P D vwCl [(h0, .inr (2, [.ref tx, .ref lw])), (tx, .inr (6, [.ref tp, .int ed, .int plo_11, .int fao_12])), (tp, .inr (5, [.ref by_, .int (nI T)])), (by_, .inl (cI, 260, .inl fb)), (lw, .inr (1, [.ref l1, .ref l2, .ref l3, .ref l4, .ref l5, .ref l6, .ref l7, .int (nI zo_13), .int (nI k)])), (l1, .inl (cI, 240, .inl l1o_14))] H := hP
        have hD : va_D A [(h0, .inr (2, [.ref tx, .ref lw])), (tx, .inr (6, [.ref tp, .int ed, .int plo_11, .int fao_12])), (tp, .inr (5, [.ref by_, .int (nI T)])), (by_, .inl (cI, 260, .inl fb)), (lw, .inr (1, [.ref l1, .ref l2, .ref l3, .ref l4, .ref l5, .ref l6, .ref l7, .int (nI zo_13), .int (nI k)])), (l1, .inl (cI, 240, .inl l1o_14))] := hD
        refine lv_aload_n hx hb dX2_readTerm_45 rfl (lv_at hl 1 rfl) ?_
        refine va_get (D := D) (ci := 2) (v := .ref lw) (C := RX2) (T := TX2) (N := 2) hx hb htb itX2 hown hK hP 0 rfl rfl 1 (by decide) (htb _ k_289) (fun _ h9 => h9) rfl dX2_readTerm_46 ?_
        refine lv_iload_n hx hb dX2_readTerm_49 rfl (lv_at hl 0 rfl) ?_
        refine lv_iconst (v := 0) hx hb dX2_readTerm_50 (by decide) ?_
        refine cVV (As := [.int r_8, .int 0]) (rest := []) (n := 2) (ci := 1) (q0 := 0) (wr := [(h0, .inr (2, [.ref tx, .ref lw])), (tx, .inr (6, [.ref tp, .int ed, .int plo_11, .int fao_12])), (tp, .inr (5, [.ref by_, .int (nI T)])), (by_, .inl (cI, 260, .inl fb))]) X hN hK hP hD hS hA (c_X1_addStep l D cI cB _ lw l1 l2 l3 l4 l5 l6 l7 zo_13 k r_8 0 l1o_14 hw_15 hk) (gV k_594 k_595 k_596 k_97 k_597) (by decide +kernel) ⟨Nat.le_of_ble_eq_true rfl, Nat.le_of_ble_eq_true rfl⟩ ⟨rfl, rfl⟩ [4, 5] [0, 1, 2, 3] rfl rfl (by decide) (by decide) rfl rfl rfl rfl rfl hl.1 (Nat.le_of_ble_eq_true rfl) dX2_readTerm_51 ⟨Nat.le_of_ble_eq_true rfl, Nat.le_of_ble_eq_true rfl⟩ (fun u H locs hw_19 hP hD hS => ?_)
        obtain ⟨zo_17, l1_fo_18⟩ := u
        try dsimp only at hw_19
        have hP : va_P D vwCl [(h0, .inr (2, [.ref tx, .ref lw])), (tx, .inr (6, [.ref tp, .int ed, .int plo_11, .int fao_12])), (tp, .inr (5, [.ref by_, .int (nI T)])), (by_, .inl (cI, 260, .inl fb)), (lw, .inr (1, [.ref l1, .ref l2, .ref l3, .ref l4, .ref l5, .ref l6, .ref l7, .int (nI zo_17), .int (nI k)])), (l1, .inl (cI, 240, .inl l1_fo_18))] H := hP
        have hD : va_D A [(h0, .inr (2, [.ref tx, .ref lw])), (tx, .inr (6, [.ref tp, .int ed, .int plo_11, .int fao_12])), (tp, .inr (5, [.ref by_, .int (nI T)])), (by_, .inl (cI, 260, .inl fb)), (lw, .inr (1, [.ref l1, .ref l2, .ref l3, .ref l4, .ref l5, .ref l6, .ref l7, .int (nI zo_17), .int (nI k)])), (l1, .inl (cI, 240, .inl l1_fo_18))] := hD
        refine lv_iinc (v := (nI (i + 1))) (lv' := [(2, .int (nI (i + 1))), (3, .int r_8), (0, .ref h0), (1, .int 2)]) hx hb dX2_readTerm_54 hl (k := 3) rfl (nI_1 i) (by decide) rfl (fun ls hl => ?_)
        refine lv_goto (tgt := 7) hx hb dX2_readTerm_57 (by decide) ?_
        exact ih_7 (i + 1) plo_11 fao_12 zo_17 l1_fo_18 (by omega) hw_19 _ _ (hP.sub [0, 1, 2, 3, 4, 5] rfl) (hD.sub [0, 1, 2, 3, 4, 5] (by decide) rfl) hS _ (lv_sub hl [2, 3, 0] rfl)
  exact loop_7 240 0 plo_2 fao_3 zo_4 l1o_5 (by omega) hw_6 _ _ (hP.sub [0, 1, 2, 3, 4, 5] rfl) (hD.sub [0, 1, 2, 3, 4, 5] (by decide) rfl) hS _ (lv_sub hl [1, 2, 0] rfl)

set_option maxRecDepth 100000 in
set_option maxHeartbeats 4000000 in
theorem c_readSum_2 (l : Launch) (D : va_G) (cI cB : ClassId) (sz : Nat) (kk : KT) (h0 : Nat) (tx : Nat) (tp : Nat) (ed : Int32) (pl : Int32) (fa : Int32) (by_ : Nat) (T : Nat) (fb : Nat → Int32) (lw : Nat) (l1 : Nat) (l2 : Nat) (l3 : Nat) (l4 : Nat) (l5 : Nat) (l6 : Nat) (l7 : Nat) (z : Nat) (k : Nat) (q1 : Nat → Int32) (hT : T ≤ 260) (hz : z ≤ 240) (hk : k ≤ 16) : MVk (S := ((Int32) × (Int32) × (Nat) × (Nat → Int32))) l D cI cB kk yX2_readSum cX2_readSum 4 (rm 19 430) [.ref h0, .int 2] [(h0, .inr (2, [.ref tx, .ref lw])), (tx, .inr (6, [.ref tp, .int ed, .int pl, .int fa])), (tp, .inr (5, [.ref by_, .int (nI T)])), (by_, .inl (cI, 260, .inl fb)), (lw, .inr (1, [.ref l1, .ref l2, .ref l3, .ref l4, .ref l5, .ref l6, .ref l7, .int (nI z), .int (nI k)])), (l1, .inl (cI, 240, .inl q1))] sz (fun u => u.2.2.1 ≤ 240) (fun u : ((Int32) × (Int32) × (Nat) × (Nat → Int32)) => [(h0, .inr (2, [.ref tx, .ref lw])), (tx, .inr (6, [.ref tp, .int ed, .int u.1, .int u.2.1])), (tp, .inr (5, [.ref by_, .int (nI T)])), (by_, .inl (cI, 260, .inl fb)), (lw, .inr (1, [.ref l1, .ref l2, .ref l3, .ref l4, .ref l5, .ref l6, .ref l7, .int (nI u.2.2.1), .int (nI k)])), (l1, .inl (cI, 240, .inl u.2.2.2))]) := by
  refine MVk.of (by decide) (Nat.le_of_ble_eq_true rfl) ?_
  intro p e s m below meth c Q ls A X hin hN hKO hP hK hD hA hl ret
  have hS : va_S A s.heap s.heap [] := va_S.rf
  obtain ⟨hx, hb, hml, hown, htb⟩ := id X
  have hl : lv_has ls 4 [(0, .ref h0), (1, .int 2)] := hl
  refine lv_aload_n hx hb dX2_readSum_0 rfl (lv_at hl 0 rfl) ?_
  refine lv_iload_n hx hb dX2_readSum_1 rfl (lv_at hl 1 rfl) ?_
  refine cVVk (As := [.int 2]) (rest := []) (n := 1) (ci := 2) (q0 := 0) (wr := []) X hN hKO hK hP hD hS hA (c_readTerm_2 l D cI cB _ kk h0 tx tp ed pl fa by_ T fb lw l1 l2 l3 l4 l5 l6 l7 z k q1 hT hz hk) (gV k_585 k_587 k_3 k_99 k_588) (by decide +kernel) ⟨Nat.le_of_ble_eq_true rfl, Nat.le_of_ble_eq_true rfl⟩ ⟨rfl, rfl⟩ [0, 1, 2, 3, 4, 5] [] rfl rfl (by decide) (by decide) rfl rfl rfl rfl rfl hl.1 (Nat.le_of_ble_eq_true rfl) dX2_readSum_2 ⟨Nat.le_of_ble_eq_true rfl, Nat.le_of_ble_eq_true rfl⟩ (fun u H locs hw_6 hP hD hS => ?_)
  obtain ⟨plo_2, fao_3, zo_4, l1o_5⟩ := u
  try dsimp only at hw_6
  have hP : va_P D vwCl [(h0, .inr (2, [.ref tx, .ref lw])), (tx, .inr (6, [.ref tp, .int ed, .int plo_2, .int fao_3])), (tp, .inr (5, [.ref by_, .int (nI T)])), (by_, .inl (cI, 260, .inl fb)), (lw, .inr (1, [.ref l1, .ref l2, .ref l3, .ref l4, .ref l5, .ref l6, .ref l7, .int (nI zo_4), .int (nI k)])), (l1, .inl (cI, 240, .inl l1o_5))] H := hP
  have hD : va_D A [(h0, .inr (2, [.ref tx, .ref lw])), (tx, .inr (6, [.ref tp, .int ed, .int plo_2, .int fao_3])), (tp, .inr (5, [.ref by_, .int (nI T)])), (by_, .inl (cI, 260, .inl fb)), (lw, .inr (1, [.ref l1, .ref l2, .ref l3, .ref l4, .ref l5, .ref l6, .ref l7, .int (nI zo_4), .int (nI k)])), (l1, .inl (cI, 240, .inl l1o_5))] := hD
  refine lv_iconst (v := 0) hx hb dX2_readSum_5 (by decide) ?_
  refine lv_istore_n (lv' := [(2, .int 0), (0, .ref h0), (1, .int 2)]) hx hb dX2_readSum_6 rfl hl (by decide) rfl (fun ls hl => ?_)
  have loop_7 : ∀ (n i : Nat) (pa : Int32) (fb_ : Int32) (za : Nat) (qa : Nat → Int32), n + i = 240 → (za ≤ 240) → ∀ (H : Heap) (locs : List Loc), va_P D vwCl [(h0, .inr (2, [.ref tx, .ref lw])), (tx, .inr (6, [.ref tp, .int ed, .int pa, .int fb_])), (tp, .inr (5, [.ref by_, .int (nI T)])), (by_, .inl (cI, 260, .inl fb)), (lw, .inr (1, [.ref l1, .ref l2, .ref l3, .ref l4, .ref l5, .ref l6, .ref l7, .int (nI za), .int (nI k)])), (l1, .inl (cI, 240, .inl qa))] H → va_D A [(h0, .inr (2, [.ref tx, .ref lw])), (tx, .inr (6, [.ref tp, .int ed, .int pa, .int fb_])), (tp, .inr (5, [.ref by_, .int (nI T)])), (by_, .inl (cI, 260, .inl fb)), (lw, .inr (1, [.ref l1, .ref l2, .ref l3, .ref l4, .ref l5, .ref l6, .ref l7, .int (nI za), .int (nI k)])), (l1, .inl (cI, 240, .inl qa))] → va_S A s.heap H locs → ∀ (ls : Array Slot), lv_has ls 4 [(0, .ref h0), (1, .int 2), (2, .int (nI i))] → W p l e (rm 19 430) s m ([.ref h0, .int 2] : List Value).toArray below meth c H locs 0 0 Q (F0 m 7 ls []) := by
    intro n
    induction n with
    | zero =>
      intro i pa fb_ za qa hni hza H locs hP hD hS ls hl
      have hni_7 := hni
      have hi : i = 240 := by omega
      refine lv_iload_n hx hb dX2_readSum_7 rfl (lv_at hl 2 rfl) ?_
      refine lv_sipush (v := 240) hx hb dX2_readSum_8 (by decide) ?_
      refine lv_icmp_ge (tgt := 90) hx hb dX2_readSum_11 (by decide) (fun _ => ?_) (fun c_11 => absurd (by rw [hi]; decide) c_11)
      exact ret _ _ _ _ (pa, fb_, za, qa) dX2_readSum_90 hza (hP.sub [0, 1, 2, 3, 4, 5] rfl) (hD.sub [0, 1, 2, 3, 4, 5] (by decide) rfl) hS
    | succ n ih_7 =>
      intro i pa fb_ za qa hni hza H locs hP hD hS ls hl
      have hni_7 := hni
      have hi : i < 240 := by omega
      refine lv_iload_n hx hb dX2_readSum_7 rfl (lv_at hl 2 rfl) ?_
      refine lv_sipush (v := 240) hx hb dX2_readSum_8 (by decide) ?_
      refine lv_icmp_ge (tgt := 90) hx hb dX2_readSum_11 (by decide) (fun c_11 => absurd c_11 (nI_ge hi (by decide))) (fun _ => ?_)
      refine lv_aload_n hx hb dX2_readSum_14 rfl (lv_at hl 0 rfl) ?_
      refine va_get (D := D) (ci := 2) (v := .ref tx) (C := RX2) (T := TX2) (N := 2) hx hb htb itX2 hown hK hP 0 rfl rfl 0 (by decide) (htb _ k_288) (fun _ h9 => h9) rfl dX2_readSum_15 ?_
      refine cVR (As := []) (rest := []) (n := 0) (ci := 6) (q0 := 0) X hN hK hP (c_X6_sign l D cI cB tx tp ed pa fb_ by_ T fb hT) (gV k_483 k_484 k_485 k_98 k_486) (by decide +kernel) ⟨Nat.le_of_ble_eq_true rfl, Nat.le_of_ble_eq_true rfl⟩ ⟨rfl, rfl⟩ [1, 2, 3] rfl rfl rfl rfl rfl rfl hl.1 (Nat.le_of_ble_eq_true rfl) dX2_readSum_18 ⟨Nat.le_of_ble_eq_true rfl, Nat.le_of_ble_eq_true rfl⟩ (fun r_7 hr_7 => ?_)
      subst hr_7
      refine lv_bipush (v := 43) hx hb dX2_readSum_21 (by decide) ?_
      refine lv_icmp_eq (tgt := 38) hx hb dX2_readSum_23 (by decide) (fun c_23 => ?_) (fun c_23 => ?_)
      · refine lv_aload_n hx hb dX2_readSum_38 rfl (lv_at hl 0 rfl) ?_
        refine va_get (D := D) (ci := 2) (v := .ref tx) (C := RX2) (T := TX2) (N := 2) hx hb htb itX2 hown hK hP 0 rfl rfl 0 (by decide) (htb _ k_288) (fun _ h9 => h9) rfl dX2_readSum_39 ?_
        refine cVR (As := []) (rest := []) (n := 0) (ci := 6) (q0 := 0) X hN hK hP (c_X6_sign l D cI cB tx tp ed pa fb_ by_ T fb hT) (gV k_483 k_484 k_485 k_98 k_486) (by decide +kernel) ⟨Nat.le_of_ble_eq_true rfl, Nat.le_of_ble_eq_true rfl⟩ ⟨rfl, rfl⟩ [1, 2, 3] rfl rfl rfl rfl rfl rfl hl.1 (Nat.le_of_ble_eq_true rfl) dX2_readSum_42 ⟨Nat.le_of_ble_eq_true rfl, Nat.le_of_ble_eq_true rfl⟩ (fun r_8 hr_8 => ?_)
        subst hr_8
        refine lv_bipush (v := 43) hx hb dX2_readSum_45 (by decide) ?_
        refine lv_icmp_ne (tgt := 54) hx hb dX2_readSum_47 (by decide) (fun c_47 => ?_) (fun c_47 => ?_)
        · refine lv_bipush (v := 6) hx hb dX2_readSum_54 (by decide) ?_
          refine lv_istore_n (lv' := [(3, .int 6), (0, .ref h0), (1, .int 2), (2, .int (nI i))]) hx hb dX2_readSum_56 rfl hl (by decide) rfl (fun ls hl => ?_)
          refine lv_aload_n hx hb dX2_readSum_57 rfl (lv_at hl 1 rfl) ?_
          refine va_get (D := D) (ci := 2) (v := .ref tx) (C := RX2) (T := TX2) (N := 2) hx hb htb itX2 hown hK hP 0 rfl rfl 0 (by decide) (htb _ k_288) (fun _ h9 => h9) rfl dX2_readSum_58 ?_
          refine lv_dup hx hb dX2_readSum_61 rfl ?_
          refine va_getN (D := D) (ci := 6) (v := .int pa) (C := RX6) (T := TX6) (N := 4) hx hb htb itX6 hown hK hP 1 rfl rfl 2 (by decide) (va_Nw.use rfl (hN _ n_264 rfl)) (fun _ h9 => h9) rfl dX2_readSum_62 ?_
          refine lv_iconst (v := 1) hx hb dX2_readSum_65 (by decide) ?_
          refine lv_iadd hx hb dX2_readSum_66 ?_
          refine lv_topi (fun x_9 ex_9 => ?_)
          refine va_putN (D := D) (ci := 6) (v := .int x_9) (ty := .int) (C := RX6) (T := TX6) (N := 4) hx hb htb itX6 tyX6 tyX6_ok nmX6 hown hK hP hD hS 1 rfl rfl 2 (by decide) (va_Nw.use rfl (hN _ n_264 rfl)) (fun _ h9 => h9) rfl (tyX6_ok 2 (by decide)) rfl rfl (Nat.le_of_ble_eq_true rfl) dX2_readSum_67 (fun H locs hP hD hS => ?_)
          have hP : va_P D vwCl [(h0, .inr (2, [.ref tx, .ref lw])), (tx, .inr (6, [.ref tp, .int ed, .int x_9, .int fb_])), (tp, .inr (5, [.ref by_, .int (nI T)])), (by_, .inl (cI, 260, .inl fb)), (lw, .inr (1, [.ref l1, .ref l2, .ref l3, .ref l4, .ref l5, .ref l6, .ref l7, .int (nI za), .int (nI k)])), (l1, .inl (cI, 240, .inl qa))] H := hP
          have hD : va_D A [(h0, .inr (2, [.ref tx, .ref lw])), (tx, .inr (6, [.ref tp, .int ed, .int x_9, .int fb_])), (tp, .inr (5, [.ref by_, .int (nI T)])), (by_, .inl (cI, 260, .inl fb)), (lw, .inr (1, [.ref l1, .ref l2, .ref l3, .ref l4, .ref l5, .ref l6, .ref l7, .int (nI za), .int (nI k)])), (l1, .inl (cI, 240, .inl qa))] := hD
          refine lv_aload_n hx hb dX2_readSum_70 rfl (lv_at hl 1 rfl) ?_
          refine lv_iload_n hx hb dX2_readSum_71 rfl (lv_at hl 2 rfl) ?_
          refine cVVk (As := [.int 2]) (rest := []) (n := 1) (ci := 2) (q0 := 0) (wr := []) X hN hKO hK hP hD hS hA (c_readTerm_2 l D cI cB _ kk h0 tx tp ed x_9 fb_ by_ T fb lw l1 l2 l3 l4 l5 l6 l7 za k qa hT hza hk) (gV k_585 k_587 k_3 k_99 k_588) (by decide +kernel) ⟨Nat.le_of_ble_eq_true rfl, Nat.le_of_ble_eq_true rfl⟩ ⟨rfl, rfl⟩ [0, 1, 2, 3, 4, 5] [] rfl rfl (by decide) (by decide) rfl rfl rfl rfl rfl hl.1 (Nat.le_of_ble_eq_true rfl) dX2_readSum_72 ⟨Nat.le_of_ble_eq_true rfl, Nat.le_of_ble_eq_true rfl⟩ (fun u H locs hw_15 hP hD hS => ?_)
          obtain ⟨plo_11, fao_12, zo_13, l1o_14⟩ := u
          try dsimp only at hw_15
          have hP : va_P D vwCl [(h0, .inr (2, [.ref tx, .ref lw])), (tx, .inr (6, [.ref tp, .int ed, .int plo_11, .int fao_12])), (tp, .inr (5, [.ref by_, .int (nI T)])), (by_, .inl (cI, 260, .inl fb)), (lw, .inr (1, [.ref l1, .ref l2, .ref l3, .ref l4, .ref l5, .ref l6, .ref l7, .int (nI zo_13), .int (nI k)])), (l1, .inl (cI, 240, .inl l1o_14))] H := hP
          have hD : va_D A [(h0, .inr (2, [.ref tx, .ref lw])), (tx, .inr (6, [.ref tp, .int ed, .int plo_11, .int fao_12])), (tp, .inr (5, [.ref by_, .int (nI T)])), (by_, .inl (cI, 260, .inl fb)), (lw, .inr (1, [.ref l1, .ref l2, .ref l3, .ref l4, .ref l5, .ref l6, .ref l7, .int (nI zo_13), .int (nI k)])), (l1, .inl (cI, 240, .inl l1o_14))] := hD
          refine lv_aload_n hx hb dX2_readSum_75 rfl (lv_at hl 1 rfl) ?_
          refine va_get (D := D) (ci := 2) (v := .ref lw) (C := RX2) (T := TX2) (N := 2) hx hb htb itX2 hown hK hP 0 rfl rfl 1 (by decide) (htb _ k_289) (fun _ h9 => h9) rfl dX2_readSum_76 ?_
          refine lv_iload_n hx hb dX2_readSum_79 rfl (lv_at hl 0 rfl) ?_
          refine lv_iconst (v := 0) hx hb dX2_readSum_80 (by decide) ?_
          refine cVV (As := [.int 6, .int 0]) (rest := []) (n := 2) (ci := 1) (q0 := 0) (wr := [(h0, .inr (2, [.ref tx, .ref lw])), (tx, .inr (6, [.ref tp, .int ed, .int plo_11, .int fao_12])), (tp, .inr (5, [.ref by_, .int (nI T)])), (by_, .inl (cI, 260, .inl fb))]) X hN hK hP hD hS hA (c_X1_addStep l D cI cB _ lw l1 l2 l3 l4 l5 l6 l7 zo_13 k 6 0 l1o_14 hw_15 hk) (gV k_594 k_595 k_596 k_97 k_597) (by decide +kernel) ⟨Nat.le_of_ble_eq_true rfl, Nat.le_of_ble_eq_true rfl⟩ ⟨rfl, rfl⟩ [4, 5] [0, 1, 2, 3] rfl rfl (by decide) (by decide) rfl rfl rfl rfl rfl hl.1 (Nat.le_of_ble_eq_true rfl) dX2_readSum_81 ⟨Nat.le_of_ble_eq_true rfl, Nat.le_of_ble_eq_true rfl⟩ (fun u H locs hw_19 hP hD hS => ?_)
          obtain ⟨zo_17, l1_fo_18⟩ := u
          try dsimp only at hw_19
          have hP : va_P D vwCl [(h0, .inr (2, [.ref tx, .ref lw])), (tx, .inr (6, [.ref tp, .int ed, .int plo_11, .int fao_12])), (tp, .inr (5, [.ref by_, .int (nI T)])), (by_, .inl (cI, 260, .inl fb)), (lw, .inr (1, [.ref l1, .ref l2, .ref l3, .ref l4, .ref l5, .ref l6, .ref l7, .int (nI zo_17), .int (nI k)])), (l1, .inl (cI, 240, .inl l1_fo_18))] H := hP
          have hD : va_D A [(h0, .inr (2, [.ref tx, .ref lw])), (tx, .inr (6, [.ref tp, .int ed, .int plo_11, .int fao_12])), (tp, .inr (5, [.ref by_, .int (nI T)])), (by_, .inl (cI, 260, .inl fb)), (lw, .inr (1, [.ref l1, .ref l2, .ref l3, .ref l4, .ref l5, .ref l6, .ref l7, .int (nI zo_17), .int (nI k)])), (l1, .inl (cI, 240, .inl l1_fo_18))] := hD
          refine lv_iinc (v := (nI (i + 1))) (lv' := [(2, .int (nI (i + 1))), (3, .int 6), (0, .ref h0), (1, .int 2)]) hx hb dX2_readSum_84 hl (k := 3) rfl (nI_1 i) (by decide) rfl (fun ls hl => ?_)
          refine lv_goto (tgt := 7) hx hb dX2_readSum_87 (by decide) ?_
          exact ih_7 (i + 1) plo_11 fao_12 zo_17 l1_fo_18 (by omega) hw_19 _ _ (hP.sub [0, 1, 2, 3, 4, 5] rfl) (hD.sub [0, 1, 2, 3, 4, 5] (by decide) rfl) hS _ (lv_sub hl [2, 3, 0] rfl)
        · refine lv_iconst (v := 5) hx hb dX2_readSum_50 (by decide) ?_
          refine lv_goto (tgt := 56) hx hb dX2_readSum_51 (by decide) ?_
          refine lv_istore_n (lv' := [(3, .int 5), (0, .ref h0), (1, .int 2), (2, .int (nI i))]) hx hb dX2_readSum_56 rfl hl (by decide) rfl (fun ls hl => ?_)
          refine lv_aload_n hx hb dX2_readSum_57 rfl (lv_at hl 1 rfl) ?_
          refine va_get (D := D) (ci := 2) (v := .ref tx) (C := RX2) (T := TX2) (N := 2) hx hb htb itX2 hown hK hP 0 rfl rfl 0 (by decide) (htb _ k_288) (fun _ h9 => h9) rfl dX2_readSum_58 ?_
          refine lv_dup hx hb dX2_readSum_61 rfl ?_
          refine va_getN (D := D) (ci := 6) (v := .int pa) (C := RX6) (T := TX6) (N := 4) hx hb htb itX6 hown hK hP 1 rfl rfl 2 (by decide) (va_Nw.use rfl (hN _ n_264 rfl)) (fun _ h9 => h9) rfl dX2_readSum_62 ?_
          refine lv_iconst (v := 1) hx hb dX2_readSum_65 (by decide) ?_
          refine lv_iadd hx hb dX2_readSum_66 ?_
          refine lv_topi (fun x_20 ex_20 => ?_)
          refine va_putN (D := D) (ci := 6) (v := .int x_20) (ty := .int) (C := RX6) (T := TX6) (N := 4) hx hb htb itX6 tyX6 tyX6_ok nmX6 hown hK hP hD hS 1 rfl rfl 2 (by decide) (va_Nw.use rfl (hN _ n_264 rfl)) (fun _ h9 => h9) rfl (tyX6_ok 2 (by decide)) rfl rfl (Nat.le_of_ble_eq_true rfl) dX2_readSum_67 (fun H locs hP hD hS => ?_)
          have hP : va_P D vwCl [(h0, .inr (2, [.ref tx, .ref lw])), (tx, .inr (6, [.ref tp, .int ed, .int x_20, .int fb_])), (tp, .inr (5, [.ref by_, .int (nI T)])), (by_, .inl (cI, 260, .inl fb)), (lw, .inr (1, [.ref l1, .ref l2, .ref l3, .ref l4, .ref l5, .ref l6, .ref l7, .int (nI za), .int (nI k)])), (l1, .inl (cI, 240, .inl qa))] H := hP
          have hD : va_D A [(h0, .inr (2, [.ref tx, .ref lw])), (tx, .inr (6, [.ref tp, .int ed, .int x_20, .int fb_])), (tp, .inr (5, [.ref by_, .int (nI T)])), (by_, .inl (cI, 260, .inl fb)), (lw, .inr (1, [.ref l1, .ref l2, .ref l3, .ref l4, .ref l5, .ref l6, .ref l7, .int (nI za), .int (nI k)])), (l1, .inl (cI, 240, .inl qa))] := hD
          refine lv_aload_n hx hb dX2_readSum_70 rfl (lv_at hl 1 rfl) ?_
          refine lv_iload_n hx hb dX2_readSum_71 rfl (lv_at hl 2 rfl) ?_
          refine cVVk (As := [.int 2]) (rest := []) (n := 1) (ci := 2) (q0 := 0) (wr := []) X hN hKO hK hP hD hS hA (c_readTerm_2 l D cI cB _ kk h0 tx tp ed x_20 fb_ by_ T fb lw l1 l2 l3 l4 l5 l6 l7 za k qa hT hza hk) (gV k_585 k_587 k_3 k_99 k_588) (by decide +kernel) ⟨Nat.le_of_ble_eq_true rfl, Nat.le_of_ble_eq_true rfl⟩ ⟨rfl, rfl⟩ [0, 1, 2, 3, 4, 5] [] rfl rfl (by decide) (by decide) rfl rfl rfl rfl rfl hl.1 (Nat.le_of_ble_eq_true rfl) dX2_readSum_72 ⟨Nat.le_of_ble_eq_true rfl, Nat.le_of_ble_eq_true rfl⟩ (fun u H locs hw_26 hP hD hS => ?_)
          obtain ⟨plo_22, fao_23, zo_24, l1o_25⟩ := u
          try dsimp only at hw_26
          have hP : va_P D vwCl [(h0, .inr (2, [.ref tx, .ref lw])), (tx, .inr (6, [.ref tp, .int ed, .int plo_22, .int fao_23])), (tp, .inr (5, [.ref by_, .int (nI T)])), (by_, .inl (cI, 260, .inl fb)), (lw, .inr (1, [.ref l1, .ref l2, .ref l3, .ref l4, .ref l5, .ref l6, .ref l7, .int (nI zo_24), .int (nI k)])), (l1, .inl (cI, 240, .inl l1o_25))] H := hP
          have hD : va_D A [(h0, .inr (2, [.ref tx, .ref lw])), (tx, .inr (6, [.ref tp, .int ed, .int plo_22, .int fao_23])), (tp, .inr (5, [.ref by_, .int (nI T)])), (by_, .inl (cI, 260, .inl fb)), (lw, .inr (1, [.ref l1, .ref l2, .ref l3, .ref l4, .ref l5, .ref l6, .ref l7, .int (nI zo_24), .int (nI k)])), (l1, .inl (cI, 240, .inl l1o_25))] := hD
          refine lv_aload_n hx hb dX2_readSum_75 rfl (lv_at hl 1 rfl) ?_
          refine va_get (D := D) (ci := 2) (v := .ref lw) (C := RX2) (T := TX2) (N := 2) hx hb htb itX2 hown hK hP 0 rfl rfl 1 (by decide) (htb _ k_289) (fun _ h9 => h9) rfl dX2_readSum_76 ?_
          refine lv_iload_n hx hb dX2_readSum_79 rfl (lv_at hl 0 rfl) ?_
          refine lv_iconst (v := 0) hx hb dX2_readSum_80 (by decide) ?_
          refine cVV (As := [.int 5, .int 0]) (rest := []) (n := 2) (ci := 1) (q0 := 0) (wr := [(h0, .inr (2, [.ref tx, .ref lw])), (tx, .inr (6, [.ref tp, .int ed, .int plo_22, .int fao_23])), (tp, .inr (5, [.ref by_, .int (nI T)])), (by_, .inl (cI, 260, .inl fb))]) X hN hK hP hD hS hA (c_X1_addStep l D cI cB _ lw l1 l2 l3 l4 l5 l6 l7 zo_24 k 5 0 l1o_25 hw_26 hk) (gV k_594 k_595 k_596 k_97 k_597) (by decide +kernel) ⟨Nat.le_of_ble_eq_true rfl, Nat.le_of_ble_eq_true rfl⟩ ⟨rfl, rfl⟩ [4, 5] [0, 1, 2, 3] rfl rfl (by decide) (by decide) rfl rfl rfl rfl rfl hl.1 (Nat.le_of_ble_eq_true rfl) dX2_readSum_81 ⟨Nat.le_of_ble_eq_true rfl, Nat.le_of_ble_eq_true rfl⟩ (fun u H locs hw_30 hP hD hS => ?_)
          obtain ⟨zo_28, l1_fo_29⟩ := u
          try dsimp only at hw_30
          have hP : va_P D vwCl [(h0, .inr (2, [.ref tx, .ref lw])), (tx, .inr (6, [.ref tp, .int ed, .int plo_22, .int fao_23])), (tp, .inr (5, [.ref by_, .int (nI T)])), (by_, .inl (cI, 260, .inl fb)), (lw, .inr (1, [.ref l1, .ref l2, .ref l3, .ref l4, .ref l5, .ref l6, .ref l7, .int (nI zo_28), .int (nI k)])), (l1, .inl (cI, 240, .inl l1_fo_29))] H := hP
          have hD : va_D A [(h0, .inr (2, [.ref tx, .ref lw])), (tx, .inr (6, [.ref tp, .int ed, .int plo_22, .int fao_23])), (tp, .inr (5, [.ref by_, .int (nI T)])), (by_, .inl (cI, 260, .inl fb)), (lw, .inr (1, [.ref l1, .ref l2, .ref l3, .ref l4, .ref l5, .ref l6, .ref l7, .int (nI zo_28), .int (nI k)])), (l1, .inl (cI, 240, .inl l1_fo_29))] := hD
          refine lv_iinc (v := (nI (i + 1))) (lv' := [(2, .int (nI (i + 1))), (3, .int 5), (0, .ref h0), (1, .int 2)]) hx hb dX2_readSum_84 hl (k := 3) rfl (nI_1 i) (by decide) rfl (fun ls hl => ?_)
          refine lv_goto (tgt := 7) hx hb dX2_readSum_87 (by decide) ?_
          exact ih_7 (i + 1) plo_22 fao_23 zo_28 l1_fo_29 (by omega) hw_30 _ _ (hP.sub [0, 1, 2, 3, 4, 5] rfl) (hD.sub [0, 1, 2, 3, 4, 5] (by decide) rfl) hS _ (lv_sub hl [2, 3, 0] rfl)
      · refine lv_aload_n hx hb dX2_readSum_26 rfl (lv_at hl 0 rfl) ?_
        refine va_get (D := D) (ci := 2) (v := .ref tx) (C := RX2) (T := TX2) (N := 2) hx hb htb itX2 hown hK hP 0 rfl rfl 0 (by decide) (htb _ k_288) (fun _ h9 => h9) rfl dX2_readSum_27 ?_
        refine cVR (As := []) (rest := []) (n := 0) (ci := 6) (q0 := 0) X hN hK hP (c_X6_sign l D cI cB tx tp ed pa fb_ by_ T fb hT) (gV k_483 k_484 k_485 k_98 k_486) (by decide +kernel) ⟨Nat.le_of_ble_eq_true rfl, Nat.le_of_ble_eq_true rfl⟩ ⟨rfl, rfl⟩ [1, 2, 3] rfl rfl rfl rfl rfl rfl hl.1 (Nat.le_of_ble_eq_true rfl) dX2_readSum_30 ⟨Nat.le_of_ble_eq_true rfl, Nat.le_of_ble_eq_true rfl⟩ (fun r_31 hr_31 => ?_)
        subst hr_31
        refine lv_bipush (v := 45) hx hb dX2_readSum_33 (by decide) ?_
        refine lv_icmp_ne (tgt := 90) hx hb dX2_readSum_35 (by decide) (fun c_35 => ?_) (fun c_35 => ?_)
        · exact ret _ _ _ _ (pa, fb_, za, qa) dX2_readSum_90 hza (hP.sub [0, 1, 2, 3, 4, 5] rfl) (hD.sub [0, 1, 2, 3, 4, 5] (by decide) rfl) hS
        · refine lv_aload_n hx hb dX2_readSum_38 rfl (lv_at hl 0 rfl) ?_
          refine va_get (D := D) (ci := 2) (v := .ref tx) (C := RX2) (T := TX2) (N := 2) hx hb htb itX2 hown hK hP 0 rfl rfl 0 (by decide) (htb _ k_288) (fun _ h9 => h9) rfl dX2_readSum_39 ?_
          refine cVR (As := []) (rest := []) (n := 0) (ci := 6) (q0 := 0) X hN hK hP (c_X6_sign l D cI cB tx tp ed pa fb_ by_ T fb hT) (gV k_483 k_484 k_485 k_98 k_486) (by decide +kernel) ⟨Nat.le_of_ble_eq_true rfl, Nat.le_of_ble_eq_true rfl⟩ ⟨rfl, rfl⟩ [1, 2, 3] rfl rfl rfl rfl rfl rfl hl.1 (Nat.le_of_ble_eq_true rfl) dX2_readSum_42 ⟨Nat.le_of_ble_eq_true rfl, Nat.le_of_ble_eq_true rfl⟩ (fun r_32 hr_32 => ?_)
          subst hr_32
          refine lv_bipush (v := 43) hx hb dX2_readSum_45 (by decide) ?_
          refine lv_icmp_ne (tgt := 54) hx hb dX2_readSum_47 (by decide) (fun c_47 => ?_) (fun c_47 => ?_)
          · refine lv_bipush (v := 6) hx hb dX2_readSum_54 (by decide) ?_
            refine lv_istore_n (lv' := [(3, .int 6), (0, .ref h0), (1, .int 2), (2, .int (nI i))]) hx hb dX2_readSum_56 rfl hl (by decide) rfl (fun ls hl => ?_)
            refine lv_aload_n hx hb dX2_readSum_57 rfl (lv_at hl 1 rfl) ?_
            refine va_get (D := D) (ci := 2) (v := .ref tx) (C := RX2) (T := TX2) (N := 2) hx hb htb itX2 hown hK hP 0 rfl rfl 0 (by decide) (htb _ k_288) (fun _ h9 => h9) rfl dX2_readSum_58 ?_
            refine lv_dup hx hb dX2_readSum_61 rfl ?_
            refine va_getN (D := D) (ci := 6) (v := .int pa) (C := RX6) (T := TX6) (N := 4) hx hb htb itX6 hown hK hP 1 rfl rfl 2 (by decide) (va_Nw.use rfl (hN _ n_264 rfl)) (fun _ h9 => h9) rfl dX2_readSum_62 ?_
            refine lv_iconst (v := 1) hx hb dX2_readSum_65 (by decide) ?_
            refine lv_iadd hx hb dX2_readSum_66 ?_
            refine lv_topi (fun x_33 ex_33 => ?_)
            refine va_putN (D := D) (ci := 6) (v := .int x_33) (ty := .int) (C := RX6) (T := TX6) (N := 4) hx hb htb itX6 tyX6 tyX6_ok nmX6 hown hK hP hD hS 1 rfl rfl 2 (by decide) (va_Nw.use rfl (hN _ n_264 rfl)) (fun _ h9 => h9) rfl (tyX6_ok 2 (by decide)) rfl rfl (Nat.le_of_ble_eq_true rfl) dX2_readSum_67 (fun H locs hP hD hS => ?_)
            have hP : va_P D vwCl [(h0, .inr (2, [.ref tx, .ref lw])), (tx, .inr (6, [.ref tp, .int ed, .int x_33, .int fb_])), (tp, .inr (5, [.ref by_, .int (nI T)])), (by_, .inl (cI, 260, .inl fb)), (lw, .inr (1, [.ref l1, .ref l2, .ref l3, .ref l4, .ref l5, .ref l6, .ref l7, .int (nI za), .int (nI k)])), (l1, .inl (cI, 240, .inl qa))] H := hP
            have hD : va_D A [(h0, .inr (2, [.ref tx, .ref lw])), (tx, .inr (6, [.ref tp, .int ed, .int x_33, .int fb_])), (tp, .inr (5, [.ref by_, .int (nI T)])), (by_, .inl (cI, 260, .inl fb)), (lw, .inr (1, [.ref l1, .ref l2, .ref l3, .ref l4, .ref l5, .ref l6, .ref l7, .int (nI za), .int (nI k)])), (l1, .inl (cI, 240, .inl qa))] := hD
            refine lv_aload_n hx hb dX2_readSum_70 rfl (lv_at hl 1 rfl) ?_
            refine lv_iload_n hx hb dX2_readSum_71 rfl (lv_at hl 2 rfl) ?_
            refine cVVk (As := [.int 2]) (rest := []) (n := 1) (ci := 2) (q0 := 0) (wr := []) X hN hKO hK hP hD hS hA (c_readTerm_2 l D cI cB _ kk h0 tx tp ed x_33 fb_ by_ T fb lw l1 l2 l3 l4 l5 l6 l7 za k qa hT hza hk) (gV k_585 k_587 k_3 k_99 k_588) (by decide +kernel) ⟨Nat.le_of_ble_eq_true rfl, Nat.le_of_ble_eq_true rfl⟩ ⟨rfl, rfl⟩ [0, 1, 2, 3, 4, 5] [] rfl rfl (by decide) (by decide) rfl rfl rfl rfl rfl hl.1 (Nat.le_of_ble_eq_true rfl) dX2_readSum_72 ⟨Nat.le_of_ble_eq_true rfl, Nat.le_of_ble_eq_true rfl⟩ (fun u H locs hw_39 hP hD hS => ?_)
            obtain ⟨plo_35, fao_36, zo_37, l1o_38⟩ := u
            try dsimp only at hw_39
            have hP : va_P D vwCl [(h0, .inr (2, [.ref tx, .ref lw])), (tx, .inr (6, [.ref tp, .int ed, .int plo_35, .int fao_36])), (tp, .inr (5, [.ref by_, .int (nI T)])), (by_, .inl (cI, 260, .inl fb)), (lw, .inr (1, [.ref l1, .ref l2, .ref l3, .ref l4, .ref l5, .ref l6, .ref l7, .int (nI zo_37), .int (nI k)])), (l1, .inl (cI, 240, .inl l1o_38))] H := hP
            have hD : va_D A [(h0, .inr (2, [.ref tx, .ref lw])), (tx, .inr (6, [.ref tp, .int ed, .int plo_35, .int fao_36])), (tp, .inr (5, [.ref by_, .int (nI T)])), (by_, .inl (cI, 260, .inl fb)), (lw, .inr (1, [.ref l1, .ref l2, .ref l3, .ref l4, .ref l5, .ref l6, .ref l7, .int (nI zo_37), .int (nI k)])), (l1, .inl (cI, 240, .inl l1o_38))] := hD
            refine lv_aload_n hx hb dX2_readSum_75 rfl (lv_at hl 1 rfl) ?_
            refine va_get (D := D) (ci := 2) (v := .ref lw) (C := RX2) (T := TX2) (N := 2) hx hb htb itX2 hown hK hP 0 rfl rfl 1 (by decide) (htb _ k_289) (fun _ h9 => h9) rfl dX2_readSum_76 ?_
            refine lv_iload_n hx hb dX2_readSum_79 rfl (lv_at hl 0 rfl) ?_
            refine lv_iconst (v := 0) hx hb dX2_readSum_80 (by decide) ?_
            refine cVV (As := [.int 6, .int 0]) (rest := []) (n := 2) (ci := 1) (q0 := 0) (wr := [(h0, .inr (2, [.ref tx, .ref lw])), (tx, .inr (6, [.ref tp, .int ed, .int plo_35, .int fao_36])), (tp, .inr (5, [.ref by_, .int (nI T)])), (by_, .inl (cI, 260, .inl fb))]) X hN hK hP hD hS hA (c_X1_addStep l D cI cB _ lw l1 l2 l3 l4 l5 l6 l7 zo_37 k 6 0 l1o_38 hw_39 hk) (gV k_594 k_595 k_596 k_97 k_597) (by decide +kernel) ⟨Nat.le_of_ble_eq_true rfl, Nat.le_of_ble_eq_true rfl⟩ ⟨rfl, rfl⟩ [4, 5] [0, 1, 2, 3] rfl rfl (by decide) (by decide) rfl rfl rfl rfl rfl hl.1 (Nat.le_of_ble_eq_true rfl) dX2_readSum_81 ⟨Nat.le_of_ble_eq_true rfl, Nat.le_of_ble_eq_true rfl⟩ (fun u H locs hw_43 hP hD hS => ?_)
            obtain ⟨zo_41, l1_fo_42⟩ := u
            try dsimp only at hw_43
            have hP : va_P D vwCl [(h0, .inr (2, [.ref tx, .ref lw])), (tx, .inr (6, [.ref tp, .int ed, .int plo_35, .int fao_36])), (tp, .inr (5, [.ref by_, .int (nI T)])), (by_, .inl (cI, 260, .inl fb)), (lw, .inr (1, [.ref l1, .ref l2, .ref l3, .ref l4, .ref l5, .ref l6, .ref l7, .int (nI zo_41), .int (nI k)])), (l1, .inl (cI, 240, .inl l1_fo_42))] H := hP
            have hD : va_D A [(h0, .inr (2, [.ref tx, .ref lw])), (tx, .inr (6, [.ref tp, .int ed, .int plo_35, .int fao_36])), (tp, .inr (5, [.ref by_, .int (nI T)])), (by_, .inl (cI, 260, .inl fb)), (lw, .inr (1, [.ref l1, .ref l2, .ref l3, .ref l4, .ref l5, .ref l6, .ref l7, .int (nI zo_41), .int (nI k)])), (l1, .inl (cI, 240, .inl l1_fo_42))] := hD
            refine lv_iinc (v := (nI (i + 1))) (lv' := [(2, .int (nI (i + 1))), (3, .int 6), (0, .ref h0), (1, .int 2)]) hx hb dX2_readSum_84 hl (k := 3) rfl (nI_1 i) (by decide) rfl (fun ls hl => ?_)
            refine lv_goto (tgt := 7) hx hb dX2_readSum_87 (by decide) ?_
            exact ih_7 (i + 1) plo_35 fao_36 zo_41 l1_fo_42 (by omega) hw_43 _ _ (hP.sub [0, 1, 2, 3, 4, 5] rfl) (hD.sub [0, 1, 2, 3, 4, 5] (by decide) rfl) hS _ (lv_sub hl [2, 3, 0] rfl)
          · refine lv_iconst (v := 5) hx hb dX2_readSum_50 (by decide) ?_
            refine lv_goto (tgt := 56) hx hb dX2_readSum_51 (by decide) ?_
            refine lv_istore_n (lv' := [(3, .int 5), (0, .ref h0), (1, .int 2), (2, .int (nI i))]) hx hb dX2_readSum_56 rfl hl (by decide) rfl (fun ls hl => ?_)
            refine lv_aload_n hx hb dX2_readSum_57 rfl (lv_at hl 1 rfl) ?_
            refine va_get (D := D) (ci := 2) (v := .ref tx) (C := RX2) (T := TX2) (N := 2) hx hb htb itX2 hown hK hP 0 rfl rfl 0 (by decide) (htb _ k_288) (fun _ h9 => h9) rfl dX2_readSum_58 ?_
            refine lv_dup hx hb dX2_readSum_61 rfl ?_
            refine va_getN (D := D) (ci := 6) (v := .int pa) (C := RX6) (T := TX6) (N := 4) hx hb htb itX6 hown hK hP 1 rfl rfl 2 (by decide) (va_Nw.use rfl (hN _ n_264 rfl)) (fun _ h9 => h9) rfl dX2_readSum_62 ?_
            refine lv_iconst (v := 1) hx hb dX2_readSum_65 (by decide) ?_
            refine lv_iadd hx hb dX2_readSum_66 ?_
            refine lv_topi (fun x_44 ex_44 => ?_)
            refine va_putN (D := D) (ci := 6) (v := .int x_44) (ty := .int) (C := RX6) (T := TX6) (N := 4) hx hb htb itX6 tyX6 tyX6_ok nmX6 hown hK hP hD hS 1 rfl rfl 2 (by decide) (va_Nw.use rfl (hN _ n_264 rfl)) (fun _ h9 => h9) rfl (tyX6_ok 2 (by decide)) rfl rfl (Nat.le_of_ble_eq_true rfl) dX2_readSum_67 (fun H locs hP hD hS => ?_)
            have hP : va_P D vwCl [(h0, .inr (2, [.ref tx, .ref lw])), (tx, .inr (6, [.ref tp, .int ed, .int x_44, .int fb_])), (tp, .inr (5, [.ref by_, .int (nI T)])), (by_, .inl (cI, 260, .inl fb)), (lw, .inr (1, [.ref l1, .ref l2, .ref l3, .ref l4, .ref l5, .ref l6, .ref l7, .int (nI za), .int (nI k)])), (l1, .inl (cI, 240, .inl qa))] H := hP
            have hD : va_D A [(h0, .inr (2, [.ref tx, .ref lw])), (tx, .inr (6, [.ref tp, .int ed, .int x_44, .int fb_])), (tp, .inr (5, [.ref by_, .int (nI T)])), (by_, .inl (cI, 260, .inl fb)), (lw, .inr (1, [.ref l1, .ref l2, .ref l3, .ref l4, .ref l5, .ref l6, .ref l7, .int (nI za), .int (nI k)])), (l1, .inl (cI, 240, .inl qa))] := hD
            refine lv_aload_n hx hb dX2_readSum_70 rfl (lv_at hl 1 rfl) ?_
            refine lv_iload_n hx hb dX2_readSum_71 rfl (lv_at hl 2 rfl) ?_
            refine cVVk (As := [.int 2]) (rest := []) (n := 1) (ci := 2) (q0 := 0) (wr := []) X hN hKO hK hP hD hS hA (c_readTerm_2 l D cI cB _ kk h0 tx tp ed x_44 fb_ by_ T fb lw l1 l2 l3 l4 l5 l6 l7 za k qa hT hza hk) (gV k_585 k_587 k_3 k_99 k_588) (by decide +kernel) ⟨Nat.le_of_ble_eq_true rfl, Nat.le_of_ble_eq_true rfl⟩ ⟨rfl, rfl⟩ [0, 1, 2, 3, 4, 5] [] rfl rfl (by decide) (by decide) rfl rfl rfl rfl rfl hl.1 (Nat.le_of_ble_eq_true rfl) dX2_readSum_72 ⟨Nat.le_of_ble_eq_true rfl, Nat.le_of_ble_eq_true rfl⟩ (fun u H locs hw_50 hP hD hS => ?_)
            obtain ⟨plo_46, fao_47, zo_48, l1o_49⟩ := u
            try dsimp only at hw_50
            have hP : va_P D vwCl [(h0, .inr (2, [.ref tx, .ref lw])), (tx, .inr (6, [.ref tp, .int ed, .int plo_46, .int fao_47])), (tp, .inr (5, [.ref by_, .int (nI T)])), (by_, .inl (cI, 260, .inl fb)), (lw, .inr (1, [.ref l1, .ref l2, .ref l3, .ref l4, .ref l5, .ref l6, .ref l7, .int (nI zo_48), .int (nI k)])), (l1, .inl (cI, 240, .inl l1o_49))] H := hP
            have hD : va_D A [(h0, .inr (2, [.ref tx, .ref lw])), (tx, .inr (6, [.ref tp, .int ed, .int plo_46, .int fao_47])), (tp, .inr (5, [.ref by_, .int (nI T)])), (by_, .inl (cI, 260, .inl fb)), (lw, .inr (1, [.ref l1, .ref l2, .ref l3, .ref l4, .ref l5, .ref l6, .ref l7, .int (nI zo_48), .int (nI k)])), (l1, .inl (cI, 240, .inl l1o_49))] := hD
            refine lv_aload_n hx hb dX2_readSum_75 rfl (lv_at hl 1 rfl) ?_
            refine va_get (D := D) (ci := 2) (v := .ref lw) (C := RX2) (T := TX2) (N := 2) hx hb htb itX2 hown hK hP 0 rfl rfl 1 (by decide) (htb _ k_289) (fun _ h9 => h9) rfl dX2_readSum_76 ?_
            refine lv_iload_n hx hb dX2_readSum_79 rfl (lv_at hl 0 rfl) ?_
            refine lv_iconst (v := 0) hx hb dX2_readSum_80 (by decide) ?_
            refine cVV (As := [.int 5, .int 0]) (rest := []) (n := 2) (ci := 1) (q0 := 0) (wr := [(h0, .inr (2, [.ref tx, .ref lw])), (tx, .inr (6, [.ref tp, .int ed, .int plo_46, .int fao_47])), (tp, .inr (5, [.ref by_, .int (nI T)])), (by_, .inl (cI, 260, .inl fb))]) X hN hK hP hD hS hA (c_X1_addStep l D cI cB _ lw l1 l2 l3 l4 l5 l6 l7 zo_48 k 5 0 l1o_49 hw_50 hk) (gV k_594 k_595 k_596 k_97 k_597) (by decide +kernel) ⟨Nat.le_of_ble_eq_true rfl, Nat.le_of_ble_eq_true rfl⟩ ⟨rfl, rfl⟩ [4, 5] [0, 1, 2, 3] rfl rfl (by decide) (by decide) rfl rfl rfl rfl rfl hl.1 (Nat.le_of_ble_eq_true rfl) dX2_readSum_81 ⟨Nat.le_of_ble_eq_true rfl, Nat.le_of_ble_eq_true rfl⟩ (fun u H locs hw_54 hP hD hS => ?_)
            obtain ⟨zo_52, l1_fo_53⟩ := u
            try dsimp only at hw_54
            have hP : va_P D vwCl [(h0, .inr (2, [.ref tx, .ref lw])), (tx, .inr (6, [.ref tp, .int ed, .int plo_46, .int fao_47])), (tp, .inr (5, [.ref by_, .int (nI T)])), (by_, .inl (cI, 260, .inl fb)), (lw, .inr (1, [.ref l1, .ref l2, .ref l3, .ref l4, .ref l5, .ref l6, .ref l7, .int (nI zo_52), .int (nI k)])), (l1, .inl (cI, 240, .inl l1_fo_53))] H := hP
            have hD : va_D A [(h0, .inr (2, [.ref tx, .ref lw])), (tx, .inr (6, [.ref tp, .int ed, .int plo_46, .int fao_47])), (tp, .inr (5, [.ref by_, .int (nI T)])), (by_, .inl (cI, 260, .inl fb)), (lw, .inr (1, [.ref l1, .ref l2, .ref l3, .ref l4, .ref l5, .ref l6, .ref l7, .int (nI zo_52), .int (nI k)])), (l1, .inl (cI, 240, .inl l1_fo_53))] := hD
            refine lv_iinc (v := (nI (i + 1))) (lv' := [(2, .int (nI (i + 1))), (3, .int 5), (0, .ref h0), (1, .int 2)]) hx hb dX2_readSum_84 hl (k := 3) rfl (nI_1 i) (by decide) rfl (fun ls hl => ?_)
            refine lv_goto (tgt := 7) hx hb dX2_readSum_87 (by decide) ?_
            exact ih_7 (i + 1) plo_46 fao_47 zo_52 l1_fo_53 (by omega) hw_54 _ _ (hP.sub [0, 1, 2, 3, 4, 5] rfl) (hD.sub [0, 1, 2, 3, 4, 5] (by decide) rfl) hS _ (lv_sub hl [2, 3, 0] rfl)
  exact loop_7 240 0 plo_2 fao_3 zo_4 l1o_5 (by omega) hw_6 _ _ (hP.sub [0, 1, 2, 3, 4, 5] rfl) (hD.sub [0, 1, 2, 3, 4, 5] (by decide) rfl) hS _ (lv_sub hl [1, 2, 0] rfl)

set_option maxRecDepth 100000 in
set_option maxHeartbeats 4000000 in
theorem c_readFactor_1 (l : Launch) (D : va_G) (cI cB : ClassId) (sz : Nat) (kk : KT) (h0 : Nat) (tx : Nat) (tp : Nat) (ed : Int32) (pl : Int32) (fa : Int32) (by_ : Nat) (T : Nat) (fb : Nat → Int32) (lw : Nat) (l1 : Nat) (l2 : Nat) (l3 : Nat) (l4 : Nat) (l5 : Nat) (l6 : Nat) (l7 : Nat) (z : Nat) (k : Nat) (q1 : Nat → Int32) (hT : T ≤ 260) (hz : z ≤ 240) (hk : k ≤ 16) : MVk (S := ((Int32) × (Int32) × (Nat) × (Nat → Int32))) l D cI cB kk yX2_readFactor cX2_readFactor 3 (rm 20 453) [.ref h0, .int 1] [(h0, .inr (2, [.ref tx, .ref lw])), (tx, .inr (6, [.ref tp, .int ed, .int pl, .int fa])), (tp, .inr (5, [.ref by_, .int (nI T)])), (by_, .inl (cI, 260, .inl fb)), (lw, .inr (1, [.ref l1, .ref l2, .ref l3, .ref l4, .ref l5, .ref l6, .ref l7, .int (nI z), .int (nI k)])), (l1, .inl (cI, 240, .inl q1))] sz (fun u => u.2.2.1 ≤ 240) (fun u : ((Int32) × (Int32) × (Nat) × (Nat → Int32)) => [(h0, .inr (2, [.ref tx, .ref lw])), (tx, .inr (6, [.ref tp, .int ed, .int u.1, .int u.2.1])), (tp, .inr (5, [.ref by_, .int (nI T)])), (by_, .inl (cI, 260, .inl fb)), (lw, .inr (1, [.ref l1, .ref l2, .ref l3, .ref l4, .ref l5, .ref l6, .ref l7, .int (nI u.2.2.1), .int (nI k)])), (l1, .inl (cI, 240, .inl u.2.2.2))]) := by
  refine MVk.of (by decide) (Nat.le_of_ble_eq_true rfl) ?_
  intro p e s m below meth c Q ls A X hin hN hKO hP hK hD hA hl ret
  have hS : va_S A s.heap s.heap [] := va_S.rf
  obtain ⟨hx, hb, hml, hown, htb⟩ := id X
  have hl : lv_has ls 3 [(0, .ref h0), (1, .int 1)] := hl
  refine lv_aload_n hx hb dX2_readFactor_0 rfl (lv_at hl 0 rfl) ?_
  refine va_ldcS hx hb hown hKO.2.2.2.2.2 dX2_readFactor_1 ?_
  refine cVRk (As := [.ref (kk.2.1 1)]) (rest := []) (n := 1) (ci := 2) (q0 := 0) X hN hKO hS hK hP (c_placeIn1 l D cI cB kk h0 lw tx tp ed pl fa by_ T fb hT) (gV k_479 k_481 k_1 k_99 k_482) (by decide +kernel) ⟨Nat.le_of_ble_eq_true rfl, Nat.le_of_ble_eq_true rfl⟩ ⟨rfl, rfl⟩ [0, 1, 2, 3] rfl rfl rfl rfl rfl rfl hl.1 (Nat.le_of_ble_eq_true rfl) dX2_readFactor_3 ⟨Nat.le_of_ble_eq_true rfl, Nat.le_of_ble_eq_true rfl⟩ (fun r_1 hr_1 => ?_)
  refine lv_istore_n (lv' := [(2, .int r_1), (0, .ref h0), (1, .int 1)]) hx hb dX2_readFactor_6 rfl hl (by decide) rfl (fun ls hl => ?_)
  refine lv_iload_n hx hb dX2_readFactor_7 rfl (lv_at hl 0 rfl) ?_
  refine lv_if_lt (tgt := 36) hx hb dX2_readFactor_8 (by decide) (fun c_8 => ?_) (fun c_8 => ?_)
  · refine lv_aload_n hx hb dX2_readFactor_36 rfl (lv_at hl 1 rfl) ?_
    refine va_get (D := D) (ci := 2) (v := .ref tx) (C := RX2) (T := TX2) (N := 2) hx hb htb itX2 hown hK hP 0 rfl rfl 0 (by decide) (htb _ k_288) (fun _ h9 => h9) rfl dX2_readFactor_37 ?_
    refine cVR (As := []) (rest := []) (n := 0) (ci := 6) (q0 := 0) X hN hK hP (c_X6_sign l D cI cB tx tp ed pl fa by_ T fb hT) (gV k_483 k_484 k_485 k_98 k_486) (by decide +kernel) ⟨Nat.le_of_ble_eq_true rfl, Nat.le_of_ble_eq_true rfl⟩ ⟨rfl, rfl⟩ [1, 2, 3] rfl rfl rfl rfl rfl rfl hl.1 (Nat.le_of_ble_eq_true rfl) dX2_readFactor_40 ⟨Nat.le_of_ble_eq_true rfl, Nat.le_of_ble_eq_true rfl⟩ (fun r_2 hr_2 => ?_)
    subst hr_2
    refine lv_bipush (v := 91) hx hb dX2_readFactor_43 (by decide) ?_
    refine lv_icmp_ne (tgt := 75) hx hb dX2_readFactor_45 (by decide) (fun c_45 => ?_) (fun c_45 => ?_)
    · refine lv_aload_n hx hb dX2_readFactor_75 rfl (lv_at hl 1 rfl) ?_
      refine va_get (D := D) (ci := 2) (v := .ref lw) (C := RX2) (T := TX2) (N := 2) hx hb htb itX2 hown hK hP 0 rfl rfl 1 (by decide) (htb _ k_289) (fun _ h9 => h9) rfl dX2_readFactor_76 ?_
      refine lv_iconst (v := 0) hx hb dX2_readFactor_79 (by decide) ?_
      refine lv_aload_n hx hb dX2_readFactor_80 rfl (lv_at hl 1 rfl) ?_
      refine va_get (D := D) (ci := 2) (v := .ref tx) (C := RX2) (T := TX2) (N := 2) hx hb htb itX2 hown hK hP 0 rfl rfl 0 (by decide) (htb _ k_288) (fun _ h9 => h9) rfl dX2_readFactor_81 ?_
      refine lv_iconst (v := 5) hx hb dX2_readFactor_84 (by decide) ?_
      refine lv_iconst (v := 2) hx hb dX2_readFactor_85 (by decide) ?_
      refine cVI (As := [.int 5, .int 2]) (rest := [.int 0, .ref lw]) (n := 2) (ci := 6) (q0 := 0) (wr := [(h0, .inr (2, [.ref tx, .ref lw])), (lw, .inr (1, [.ref l1, .ref l2, .ref l3, .ref l4, .ref l5, .ref l6, .ref l7, .int (nI z), .int (nI k)])), (l1, .inl (cI, 240, .inl q1))]) X hN hK hP hD hS hA (c_X6_number l D cI cB _ tx tp ed pl fa by_ T fb 5 2 hT (by decide)) (gV k_612 k_613 k_614 k_98 k_615) (by decide +kernel) ⟨Nat.le_of_ble_eq_true rfl, Nat.le_of_ble_eq_true rfl⟩ ⟨rfl, rfl⟩ [1, 2, 3] [0, 4, 5] rfl rfl (by decide) (by decide) rfl rfl rfl rfl rfl hl.1 (Nat.le_of_ble_eq_true rfl) dX2_readFactor_86 ⟨Nat.le_of_ble_eq_true rfl, Nat.le_of_ble_eq_true rfl⟩ (fun r_3 u H locs hw_6 hP hD hS => ?_)
      obtain ⟨h0_2o_4, h0_3o_5⟩ := u
      try dsimp only at hw_6
      have hP : va_P D vwCl [(h0, .inr (2, [.ref tx, .ref lw])), (lw, .inr (1, [.ref l1, .ref l2, .ref l3, .ref l4, .ref l5, .ref l6, .ref l7, .int (nI z), .int (nI k)])), (l1, .inl (cI, 240, .inl q1)), (tx, .inr (6, [.ref tp, .int ed, .int h0_2o_4, .int h0_3o_5])), (tp, .inr (5, [.ref by_, .int (nI T)])), (by_, .inl (cI, 260, .inl fb))] H := hP
      have hD : va_D A [(h0, .inr (2, [.ref tx, .ref lw])), (lw, .inr (1, [.ref l1, .ref l2, .ref l3, .ref l4, .ref l5, .ref l6, .ref l7, .int (nI z), .int (nI k)])), (l1, .inl (cI, 240, .inl q1)), (tx, .inr (6, [.ref tp, .int ed, .int h0_2o_4, .int h0_3o_5])), (tp, .inr (5, [.ref by_, .int (nI T)])), (by_, .inl (cI, 260, .inl fb))] := hD
      refine cVV (As := [.int 0, .int r_3]) (rest := []) (n := 2) (ci := 1) (q0 := 0) (wr := [(h0, .inr (2, [.ref tx, .ref lw])), (tx, .inr (6, [.ref tp, .int ed, .int h0_2o_4, .int h0_3o_5])), (tp, .inr (5, [.ref by_, .int (nI T)])), (by_, .inl (cI, 260, .inl fb))]) X hN hK hP hD hS hA (c_X1_addStep l D cI cB _ lw l1 l2 l3 l4 l5 l6 l7 z k 0 r_3 q1 hz hk) (gV k_594 k_595 k_596 k_97 k_597) (by decide +kernel) ⟨Nat.le_of_ble_eq_true rfl, Nat.le_of_ble_eq_true rfl⟩ ⟨rfl, rfl⟩ [1, 2] [0, 3, 4, 5] rfl rfl (by decide) (by decide) rfl rfl rfl rfl rfl hl.1 (Nat.le_of_ble_eq_true rfl) dX2_readFactor_89 ⟨Nat.le_of_ble_eq_true rfl, Nat.le_of_ble_eq_true rfl⟩ (fun u H locs hw_10 hP hD hS => ?_)
      obtain ⟨zo_8, l1_fo_9⟩ := u
      try dsimp only at hw_10
      have hP : va_P D vwCl [(h0, .inr (2, [.ref tx, .ref lw])), (tx, .inr (6, [.ref tp, .int ed, .int h0_2o_4, .int h0_3o_5])), (tp, .inr (5, [.ref by_, .int (nI T)])), (by_, .inl (cI, 260, .inl fb)), (lw, .inr (1, [.ref l1, .ref l2, .ref l3, .ref l4, .ref l5, .ref l6, .ref l7, .int (nI zo_8), .int (nI k)])), (l1, .inl (cI, 240, .inl l1_fo_9))] H := hP
      have hD : va_D A [(h0, .inr (2, [.ref tx, .ref lw])), (tx, .inr (6, [.ref tp, .int ed, .int h0_2o_4, .int h0_3o_5])), (tp, .inr (5, [.ref by_, .int (nI T)])), (by_, .inl (cI, 260, .inl fb)), (lw, .inr (1, [.ref l1, .ref l2, .ref l3, .ref l4, .ref l5, .ref l6, .ref l7, .int (nI zo_8), .int (nI k)])), (l1, .inl (cI, 240, .inl l1_fo_9))] := hD
      exact ret _ _ _ _ (h0_2o_4, h0_3o_5, zo_8, l1_fo_9) dX2_readFactor_92 hw_10 (hP.sub [0, 1, 2, 3, 4, 5] rfl) (hD.sub [0, 1, 2, 3, 4, 5] (by decide) rfl) hS
    · refine lv_aload_n hx hb dX2_readFactor_48 rfl (lv_at hl 1 rfl) ?_
      refine lv_iload_n hx hb dX2_readFactor_49 rfl (lv_at hl 2 rfl) ?_
      refine cVI (As := [.int 1]) (rest := []) (n := 1) (ci := 2) (q0 := 0) (wr := [(tp, .inr (5, [.ref by_, .int (nI T)])), (by_, .inl (cI, 260, .inl fb)), (lw, .inr (1, [.ref l1, .ref l2, .ref l3, .ref l4, .ref l5, .ref l6, .ref l7, .int (nI z), .int (nI k)])), (l1, .inl (cI, 240, .inl q1))]) X hN hK hP hD hS hA (c_X2_opens l D cI cB _ h0 lw tx tp ed pl fa 1) (gV k_598 k_600 k_5 k_99 k_601) (by decide +kernel) ⟨Nat.le_of_ble_eq_true rfl, Nat.le_of_ble_eq_true rfl⟩ ⟨rfl, rfl⟩ [0, 1] [2, 3, 4, 5] rfl rfl (by decide) (by decide) rfl rfl rfl rfl rfl hl.1 (Nat.le_of_ble_eq_true rfl) dX2_readFactor_50 ⟨Nat.le_of_ble_eq_true rfl, Nat.le_of_ble_eq_true rfl⟩ (fun r_11 u H locs hw_14 hP hD hS => ?_)
      obtain ⟨tx_2o_12, tx_3o_13⟩ := u
      try dsimp only at hw_14
      have hP : va_P D vwCl [(tp, .inr (5, [.ref by_, .int (nI T)])), (by_, .inl (cI, 260, .inl fb)), (lw, .inr (1, [.ref l1, .ref l2, .ref l3, .ref l4, .ref l5, .ref l6, .ref l7, .int (nI z), .int (nI k)])), (l1, .inl (cI, 240, .inl q1)), (h0, .inr (2, [.ref tx, .ref lw])), (tx, .inr (6, [.ref tp, .int ed, .int tx_2o_12, .int tx_3o_13]))] H := hP
      have hD : va_D A [(tp, .inr (5, [.ref by_, .int (nI T)])), (by_, .inl (cI, 260, .inl fb)), (lw, .inr (1, [.ref l1, .ref l2, .ref l3, .ref l4, .ref l5, .ref l6, .ref l7, .int (nI z), .int (nI k)])), (l1, .inl (cI, 240, .inl q1)), (h0, .inr (2, [.ref tx, .ref lw])), (tx, .inr (6, [.ref tp, .int ed, .int tx_2o_12, .int tx_3o_13]))] := hD
      obtain rfl : r_11 = 1 := hw_14.trans (by decide)
      refine lv_if_eq (tgt := 92) hx hb dX2_readFactor_53 (by decide) (fun c_53 => absurd c_53 (by decide)) (fun _ => ?_)
      refine lv_aload_n hx hb dX2_readFactor_56 rfl (lv_at hl 1 rfl) ?_
      refine lv_iload_n hx hb dX2_readFactor_57 rfl (lv_at hl 2 rfl) ?_
      refine lv_iconst (v := 1) hx hb dX2_readFactor_58 (by decide) ?_
      refine lv_iadd hx hb dX2_readFactor_59 ?_
      refine tv (z := 2) (by decide) ?_
      refine cVVk (As := [.int 2]) (rest := []) (n := 1) (ci := 2) (q0 := 0) (wr := []) X hN hKO hK hP hD hS hA (c_readSum_2 l D cI cB _ kk h0 tx tp ed tx_2o_12 tx_3o_13 by_ T fb lw l1 l2 l3 l4 l5 l6 l7 z k q1 hT hz hk) (gV k_581 k_583 k_2 k_99 k_584) (by decide +kernel) ⟨Nat.le_of_ble_eq_true rfl, Nat.le_of_ble_eq_true rfl⟩ ⟨rfl, rfl⟩ [4, 5, 0, 1, 2, 3] [] rfl rfl (by decide) (by decide) rfl rfl rfl rfl rfl hl.1 (Nat.le_of_ble_eq_true rfl) dX2_readFactor_60 ⟨Nat.le_of_ble_eq_true rfl, Nat.le_of_ble_eq_true rfl⟩ (fun u H locs hw_20 hP hD hS => ?_)
      obtain ⟨plo_16, fao_17, zo_18, l1o_19⟩ := u
      try dsimp only at hw_20
      have hP : va_P D vwCl [(h0, .inr (2, [.ref tx, .ref lw])), (tx, .inr (6, [.ref tp, .int ed, .int plo_16, .int fao_17])), (tp, .inr (5, [.ref by_, .int (nI T)])), (by_, .inl (cI, 260, .inl fb)), (lw, .inr (1, [.ref l1, .ref l2, .ref l3, .ref l4, .ref l5, .ref l6, .ref l7, .int (nI zo_18), .int (nI k)])), (l1, .inl (cI, 240, .inl l1o_19))] H := hP
      have hD : va_D A [(h0, .inr (2, [.ref tx, .ref lw])), (tx, .inr (6, [.ref tp, .int ed, .int plo_16, .int fao_17])), (tp, .inr (5, [.ref by_, .int (nI T)])), (by_, .inl (cI, 260, .inl fb)), (lw, .inr (1, [.ref l1, .ref l2, .ref l3, .ref l4, .ref l5, .ref l6, .ref l7, .int (nI zo_18), .int (nI k)])), (l1, .inl (cI, 240, .inl l1o_19))] := hD
      refine lv_aload_n hx hb dX2_readFactor_63 rfl (lv_at hl 1 rfl) ?_
      refine va_get (D := D) (ci := 2) (v := .ref tx) (C := RX2) (T := TX2) (N := 2) hx hb htb itX2 hown hK hP 0 rfl rfl 0 (by decide) (htb _ k_288) (fun _ h9 => h9) rfl dX2_readFactor_64 ?_
      refine lv_bipush (v := 93) hx hb dX2_readFactor_67 (by decide) ?_
      refine cVV (As := [.int 93]) (rest := []) (n := 1) (ci := 6) (q0 := 0) (wr := [(h0, .inr (2, [.ref tx, .ref lw])), (lw, .inr (1, [.ref l1, .ref l2, .ref l3, .ref l4, .ref l5, .ref l6, .ref l7, .int (nI zo_18), .int (nI k)])), (l1, .inl (cI, 240, .inl l1o_19))]) X hN hK hP hD hS hA (c_X6_expect l D cI cB _ tx tp ed plo_16 fao_17 by_ T fb 93 hT) (gV k_602 k_603 k_604 k_98 k_605) (by decide +kernel) ⟨Nat.le_of_ble_eq_true rfl, Nat.le_of_ble_eq_true rfl⟩ ⟨rfl, rfl⟩ [1, 2, 3] [0, 4, 5] rfl rfl (by decide) (by decide) rfl rfl rfl rfl rfl hl.1 (Nat.le_of_ble_eq_true rfl) dX2_readFactor_69 ⟨Nat.le_of_ble_eq_true rfl, Nat.le_of_ble_eq_true rfl⟩ (fun u H locs hw_24 hP hD hS => ?_)
      obtain ⟨h0_2o_22, h0_3o_23⟩ := u
      try dsimp only at hw_24
      have hP : va_P D vwCl [(h0, .inr (2, [.ref tx, .ref lw])), (lw, .inr (1, [.ref l1, .ref l2, .ref l3, .ref l4, .ref l5, .ref l6, .ref l7, .int (nI zo_18), .int (nI k)])), (l1, .inl (cI, 240, .inl l1o_19)), (tx, .inr (6, [.ref tp, .int ed, .int h0_2o_22, .int h0_3o_23])), (tp, .inr (5, [.ref by_, .int (nI T)])), (by_, .inl (cI, 260, .inl fb))] H := hP
      have hD : va_D A [(h0, .inr (2, [.ref tx, .ref lw])), (lw, .inr (1, [.ref l1, .ref l2, .ref l3, .ref l4, .ref l5, .ref l6, .ref l7, .int (nI zo_18), .int (nI k)])), (l1, .inl (cI, 240, .inl l1o_19)), (tx, .inr (6, [.ref tp, .int ed, .int h0_2o_22, .int h0_3o_23])), (tp, .inr (5, [.ref by_, .int (nI T)])), (by_, .inl (cI, 260, .inl fb))] := hD
      refine lv_goto (tgt := 92) hx hb dX2_readFactor_72 (by decide) ?_
      exact ret _ _ _ _ (h0_2o_22, h0_3o_23, zo_18, l1o_19) dX2_readFactor_92 hw_20 (hP.sub [0, 3, 4, 5, 1, 2] rfl) (hD.sub [0, 3, 4, 5, 1, 2] (by decide) rfl) hS
  · refine lv_aload_n hx hb dX2_readFactor_11 rfl (lv_at hl 1 rfl) ?_
    refine va_get (D := D) (ci := 2) (v := .ref tx) (C := RX2) (T := TX2) (N := 2) hx hb htb itX2 hown hK hP 0 rfl rfl 0 (by decide) (htb _ k_288) (fun _ h9 => h9) rfl dX2_readFactor_12 ?_
    refine lv_dup hx hb dX2_readFactor_15 rfl ?_
    refine va_getN (D := D) (ci := 6) (v := .int pl) (C := RX6) (T := TX6) (N := 4) hx hb htb itX6 hown hK hP 1 rfl rfl 2 (by decide) (va_Nw.use rfl (hN _ n_264 rfl)) (fun _ h9 => h9) rfl dX2_readFactor_16 ?_
    refine lv_iconst (v := 1) hx hb dX2_readFactor_19 (by decide) ?_
    refine lv_iadd hx hb dX2_readFactor_20 ?_
    refine lv_topi (fun x_25 ex_25 => ?_)
    refine va_putN (D := D) (ci := 6) (v := .int x_25) (ty := .int) (C := RX6) (T := TX6) (N := 4) hx hb htb itX6 tyX6 tyX6_ok nmX6 hown hK hP hD hS 1 rfl rfl 2 (by decide) (va_Nw.use rfl (hN _ n_264 rfl)) (fun _ h9 => h9) rfl (tyX6_ok 2 (by decide)) rfl rfl (Nat.le_of_ble_eq_true rfl) dX2_readFactor_21 (fun H locs hP hD hS => ?_)
    have hP : va_P D vwCl [(h0, .inr (2, [.ref tx, .ref lw])), (tx, .inr (6, [.ref tp, .int ed, .int x_25, .int fa])), (tp, .inr (5, [.ref by_, .int (nI T)])), (by_, .inl (cI, 260, .inl fb)), (lw, .inr (1, [.ref l1, .ref l2, .ref l3, .ref l4, .ref l5, .ref l6, .ref l7, .int (nI z), .int (nI k)])), (l1, .inl (cI, 240, .inl q1))] H := hP
    have hD : va_D A [(h0, .inr (2, [.ref tx, .ref lw])), (tx, .inr (6, [.ref tp, .int ed, .int x_25, .int fa])), (tp, .inr (5, [.ref by_, .int (nI T)])), (by_, .inl (cI, 260, .inl fb)), (lw, .inr (1, [.ref l1, .ref l2, .ref l3, .ref l4, .ref l5, .ref l6, .ref l7, .int (nI z), .int (nI k)])), (l1, .inl (cI, 240, .inl q1))] := hD
    refine lv_aload_n hx hb dX2_readFactor_24 rfl (lv_at hl 1 rfl) ?_
    refine va_get (D := D) (ci := 2) (v := .ref lw) (C := RX2) (T := TX2) (N := 2) hx hb htb itX2 hown hK hP 0 rfl rfl 1 (by decide) (htb _ k_289) (fun _ h9 => h9) rfl dX2_readFactor_25 ?_
    refine lv_iconst (v := 1) hx hb dX2_readFactor_28 (by decide) ?_
    refine lv_iload_n hx hb dX2_readFactor_29 rfl (lv_at hl 0 rfl) ?_
    refine cVV (As := [.int 1, .int r_1]) (rest := []) (n := 2) (ci := 1) (q0 := 0) (wr := [(h0, .inr (2, [.ref tx, .ref lw])), (tx, .inr (6, [.ref tp, .int ed, .int x_25, .int fa])), (tp, .inr (5, [.ref by_, .int (nI T)])), (by_, .inl (cI, 260, .inl fb))]) X hN hK hP hD hS hA (c_X1_addStep l D cI cB _ lw l1 l2 l3 l4 l5 l6 l7 z k 1 r_1 q1 hz hk) (gV k_594 k_595 k_596 k_97 k_597) (by decide +kernel) ⟨Nat.le_of_ble_eq_true rfl, Nat.le_of_ble_eq_true rfl⟩ ⟨rfl, rfl⟩ [4, 5] [0, 1, 2, 3] rfl rfl (by decide) (by decide) rfl rfl rfl rfl rfl hl.1 (Nat.le_of_ble_eq_true rfl) dX2_readFactor_30 ⟨Nat.le_of_ble_eq_true rfl, Nat.le_of_ble_eq_true rfl⟩ (fun u H locs hw_29 hP hD hS => ?_)
    obtain ⟨zo_27, l1_fo_28⟩ := u
    try dsimp only at hw_29
    have hP : va_P D vwCl [(h0, .inr (2, [.ref tx, .ref lw])), (tx, .inr (6, [.ref tp, .int ed, .int x_25, .int fa])), (tp, .inr (5, [.ref by_, .int (nI T)])), (by_, .inl (cI, 260, .inl fb)), (lw, .inr (1, [.ref l1, .ref l2, .ref l3, .ref l4, .ref l5, .ref l6, .ref l7, .int (nI zo_27), .int (nI k)])), (l1, .inl (cI, 240, .inl l1_fo_28))] H := hP
    have hD : va_D A [(h0, .inr (2, [.ref tx, .ref lw])), (tx, .inr (6, [.ref tp, .int ed, .int x_25, .int fa])), (tp, .inr (5, [.ref by_, .int (nI T)])), (by_, .inl (cI, 260, .inl fb)), (lw, .inr (1, [.ref l1, .ref l2, .ref l3, .ref l4, .ref l5, .ref l6, .ref l7, .int (nI zo_27), .int (nI k)])), (l1, .inl (cI, 240, .inl l1_fo_28))] := hD
    refine lv_goto (tgt := 92) hx hb dX2_readFactor_33 (by decide) ?_
    exact ret _ _ _ _ (x_25, fa, zo_27, l1_fo_28) dX2_readFactor_92 hw_29 (hP.sub [0, 1, 2, 3, 4, 5] rfl) (hD.sub [0, 1, 2, 3, 4, 5] (by decide) rfl) hS

set_option maxRecDepth 100000 in
set_option maxHeartbeats 4000000 in
theorem c_readTerm_1 (l : Launch) (D : va_G) (cI cB : ClassId) (sz : Nat) (kk : KT) (h0 : Nat) (tx : Nat) (tp : Nat) (ed : Int32) (pl : Int32) (fa : Int32) (by_ : Nat) (T : Nat) (fb : Nat → Int32) (lw : Nat) (l1 : Nat) (l2 : Nat) (l3 : Nat) (l4 : Nat) (l5 : Nat) (l6 : Nat) (l7 : Nat) (z : Nat) (k : Nat) (q1 : Nat → Int32) (hT : T ≤ 260) (hz : z ≤ 240) (hk : k ≤ 16) : MVk (S := ((Int32) × (Int32) × (Nat) × (Nat → Int32))) l D cI cB kk yX2_readTerm cX2_readTerm 4 (rm 21 475) [.ref h0, .int 1] [(h0, .inr (2, [.ref tx, .ref lw])), (tx, .inr (6, [.ref tp, .int ed, .int pl, .int fa])), (tp, .inr (5, [.ref by_, .int (nI T)])), (by_, .inl (cI, 260, .inl fb)), (lw, .inr (1, [.ref l1, .ref l2, .ref l3, .ref l4, .ref l5, .ref l6, .ref l7, .int (nI z), .int (nI k)])), (l1, .inl (cI, 240, .inl q1))] sz (fun u => u.2.2.1 ≤ 240) (fun u : ((Int32) × (Int32) × (Nat) × (Nat → Int32)) => [(h0, .inr (2, [.ref tx, .ref lw])), (tx, .inr (6, [.ref tp, .int ed, .int u.1, .int u.2.1])), (tp, .inr (5, [.ref by_, .int (nI T)])), (by_, .inl (cI, 260, .inl fb)), (lw, .inr (1, [.ref l1, .ref l2, .ref l3, .ref l4, .ref l5, .ref l6, .ref l7, .int (nI u.2.2.1), .int (nI k)])), (l1, .inl (cI, 240, .inl u.2.2.2))]) := by
  refine MVk.of (by decide) (Nat.le_of_ble_eq_true rfl) ?_
  intro p e s m below meth c Q ls A X hin hN hKO hP hK hD hA hl ret
  have hS : va_S A s.heap s.heap [] := va_S.rf
  obtain ⟨hx, hb, hml, hown, htb⟩ := id X
  have hl : lv_has ls 4 [(0, .ref h0), (1, .int 1)] := hl
  refine lv_aload_n hx hb dX2_readTerm_0 rfl (lv_at hl 0 rfl) ?_
  refine lv_iload_n hx hb dX2_readTerm_1 rfl (lv_at hl 1 rfl) ?_
  refine cVVk (As := [.int 1]) (rest := []) (n := 1) (ci := 2) (q0 := 0) (wr := []) X hN hKO hK hP hD hS hA (c_readFactor_1 l D cI cB _ kk h0 tx tp ed pl fa by_ T fb lw l1 l2 l3 l4 l5 l6 l7 z k q1 hT hz hk) (gV k_589 k_591 k_4 k_99 k_592) (by decide +kernel) ⟨Nat.le_of_ble_eq_true rfl, Nat.le_of_ble_eq_true rfl⟩ ⟨rfl, rfl⟩ [0, 1, 2, 3, 4, 5] [] rfl rfl (by decide) (by decide) rfl rfl rfl rfl rfl hl.1 (Nat.le_of_ble_eq_true rfl) dX2_readTerm_2 ⟨Nat.le_of_ble_eq_true rfl, Nat.le_of_ble_eq_true rfl⟩ (fun u H locs hw_6 hP hD hS => ?_)
  obtain ⟨plo_2, fao_3, zo_4, l1o_5⟩ := u
  try dsimp only at hw_6
  have hP : va_P D vwCl [(h0, .inr (2, [.ref tx, .ref lw])), (tx, .inr (6, [.ref tp, .int ed, .int plo_2, .int fao_3])), (tp, .inr (5, [.ref by_, .int (nI T)])), (by_, .inl (cI, 260, .inl fb)), (lw, .inr (1, [.ref l1, .ref l2, .ref l3, .ref l4, .ref l5, .ref l6, .ref l7, .int (nI zo_4), .int (nI k)])), (l1, .inl (cI, 240, .inl l1o_5))] H := hP
  have hD : va_D A [(h0, .inr (2, [.ref tx, .ref lw])), (tx, .inr (6, [.ref tp, .int ed, .int plo_2, .int fao_3])), (tp, .inr (5, [.ref by_, .int (nI T)])), (by_, .inl (cI, 260, .inl fb)), (lw, .inr (1, [.ref l1, .ref l2, .ref l3, .ref l4, .ref l5, .ref l6, .ref l7, .int (nI zo_4), .int (nI k)])), (l1, .inl (cI, 240, .inl l1o_5))] := hD
  refine lv_iconst (v := 0) hx hb dX2_readTerm_5 (by decide) ?_
  refine lv_istore_n (lv' := [(2, .int 0), (0, .ref h0), (1, .int 1)]) hx hb dX2_readTerm_6 rfl hl (by decide) rfl (fun ls hl => ?_)
  have loop_7 : ∀ (n i : Nat) (pa : Int32) (fb_ : Int32) (za : Nat) (qa : Nat → Int32), n + i = 240 → (za ≤ 240) → ∀ (H : Heap) (locs : List Loc), va_P D vwCl [(h0, .inr (2, [.ref tx, .ref lw])), (tx, .inr (6, [.ref tp, .int ed, .int pa, .int fb_])), (tp, .inr (5, [.ref by_, .int (nI T)])), (by_, .inl (cI, 260, .inl fb)), (lw, .inr (1, [.ref l1, .ref l2, .ref l3, .ref l4, .ref l5, .ref l6, .ref l7, .int (nI za), .int (nI k)])), (l1, .inl (cI, 240, .inl qa))] H → va_D A [(h0, .inr (2, [.ref tx, .ref lw])), (tx, .inr (6, [.ref tp, .int ed, .int pa, .int fb_])), (tp, .inr (5, [.ref by_, .int (nI T)])), (by_, .inl (cI, 260, .inl fb)), (lw, .inr (1, [.ref l1, .ref l2, .ref l3, .ref l4, .ref l5, .ref l6, .ref l7, .int (nI za), .int (nI k)])), (l1, .inl (cI, 240, .inl qa))] → va_S A s.heap H locs → ∀ (ls : Array Slot), lv_has ls 4 [(0, .ref h0), (1, .int 1), (2, .int (nI i))] → W p l e (rm 21 475) s m ([.ref h0, .int 1] : List Value).toArray below meth c H locs 0 0 Q (F0 m 7 ls []) := by
    intro n
    induction n with
    | zero =>
      intro i pa fb_ za qa hni hza H locs hP hD hS ls hl
      have hni_7 := hni
      have hi : i = 240 := by omega
      refine lv_iload_n hx hb dX2_readTerm_7 rfl (lv_at hl 2 rfl) ?_
      refine lv_sipush (v := 240) hx hb dX2_readTerm_8 (by decide) ?_
      refine lv_icmp_ge (tgt := 60) hx hb dX2_readTerm_11 (by decide) (fun _ => ?_) (fun c_11 => absurd (by rw [hi]; decide) c_11)
      exact ret _ _ _ _ (pa, fb_, za, qa) dX2_readTerm_60 hza (hP.sub [0, 1, 2, 3, 4, 5] rfl) (hD.sub [0, 1, 2, 3, 4, 5] (by decide) rfl) hS
    | succ n ih_7 =>
      intro i pa fb_ za qa hni hza H locs hP hD hS ls hl
      have hni_7 := hni
      have hi : i < 240 := by omega
      refine lv_iload_n hx hb dX2_readTerm_7 rfl (lv_at hl 2 rfl) ?_
      refine lv_sipush (v := 240) hx hb dX2_readTerm_8 (by decide) ?_
      refine lv_icmp_ge (tgt := 60) hx hb dX2_readTerm_11 (by decide) (fun c_11 => absurd c_11 (nI_ge hi (by decide))) (fun _ => ?_)
      refine lv_aload_n hx hb dX2_readTerm_14 rfl (lv_at hl 0 rfl) ?_
      refine cVR (As := []) (rest := []) (n := 0) (ci := 2) (q0 := 0) X hN hK hP (c_X2_factorStep l D cI cB h0 lw tx tp ed pa fb_ by_ T fb hT) (gV k_620 k_622 k_6 k_99 k_623) (by decide +kernel) ⟨Nat.le_of_ble_eq_true rfl, Nat.le_of_ble_eq_true rfl⟩ ⟨rfl, rfl⟩ [0, 1, 2, 3] rfl rfl rfl rfl rfl rfl hl.1 (Nat.le_of_ble_eq_true rfl) dX2_readTerm_15 ⟨Nat.le_of_ble_eq_true rfl, Nat.le_of_ble_eq_true rfl⟩ (fun r_7 hr_7 => ?_)
      refine lv_iconst (v := (-1)) hx hb dX2_readTerm_18 (by decide) ?_
      refine lv_icmp_eq (tgt := 60) hx hb dX2_readTerm_19 (by decide) (fun c_19 => ?_) (fun c_19 => ?_)
      · exact ret _ _ _ _ (pa, fb_, za, qa) dX2_readTerm_60 hza (hP.sub [0, 1, 2, 3, 4, 5] rfl) (hD.sub [0, 1, 2, 3, 4, 5] (by decide) rfl) hS
      · refine lv_aload_n hx hb dX2_readTerm_22 rfl (lv_at hl 0 rfl) ?_
        refine cVR (As := []) (rest := []) (n := 0) (ci := 2) (q0 := 0) X hN hK hP (c_X2_factorStep l D cI cB h0 lw tx tp ed pa fb_ by_ T fb hT) (gV k_620 k_622 k_6 k_99 k_623) (by decide +kernel) ⟨Nat.le_of_ble_eq_true rfl, Nat.le_of_ble_eq_true rfl⟩ ⟨rfl, rfl⟩ [0, 1, 2, 3] rfl rfl rfl rfl rfl rfl hl.1 (Nat.le_of_ble_eq_true rfl) dX2_readTerm_23 ⟨Nat.le_of_ble_eq_true rfl, Nat.le_of_ble_eq_true rfl⟩ (fun r_8 hr_8 => ?_)
        refine lv_istore_n (lv' := [(3, .int r_8), (0, .ref h0), (1, .int 1), (2, .int (nI i))]) hx hb dX2_readTerm_26 rfl hl (by decide) rfl (fun ls hl => ?_)
        refine lv_aload_n hx hb dX2_readTerm_27 rfl (lv_at hl 1 rfl) ?_
        refine va_get (D := D) (ci := 2) (v := .ref tx) (C := RX2) (T := TX2) (N := 2) hx hb htb itX2 hown hK hP 0 rfl rfl 0 (by decide) (htb _ k_288) (fun _ h9 => h9) rfl dX2_readTerm_28 ?_
        refine lv_dup hx hb dX2_readTerm_31 rfl ?_
        refine va_getN (D := D) (ci := 6) (v := .int pa) (C := RX6) (T := TX6) (N := 4) hx hb htb itX6 hown hK hP 1 rfl rfl 2 (by decide) (va_Nw.use rfl (hN _ n_264 rfl)) (fun _ h9 => h9) rfl dX2_readTerm_32 ?_
        refine lv_iconst (v := 1) hx hb dX2_readTerm_35 (by decide) ?_
        refine lv_iadd hx hb dX2_readTerm_36 ?_
        refine lv_topi (fun x_9 ex_9 => ?_)
        refine va_putN (D := D) (ci := 6) (v := .int x_9) (ty := .int) (C := RX6) (T := TX6) (N := 4) hx hb htb itX6 tyX6 tyX6_ok nmX6 hown hK hP hD hS 1 rfl rfl 2 (by decide) (va_Nw.use rfl (hN _ n_264 rfl)) (fun _ h9 => h9) rfl (tyX6_ok 2 (by decide)) rfl rfl (Nat.le_of_ble_eq_true rfl) dX2_readTerm_37 (fun H locs hP hD hS => ?_)
        have hP : va_P D vwCl [(h0, .inr (2, [.ref tx, .ref lw])), (tx, .inr (6, [.ref tp, .int ed, .int x_9, .int fb_])), (tp, .inr (5, [.ref by_, .int (nI T)])), (by_, .inl (cI, 260, .inl fb)), (lw, .inr (1, [.ref l1, .ref l2, .ref l3, .ref l4, .ref l5, .ref l6, .ref l7, .int (nI za), .int (nI k)])), (l1, .inl (cI, 240, .inl qa))] H := hP
        have hD : va_D A [(h0, .inr (2, [.ref tx, .ref lw])), (tx, .inr (6, [.ref tp, .int ed, .int x_9, .int fb_])), (tp, .inr (5, [.ref by_, .int (nI T)])), (by_, .inl (cI, 260, .inl fb)), (lw, .inr (1, [.ref l1, .ref l2, .ref l3, .ref l4, .ref l5, .ref l6, .ref l7, .int (nI za), .int (nI k)])), (l1, .inl (cI, 240, .inl qa))] := hD
        refine lv_aload_n hx hb dX2_readTerm_40 rfl (lv_at hl 1 rfl) ?_
        refine lv_iload_n hx hb dX2_readTerm_41 rfl (lv_at hl 2 rfl) ?_
        refine cVVk (As := [.int 1]) (rest := []) (n := 1) (ci := 2) (q0 := 0) (wr := []) X hN hKO hK hP hD hS hA (c_readFactor_1 l D cI cB _ kk h0 tx tp ed x_9 fb_ by_ T fb lw l1 l2 l3 l4 l5 l6 l7 za k qa hT hza hk) (gV k_589 k_591 k_4 k_99 k_592) (by decide +kernel) ⟨Nat.le_of_ble_eq_true rfl, Nat.le_of_ble_eq_true rfl⟩ ⟨rfl, rfl⟩ [0, 1, 2, 3, 4, 5] [] rfl rfl (by decide) (by decide) rfl rfl rfl rfl rfl hl.1 (Nat.le_of_ble_eq_true rfl) dX2_readTerm_42 ⟨Nat.le_of_ble_eq_true rfl, Nat.le_of_ble_eq_true rfl⟩ (fun u H locs hw_15 hP hD hS => ?_)
        obtain ⟨plo_11, fao_12, zo_13, l1o_14⟩ := u
        try dsimp only at hw_15
        have hP : va_P D vwCl [(h0, .inr (2, [.ref tx, .ref lw])), (tx, .inr (6, [.ref tp, .int ed, .int plo_11, .int fao_12])), (tp, .inr (5, [.ref by_, .int (nI T)])), (by_, .inl (cI, 260, .inl fb)), (lw, .inr (1, [.ref l1, .ref l2, .ref l3, .ref l4, .ref l5, .ref l6, .ref l7, .int (nI zo_13), .int (nI k)])), (l1, .inl (cI, 240, .inl l1o_14))] H := hP
        have hD : va_D A [(h0, .inr (2, [.ref tx, .ref lw])), (tx, .inr (6, [.ref tp, .int ed, .int plo_11, .int fao_12])), (tp, .inr (5, [.ref by_, .int (nI T)])), (by_, .inl (cI, 260, .inl fb)), (lw, .inr (1, [.ref l1, .ref l2, .ref l3, .ref l4, .ref l5, .ref l6, .ref l7, .int (nI zo_13), .int (nI k)])), (l1, .inl (cI, 240, .inl l1o_14))] := hD
        refine lv_aload_n hx hb dX2_readTerm_45 rfl (lv_at hl 1 rfl) ?_
        refine va_get (D := D) (ci := 2) (v := .ref lw) (C := RX2) (T := TX2) (N := 2) hx hb htb itX2 hown hK hP 0 rfl rfl 1 (by decide) (htb _ k_289) (fun _ h9 => h9) rfl dX2_readTerm_46 ?_
        refine lv_iload_n hx hb dX2_readTerm_49 rfl (lv_at hl 0 rfl) ?_
        refine lv_iconst (v := 0) hx hb dX2_readTerm_50 (by decide) ?_
        refine cVV (As := [.int r_8, .int 0]) (rest := []) (n := 2) (ci := 1) (q0 := 0) (wr := [(h0, .inr (2, [.ref tx, .ref lw])), (tx, .inr (6, [.ref tp, .int ed, .int plo_11, .int fao_12])), (tp, .inr (5, [.ref by_, .int (nI T)])), (by_, .inl (cI, 260, .inl fb))]) X hN hK hP hD hS hA (c_X1_addStep l D cI cB _ lw l1 l2 l3 l4 l5 l6 l7 zo_13 k r_8 0 l1o_14 hw_15 hk) (gV k_594 k_595 k_596 k_97 k_597) (by decide +kernel) ⟨Nat.le_of_ble_eq_true rfl, Nat.le_of_ble_eq_true rfl⟩ ⟨rfl, rfl⟩ [4, 5] [0, 1, 2, 3] rfl rfl (by decide) (by decide) rfl rfl rfl rfl rfl hl.1 (Nat.le_of_ble_eq_true rfl) dX2_readTerm_51 ⟨Nat.le_of_ble_eq_true rfl, Nat.le_of_ble_eq_true rfl⟩ (fun u H locs hw_19 hP hD hS => ?_)
        obtain ⟨zo_17, l1_fo_18⟩ := u
        try dsimp only at hw_19
        have hP : va_P D vwCl [(h0, .inr (2, [.ref tx, .ref lw])), (tx, .inr (6, [.ref tp, .int ed, .int plo_11, .int fao_12])), (tp, .inr (5, [.ref by_, .int (nI T)])), (by_, .inl (cI, 260, .inl fb)), (lw, .inr (1, [.ref l1, .ref l2, .ref l3, .ref l4, .ref l5, .ref l6, .ref l7, .int (nI zo_17), .int (nI k)])), (l1, .inl (cI, 240, .inl l1_fo_18))] H := hP
        have hD : va_D A [(h0, .inr (2, [.ref tx, .ref lw])), (tx, .inr (6, [.ref tp, .int ed, .int plo_11, .int fao_12])), (tp, .inr (5, [.ref by_, .int (nI T)])), (by_, .inl (cI, 260, .inl fb)), (lw, .inr (1, [.ref l1, .ref l2, .ref l3, .ref l4, .ref l5, .ref l6, .ref l7, .int (nI zo_17), .int (nI k)])), (l1, .inl (cI, 240, .inl l1_fo_18))] := hD
        refine lv_iinc (v := (nI (i + 1))) (lv' := [(2, .int (nI (i + 1))), (3, .int r_8), (0, .ref h0), (1, .int 1)]) hx hb dX2_readTerm_54 hl (k := 3) rfl (nI_1 i) (by decide) rfl (fun ls hl => ?_)
        refine lv_goto (tgt := 7) hx hb dX2_readTerm_57 (by decide) ?_
        exact ih_7 (i + 1) plo_11 fao_12 zo_17 l1_fo_18 (by omega) hw_19 _ _ (hP.sub [0, 1, 2, 3, 4, 5] rfl) (hD.sub [0, 1, 2, 3, 4, 5] (by decide) rfl) hS _ (lv_sub hl [2, 3, 0] rfl)
  exact loop_7 240 0 plo_2 fao_3 zo_4 l1o_5 (by omega) hw_6 _ _ (hP.sub [0, 1, 2, 3, 4, 5] rfl) (hD.sub [0, 1, 2, 3, 4, 5] (by decide) rfl) hS _ (lv_sub hl [1, 2, 0] rfl)

set_option maxRecDepth 100000 in
set_option maxHeartbeats 4000000 in
theorem c_readSum_1 (l : Launch) (D : va_G) (cI cB : ClassId) (sz : Nat) (kk : KT) (h0 : Nat) (tx : Nat) (tp : Nat) (ed : Int32) (pl : Int32) (fa : Int32) (by_ : Nat) (T : Nat) (fb : Nat → Int32) (lw : Nat) (l1 : Nat) (l2 : Nat) (l3 : Nat) (l4 : Nat) (l5 : Nat) (l6 : Nat) (l7 : Nat) (z : Nat) (k : Nat) (q1 : Nat → Int32) (hT : T ≤ 260) (hz : z ≤ 240) (hk : k ≤ 16) : MVk (S := ((Int32) × (Int32) × (Nat) × (Nat → Int32))) l D cI cB kk yX2_readSum cX2_readSum 4 (rm 22 498) [.ref h0, .int 1] [(h0, .inr (2, [.ref tx, .ref lw])), (tx, .inr (6, [.ref tp, .int ed, .int pl, .int fa])), (tp, .inr (5, [.ref by_, .int (nI T)])), (by_, .inl (cI, 260, .inl fb)), (lw, .inr (1, [.ref l1, .ref l2, .ref l3, .ref l4, .ref l5, .ref l6, .ref l7, .int (nI z), .int (nI k)])), (l1, .inl (cI, 240, .inl q1))] sz (fun u => u.2.2.1 ≤ 240) (fun u : ((Int32) × (Int32) × (Nat) × (Nat → Int32)) => [(h0, .inr (2, [.ref tx, .ref lw])), (tx, .inr (6, [.ref tp, .int ed, .int u.1, .int u.2.1])), (tp, .inr (5, [.ref by_, .int (nI T)])), (by_, .inl (cI, 260, .inl fb)), (lw, .inr (1, [.ref l1, .ref l2, .ref l3, .ref l4, .ref l5, .ref l6, .ref l7, .int (nI u.2.2.1), .int (nI k)])), (l1, .inl (cI, 240, .inl u.2.2.2))]) := by
  refine MVk.of (by decide) (Nat.le_of_ble_eq_true rfl) ?_
  intro p e s m below meth c Q ls A X hin hN hKO hP hK hD hA hl ret
  have hS : va_S A s.heap s.heap [] := va_S.rf
  obtain ⟨hx, hb, hml, hown, htb⟩ := id X
  have hl : lv_has ls 4 [(0, .ref h0), (1, .int 1)] := hl
  refine lv_aload_n hx hb dX2_readSum_0 rfl (lv_at hl 0 rfl) ?_
  refine lv_iload_n hx hb dX2_readSum_1 rfl (lv_at hl 1 rfl) ?_
  refine cVVk (As := [.int 1]) (rest := []) (n := 1) (ci := 2) (q0 := 0) (wr := []) X hN hKO hK hP hD hS hA (c_readTerm_1 l D cI cB _ kk h0 tx tp ed pl fa by_ T fb lw l1 l2 l3 l4 l5 l6 l7 z k q1 hT hz hk) (gV k_585 k_587 k_3 k_99 k_588) (by decide +kernel) ⟨Nat.le_of_ble_eq_true rfl, Nat.le_of_ble_eq_true rfl⟩ ⟨rfl, rfl⟩ [0, 1, 2, 3, 4, 5] [] rfl rfl (by decide) (by decide) rfl rfl rfl rfl rfl hl.1 (Nat.le_of_ble_eq_true rfl) dX2_readSum_2 ⟨Nat.le_of_ble_eq_true rfl, Nat.le_of_ble_eq_true rfl⟩ (fun u H locs hw_6 hP hD hS => ?_)
  obtain ⟨plo_2, fao_3, zo_4, l1o_5⟩ := u
  try dsimp only at hw_6
  have hP : va_P D vwCl [(h0, .inr (2, [.ref tx, .ref lw])), (tx, .inr (6, [.ref tp, .int ed, .int plo_2, .int fao_3])), (tp, .inr (5, [.ref by_, .int (nI T)])), (by_, .inl (cI, 260, .inl fb)), (lw, .inr (1, [.ref l1, .ref l2, .ref l3, .ref l4, .ref l5, .ref l6, .ref l7, .int (nI zo_4), .int (nI k)])), (l1, .inl (cI, 240, .inl l1o_5))] H := hP
  have hD : va_D A [(h0, .inr (2, [.ref tx, .ref lw])), (tx, .inr (6, [.ref tp, .int ed, .int plo_2, .int fao_3])), (tp, .inr (5, [.ref by_, .int (nI T)])), (by_, .inl (cI, 260, .inl fb)), (lw, .inr (1, [.ref l1, .ref l2, .ref l3, .ref l4, .ref l5, .ref l6, .ref l7, .int (nI zo_4), .int (nI k)])), (l1, .inl (cI, 240, .inl l1o_5))] := hD
  refine lv_iconst (v := 0) hx hb dX2_readSum_5 (by decide) ?_
  refine lv_istore_n (lv' := [(2, .int 0), (0, .ref h0), (1, .int 1)]) hx hb dX2_readSum_6 rfl hl (by decide) rfl (fun ls hl => ?_)
  have loop_7 : ∀ (n i : Nat) (pa : Int32) (fb_ : Int32) (za : Nat) (qa : Nat → Int32), n + i = 240 → (za ≤ 240) → ∀ (H : Heap) (locs : List Loc), va_P D vwCl [(h0, .inr (2, [.ref tx, .ref lw])), (tx, .inr (6, [.ref tp, .int ed, .int pa, .int fb_])), (tp, .inr (5, [.ref by_, .int (nI T)])), (by_, .inl (cI, 260, .inl fb)), (lw, .inr (1, [.ref l1, .ref l2, .ref l3, .ref l4, .ref l5, .ref l6, .ref l7, .int (nI za), .int (nI k)])), (l1, .inl (cI, 240, .inl qa))] H → va_D A [(h0, .inr (2, [.ref tx, .ref lw])), (tx, .inr (6, [.ref tp, .int ed, .int pa, .int fb_])), (tp, .inr (5, [.ref by_, .int (nI T)])), (by_, .inl (cI, 260, .inl fb)), (lw, .inr (1, [.ref l1, .ref l2, .ref l3, .ref l4, .ref l5, .ref l6, .ref l7, .int (nI za), .int (nI k)])), (l1, .inl (cI, 240, .inl qa))] → va_S A s.heap H locs → ∀ (ls : Array Slot), lv_has ls 4 [(0, .ref h0), (1, .int 1), (2, .int (nI i))] → W p l e (rm 22 498) s m ([.ref h0, .int 1] : List Value).toArray below meth c H locs 0 0 Q (F0 m 7 ls []) := by
    intro n
    induction n with
    | zero =>
      intro i pa fb_ za qa hni hza H locs hP hD hS ls hl
      have hni_7 := hni
      have hi : i = 240 := by omega
      refine lv_iload_n hx hb dX2_readSum_7 rfl (lv_at hl 2 rfl) ?_
      refine lv_sipush (v := 240) hx hb dX2_readSum_8 (by decide) ?_
      refine lv_icmp_ge (tgt := 90) hx hb dX2_readSum_11 (by decide) (fun _ => ?_) (fun c_11 => absurd (by rw [hi]; decide) c_11)
      exact ret _ _ _ _ (pa, fb_, za, qa) dX2_readSum_90 hza (hP.sub [0, 1, 2, 3, 4, 5] rfl) (hD.sub [0, 1, 2, 3, 4, 5] (by decide) rfl) hS
    | succ n ih_7 =>
      intro i pa fb_ za qa hni hza H locs hP hD hS ls hl
      have hni_7 := hni
      have hi : i < 240 := by omega
      refine lv_iload_n hx hb dX2_readSum_7 rfl (lv_at hl 2 rfl) ?_
      refine lv_sipush (v := 240) hx hb dX2_readSum_8 (by decide) ?_
      refine lv_icmp_ge (tgt := 90) hx hb dX2_readSum_11 (by decide) (fun c_11 => absurd c_11 (nI_ge hi (by decide))) (fun _ => ?_)
      refine lv_aload_n hx hb dX2_readSum_14 rfl (lv_at hl 0 rfl) ?_
      refine va_get (D := D) (ci := 2) (v := .ref tx) (C := RX2) (T := TX2) (N := 2) hx hb htb itX2 hown hK hP 0 rfl rfl 0 (by decide) (htb _ k_288) (fun _ h9 => h9) rfl dX2_readSum_15 ?_
      refine cVR (As := []) (rest := []) (n := 0) (ci := 6) (q0 := 0) X hN hK hP (c_X6_sign l D cI cB tx tp ed pa fb_ by_ T fb hT) (gV k_483 k_484 k_485 k_98 k_486) (by decide +kernel) ⟨Nat.le_of_ble_eq_true rfl, Nat.le_of_ble_eq_true rfl⟩ ⟨rfl, rfl⟩ [1, 2, 3] rfl rfl rfl rfl rfl rfl hl.1 (Nat.le_of_ble_eq_true rfl) dX2_readSum_18 ⟨Nat.le_of_ble_eq_true rfl, Nat.le_of_ble_eq_true rfl⟩ (fun r_7 hr_7 => ?_)
      subst hr_7
      refine lv_bipush (v := 43) hx hb dX2_readSum_21 (by decide) ?_
      refine lv_icmp_eq (tgt := 38) hx hb dX2_readSum_23 (by decide) (fun c_23 => ?_) (fun c_23 => ?_)
      · refine lv_aload_n hx hb dX2_readSum_38 rfl (lv_at hl 0 rfl) ?_
        refine va_get (D := D) (ci := 2) (v := .ref tx) (C := RX2) (T := TX2) (N := 2) hx hb htb itX2 hown hK hP 0 rfl rfl 0 (by decide) (htb _ k_288) (fun _ h9 => h9) rfl dX2_readSum_39 ?_
        refine cVR (As := []) (rest := []) (n := 0) (ci := 6) (q0 := 0) X hN hK hP (c_X6_sign l D cI cB tx tp ed pa fb_ by_ T fb hT) (gV k_483 k_484 k_485 k_98 k_486) (by decide +kernel) ⟨Nat.le_of_ble_eq_true rfl, Nat.le_of_ble_eq_true rfl⟩ ⟨rfl, rfl⟩ [1, 2, 3] rfl rfl rfl rfl rfl rfl hl.1 (Nat.le_of_ble_eq_true rfl) dX2_readSum_42 ⟨Nat.le_of_ble_eq_true rfl, Nat.le_of_ble_eq_true rfl⟩ (fun r_8 hr_8 => ?_)
        subst hr_8
        refine lv_bipush (v := 43) hx hb dX2_readSum_45 (by decide) ?_
        refine lv_icmp_ne (tgt := 54) hx hb dX2_readSum_47 (by decide) (fun c_47 => ?_) (fun c_47 => ?_)
        · refine lv_bipush (v := 6) hx hb dX2_readSum_54 (by decide) ?_
          refine lv_istore_n (lv' := [(3, .int 6), (0, .ref h0), (1, .int 1), (2, .int (nI i))]) hx hb dX2_readSum_56 rfl hl (by decide) rfl (fun ls hl => ?_)
          refine lv_aload_n hx hb dX2_readSum_57 rfl (lv_at hl 1 rfl) ?_
          refine va_get (D := D) (ci := 2) (v := .ref tx) (C := RX2) (T := TX2) (N := 2) hx hb htb itX2 hown hK hP 0 rfl rfl 0 (by decide) (htb _ k_288) (fun _ h9 => h9) rfl dX2_readSum_58 ?_
          refine lv_dup hx hb dX2_readSum_61 rfl ?_
          refine va_getN (D := D) (ci := 6) (v := .int pa) (C := RX6) (T := TX6) (N := 4) hx hb htb itX6 hown hK hP 1 rfl rfl 2 (by decide) (va_Nw.use rfl (hN _ n_264 rfl)) (fun _ h9 => h9) rfl dX2_readSum_62 ?_
          refine lv_iconst (v := 1) hx hb dX2_readSum_65 (by decide) ?_
          refine lv_iadd hx hb dX2_readSum_66 ?_
          refine lv_topi (fun x_9 ex_9 => ?_)
          refine va_putN (D := D) (ci := 6) (v := .int x_9) (ty := .int) (C := RX6) (T := TX6) (N := 4) hx hb htb itX6 tyX6 tyX6_ok nmX6 hown hK hP hD hS 1 rfl rfl 2 (by decide) (va_Nw.use rfl (hN _ n_264 rfl)) (fun _ h9 => h9) rfl (tyX6_ok 2 (by decide)) rfl rfl (Nat.le_of_ble_eq_true rfl) dX2_readSum_67 (fun H locs hP hD hS => ?_)
          have hP : va_P D vwCl [(h0, .inr (2, [.ref tx, .ref lw])), (tx, .inr (6, [.ref tp, .int ed, .int x_9, .int fb_])), (tp, .inr (5, [.ref by_, .int (nI T)])), (by_, .inl (cI, 260, .inl fb)), (lw, .inr (1, [.ref l1, .ref l2, .ref l3, .ref l4, .ref l5, .ref l6, .ref l7, .int (nI za), .int (nI k)])), (l1, .inl (cI, 240, .inl qa))] H := hP
          have hD : va_D A [(h0, .inr (2, [.ref tx, .ref lw])), (tx, .inr (6, [.ref tp, .int ed, .int x_9, .int fb_])), (tp, .inr (5, [.ref by_, .int (nI T)])), (by_, .inl (cI, 260, .inl fb)), (lw, .inr (1, [.ref l1, .ref l2, .ref l3, .ref l4, .ref l5, .ref l6, .ref l7, .int (nI za), .int (nI k)])), (l1, .inl (cI, 240, .inl qa))] := hD
          refine lv_aload_n hx hb dX2_readSum_70 rfl (lv_at hl 1 rfl) ?_
          refine lv_iload_n hx hb dX2_readSum_71 rfl (lv_at hl 2 rfl) ?_
          refine cVVk (As := [.int 1]) (rest := []) (n := 1) (ci := 2) (q0 := 0) (wr := []) X hN hKO hK hP hD hS hA (c_readTerm_1 l D cI cB _ kk h0 tx tp ed x_9 fb_ by_ T fb lw l1 l2 l3 l4 l5 l6 l7 za k qa hT hza hk) (gV k_585 k_587 k_3 k_99 k_588) (by decide +kernel) ⟨Nat.le_of_ble_eq_true rfl, Nat.le_of_ble_eq_true rfl⟩ ⟨rfl, rfl⟩ [0, 1, 2, 3, 4, 5] [] rfl rfl (by decide) (by decide) rfl rfl rfl rfl rfl hl.1 (Nat.le_of_ble_eq_true rfl) dX2_readSum_72 ⟨Nat.le_of_ble_eq_true rfl, Nat.le_of_ble_eq_true rfl⟩ (fun u H locs hw_15 hP hD hS => ?_)
          obtain ⟨plo_11, fao_12, zo_13, l1o_14⟩ := u
          try dsimp only at hw_15
          have hP : va_P D vwCl [(h0, .inr (2, [.ref tx, .ref lw])), (tx, .inr (6, [.ref tp, .int ed, .int plo_11, .int fao_12])), (tp, .inr (5, [.ref by_, .int (nI T)])), (by_, .inl (cI, 260, .inl fb)), (lw, .inr (1, [.ref l1, .ref l2, .ref l3, .ref l4, .ref l5, .ref l6, .ref l7, .int (nI zo_13), .int (nI k)])), (l1, .inl (cI, 240, .inl l1o_14))] H := hP
          have hD : va_D A [(h0, .inr (2, [.ref tx, .ref lw])), (tx, .inr (6, [.ref tp, .int ed, .int plo_11, .int fao_12])), (tp, .inr (5, [.ref by_, .int (nI T)])), (by_, .inl (cI, 260, .inl fb)), (lw, .inr (1, [.ref l1, .ref l2, .ref l3, .ref l4, .ref l5, .ref l6, .ref l7, .int (nI zo_13), .int (nI k)])), (l1, .inl (cI, 240, .inl l1o_14))] := hD
          refine lv_aload_n hx hb dX2_readSum_75 rfl (lv_at hl 1 rfl) ?_
          refine va_get (D := D) (ci := 2) (v := .ref lw) (C := RX2) (T := TX2) (N := 2) hx hb htb itX2 hown hK hP 0 rfl rfl 1 (by decide) (htb _ k_289) (fun _ h9 => h9) rfl dX2_readSum_76 ?_
          refine lv_iload_n hx hb dX2_readSum_79 rfl (lv_at hl 0 rfl) ?_
          refine lv_iconst (v := 0) hx hb dX2_readSum_80 (by decide) ?_
          refine cVV (As := [.int 6, .int 0]) (rest := []) (n := 2) (ci := 1) (q0 := 0) (wr := [(h0, .inr (2, [.ref tx, .ref lw])), (tx, .inr (6, [.ref tp, .int ed, .int plo_11, .int fao_12])), (tp, .inr (5, [.ref by_, .int (nI T)])), (by_, .inl (cI, 260, .inl fb))]) X hN hK hP hD hS hA (c_X1_addStep l D cI cB _ lw l1 l2 l3 l4 l5 l6 l7 zo_13 k 6 0 l1o_14 hw_15 hk) (gV k_594 k_595 k_596 k_97 k_597) (by decide +kernel) ⟨Nat.le_of_ble_eq_true rfl, Nat.le_of_ble_eq_true rfl⟩ ⟨rfl, rfl⟩ [4, 5] [0, 1, 2, 3] rfl rfl (by decide) (by decide) rfl rfl rfl rfl rfl hl.1 (Nat.le_of_ble_eq_true rfl) dX2_readSum_81 ⟨Nat.le_of_ble_eq_true rfl, Nat.le_of_ble_eq_true rfl⟩ (fun u H locs hw_19 hP hD hS => ?_)
          obtain ⟨zo_17, l1_fo_18⟩ := u
          try dsimp only at hw_19
          have hP : va_P D vwCl [(h0, .inr (2, [.ref tx, .ref lw])), (tx, .inr (6, [.ref tp, .int ed, .int plo_11, .int fao_12])), (tp, .inr (5, [.ref by_, .int (nI T)])), (by_, .inl (cI, 260, .inl fb)), (lw, .inr (1, [.ref l1, .ref l2, .ref l3, .ref l4, .ref l5, .ref l6, .ref l7, .int (nI zo_17), .int (nI k)])), (l1, .inl (cI, 240, .inl l1_fo_18))] H := hP
          have hD : va_D A [(h0, .inr (2, [.ref tx, .ref lw])), (tx, .inr (6, [.ref tp, .int ed, .int plo_11, .int fao_12])), (tp, .inr (5, [.ref by_, .int (nI T)])), (by_, .inl (cI, 260, .inl fb)), (lw, .inr (1, [.ref l1, .ref l2, .ref l3, .ref l4, .ref l5, .ref l6, .ref l7, .int (nI zo_17), .int (nI k)])), (l1, .inl (cI, 240, .inl l1_fo_18))] := hD
          refine lv_iinc (v := (nI (i + 1))) (lv' := [(2, .int (nI (i + 1))), (3, .int 6), (0, .ref h0), (1, .int 1)]) hx hb dX2_readSum_84 hl (k := 3) rfl (nI_1 i) (by decide) rfl (fun ls hl => ?_)
          refine lv_goto (tgt := 7) hx hb dX2_readSum_87 (by decide) ?_
          exact ih_7 (i + 1) plo_11 fao_12 zo_17 l1_fo_18 (by omega) hw_19 _ _ (hP.sub [0, 1, 2, 3, 4, 5] rfl) (hD.sub [0, 1, 2, 3, 4, 5] (by decide) rfl) hS _ (lv_sub hl [2, 3, 0] rfl)
        · refine lv_iconst (v := 5) hx hb dX2_readSum_50 (by decide) ?_
          refine lv_goto (tgt := 56) hx hb dX2_readSum_51 (by decide) ?_
          refine lv_istore_n (lv' := [(3, .int 5), (0, .ref h0), (1, .int 1), (2, .int (nI i))]) hx hb dX2_readSum_56 rfl hl (by decide) rfl (fun ls hl => ?_)
          refine lv_aload_n hx hb dX2_readSum_57 rfl (lv_at hl 1 rfl) ?_
          refine va_get (D := D) (ci := 2) (v := .ref tx) (C := RX2) (T := TX2) (N := 2) hx hb htb itX2 hown hK hP 0 rfl rfl 0 (by decide) (htb _ k_288) (fun _ h9 => h9) rfl dX2_readSum_58 ?_
          refine lv_dup hx hb dX2_readSum_61 rfl ?_
          refine va_getN (D := D) (ci := 6) (v := .int pa) (C := RX6) (T := TX6) (N := 4) hx hb htb itX6 hown hK hP 1 rfl rfl 2 (by decide) (va_Nw.use rfl (hN _ n_264 rfl)) (fun _ h9 => h9) rfl dX2_readSum_62 ?_
          refine lv_iconst (v := 1) hx hb dX2_readSum_65 (by decide) ?_
          refine lv_iadd hx hb dX2_readSum_66 ?_
          refine lv_topi (fun x_20 ex_20 => ?_)
          refine va_putN (D := D) (ci := 6) (v := .int x_20) (ty := .int) (C := RX6) (T := TX6) (N := 4) hx hb htb itX6 tyX6 tyX6_ok nmX6 hown hK hP hD hS 1 rfl rfl 2 (by decide) (va_Nw.use rfl (hN _ n_264 rfl)) (fun _ h9 => h9) rfl (tyX6_ok 2 (by decide)) rfl rfl (Nat.le_of_ble_eq_true rfl) dX2_readSum_67 (fun H locs hP hD hS => ?_)
          have hP : va_P D vwCl [(h0, .inr (2, [.ref tx, .ref lw])), (tx, .inr (6, [.ref tp, .int ed, .int x_20, .int fb_])), (tp, .inr (5, [.ref by_, .int (nI T)])), (by_, .inl (cI, 260, .inl fb)), (lw, .inr (1, [.ref l1, .ref l2, .ref l3, .ref l4, .ref l5, .ref l6, .ref l7, .int (nI za), .int (nI k)])), (l1, .inl (cI, 240, .inl qa))] H := hP
          have hD : va_D A [(h0, .inr (2, [.ref tx, .ref lw])), (tx, .inr (6, [.ref tp, .int ed, .int x_20, .int fb_])), (tp, .inr (5, [.ref by_, .int (nI T)])), (by_, .inl (cI, 260, .inl fb)), (lw, .inr (1, [.ref l1, .ref l2, .ref l3, .ref l4, .ref l5, .ref l6, .ref l7, .int (nI za), .int (nI k)])), (l1, .inl (cI, 240, .inl qa))] := hD
          refine lv_aload_n hx hb dX2_readSum_70 rfl (lv_at hl 1 rfl) ?_
          refine lv_iload_n hx hb dX2_readSum_71 rfl (lv_at hl 2 rfl) ?_
          refine cVVk (As := [.int 1]) (rest := []) (n := 1) (ci := 2) (q0 := 0) (wr := []) X hN hKO hK hP hD hS hA (c_readTerm_1 l D cI cB _ kk h0 tx tp ed x_20 fb_ by_ T fb lw l1 l2 l3 l4 l5 l6 l7 za k qa hT hza hk) (gV k_585 k_587 k_3 k_99 k_588) (by decide +kernel) ⟨Nat.le_of_ble_eq_true rfl, Nat.le_of_ble_eq_true rfl⟩ ⟨rfl, rfl⟩ [0, 1, 2, 3, 4, 5] [] rfl rfl (by decide) (by decide) rfl rfl rfl rfl rfl hl.1 (Nat.le_of_ble_eq_true rfl) dX2_readSum_72 ⟨Nat.le_of_ble_eq_true rfl, Nat.le_of_ble_eq_true rfl⟩ (fun u H locs hw_26 hP hD hS => ?_)
          obtain ⟨plo_22, fao_23, zo_24, l1o_25⟩ := u
          try dsimp only at hw_26
          have hP : va_P D vwCl [(h0, .inr (2, [.ref tx, .ref lw])), (tx, .inr (6, [.ref tp, .int ed, .int plo_22, .int fao_23])), (tp, .inr (5, [.ref by_, .int (nI T)])), (by_, .inl (cI, 260, .inl fb)), (lw, .inr (1, [.ref l1, .ref l2, .ref l3, .ref l4, .ref l5, .ref l6, .ref l7, .int (nI zo_24), .int (nI k)])), (l1, .inl (cI, 240, .inl l1o_25))] H := hP
          have hD : va_D A [(h0, .inr (2, [.ref tx, .ref lw])), (tx, .inr (6, [.ref tp, .int ed, .int plo_22, .int fao_23])), (tp, .inr (5, [.ref by_, .int (nI T)])), (by_, .inl (cI, 260, .inl fb)), (lw, .inr (1, [.ref l1, .ref l2, .ref l3, .ref l4, .ref l5, .ref l6, .ref l7, .int (nI zo_24), .int (nI k)])), (l1, .inl (cI, 240, .inl l1o_25))] := hD
          refine lv_aload_n hx hb dX2_readSum_75 rfl (lv_at hl 1 rfl) ?_
          refine va_get (D := D) (ci := 2) (v := .ref lw) (C := RX2) (T := TX2) (N := 2) hx hb htb itX2 hown hK hP 0 rfl rfl 1 (by decide) (htb _ k_289) (fun _ h9 => h9) rfl dX2_readSum_76 ?_
          refine lv_iload_n hx hb dX2_readSum_79 rfl (lv_at hl 0 rfl) ?_
          refine lv_iconst (v := 0) hx hb dX2_readSum_80 (by decide) ?_
          refine cVV (As := [.int 5, .int 0]) (rest := []) (n := 2) (ci := 1) (q0 := 0) (wr := [(h0, .inr (2, [.ref tx, .ref lw])), (tx, .inr (6, [.ref tp, .int ed, .int plo_22, .int fao_23])), (tp, .inr (5, [.ref by_, .int (nI T)])), (by_, .inl (cI, 260, .inl fb))]) X hN hK hP hD hS hA (c_X1_addStep l D cI cB _ lw l1 l2 l3 l4 l5 l6 l7 zo_24 k 5 0 l1o_25 hw_26 hk) (gV k_594 k_595 k_596 k_97 k_597) (by decide +kernel) ⟨Nat.le_of_ble_eq_true rfl, Nat.le_of_ble_eq_true rfl⟩ ⟨rfl, rfl⟩ [4, 5] [0, 1, 2, 3] rfl rfl (by decide) (by decide) rfl rfl rfl rfl rfl hl.1 (Nat.le_of_ble_eq_true rfl) dX2_readSum_81 ⟨Nat.le_of_ble_eq_true rfl, Nat.le_of_ble_eq_true rfl⟩ (fun u H locs hw_30 hP hD hS => ?_)
          obtain ⟨zo_28, l1_fo_29⟩ := u
          try dsimp only at hw_30
          have hP : va_P D vwCl [(h0, .inr (2, [.ref tx, .ref lw])), (tx, .inr (6, [.ref tp, .int ed, .int plo_22, .int fao_23])), (tp, .inr (5, [.ref by_, .int (nI T)])), (by_, .inl (cI, 260, .inl fb)), (lw, .inr (1, [.ref l1, .ref l2, .ref l3, .ref l4, .ref l5, .ref l6, .ref l7, .int (nI zo_28), .int (nI k)])), (l1, .inl (cI, 240, .inl l1_fo_29))] H := hP
          have hD : va_D A [(h0, .inr (2, [.ref tx, .ref lw])), (tx, .inr (6, [.ref tp, .int ed, .int plo_22, .int fao_23])), (tp, .inr (5, [.ref by_, .int (nI T)])), (by_, .inl (cI, 260, .inl fb)), (lw, .inr (1, [.ref l1, .ref l2, .ref l3, .ref l4, .ref l5, .ref l6, .ref l7, .int (nI zo_28), .int (nI k)])), (l1, .inl (cI, 240, .inl l1_fo_29))] := hD
          refine lv_iinc (v := (nI (i + 1))) (lv' := [(2, .int (nI (i + 1))), (3, .int 5), (0, .ref h0), (1, .int 1)]) hx hb dX2_readSum_84 hl (k := 3) rfl (nI_1 i) (by decide) rfl (fun ls hl => ?_)
          refine lv_goto (tgt := 7) hx hb dX2_readSum_87 (by decide) ?_
          exact ih_7 (i + 1) plo_22 fao_23 zo_28 l1_fo_29 (by omega) hw_30 _ _ (hP.sub [0, 1, 2, 3, 4, 5] rfl) (hD.sub [0, 1, 2, 3, 4, 5] (by decide) rfl) hS _ (lv_sub hl [2, 3, 0] rfl)
      · refine lv_aload_n hx hb dX2_readSum_26 rfl (lv_at hl 0 rfl) ?_
        refine va_get (D := D) (ci := 2) (v := .ref tx) (C := RX2) (T := TX2) (N := 2) hx hb htb itX2 hown hK hP 0 rfl rfl 0 (by decide) (htb _ k_288) (fun _ h9 => h9) rfl dX2_readSum_27 ?_
        refine cVR (As := []) (rest := []) (n := 0) (ci := 6) (q0 := 0) X hN hK hP (c_X6_sign l D cI cB tx tp ed pa fb_ by_ T fb hT) (gV k_483 k_484 k_485 k_98 k_486) (by decide +kernel) ⟨Nat.le_of_ble_eq_true rfl, Nat.le_of_ble_eq_true rfl⟩ ⟨rfl, rfl⟩ [1, 2, 3] rfl rfl rfl rfl rfl rfl hl.1 (Nat.le_of_ble_eq_true rfl) dX2_readSum_30 ⟨Nat.le_of_ble_eq_true rfl, Nat.le_of_ble_eq_true rfl⟩ (fun r_31 hr_31 => ?_)
        subst hr_31
        refine lv_bipush (v := 45) hx hb dX2_readSum_33 (by decide) ?_
        refine lv_icmp_ne (tgt := 90) hx hb dX2_readSum_35 (by decide) (fun c_35 => ?_) (fun c_35 => ?_)
        · exact ret _ _ _ _ (pa, fb_, za, qa) dX2_readSum_90 hza (hP.sub [0, 1, 2, 3, 4, 5] rfl) (hD.sub [0, 1, 2, 3, 4, 5] (by decide) rfl) hS
        · refine lv_aload_n hx hb dX2_readSum_38 rfl (lv_at hl 0 rfl) ?_
          refine va_get (D := D) (ci := 2) (v := .ref tx) (C := RX2) (T := TX2) (N := 2) hx hb htb itX2 hown hK hP 0 rfl rfl 0 (by decide) (htb _ k_288) (fun _ h9 => h9) rfl dX2_readSum_39 ?_
          refine cVR (As := []) (rest := []) (n := 0) (ci := 6) (q0 := 0) X hN hK hP (c_X6_sign l D cI cB tx tp ed pa fb_ by_ T fb hT) (gV k_483 k_484 k_485 k_98 k_486) (by decide +kernel) ⟨Nat.le_of_ble_eq_true rfl, Nat.le_of_ble_eq_true rfl⟩ ⟨rfl, rfl⟩ [1, 2, 3] rfl rfl rfl rfl rfl rfl hl.1 (Nat.le_of_ble_eq_true rfl) dX2_readSum_42 ⟨Nat.le_of_ble_eq_true rfl, Nat.le_of_ble_eq_true rfl⟩ (fun r_32 hr_32 => ?_)
          subst hr_32
          refine lv_bipush (v := 43) hx hb dX2_readSum_45 (by decide) ?_
          refine lv_icmp_ne (tgt := 54) hx hb dX2_readSum_47 (by decide) (fun c_47 => ?_) (fun c_47 => ?_)
          · refine lv_bipush (v := 6) hx hb dX2_readSum_54 (by decide) ?_
            refine lv_istore_n (lv' := [(3, .int 6), (0, .ref h0), (1, .int 1), (2, .int (nI i))]) hx hb dX2_readSum_56 rfl hl (by decide) rfl (fun ls hl => ?_)
            refine lv_aload_n hx hb dX2_readSum_57 rfl (lv_at hl 1 rfl) ?_
            refine va_get (D := D) (ci := 2) (v := .ref tx) (C := RX2) (T := TX2) (N := 2) hx hb htb itX2 hown hK hP 0 rfl rfl 0 (by decide) (htb _ k_288) (fun _ h9 => h9) rfl dX2_readSum_58 ?_
            refine lv_dup hx hb dX2_readSum_61 rfl ?_
            refine va_getN (D := D) (ci := 6) (v := .int pa) (C := RX6) (T := TX6) (N := 4) hx hb htb itX6 hown hK hP 1 rfl rfl 2 (by decide) (va_Nw.use rfl (hN _ n_264 rfl)) (fun _ h9 => h9) rfl dX2_readSum_62 ?_
            refine lv_iconst (v := 1) hx hb dX2_readSum_65 (by decide) ?_
            refine lv_iadd hx hb dX2_readSum_66 ?_
            refine lv_topi (fun x_33 ex_33 => ?_)
            refine va_putN (D := D) (ci := 6) (v := .int x_33) (ty := .int) (C := RX6) (T := TX6) (N := 4) hx hb htb itX6 tyX6 tyX6_ok nmX6 hown hK hP hD hS 1 rfl rfl 2 (by decide) (va_Nw.use rfl (hN _ n_264 rfl)) (fun _ h9 => h9) rfl (tyX6_ok 2 (by decide)) rfl rfl (Nat.le_of_ble_eq_true rfl) dX2_readSum_67 (fun H locs hP hD hS => ?_)
            have hP : va_P D vwCl [(h0, .inr (2, [.ref tx, .ref lw])), (tx, .inr (6, [.ref tp, .int ed, .int x_33, .int fb_])), (tp, .inr (5, [.ref by_, .int (nI T)])), (by_, .inl (cI, 260, .inl fb)), (lw, .inr (1, [.ref l1, .ref l2, .ref l3, .ref l4, .ref l5, .ref l6, .ref l7, .int (nI za), .int (nI k)])), (l1, .inl (cI, 240, .inl qa))] H := hP
            have hD : va_D A [(h0, .inr (2, [.ref tx, .ref lw])), (tx, .inr (6, [.ref tp, .int ed, .int x_33, .int fb_])), (tp, .inr (5, [.ref by_, .int (nI T)])), (by_, .inl (cI, 260, .inl fb)), (lw, .inr (1, [.ref l1, .ref l2, .ref l3, .ref l4, .ref l5, .ref l6, .ref l7, .int (nI za), .int (nI k)])), (l1, .inl (cI, 240, .inl qa))] := hD
            refine lv_aload_n hx hb dX2_readSum_70 rfl (lv_at hl 1 rfl) ?_
            refine lv_iload_n hx hb dX2_readSum_71 rfl (lv_at hl 2 rfl) ?_
            refine cVVk (As := [.int 1]) (rest := []) (n := 1) (ci := 2) (q0 := 0) (wr := []) X hN hKO hK hP hD hS hA (c_readTerm_1 l D cI cB _ kk h0 tx tp ed x_33 fb_ by_ T fb lw l1 l2 l3 l4 l5 l6 l7 za k qa hT hza hk) (gV k_585 k_587 k_3 k_99 k_588) (by decide +kernel) ⟨Nat.le_of_ble_eq_true rfl, Nat.le_of_ble_eq_true rfl⟩ ⟨rfl, rfl⟩ [0, 1, 2, 3, 4, 5] [] rfl rfl (by decide) (by decide) rfl rfl rfl rfl rfl hl.1 (Nat.le_of_ble_eq_true rfl) dX2_readSum_72 ⟨Nat.le_of_ble_eq_true rfl, Nat.le_of_ble_eq_true rfl⟩ (fun u H locs hw_39 hP hD hS => ?_)
            obtain ⟨plo_35, fao_36, zo_37, l1o_38⟩ := u
            try dsimp only at hw_39
            have hP : va_P D vwCl [(h0, .inr (2, [.ref tx, .ref lw])), (tx, .inr (6, [.ref tp, .int ed, .int plo_35, .int fao_36])), (tp, .inr (5, [.ref by_, .int (nI T)])), (by_, .inl (cI, 260, .inl fb)), (lw, .inr (1, [.ref l1, .ref l2, .ref l3, .ref l4, .ref l5, .ref l6, .ref l7, .int (nI zo_37), .int (nI k)])), (l1, .inl (cI, 240, .inl l1o_38))] H := hP
            have hD : va_D A [(h0, .inr (2, [.ref tx, .ref lw])), (tx, .inr (6, [.ref tp, .int ed, .int plo_35, .int fao_36])), (tp, .inr (5, [.ref by_, .int (nI T)])), (by_, .inl (cI, 260, .inl fb)), (lw, .inr (1, [.ref l1, .ref l2, .ref l3, .ref l4, .ref l5, .ref l6, .ref l7, .int (nI zo_37), .int (nI k)])), (l1, .inl (cI, 240, .inl l1o_38))] := hD
            refine lv_aload_n hx hb dX2_readSum_75 rfl (lv_at hl 1 rfl) ?_
            refine va_get (D := D) (ci := 2) (v := .ref lw) (C := RX2) (T := TX2) (N := 2) hx hb htb itX2 hown hK hP 0 rfl rfl 1 (by decide) (htb _ k_289) (fun _ h9 => h9) rfl dX2_readSum_76 ?_
            refine lv_iload_n hx hb dX2_readSum_79 rfl (lv_at hl 0 rfl) ?_
            refine lv_iconst (v := 0) hx hb dX2_readSum_80 (by decide) ?_
            refine cVV (As := [.int 6, .int 0]) (rest := []) (n := 2) (ci := 1) (q0 := 0) (wr := [(h0, .inr (2, [.ref tx, .ref lw])), (tx, .inr (6, [.ref tp, .int ed, .int plo_35, .int fao_36])), (tp, .inr (5, [.ref by_, .int (nI T)])), (by_, .inl (cI, 260, .inl fb))]) X hN hK hP hD hS hA (c_X1_addStep l D cI cB _ lw l1 l2 l3 l4 l5 l6 l7 zo_37 k 6 0 l1o_38 hw_39 hk) (gV k_594 k_595 k_596 k_97 k_597) (by decide +kernel) ⟨Nat.le_of_ble_eq_true rfl, Nat.le_of_ble_eq_true rfl⟩ ⟨rfl, rfl⟩ [4, 5] [0, 1, 2, 3] rfl rfl (by decide) (by decide) rfl rfl rfl rfl rfl hl.1 (Nat.le_of_ble_eq_true rfl) dX2_readSum_81 ⟨Nat.le_of_ble_eq_true rfl, Nat.le_of_ble_eq_true rfl⟩ (fun u H locs hw_43 hP hD hS => ?_)
            obtain ⟨zo_41, l1_fo_42⟩ := u
            try dsimp only at hw_43
            have hP : va_P D vwCl [(h0, .inr (2, [.ref tx, .ref lw])), (tx, .inr (6, [.ref tp, .int ed, .int plo_35, .int fao_36])), (tp, .inr (5, [.ref by_, .int (nI T)])), (by_, .inl (cI, 260, .inl fb)), (lw, .inr (1, [.ref l1, .ref l2, .ref l3, .ref l4, .ref l5, .ref l6, .ref l7, .int (nI zo_41), .int (nI k)])), (l1, .inl (cI, 240, .inl l1_fo_42))] H := hP
            have hD : va_D A [(h0, .inr (2, [.ref tx, .ref lw])), (tx, .inr (6, [.ref tp, .int ed, .int plo_35, .int fao_36])), (tp, .inr (5, [.ref by_, .int (nI T)])), (by_, .inl (cI, 260, .inl fb)), (lw, .inr (1, [.ref l1, .ref l2, .ref l3, .ref l4, .ref l5, .ref l6, .ref l7, .int (nI zo_41), .int (nI k)])), (l1, .inl (cI, 240, .inl l1_fo_42))] := hD
            refine lv_iinc (v := (nI (i + 1))) (lv' := [(2, .int (nI (i + 1))), (3, .int 6), (0, .ref h0), (1, .int 1)]) hx hb dX2_readSum_84 hl (k := 3) rfl (nI_1 i) (by decide) rfl (fun ls hl => ?_)
            refine lv_goto (tgt := 7) hx hb dX2_readSum_87 (by decide) ?_
            exact ih_7 (i + 1) plo_35 fao_36 zo_41 l1_fo_42 (by omega) hw_43 _ _ (hP.sub [0, 1, 2, 3, 4, 5] rfl) (hD.sub [0, 1, 2, 3, 4, 5] (by decide) rfl) hS _ (lv_sub hl [2, 3, 0] rfl)
          · refine lv_iconst (v := 5) hx hb dX2_readSum_50 (by decide) ?_
            refine lv_goto (tgt := 56) hx hb dX2_readSum_51 (by decide) ?_
            refine lv_istore_n (lv' := [(3, .int 5), (0, .ref h0), (1, .int 1), (2, .int (nI i))]) hx hb dX2_readSum_56 rfl hl (by decide) rfl (fun ls hl => ?_)
            refine lv_aload_n hx hb dX2_readSum_57 rfl (lv_at hl 1 rfl) ?_
            refine va_get (D := D) (ci := 2) (v := .ref tx) (C := RX2) (T := TX2) (N := 2) hx hb htb itX2 hown hK hP 0 rfl rfl 0 (by decide) (htb _ k_288) (fun _ h9 => h9) rfl dX2_readSum_58 ?_
            refine lv_dup hx hb dX2_readSum_61 rfl ?_
            refine va_getN (D := D) (ci := 6) (v := .int pa) (C := RX6) (T := TX6) (N := 4) hx hb htb itX6 hown hK hP 1 rfl rfl 2 (by decide) (va_Nw.use rfl (hN _ n_264 rfl)) (fun _ h9 => h9) rfl dX2_readSum_62 ?_
            refine lv_iconst (v := 1) hx hb dX2_readSum_65 (by decide) ?_
            refine lv_iadd hx hb dX2_readSum_66 ?_
            refine lv_topi (fun x_44 ex_44 => ?_)
            refine va_putN (D := D) (ci := 6) (v := .int x_44) (ty := .int) (C := RX6) (T := TX6) (N := 4) hx hb htb itX6 tyX6 tyX6_ok nmX6 hown hK hP hD hS 1 rfl rfl 2 (by decide) (va_Nw.use rfl (hN _ n_264 rfl)) (fun _ h9 => h9) rfl (tyX6_ok 2 (by decide)) rfl rfl (Nat.le_of_ble_eq_true rfl) dX2_readSum_67 (fun H locs hP hD hS => ?_)
            have hP : va_P D vwCl [(h0, .inr (2, [.ref tx, .ref lw])), (tx, .inr (6, [.ref tp, .int ed, .int x_44, .int fb_])), (tp, .inr (5, [.ref by_, .int (nI T)])), (by_, .inl (cI, 260, .inl fb)), (lw, .inr (1, [.ref l1, .ref l2, .ref l3, .ref l4, .ref l5, .ref l6, .ref l7, .int (nI za), .int (nI k)])), (l1, .inl (cI, 240, .inl qa))] H := hP
            have hD : va_D A [(h0, .inr (2, [.ref tx, .ref lw])), (tx, .inr (6, [.ref tp, .int ed, .int x_44, .int fb_])), (tp, .inr (5, [.ref by_, .int (nI T)])), (by_, .inl (cI, 260, .inl fb)), (lw, .inr (1, [.ref l1, .ref l2, .ref l3, .ref l4, .ref l5, .ref l6, .ref l7, .int (nI za), .int (nI k)])), (l1, .inl (cI, 240, .inl qa))] := hD
            refine lv_aload_n hx hb dX2_readSum_70 rfl (lv_at hl 1 rfl) ?_
            refine lv_iload_n hx hb dX2_readSum_71 rfl (lv_at hl 2 rfl) ?_
            refine cVVk (As := [.int 1]) (rest := []) (n := 1) (ci := 2) (q0 := 0) (wr := []) X hN hKO hK hP hD hS hA (c_readTerm_1 l D cI cB _ kk h0 tx tp ed x_44 fb_ by_ T fb lw l1 l2 l3 l4 l5 l6 l7 za k qa hT hza hk) (gV k_585 k_587 k_3 k_99 k_588) (by decide +kernel) ⟨Nat.le_of_ble_eq_true rfl, Nat.le_of_ble_eq_true rfl⟩ ⟨rfl, rfl⟩ [0, 1, 2, 3, 4, 5] [] rfl rfl (by decide) (by decide) rfl rfl rfl rfl rfl hl.1 (Nat.le_of_ble_eq_true rfl) dX2_readSum_72 ⟨Nat.le_of_ble_eq_true rfl, Nat.le_of_ble_eq_true rfl⟩ (fun u H locs hw_50 hP hD hS => ?_)
            obtain ⟨plo_46, fao_47, zo_48, l1o_49⟩ := u
            try dsimp only at hw_50
            have hP : va_P D vwCl [(h0, .inr (2, [.ref tx, .ref lw])), (tx, .inr (6, [.ref tp, .int ed, .int plo_46, .int fao_47])), (tp, .inr (5, [.ref by_, .int (nI T)])), (by_, .inl (cI, 260, .inl fb)), (lw, .inr (1, [.ref l1, .ref l2, .ref l3, .ref l4, .ref l5, .ref l6, .ref l7, .int (nI zo_48), .int (nI k)])), (l1, .inl (cI, 240, .inl l1o_49))] H := hP
            have hD : va_D A [(h0, .inr (2, [.ref tx, .ref lw])), (tx, .inr (6, [.ref tp, .int ed, .int plo_46, .int fao_47])), (tp, .inr (5, [.ref by_, .int (nI T)])), (by_, .inl (cI, 260, .inl fb)), (lw, .inr (1, [.ref l1, .ref l2, .ref l3, .ref l4, .ref l5, .ref l6, .ref l7, .int (nI zo_48), .int (nI k)])), (l1, .inl (cI, 240, .inl l1o_49))] := hD
            refine lv_aload_n hx hb dX2_readSum_75 rfl (lv_at hl 1 rfl) ?_
            refine va_get (D := D) (ci := 2) (v := .ref lw) (C := RX2) (T := TX2) (N := 2) hx hb htb itX2 hown hK hP 0 rfl rfl 1 (by decide) (htb _ k_289) (fun _ h9 => h9) rfl dX2_readSum_76 ?_
            refine lv_iload_n hx hb dX2_readSum_79 rfl (lv_at hl 0 rfl) ?_
            refine lv_iconst (v := 0) hx hb dX2_readSum_80 (by decide) ?_
            refine cVV (As := [.int 5, .int 0]) (rest := []) (n := 2) (ci := 1) (q0 := 0) (wr := [(h0, .inr (2, [.ref tx, .ref lw])), (tx, .inr (6, [.ref tp, .int ed, .int plo_46, .int fao_47])), (tp, .inr (5, [.ref by_, .int (nI T)])), (by_, .inl (cI, 260, .inl fb))]) X hN hK hP hD hS hA (c_X1_addStep l D cI cB _ lw l1 l2 l3 l4 l5 l6 l7 zo_48 k 5 0 l1o_49 hw_50 hk) (gV k_594 k_595 k_596 k_97 k_597) (by decide +kernel) ⟨Nat.le_of_ble_eq_true rfl, Nat.le_of_ble_eq_true rfl⟩ ⟨rfl, rfl⟩ [4, 5] [0, 1, 2, 3] rfl rfl (by decide) (by decide) rfl rfl rfl rfl rfl hl.1 (Nat.le_of_ble_eq_true rfl) dX2_readSum_81 ⟨Nat.le_of_ble_eq_true rfl, Nat.le_of_ble_eq_true rfl⟩ (fun u H locs hw_54 hP hD hS => ?_)
            obtain ⟨zo_52, l1_fo_53⟩ := u
            try dsimp only at hw_54
            have hP : va_P D vwCl [(h0, .inr (2, [.ref tx, .ref lw])), (tx, .inr (6, [.ref tp, .int ed, .int plo_46, .int fao_47])), (tp, .inr (5, [.ref by_, .int (nI T)])), (by_, .inl (cI, 260, .inl fb)), (lw, .inr (1, [.ref l1, .ref l2, .ref l3, .ref l4, .ref l5, .ref l6, .ref l7, .int (nI zo_52), .int (nI k)])), (l1, .inl (cI, 240, .inl l1_fo_53))] H := hP
            have hD : va_D A [(h0, .inr (2, [.ref tx, .ref lw])), (tx, .inr (6, [.ref tp, .int ed, .int plo_46, .int fao_47])), (tp, .inr (5, [.ref by_, .int (nI T)])), (by_, .inl (cI, 260, .inl fb)), (lw, .inr (1, [.ref l1, .ref l2, .ref l3, .ref l4, .ref l5, .ref l6, .ref l7, .int (nI zo_52), .int (nI k)])), (l1, .inl (cI, 240, .inl l1_fo_53))] := hD
            refine lv_iinc (v := (nI (i + 1))) (lv' := [(2, .int (nI (i + 1))), (3, .int 5), (0, .ref h0), (1, .int 1)]) hx hb dX2_readSum_84 hl (k := 3) rfl (nI_1 i) (by decide) rfl (fun ls hl => ?_)
            refine lv_goto (tgt := 7) hx hb dX2_readSum_87 (by decide) ?_
            exact ih_7 (i + 1) plo_46 fao_47 zo_52 l1_fo_53 (by omega) hw_54 _ _ (hP.sub [0, 1, 2, 3, 4, 5] rfl) (hD.sub [0, 1, 2, 3, 4, 5] (by decide) rfl) hS _ (lv_sub hl [2, 3, 0] rfl)
  exact loop_7 240 0 plo_2 fao_3 zo_4 l1o_5 (by omega) hw_6 _ _ (hP.sub [0, 1, 2, 3, 4, 5] rfl) (hD.sub [0, 1, 2, 3, 4, 5] (by decide) rfl) hS _ (lv_sub hl [1, 2, 0] rfl)

set_option maxRecDepth 100000 in
set_option maxHeartbeats 4000000 in
theorem c_readFactor_0 (l : Launch) (D : va_G) (cI cB : ClassId) (sz : Nat) (kk : KT) (h0 : Nat) (tx : Nat) (tp : Nat) (ed : Int32) (pl : Int32) (fa : Int32) (by_ : Nat) (T : Nat) (fb : Nat → Int32) (lw : Nat) (l1 : Nat) (l2 : Nat) (l3 : Nat) (l4 : Nat) (l5 : Nat) (l6 : Nat) (l7 : Nat) (z : Nat) (k : Nat) (q1 : Nat → Int32) (hT : T ≤ 260) (hz : z ≤ 240) (hk : k ≤ 16) : MVk (S := ((Int32) × (Int32) × (Nat) × (Nat → Int32))) l D cI cB kk yX2_readFactor cX2_readFactor 3 (rm 23 521) [.ref h0, .int 0] [(h0, .inr (2, [.ref tx, .ref lw])), (tx, .inr (6, [.ref tp, .int ed, .int pl, .int fa])), (tp, .inr (5, [.ref by_, .int (nI T)])), (by_, .inl (cI, 260, .inl fb)), (lw, .inr (1, [.ref l1, .ref l2, .ref l3, .ref l4, .ref l5, .ref l6, .ref l7, .int (nI z), .int (nI k)])), (l1, .inl (cI, 240, .inl q1))] sz (fun u => u.2.2.1 ≤ 240) (fun u : ((Int32) × (Int32) × (Nat) × (Nat → Int32)) => [(h0, .inr (2, [.ref tx, .ref lw])), (tx, .inr (6, [.ref tp, .int ed, .int u.1, .int u.2.1])), (tp, .inr (5, [.ref by_, .int (nI T)])), (by_, .inl (cI, 260, .inl fb)), (lw, .inr (1, [.ref l1, .ref l2, .ref l3, .ref l4, .ref l5, .ref l6, .ref l7, .int (nI u.2.2.1), .int (nI k)])), (l1, .inl (cI, 240, .inl u.2.2.2))]) := by
  refine MVk.of (by decide) (Nat.le_of_ble_eq_true rfl) ?_
  intro p e s m below meth c Q ls A X hin hN hKO hP hK hD hA hl ret
  have hS : va_S A s.heap s.heap [] := va_S.rf
  obtain ⟨hx, hb, hml, hown, htb⟩ := id X
  have hl : lv_has ls 3 [(0, .ref h0), (1, .int 0)] := hl
  refine lv_aload_n hx hb dX2_readFactor_0 rfl (lv_at hl 0 rfl) ?_
  refine va_ldcS hx hb hown hKO.2.2.2.2.2 dX2_readFactor_1 ?_
  refine cVRk (As := [.ref (kk.2.1 1)]) (rest := []) (n := 1) (ci := 2) (q0 := 0) X hN hKO hS hK hP (c_placeIn1 l D cI cB kk h0 lw tx tp ed pl fa by_ T fb hT) (gV k_479 k_481 k_1 k_99 k_482) (by decide +kernel) ⟨Nat.le_of_ble_eq_true rfl, Nat.le_of_ble_eq_true rfl⟩ ⟨rfl, rfl⟩ [0, 1, 2, 3] rfl rfl rfl rfl rfl rfl hl.1 (Nat.le_of_ble_eq_true rfl) dX2_readFactor_3 ⟨Nat.le_of_ble_eq_true rfl, Nat.le_of_ble_eq_true rfl⟩ (fun r_1 hr_1 => ?_)
  refine lv_istore_n (lv' := [(2, .int r_1), (0, .ref h0), (1, .int 0)]) hx hb dX2_readFactor_6 rfl hl (by decide) rfl (fun ls hl => ?_)
  refine lv_iload_n hx hb dX2_readFactor_7 rfl (lv_at hl 0 rfl) ?_
  refine lv_if_lt (tgt := 36) hx hb dX2_readFactor_8 (by decide) (fun c_8 => ?_) (fun c_8 => ?_)
  · refine lv_aload_n hx hb dX2_readFactor_36 rfl (lv_at hl 1 rfl) ?_
    refine va_get (D := D) (ci := 2) (v := .ref tx) (C := RX2) (T := TX2) (N := 2) hx hb htb itX2 hown hK hP 0 rfl rfl 0 (by decide) (htb _ k_288) (fun _ h9 => h9) rfl dX2_readFactor_37 ?_
    refine cVR (As := []) (rest := []) (n := 0) (ci := 6) (q0 := 0) X hN hK hP (c_X6_sign l D cI cB tx tp ed pl fa by_ T fb hT) (gV k_483 k_484 k_485 k_98 k_486) (by decide +kernel) ⟨Nat.le_of_ble_eq_true rfl, Nat.le_of_ble_eq_true rfl⟩ ⟨rfl, rfl⟩ [1, 2, 3] rfl rfl rfl rfl rfl rfl hl.1 (Nat.le_of_ble_eq_true rfl) dX2_readFactor_40 ⟨Nat.le_of_ble_eq_true rfl, Nat.le_of_ble_eq_true rfl⟩ (fun r_2 hr_2 => ?_)
    subst hr_2
    refine lv_bipush (v := 91) hx hb dX2_readFactor_43 (by decide) ?_
    refine lv_icmp_ne (tgt := 75) hx hb dX2_readFactor_45 (by decide) (fun c_45 => ?_) (fun c_45 => ?_)
    · refine lv_aload_n hx hb dX2_readFactor_75 rfl (lv_at hl 1 rfl) ?_
      refine va_get (D := D) (ci := 2) (v := .ref lw) (C := RX2) (T := TX2) (N := 2) hx hb htb itX2 hown hK hP 0 rfl rfl 1 (by decide) (htb _ k_289) (fun _ h9 => h9) rfl dX2_readFactor_76 ?_
      refine lv_iconst (v := 0) hx hb dX2_readFactor_79 (by decide) ?_
      refine lv_aload_n hx hb dX2_readFactor_80 rfl (lv_at hl 1 rfl) ?_
      refine va_get (D := D) (ci := 2) (v := .ref tx) (C := RX2) (T := TX2) (N := 2) hx hb htb itX2 hown hK hP 0 rfl rfl 0 (by decide) (htb _ k_288) (fun _ h9 => h9) rfl dX2_readFactor_81 ?_
      refine lv_iconst (v := 5) hx hb dX2_readFactor_84 (by decide) ?_
      refine lv_iconst (v := 2) hx hb dX2_readFactor_85 (by decide) ?_
      refine cVI (As := [.int 5, .int 2]) (rest := [.int 0, .ref lw]) (n := 2) (ci := 6) (q0 := 0) (wr := [(h0, .inr (2, [.ref tx, .ref lw])), (lw, .inr (1, [.ref l1, .ref l2, .ref l3, .ref l4, .ref l5, .ref l6, .ref l7, .int (nI z), .int (nI k)])), (l1, .inl (cI, 240, .inl q1))]) X hN hK hP hD hS hA (c_X6_number l D cI cB _ tx tp ed pl fa by_ T fb 5 2 hT (by decide)) (gV k_612 k_613 k_614 k_98 k_615) (by decide +kernel) ⟨Nat.le_of_ble_eq_true rfl, Nat.le_of_ble_eq_true rfl⟩ ⟨rfl, rfl⟩ [1, 2, 3] [0, 4, 5] rfl rfl (by decide) (by decide) rfl rfl rfl rfl rfl hl.1 (Nat.le_of_ble_eq_true rfl) dX2_readFactor_86 ⟨Nat.le_of_ble_eq_true rfl, Nat.le_of_ble_eq_true rfl⟩ (fun r_3 u H locs hw_6 hP hD hS => ?_)
      obtain ⟨h0_2o_4, h0_3o_5⟩ := u
      try dsimp only at hw_6
      have hP : va_P D vwCl [(h0, .inr (2, [.ref tx, .ref lw])), (lw, .inr (1, [.ref l1, .ref l2, .ref l3, .ref l4, .ref l5, .ref l6, .ref l7, .int (nI z), .int (nI k)])), (l1, .inl (cI, 240, .inl q1)), (tx, .inr (6, [.ref tp, .int ed, .int h0_2o_4, .int h0_3o_5])), (tp, .inr (5, [.ref by_, .int (nI T)])), (by_, .inl (cI, 260, .inl fb))] H := hP
      have hD : va_D A [(h0, .inr (2, [.ref tx, .ref lw])), (lw, .inr (1, [.ref l1, .ref l2, .ref l3, .ref l4, .ref l5, .ref l6, .ref l7, .int (nI z), .int (nI k)])), (l1, .inl (cI, 240, .inl q1)), (tx, .inr (6, [.ref tp, .int ed, .int h0_2o_4, .int h0_3o_5])), (tp, .inr (5, [.ref by_, .int (nI T)])), (by_, .inl (cI, 260, .inl fb))] := hD
      refine cVV (As := [.int 0, .int r_3]) (rest := []) (n := 2) (ci := 1) (q0 := 0) (wr := [(h0, .inr (2, [.ref tx, .ref lw])), (tx, .inr (6, [.ref tp, .int ed, .int h0_2o_4, .int h0_3o_5])), (tp, .inr (5, [.ref by_, .int (nI T)])), (by_, .inl (cI, 260, .inl fb))]) X hN hK hP hD hS hA (c_X1_addStep l D cI cB _ lw l1 l2 l3 l4 l5 l6 l7 z k 0 r_3 q1 hz hk) (gV k_594 k_595 k_596 k_97 k_597) (by decide +kernel) ⟨Nat.le_of_ble_eq_true rfl, Nat.le_of_ble_eq_true rfl⟩ ⟨rfl, rfl⟩ [1, 2] [0, 3, 4, 5] rfl rfl (by decide) (by decide) rfl rfl rfl rfl rfl hl.1 (Nat.le_of_ble_eq_true rfl) dX2_readFactor_89 ⟨Nat.le_of_ble_eq_true rfl, Nat.le_of_ble_eq_true rfl⟩ (fun u H locs hw_10 hP hD hS => ?_)
      obtain ⟨zo_8, l1_fo_9⟩ := u
      try dsimp only at hw_10
      have hP : va_P D vwCl [(h0, .inr (2, [.ref tx, .ref lw])), (tx, .inr (6, [.ref tp, .int ed, .int h0_2o_4, .int h0_3o_5])), (tp, .inr (5, [.ref by_, .int (nI T)])), (by_, .inl (cI, 260, .inl fb)), (lw, .inr (1, [.ref l1, .ref l2, .ref l3, .ref l4, .ref l5, .ref l6, .ref l7, .int (nI zo_8), .int (nI k)])), (l1, .inl (cI, 240, .inl l1_fo_9))] H := hP
      have hD : va_D A [(h0, .inr (2, [.ref tx, .ref lw])), (tx, .inr (6, [.ref tp, .int ed, .int h0_2o_4, .int h0_3o_5])), (tp, .inr (5, [.ref by_, .int (nI T)])), (by_, .inl (cI, 260, .inl fb)), (lw, .inr (1, [.ref l1, .ref l2, .ref l3, .ref l4, .ref l5, .ref l6, .ref l7, .int (nI zo_8), .int (nI k)])), (l1, .inl (cI, 240, .inl l1_fo_9))] := hD
      exact ret _ _ _ _ (h0_2o_4, h0_3o_5, zo_8, l1_fo_9) dX2_readFactor_92 hw_10 (hP.sub [0, 1, 2, 3, 4, 5] rfl) (hD.sub [0, 1, 2, 3, 4, 5] (by decide) rfl) hS
    · refine lv_aload_n hx hb dX2_readFactor_48 rfl (lv_at hl 1 rfl) ?_
      refine lv_iload_n hx hb dX2_readFactor_49 rfl (lv_at hl 2 rfl) ?_
      refine cVI (As := [.int 0]) (rest := []) (n := 1) (ci := 2) (q0 := 0) (wr := [(tp, .inr (5, [.ref by_, .int (nI T)])), (by_, .inl (cI, 260, .inl fb)), (lw, .inr (1, [.ref l1, .ref l2, .ref l3, .ref l4, .ref l5, .ref l6, .ref l7, .int (nI z), .int (nI k)])), (l1, .inl (cI, 240, .inl q1))]) X hN hK hP hD hS hA (c_X2_opens l D cI cB _ h0 lw tx tp ed pl fa 0) (gV k_598 k_600 k_5 k_99 k_601) (by decide +kernel) ⟨Nat.le_of_ble_eq_true rfl, Nat.le_of_ble_eq_true rfl⟩ ⟨rfl, rfl⟩ [0, 1] [2, 3, 4, 5] rfl rfl (by decide) (by decide) rfl rfl rfl rfl rfl hl.1 (Nat.le_of_ble_eq_true rfl) dX2_readFactor_50 ⟨Nat.le_of_ble_eq_true rfl, Nat.le_of_ble_eq_true rfl⟩ (fun r_11 u H locs hw_14 hP hD hS => ?_)
      obtain ⟨tx_2o_12, tx_3o_13⟩ := u
      try dsimp only at hw_14
      have hP : va_P D vwCl [(tp, .inr (5, [.ref by_, .int (nI T)])), (by_, .inl (cI, 260, .inl fb)), (lw, .inr (1, [.ref l1, .ref l2, .ref l3, .ref l4, .ref l5, .ref l6, .ref l7, .int (nI z), .int (nI k)])), (l1, .inl (cI, 240, .inl q1)), (h0, .inr (2, [.ref tx, .ref lw])), (tx, .inr (6, [.ref tp, .int ed, .int tx_2o_12, .int tx_3o_13]))] H := hP
      have hD : va_D A [(tp, .inr (5, [.ref by_, .int (nI T)])), (by_, .inl (cI, 260, .inl fb)), (lw, .inr (1, [.ref l1, .ref l2, .ref l3, .ref l4, .ref l5, .ref l6, .ref l7, .int (nI z), .int (nI k)])), (l1, .inl (cI, 240, .inl q1)), (h0, .inr (2, [.ref tx, .ref lw])), (tx, .inr (6, [.ref tp, .int ed, .int tx_2o_12, .int tx_3o_13]))] := hD
      obtain rfl : r_11 = 1 := hw_14.trans (by decide)
      refine lv_if_eq (tgt := 92) hx hb dX2_readFactor_53 (by decide) (fun c_53 => absurd c_53 (by decide)) (fun _ => ?_)
      refine lv_aload_n hx hb dX2_readFactor_56 rfl (lv_at hl 1 rfl) ?_
      refine lv_iload_n hx hb dX2_readFactor_57 rfl (lv_at hl 2 rfl) ?_
      refine lv_iconst (v := 1) hx hb dX2_readFactor_58 (by decide) ?_
      refine lv_iadd hx hb dX2_readFactor_59 ?_
      refine tv (z := 1) (by decide) ?_
      refine cVVk (As := [.int 1]) (rest := []) (n := 1) (ci := 2) (q0 := 0) (wr := []) X hN hKO hK hP hD hS hA (c_readSum_1 l D cI cB _ kk h0 tx tp ed tx_2o_12 tx_3o_13 by_ T fb lw l1 l2 l3 l4 l5 l6 l7 z k q1 hT hz hk) (gV k_581 k_583 k_2 k_99 k_584) (by decide +kernel) ⟨Nat.le_of_ble_eq_true rfl, Nat.le_of_ble_eq_true rfl⟩ ⟨rfl, rfl⟩ [4, 5, 0, 1, 2, 3] [] rfl rfl (by decide) (by decide) rfl rfl rfl rfl rfl hl.1 (Nat.le_of_ble_eq_true rfl) dX2_readFactor_60 ⟨Nat.le_of_ble_eq_true rfl, Nat.le_of_ble_eq_true rfl⟩ (fun u H locs hw_20 hP hD hS => ?_)
      obtain ⟨plo_16, fao_17, zo_18, l1o_19⟩ := u
      try dsimp only at hw_20
      have hP : va_P D vwCl [(h0, .inr (2, [.ref tx, .ref lw])), (tx, .inr (6, [.ref tp, .int ed, .int plo_16, .int fao_17])), (tp, .inr (5, [.ref by_, .int (nI T)])), (by_, .inl (cI, 260, .inl fb)), (lw, .inr (1, [.ref l1, .ref l2, .ref l3, .ref l4, .ref l5, .ref l6, .ref l7, .int (nI zo_18), .int (nI k)])), (l1, .inl (cI, 240, .inl l1o_19))] H := hP
      have hD : va_D A [(h0, .inr (2, [.ref tx, .ref lw])), (tx, .inr (6, [.ref tp, .int ed, .int plo_16, .int fao_17])), (tp, .inr (5, [.ref by_, .int (nI T)])), (by_, .inl (cI, 260, .inl fb)), (lw, .inr (1, [.ref l1, .ref l2, .ref l3, .ref l4, .ref l5, .ref l6, .ref l7, .int (nI zo_18), .int (nI k)])), (l1, .inl (cI, 240, .inl l1o_19))] := hD
      refine lv_aload_n hx hb dX2_readFactor_63 rfl (lv_at hl 1 rfl) ?_
      refine va_get (D := D) (ci := 2) (v := .ref tx) (C := RX2) (T := TX2) (N := 2) hx hb htb itX2 hown hK hP 0 rfl rfl 0 (by decide) (htb _ k_288) (fun _ h9 => h9) rfl dX2_readFactor_64 ?_
      refine lv_bipush (v := 93) hx hb dX2_readFactor_67 (by decide) ?_
      refine cVV (As := [.int 93]) (rest := []) (n := 1) (ci := 6) (q0 := 0) (wr := [(h0, .inr (2, [.ref tx, .ref lw])), (lw, .inr (1, [.ref l1, .ref l2, .ref l3, .ref l4, .ref l5, .ref l6, .ref l7, .int (nI zo_18), .int (nI k)])), (l1, .inl (cI, 240, .inl l1o_19))]) X hN hK hP hD hS hA (c_X6_expect l D cI cB _ tx tp ed plo_16 fao_17 by_ T fb 93 hT) (gV k_602 k_603 k_604 k_98 k_605) (by decide +kernel) ⟨Nat.le_of_ble_eq_true rfl, Nat.le_of_ble_eq_true rfl⟩ ⟨rfl, rfl⟩ [1, 2, 3] [0, 4, 5] rfl rfl (by decide) (by decide) rfl rfl rfl rfl rfl hl.1 (Nat.le_of_ble_eq_true rfl) dX2_readFactor_69 ⟨Nat.le_of_ble_eq_true rfl, Nat.le_of_ble_eq_true rfl⟩ (fun u H locs hw_24 hP hD hS => ?_)
      obtain ⟨h0_2o_22, h0_3o_23⟩ := u
      try dsimp only at hw_24
      have hP : va_P D vwCl [(h0, .inr (2, [.ref tx, .ref lw])), (lw, .inr (1, [.ref l1, .ref l2, .ref l3, .ref l4, .ref l5, .ref l6, .ref l7, .int (nI zo_18), .int (nI k)])), (l1, .inl (cI, 240, .inl l1o_19)), (tx, .inr (6, [.ref tp, .int ed, .int h0_2o_22, .int h0_3o_23])), (tp, .inr (5, [.ref by_, .int (nI T)])), (by_, .inl (cI, 260, .inl fb))] H := hP
      have hD : va_D A [(h0, .inr (2, [.ref tx, .ref lw])), (lw, .inr (1, [.ref l1, .ref l2, .ref l3, .ref l4, .ref l5, .ref l6, .ref l7, .int (nI zo_18), .int (nI k)])), (l1, .inl (cI, 240, .inl l1o_19)), (tx, .inr (6, [.ref tp, .int ed, .int h0_2o_22, .int h0_3o_23])), (tp, .inr (5, [.ref by_, .int (nI T)])), (by_, .inl (cI, 260, .inl fb))] := hD
      refine lv_goto (tgt := 92) hx hb dX2_readFactor_72 (by decide) ?_
      exact ret _ _ _ _ (h0_2o_22, h0_3o_23, zo_18, l1o_19) dX2_readFactor_92 hw_20 (hP.sub [0, 3, 4, 5, 1, 2] rfl) (hD.sub [0, 3, 4, 5, 1, 2] (by decide) rfl) hS
  · refine lv_aload_n hx hb dX2_readFactor_11 rfl (lv_at hl 1 rfl) ?_
    refine va_get (D := D) (ci := 2) (v := .ref tx) (C := RX2) (T := TX2) (N := 2) hx hb htb itX2 hown hK hP 0 rfl rfl 0 (by decide) (htb _ k_288) (fun _ h9 => h9) rfl dX2_readFactor_12 ?_
    refine lv_dup hx hb dX2_readFactor_15 rfl ?_
    refine va_getN (D := D) (ci := 6) (v := .int pl) (C := RX6) (T := TX6) (N := 4) hx hb htb itX6 hown hK hP 1 rfl rfl 2 (by decide) (va_Nw.use rfl (hN _ n_264 rfl)) (fun _ h9 => h9) rfl dX2_readFactor_16 ?_
    refine lv_iconst (v := 1) hx hb dX2_readFactor_19 (by decide) ?_
    refine lv_iadd hx hb dX2_readFactor_20 ?_
    refine lv_topi (fun x_25 ex_25 => ?_)
    refine va_putN (D := D) (ci := 6) (v := .int x_25) (ty := .int) (C := RX6) (T := TX6) (N := 4) hx hb htb itX6 tyX6 tyX6_ok nmX6 hown hK hP hD hS 1 rfl rfl 2 (by decide) (va_Nw.use rfl (hN _ n_264 rfl)) (fun _ h9 => h9) rfl (tyX6_ok 2 (by decide)) rfl rfl (Nat.le_of_ble_eq_true rfl) dX2_readFactor_21 (fun H locs hP hD hS => ?_)
    have hP : va_P D vwCl [(h0, .inr (2, [.ref tx, .ref lw])), (tx, .inr (6, [.ref tp, .int ed, .int x_25, .int fa])), (tp, .inr (5, [.ref by_, .int (nI T)])), (by_, .inl (cI, 260, .inl fb)), (lw, .inr (1, [.ref l1, .ref l2, .ref l3, .ref l4, .ref l5, .ref l6, .ref l7, .int (nI z), .int (nI k)])), (l1, .inl (cI, 240, .inl q1))] H := hP
    have hD : va_D A [(h0, .inr (2, [.ref tx, .ref lw])), (tx, .inr (6, [.ref tp, .int ed, .int x_25, .int fa])), (tp, .inr (5, [.ref by_, .int (nI T)])), (by_, .inl (cI, 260, .inl fb)), (lw, .inr (1, [.ref l1, .ref l2, .ref l3, .ref l4, .ref l5, .ref l6, .ref l7, .int (nI z), .int (nI k)])), (l1, .inl (cI, 240, .inl q1))] := hD
    refine lv_aload_n hx hb dX2_readFactor_24 rfl (lv_at hl 1 rfl) ?_
    refine va_get (D := D) (ci := 2) (v := .ref lw) (C := RX2) (T := TX2) (N := 2) hx hb htb itX2 hown hK hP 0 rfl rfl 1 (by decide) (htb _ k_289) (fun _ h9 => h9) rfl dX2_readFactor_25 ?_
    refine lv_iconst (v := 1) hx hb dX2_readFactor_28 (by decide) ?_
    refine lv_iload_n hx hb dX2_readFactor_29 rfl (lv_at hl 0 rfl) ?_
    refine cVV (As := [.int 1, .int r_1]) (rest := []) (n := 2) (ci := 1) (q0 := 0) (wr := [(h0, .inr (2, [.ref tx, .ref lw])), (tx, .inr (6, [.ref tp, .int ed, .int x_25, .int fa])), (tp, .inr (5, [.ref by_, .int (nI T)])), (by_, .inl (cI, 260, .inl fb))]) X hN hK hP hD hS hA (c_X1_addStep l D cI cB _ lw l1 l2 l3 l4 l5 l6 l7 z k 1 r_1 q1 hz hk) (gV k_594 k_595 k_596 k_97 k_597) (by decide +kernel) ⟨Nat.le_of_ble_eq_true rfl, Nat.le_of_ble_eq_true rfl⟩ ⟨rfl, rfl⟩ [4, 5] [0, 1, 2, 3] rfl rfl (by decide) (by decide) rfl rfl rfl rfl rfl hl.1 (Nat.le_of_ble_eq_true rfl) dX2_readFactor_30 ⟨Nat.le_of_ble_eq_true rfl, Nat.le_of_ble_eq_true rfl⟩ (fun u H locs hw_29 hP hD hS => ?_)
    obtain ⟨zo_27, l1_fo_28⟩ := u
    try dsimp only at hw_29
    have hP : va_P D vwCl [(h0, .inr (2, [.ref tx, .ref lw])), (tx, .inr (6, [.ref tp, .int ed, .int x_25, .int fa])), (tp, .inr (5, [.ref by_, .int (nI T)])), (by_, .inl (cI, 260, .inl fb)), (lw, .inr (1, [.ref l1, .ref l2, .ref l3, .ref l4, .ref l5, .ref l6, .ref l7, .int (nI zo_27), .int (nI k)])), (l1, .inl (cI, 240, .inl l1_fo_28))] H := hP
    have hD : va_D A [(h0, .inr (2, [.ref tx, .ref lw])), (tx, .inr (6, [.ref tp, .int ed, .int x_25, .int fa])), (tp, .inr (5, [.ref by_, .int (nI T)])), (by_, .inl (cI, 260, .inl fb)), (lw, .inr (1, [.ref l1, .ref l2, .ref l3, .ref l4, .ref l5, .ref l6, .ref l7, .int (nI zo_27), .int (nI k)])), (l1, .inl (cI, 240, .inl l1_fo_28))] := hD
    refine lv_goto (tgt := 92) hx hb dX2_readFactor_33 (by decide) ?_
    exact ret _ _ _ _ (x_25, fa, zo_27, l1_fo_28) dX2_readFactor_92 hw_29 (hP.sub [0, 1, 2, 3, 4, 5] rfl) (hD.sub [0, 1, 2, 3, 4, 5] (by decide) rfl) hS

set_option maxRecDepth 100000 in
set_option maxHeartbeats 4000000 in
theorem c_readTerm_0 (l : Launch) (D : va_G) (cI cB : ClassId) (sz : Nat) (kk : KT) (h0 : Nat) (tx : Nat) (tp : Nat) (ed : Int32) (pl : Int32) (fa : Int32) (by_ : Nat) (T : Nat) (fb : Nat → Int32) (lw : Nat) (l1 : Nat) (l2 : Nat) (l3 : Nat) (l4 : Nat) (l5 : Nat) (l6 : Nat) (l7 : Nat) (z : Nat) (k : Nat) (q1 : Nat → Int32) (hT : T ≤ 260) (hz : z ≤ 240) (hk : k ≤ 16) : MVk (S := ((Int32) × (Int32) × (Nat) × (Nat → Int32))) l D cI cB kk yX2_readTerm cX2_readTerm 4 (rm 24 543) [.ref h0, .int 0] [(h0, .inr (2, [.ref tx, .ref lw])), (tx, .inr (6, [.ref tp, .int ed, .int pl, .int fa])), (tp, .inr (5, [.ref by_, .int (nI T)])), (by_, .inl (cI, 260, .inl fb)), (lw, .inr (1, [.ref l1, .ref l2, .ref l3, .ref l4, .ref l5, .ref l6, .ref l7, .int (nI z), .int (nI k)])), (l1, .inl (cI, 240, .inl q1))] sz (fun u => u.2.2.1 ≤ 240) (fun u : ((Int32) × (Int32) × (Nat) × (Nat → Int32)) => [(h0, .inr (2, [.ref tx, .ref lw])), (tx, .inr (6, [.ref tp, .int ed, .int u.1, .int u.2.1])), (tp, .inr (5, [.ref by_, .int (nI T)])), (by_, .inl (cI, 260, .inl fb)), (lw, .inr (1, [.ref l1, .ref l2, .ref l3, .ref l4, .ref l5, .ref l6, .ref l7, .int (nI u.2.2.1), .int (nI k)])), (l1, .inl (cI, 240, .inl u.2.2.2))]) := by
  refine MVk.of (by decide) (Nat.le_of_ble_eq_true rfl) ?_
  intro p e s m below meth c Q ls A X hin hN hKO hP hK hD hA hl ret
  have hS : va_S A s.heap s.heap [] := va_S.rf
  obtain ⟨hx, hb, hml, hown, htb⟩ := id X
  have hl : lv_has ls 4 [(0, .ref h0), (1, .int 0)] := hl
  refine lv_aload_n hx hb dX2_readTerm_0 rfl (lv_at hl 0 rfl) ?_
  refine lv_iload_n hx hb dX2_readTerm_1 rfl (lv_at hl 1 rfl) ?_
  refine cVVk (As := [.int 0]) (rest := []) (n := 1) (ci := 2) (q0 := 0) (wr := []) X hN hKO hK hP hD hS hA (c_readFactor_0 l D cI cB _ kk h0 tx tp ed pl fa by_ T fb lw l1 l2 l3 l4 l5 l6 l7 z k q1 hT hz hk) (gV k_589 k_591 k_4 k_99 k_592) (by decide +kernel) ⟨Nat.le_of_ble_eq_true rfl, Nat.le_of_ble_eq_true rfl⟩ ⟨rfl, rfl⟩ [0, 1, 2, 3, 4, 5] [] rfl rfl (by decide) (by decide) rfl rfl rfl rfl rfl hl.1 (Nat.le_of_ble_eq_true rfl) dX2_readTerm_2 ⟨Nat.le_of_ble_eq_true rfl, Nat.le_of_ble_eq_true rfl⟩ (fun u H locs hw_6 hP hD hS => ?_)
  obtain ⟨plo_2, fao_3, zo_4, l1o_5⟩ := u
  try dsimp only at hw_6
  have hP : va_P D vwCl [(h0, .inr (2, [.ref tx, .ref lw])), (tx, .inr (6, [.ref tp, .int ed, .int plo_2, .int fao_3])), (tp, .inr (5, [.ref by_, .int (nI T)])), (by_, .inl (cI, 260, .inl fb)), (lw, .inr (1, [.ref l1, .ref l2, .ref l3, .ref l4, .ref l5, .ref l6, .ref l7, .int (nI zo_4), .int (nI k)])), (l1, .inl (cI, 240, .inl l1o_5))] H := hP
  have hD : va_D A [(h0, .inr (2, [.ref tx, .ref lw])), (tx, .inr (6, [.ref tp, .int ed, .int plo_2, .int fao_3])), (tp, .inr (5, [.ref by_, .int (nI T)])), (by_, .inl (cI, 260, .inl fb)), (lw, .inr (1, [.ref l1, .ref l2, .ref l3, .ref l4, .ref l5, .ref l6, .ref l7, .int (nI zo_4), .int (nI k)])), (l1, .inl (cI, 240, .inl l1o_5))] := hD
  refine lv_iconst (v := 0) hx hb dX2_readTerm_5 (by decide) ?_
  refine lv_istore_n (lv' := [(2, .int 0), (0, .ref h0), (1, .int 0)]) hx hb dX2_readTerm_6 rfl hl (by decide) rfl (fun ls hl => ?_)
  have loop_7 : ∀ (n i : Nat) (pa : Int32) (fb_ : Int32) (za : Nat) (qa : Nat → Int32), n + i = 240 → (za ≤ 240) → ∀ (H : Heap) (locs : List Loc), va_P D vwCl [(h0, .inr (2, [.ref tx, .ref lw])), (tx, .inr (6, [.ref tp, .int ed, .int pa, .int fb_])), (tp, .inr (5, [.ref by_, .int (nI T)])), (by_, .inl (cI, 260, .inl fb)), (lw, .inr (1, [.ref l1, .ref l2, .ref l3, .ref l4, .ref l5, .ref l6, .ref l7, .int (nI za), .int (nI k)])), (l1, .inl (cI, 240, .inl qa))] H → va_D A [(h0, .inr (2, [.ref tx, .ref lw])), (tx, .inr (6, [.ref tp, .int ed, .int pa, .int fb_])), (tp, .inr (5, [.ref by_, .int (nI T)])), (by_, .inl (cI, 260, .inl fb)), (lw, .inr (1, [.ref l1, .ref l2, .ref l3, .ref l4, .ref l5, .ref l6, .ref l7, .int (nI za), .int (nI k)])), (l1, .inl (cI, 240, .inl qa))] → va_S A s.heap H locs → ∀ (ls : Array Slot), lv_has ls 4 [(0, .ref h0), (1, .int 0), (2, .int (nI i))] → W p l e (rm 24 543) s m ([.ref h0, .int 0] : List Value).toArray below meth c H locs 0 0 Q (F0 m 7 ls []) := by
    intro n
    induction n with
    | zero =>
      intro i pa fb_ za qa hni hza H locs hP hD hS ls hl
      have hni_7 := hni
      have hi : i = 240 := by omega
      refine lv_iload_n hx hb dX2_readTerm_7 rfl (lv_at hl 2 rfl) ?_
      refine lv_sipush (v := 240) hx hb dX2_readTerm_8 (by decide) ?_
      refine lv_icmp_ge (tgt := 60) hx hb dX2_readTerm_11 (by decide) (fun _ => ?_) (fun c_11 => absurd (by rw [hi]; decide) c_11)
      exact ret _ _ _ _ (pa, fb_, za, qa) dX2_readTerm_60 hza (hP.sub [0, 1, 2, 3, 4, 5] rfl) (hD.sub [0, 1, 2, 3, 4, 5] (by decide) rfl) hS
    | succ n ih_7 =>
      intro i pa fb_ za qa hni hza H locs hP hD hS ls hl
      have hni_7 := hni
      have hi : i < 240 := by omega
      refine lv_iload_n hx hb dX2_readTerm_7 rfl (lv_at hl 2 rfl) ?_
      refine lv_sipush (v := 240) hx hb dX2_readTerm_8 (by decide) ?_
      refine lv_icmp_ge (tgt := 60) hx hb dX2_readTerm_11 (by decide) (fun c_11 => absurd c_11 (nI_ge hi (by decide))) (fun _ => ?_)
      refine lv_aload_n hx hb dX2_readTerm_14 rfl (lv_at hl 0 rfl) ?_
      refine cVR (As := []) (rest := []) (n := 0) (ci := 2) (q0 := 0) X hN hK hP (c_X2_factorStep l D cI cB h0 lw tx tp ed pa fb_ by_ T fb hT) (gV k_620 k_622 k_6 k_99 k_623) (by decide +kernel) ⟨Nat.le_of_ble_eq_true rfl, Nat.le_of_ble_eq_true rfl⟩ ⟨rfl, rfl⟩ [0, 1, 2, 3] rfl rfl rfl rfl rfl rfl hl.1 (Nat.le_of_ble_eq_true rfl) dX2_readTerm_15 ⟨Nat.le_of_ble_eq_true rfl, Nat.le_of_ble_eq_true rfl⟩ (fun r_7 hr_7 => ?_)
      refine lv_iconst (v := (-1)) hx hb dX2_readTerm_18 (by decide) ?_
      refine lv_icmp_eq (tgt := 60) hx hb dX2_readTerm_19 (by decide) (fun c_19 => ?_) (fun c_19 => ?_)
      · exact ret _ _ _ _ (pa, fb_, za, qa) dX2_readTerm_60 hza (hP.sub [0, 1, 2, 3, 4, 5] rfl) (hD.sub [0, 1, 2, 3, 4, 5] (by decide) rfl) hS
      · refine lv_aload_n hx hb dX2_readTerm_22 rfl (lv_at hl 0 rfl) ?_
        refine cVR (As := []) (rest := []) (n := 0) (ci := 2) (q0 := 0) X hN hK hP (c_X2_factorStep l D cI cB h0 lw tx tp ed pa fb_ by_ T fb hT) (gV k_620 k_622 k_6 k_99 k_623) (by decide +kernel) ⟨Nat.le_of_ble_eq_true rfl, Nat.le_of_ble_eq_true rfl⟩ ⟨rfl, rfl⟩ [0, 1, 2, 3] rfl rfl rfl rfl rfl rfl hl.1 (Nat.le_of_ble_eq_true rfl) dX2_readTerm_23 ⟨Nat.le_of_ble_eq_true rfl, Nat.le_of_ble_eq_true rfl⟩ (fun r_8 hr_8 => ?_)
        refine lv_istore_n (lv' := [(3, .int r_8), (0, .ref h0), (1, .int 0), (2, .int (nI i))]) hx hb dX2_readTerm_26 rfl hl (by decide) rfl (fun ls hl => ?_)
        refine lv_aload_n hx hb dX2_readTerm_27 rfl (lv_at hl 1 rfl) ?_
        refine va_get (D := D) (ci := 2) (v := .ref tx) (C := RX2) (T := TX2) (N := 2) hx hb htb itX2 hown hK hP 0 rfl rfl 0 (by decide) (htb _ k_288) (fun _ h9 => h9) rfl dX2_readTerm_28 ?_
        refine lv_dup hx hb dX2_readTerm_31 rfl ?_
        refine va_getN (D := D) (ci := 6) (v := .int pa) (C := RX6) (T := TX6) (N := 4) hx hb htb itX6 hown hK hP 1 rfl rfl 2 (by decide) (va_Nw.use rfl (hN _ n_264 rfl)) (fun _ h9 => h9) rfl dX2_readTerm_32 ?_
        refine lv_iconst (v := 1) hx hb dX2_readTerm_35 (by decide) ?_
        refine lv_iadd hx hb dX2_readTerm_36 ?_
        refine lv_topi (fun x_9 ex_9 => ?_)
        refine va_putN (D := D) (ci := 6) (v := .int x_9) (ty := .int) (C := RX6) (T := TX6) (N := 4) hx hb htb itX6 tyX6 tyX6_ok nmX6 hown hK hP hD hS 1 rfl rfl 2 (by decide) (va_Nw.use rfl (hN _ n_264 rfl)) (fun _ h9 => h9) rfl (tyX6_ok 2 (by decide)) rfl rfl (Nat.le_of_ble_eq_true rfl) dX2_readTerm_37 (fun H locs hP hD hS => ?_)
        have hP : va_P D vwCl [(h0, .inr (2, [.ref tx, .ref lw])), (tx, .inr (6, [.ref tp, .int ed, .int x_9, .int fb_])), (tp, .inr (5, [.ref by_, .int (nI T)])), (by_, .inl (cI, 260, .inl fb)), (lw, .inr (1, [.ref l1, .ref l2, .ref l3, .ref l4, .ref l5, .ref l6, .ref l7, .int (nI za), .int (nI k)])), (l1, .inl (cI, 240, .inl qa))] H := hP
        have hD : va_D A [(h0, .inr (2, [.ref tx, .ref lw])), (tx, .inr (6, [.ref tp, .int ed, .int x_9, .int fb_])), (tp, .inr (5, [.ref by_, .int (nI T)])), (by_, .inl (cI, 260, .inl fb)), (lw, .inr (1, [.ref l1, .ref l2, .ref l3, .ref l4, .ref l5, .ref l6, .ref l7, .int (nI za), .int (nI k)])), (l1, .inl (cI, 240, .inl qa))] := hD
        refine lv_aload_n hx hb dX2_readTerm_40 rfl (lv_at hl 1 rfl) ?_
        refine lv_iload_n hx hb dX2_readTerm_41 rfl (lv_at hl 2 rfl) ?_
        refine cVVk (As := [.int 0]) (rest := []) (n := 1) (ci := 2) (q0 := 0) (wr := []) X hN hKO hK hP hD hS hA (c_readFactor_0 l D cI cB _ kk h0 tx tp ed x_9 fb_ by_ T fb lw l1 l2 l3 l4 l5 l6 l7 za k qa hT hza hk) (gV k_589 k_591 k_4 k_99 k_592) (by decide +kernel) ⟨Nat.le_of_ble_eq_true rfl, Nat.le_of_ble_eq_true rfl⟩ ⟨rfl, rfl⟩ [0, 1, 2, 3, 4, 5] [] rfl rfl (by decide) (by decide) rfl rfl rfl rfl rfl hl.1 (Nat.le_of_ble_eq_true rfl) dX2_readTerm_42 ⟨Nat.le_of_ble_eq_true rfl, Nat.le_of_ble_eq_true rfl⟩ (fun u H locs hw_15 hP hD hS => ?_)
        obtain ⟨plo_11, fao_12, zo_13, l1o_14⟩ := u
        try dsimp only at hw_15
        have hP : va_P D vwCl [(h0, .inr (2, [.ref tx, .ref lw])), (tx, .inr (6, [.ref tp, .int ed, .int plo_11, .int fao_12])), (tp, .inr (5, [.ref by_, .int (nI T)])), (by_, .inl (cI, 260, .inl fb)), (lw, .inr (1, [.ref l1, .ref l2, .ref l3, .ref l4, .ref l5, .ref l6, .ref l7, .int (nI zo_13), .int (nI k)])), (l1, .inl (cI, 240, .inl l1o_14))] H := hP
        have hD : va_D A [(h0, .inr (2, [.ref tx, .ref lw])), (tx, .inr (6, [.ref tp, .int ed, .int plo_11, .int fao_12])), (tp, .inr (5, [.ref by_, .int (nI T)])), (by_, .inl (cI, 260, .inl fb)), (lw, .inr (1, [.ref l1, .ref l2, .ref l3, .ref l4, .ref l5, .ref l6, .ref l7, .int (nI zo_13), .int (nI k)])), (l1, .inl (cI, 240, .inl l1o_14))] := hD
        refine lv_aload_n hx hb dX2_readTerm_45 rfl (lv_at hl 1 rfl) ?_
        refine va_get (D := D) (ci := 2) (v := .ref lw) (C := RX2) (T := TX2) (N := 2) hx hb htb itX2 hown hK hP 0 rfl rfl 1 (by decide) (htb _ k_289) (fun _ h9 => h9) rfl dX2_readTerm_46 ?_
        refine lv_iload_n hx hb dX2_readTerm_49 rfl (lv_at hl 0 rfl) ?_
        refine lv_iconst (v := 0) hx hb dX2_readTerm_50 (by decide) ?_
        refine cVV (As := [.int r_8, .int 0]) (rest := []) (n := 2) (ci := 1) (q0 := 0) (wr := [(h0, .inr (2, [.ref tx, .ref lw])), (tx, .inr (6, [.ref tp, .int ed, .int plo_11, .int fao_12])), (tp, .inr (5, [.ref by_, .int (nI T)])), (by_, .inl (cI, 260, .inl fb))]) X hN hK hP hD hS hA (c_X1_addStep l D cI cB _ lw l1 l2 l3 l4 l5 l6 l7 zo_13 k r_8 0 l1o_14 hw_15 hk) (gV k_594 k_595 k_596 k_97 k_597) (by decide +kernel) ⟨Nat.le_of_ble_eq_true rfl, Nat.le_of_ble_eq_true rfl⟩ ⟨rfl, rfl⟩ [4, 5] [0, 1, 2, 3] rfl rfl (by decide) (by decide) rfl rfl rfl rfl rfl hl.1 (Nat.le_of_ble_eq_true rfl) dX2_readTerm_51 ⟨Nat.le_of_ble_eq_true rfl, Nat.le_of_ble_eq_true rfl⟩ (fun u H locs hw_19 hP hD hS => ?_)
        obtain ⟨zo_17, l1_fo_18⟩ := u
        try dsimp only at hw_19
        have hP : va_P D vwCl [(h0, .inr (2, [.ref tx, .ref lw])), (tx, .inr (6, [.ref tp, .int ed, .int plo_11, .int fao_12])), (tp, .inr (5, [.ref by_, .int (nI T)])), (by_, .inl (cI, 260, .inl fb)), (lw, .inr (1, [.ref l1, .ref l2, .ref l3, .ref l4, .ref l5, .ref l6, .ref l7, .int (nI zo_17), .int (nI k)])), (l1, .inl (cI, 240, .inl l1_fo_18))] H := hP
        have hD : va_D A [(h0, .inr (2, [.ref tx, .ref lw])), (tx, .inr (6, [.ref tp, .int ed, .int plo_11, .int fao_12])), (tp, .inr (5, [.ref by_, .int (nI T)])), (by_, .inl (cI, 260, .inl fb)), (lw, .inr (1, [.ref l1, .ref l2, .ref l3, .ref l4, .ref l5, .ref l6, .ref l7, .int (nI zo_17), .int (nI k)])), (l1, .inl (cI, 240, .inl l1_fo_18))] := hD
        refine lv_iinc (v := (nI (i + 1))) (lv' := [(2, .int (nI (i + 1))), (3, .int r_8), (0, .ref h0), (1, .int 0)]) hx hb dX2_readTerm_54 hl (k := 3) rfl (nI_1 i) (by decide) rfl (fun ls hl => ?_)
        refine lv_goto (tgt := 7) hx hb dX2_readTerm_57 (by decide) ?_
        exact ih_7 (i + 1) plo_11 fao_12 zo_17 l1_fo_18 (by omega) hw_19 _ _ (hP.sub [0, 1, 2, 3, 4, 5] rfl) (hD.sub [0, 1, 2, 3, 4, 5] (by decide) rfl) hS _ (lv_sub hl [2, 3, 0] rfl)
  exact loop_7 240 0 plo_2 fao_3 zo_4 l1o_5 (by omega) hw_6 _ _ (hP.sub [0, 1, 2, 3, 4, 5] rfl) (hD.sub [0, 1, 2, 3, 4, 5] (by decide) rfl) hS _ (lv_sub hl [1, 2, 0] rfl)

set_option maxRecDepth 100000 in
set_option maxHeartbeats 4000000 in
theorem c_readSum_0 (l : Launch) (D : va_G) (cI cB : ClassId) (sz : Nat) (kk : KT) (h0 : Nat) (tx : Nat) (tp : Nat) (ed : Int32) (pl : Int32) (fa : Int32) (by_ : Nat) (T : Nat) (fb : Nat → Int32) (lw : Nat) (l1 : Nat) (l2 : Nat) (l3 : Nat) (l4 : Nat) (l5 : Nat) (l6 : Nat) (l7 : Nat) (z : Nat) (k : Nat) (q1 : Nat → Int32) (hT : T ≤ 260) (hz : z ≤ 240) (hk : k ≤ 16) : MVk (S := ((Int32) × (Int32) × (Nat) × (Nat → Int32))) l D cI cB kk yX2_readSum cX2_readSum 4 (rm 25 566) [.ref h0, .int 0] [(h0, .inr (2, [.ref tx, .ref lw])), (tx, .inr (6, [.ref tp, .int ed, .int pl, .int fa])), (tp, .inr (5, [.ref by_, .int (nI T)])), (by_, .inl (cI, 260, .inl fb)), (lw, .inr (1, [.ref l1, .ref l2, .ref l3, .ref l4, .ref l5, .ref l6, .ref l7, .int (nI z), .int (nI k)])), (l1, .inl (cI, 240, .inl q1))] sz (fun u => u.2.2.1 ≤ 240) (fun u : ((Int32) × (Int32) × (Nat) × (Nat → Int32)) => [(h0, .inr (2, [.ref tx, .ref lw])), (tx, .inr (6, [.ref tp, .int ed, .int u.1, .int u.2.1])), (tp, .inr (5, [.ref by_, .int (nI T)])), (by_, .inl (cI, 260, .inl fb)), (lw, .inr (1, [.ref l1, .ref l2, .ref l3, .ref l4, .ref l5, .ref l6, .ref l7, .int (nI u.2.2.1), .int (nI k)])), (l1, .inl (cI, 240, .inl u.2.2.2))]) := by
  refine MVk.of (by decide) (Nat.le_of_ble_eq_true rfl) ?_
  intro p e s m below meth c Q ls A X hin hN hKO hP hK hD hA hl ret
  have hS : va_S A s.heap s.heap [] := va_S.rf
  obtain ⟨hx, hb, hml, hown, htb⟩ := id X
  have hl : lv_has ls 4 [(0, .ref h0), (1, .int 0)] := hl
  refine lv_aload_n hx hb dX2_readSum_0 rfl (lv_at hl 0 rfl) ?_
  refine lv_iload_n hx hb dX2_readSum_1 rfl (lv_at hl 1 rfl) ?_
  refine cVVk (As := [.int 0]) (rest := []) (n := 1) (ci := 2) (q0 := 0) (wr := []) X hN hKO hK hP hD hS hA (c_readTerm_0 l D cI cB _ kk h0 tx tp ed pl fa by_ T fb lw l1 l2 l3 l4 l5 l6 l7 z k q1 hT hz hk) (gV k_585 k_587 k_3 k_99 k_588) (by decide +kernel) ⟨Nat.le_of_ble_eq_true rfl, Nat.le_of_ble_eq_true rfl⟩ ⟨rfl, rfl⟩ [0, 1, 2, 3, 4, 5] [] rfl rfl (by decide) (by decide) rfl rfl rfl rfl rfl hl.1 (Nat.le_of_ble_eq_true rfl) dX2_readSum_2 ⟨Nat.le_of_ble_eq_true rfl, Nat.le_of_ble_eq_true rfl⟩ (fun u H locs hw_6 hP hD hS => ?_)
  obtain ⟨plo_2, fao_3, zo_4, l1o_5⟩ := u
  try dsimp only at hw_6
  have hP : va_P D vwCl [(h0, .inr (2, [.ref tx, .ref lw])), (tx, .inr (6, [.ref tp, .int ed, .int plo_2, .int fao_3])), (tp, .inr (5, [.ref by_, .int (nI T)])), (by_, .inl (cI, 260, .inl fb)), (lw, .inr (1, [.ref l1, .ref l2, .ref l3, .ref l4, .ref l5, .ref l6, .ref l7, .int (nI zo_4), .int (nI k)])), (l1, .inl (cI, 240, .inl l1o_5))] H := hP
  have hD : va_D A [(h0, .inr (2, [.ref tx, .ref lw])), (tx, .inr (6, [.ref tp, .int ed, .int plo_2, .int fao_3])), (tp, .inr (5, [.ref by_, .int (nI T)])), (by_, .inl (cI, 260, .inl fb)), (lw, .inr (1, [.ref l1, .ref l2, .ref l3, .ref l4, .ref l5, .ref l6, .ref l7, .int (nI zo_4), .int (nI k)])), (l1, .inl (cI, 240, .inl l1o_5))] := hD
  refine lv_iconst (v := 0) hx hb dX2_readSum_5 (by decide) ?_
  refine lv_istore_n (lv' := [(2, .int 0), (0, .ref h0), (1, .int 0)]) hx hb dX2_readSum_6 rfl hl (by decide) rfl (fun ls hl => ?_)
  have loop_7 : ∀ (n i : Nat) (pa : Int32) (fb_ : Int32) (za : Nat) (qa : Nat → Int32), n + i = 240 → (za ≤ 240) → ∀ (H : Heap) (locs : List Loc), va_P D vwCl [(h0, .inr (2, [.ref tx, .ref lw])), (tx, .inr (6, [.ref tp, .int ed, .int pa, .int fb_])), (tp, .inr (5, [.ref by_, .int (nI T)])), (by_, .inl (cI, 260, .inl fb)), (lw, .inr (1, [.ref l1, .ref l2, .ref l3, .ref l4, .ref l5, .ref l6, .ref l7, .int (nI za), .int (nI k)])), (l1, .inl (cI, 240, .inl qa))] H → va_D A [(h0, .inr (2, [.ref tx, .ref lw])), (tx, .inr (6, [.ref tp, .int ed, .int pa, .int fb_])), (tp, .inr (5, [.ref by_, .int (nI T)])), (by_, .inl (cI, 260, .inl fb)), (lw, .inr (1, [.ref l1, .ref l2, .ref l3, .ref l4, .ref l5, .ref l6, .ref l7, .int (nI za), .int (nI k)])), (l1, .inl (cI, 240, .inl qa))] → va_S A s.heap H locs → ∀ (ls : Array Slot), lv_has ls 4 [(0, .ref h0), (1, .int 0), (2, .int (nI i))] → W p l e (rm 25 566) s m ([.ref h0, .int 0] : List Value).toArray below meth c H locs 0 0 Q (F0 m 7 ls []) := by
    intro n
    induction n with
    | zero =>
      intro i pa fb_ za qa hni hza H locs hP hD hS ls hl
      have hni_7 := hni
      have hi : i = 240 := by omega
      refine lv_iload_n hx hb dX2_readSum_7 rfl (lv_at hl 2 rfl) ?_
      refine lv_sipush (v := 240) hx hb dX2_readSum_8 (by decide) ?_
      refine lv_icmp_ge (tgt := 90) hx hb dX2_readSum_11 (by decide) (fun _ => ?_) (fun c_11 => absurd (by rw [hi]; decide) c_11)
      exact ret _ _ _ _ (pa, fb_, za, qa) dX2_readSum_90 hza (hP.sub [0, 1, 2, 3, 4, 5] rfl) (hD.sub [0, 1, 2, 3, 4, 5] (by decide) rfl) hS
    | succ n ih_7 =>
      intro i pa fb_ za qa hni hza H locs hP hD hS ls hl
      have hni_7 := hni
      have hi : i < 240 := by omega
      refine lv_iload_n hx hb dX2_readSum_7 rfl (lv_at hl 2 rfl) ?_
      refine lv_sipush (v := 240) hx hb dX2_readSum_8 (by decide) ?_
      refine lv_icmp_ge (tgt := 90) hx hb dX2_readSum_11 (by decide) (fun c_11 => absurd c_11 (nI_ge hi (by decide))) (fun _ => ?_)
      refine lv_aload_n hx hb dX2_readSum_14 rfl (lv_at hl 0 rfl) ?_
      refine va_get (D := D) (ci := 2) (v := .ref tx) (C := RX2) (T := TX2) (N := 2) hx hb htb itX2 hown hK hP 0 rfl rfl 0 (by decide) (htb _ k_288) (fun _ h9 => h9) rfl dX2_readSum_15 ?_
      refine cVR (As := []) (rest := []) (n := 0) (ci := 6) (q0 := 0) X hN hK hP (c_X6_sign l D cI cB tx tp ed pa fb_ by_ T fb hT) (gV k_483 k_484 k_485 k_98 k_486) (by decide +kernel) ⟨Nat.le_of_ble_eq_true rfl, Nat.le_of_ble_eq_true rfl⟩ ⟨rfl, rfl⟩ [1, 2, 3] rfl rfl rfl rfl rfl rfl hl.1 (Nat.le_of_ble_eq_true rfl) dX2_readSum_18 ⟨Nat.le_of_ble_eq_true rfl, Nat.le_of_ble_eq_true rfl⟩ (fun r_7 hr_7 => ?_)
      subst hr_7
      refine lv_bipush (v := 43) hx hb dX2_readSum_21 (by decide) ?_
      refine lv_icmp_eq (tgt := 38) hx hb dX2_readSum_23 (by decide) (fun c_23 => ?_) (fun c_23 => ?_)
      · refine lv_aload_n hx hb dX2_readSum_38 rfl (lv_at hl 0 rfl) ?_
        refine va_get (D := D) (ci := 2) (v := .ref tx) (C := RX2) (T := TX2) (N := 2) hx hb htb itX2 hown hK hP 0 rfl rfl 0 (by decide) (htb _ k_288) (fun _ h9 => h9) rfl dX2_readSum_39 ?_
        refine cVR (As := []) (rest := []) (n := 0) (ci := 6) (q0 := 0) X hN hK hP (c_X6_sign l D cI cB tx tp ed pa fb_ by_ T fb hT) (gV k_483 k_484 k_485 k_98 k_486) (by decide +kernel) ⟨Nat.le_of_ble_eq_true rfl, Nat.le_of_ble_eq_true rfl⟩ ⟨rfl, rfl⟩ [1, 2, 3] rfl rfl rfl rfl rfl rfl hl.1 (Nat.le_of_ble_eq_true rfl) dX2_readSum_42 ⟨Nat.le_of_ble_eq_true rfl, Nat.le_of_ble_eq_true rfl⟩ (fun r_8 hr_8 => ?_)
        subst hr_8
        refine lv_bipush (v := 43) hx hb dX2_readSum_45 (by decide) ?_
        refine lv_icmp_ne (tgt := 54) hx hb dX2_readSum_47 (by decide) (fun c_47 => ?_) (fun c_47 => ?_)
        · refine lv_bipush (v := 6) hx hb dX2_readSum_54 (by decide) ?_
          refine lv_istore_n (lv' := [(3, .int 6), (0, .ref h0), (1, .int 0), (2, .int (nI i))]) hx hb dX2_readSum_56 rfl hl (by decide) rfl (fun ls hl => ?_)
          refine lv_aload_n hx hb dX2_readSum_57 rfl (lv_at hl 1 rfl) ?_
          refine va_get (D := D) (ci := 2) (v := .ref tx) (C := RX2) (T := TX2) (N := 2) hx hb htb itX2 hown hK hP 0 rfl rfl 0 (by decide) (htb _ k_288) (fun _ h9 => h9) rfl dX2_readSum_58 ?_
          refine lv_dup hx hb dX2_readSum_61 rfl ?_
          refine va_getN (D := D) (ci := 6) (v := .int pa) (C := RX6) (T := TX6) (N := 4) hx hb htb itX6 hown hK hP 1 rfl rfl 2 (by decide) (va_Nw.use rfl (hN _ n_264 rfl)) (fun _ h9 => h9) rfl dX2_readSum_62 ?_
          refine lv_iconst (v := 1) hx hb dX2_readSum_65 (by decide) ?_
          refine lv_iadd hx hb dX2_readSum_66 ?_
          refine lv_topi (fun x_9 ex_9 => ?_)
          refine va_putN (D := D) (ci := 6) (v := .int x_9) (ty := .int) (C := RX6) (T := TX6) (N := 4) hx hb htb itX6 tyX6 tyX6_ok nmX6 hown hK hP hD hS 1 rfl rfl 2 (by decide) (va_Nw.use rfl (hN _ n_264 rfl)) (fun _ h9 => h9) rfl (tyX6_ok 2 (by decide)) rfl rfl (Nat.le_of_ble_eq_true rfl) dX2_readSum_67 (fun H locs hP hD hS => ?_)
          have hP : va_P D vwCl [(h0, .inr (2, [.ref tx, .ref lw])), (tx, .inr (6, [.ref tp, .int ed, .int x_9, .int fb_])), (tp, .inr (5, [.ref by_, .int (nI T)])), (by_, .inl (cI, 260, .inl fb)), (lw, .inr (1, [.ref l1, .ref l2, .ref l3, .ref l4, .ref l5, .ref l6, .ref l7, .int (nI za), .int (nI k)])), (l1, .inl (cI, 240, .inl qa))] H := hP
          have hD : va_D A [(h0, .inr (2, [.ref tx, .ref lw])), (tx, .inr (6, [.ref tp, .int ed, .int x_9, .int fb_])), (tp, .inr (5, [.ref by_, .int (nI T)])), (by_, .inl (cI, 260, .inl fb)), (lw, .inr (1, [.ref l1, .ref l2, .ref l3, .ref l4, .ref l5, .ref l6, .ref l7, .int (nI za), .int (nI k)])), (l1, .inl (cI, 240, .inl qa))] := hD
          refine lv_aload_n hx hb dX2_readSum_70 rfl (lv_at hl 1 rfl) ?_
          refine lv_iload_n hx hb dX2_readSum_71 rfl (lv_at hl 2 rfl) ?_
          refine cVVk (As := [.int 0]) (rest := []) (n := 1) (ci := 2) (q0 := 0) (wr := []) X hN hKO hK hP hD hS hA (c_readTerm_0 l D cI cB _ kk h0 tx tp ed x_9 fb_ by_ T fb lw l1 l2 l3 l4 l5 l6 l7 za k qa hT hza hk) (gV k_585 k_587 k_3 k_99 k_588) (by decide +kernel) ⟨Nat.le_of_ble_eq_true rfl, Nat.le_of_ble_eq_true rfl⟩ ⟨rfl, rfl⟩ [0, 1, 2, 3, 4, 5] [] rfl rfl (by decide) (by decide) rfl rfl rfl rfl rfl hl.1 (Nat.le_of_ble_eq_true rfl) dX2_readSum_72 ⟨Nat.le_of_ble_eq_true rfl, Nat.le_of_ble_eq_true rfl⟩ (fun u H locs hw_15 hP hD hS => ?_)
          obtain ⟨plo_11, fao_12, zo_13, l1o_14⟩ := u
          try dsimp only at hw_15
          have hP : va_P D vwCl [(h0, .inr (2, [.ref tx, .ref lw])), (tx, .inr (6, [.ref tp, .int ed, .int plo_11, .int fao_12])), (tp, .inr (5, [.ref by_, .int (nI T)])), (by_, .inl (cI, 260, .inl fb)), (lw, .inr (1, [.ref l1, .ref l2, .ref l3, .ref l4, .ref l5, .ref l6, .ref l7, .int (nI zo_13), .int (nI k)])), (l1, .inl (cI, 240, .inl l1o_14))] H := hP
          have hD : va_D A [(h0, .inr (2, [.ref tx, .ref lw])), (tx, .inr (6, [.ref tp, .int ed, .int plo_11, .int fao_12])), (tp, .inr (5, [.ref by_, .int (nI T)])), (by_, .inl (cI, 260, .inl fb)), (lw, .inr (1, [.ref l1, .ref l2, .ref l3, .ref l4, .ref l5, .ref l6, .ref l7, .int (nI zo_13), .int (nI k)])), (l1, .inl (cI, 240, .inl l1o_14))] := hD
          refine lv_aload_n hx hb dX2_readSum_75 rfl (lv_at hl 1 rfl) ?_
          refine va_get (D := D) (ci := 2) (v := .ref lw) (C := RX2) (T := TX2) (N := 2) hx hb htb itX2 hown hK hP 0 rfl rfl 1 (by decide) (htb _ k_289) (fun _ h9 => h9) rfl dX2_readSum_76 ?_
          refine lv_iload_n hx hb dX2_readSum_79 rfl (lv_at hl 0 rfl) ?_
          refine lv_iconst (v := 0) hx hb dX2_readSum_80 (by decide) ?_
          refine cVV (As := [.int 6, .int 0]) (rest := []) (n := 2) (ci := 1) (q0 := 0) (wr := [(h0, .inr (2, [.ref tx, .ref lw])), (tx, .inr (6, [.ref tp, .int ed, .int plo_11, .int fao_12])), (tp, .inr (5, [.ref by_, .int (nI T)])), (by_, .inl (cI, 260, .inl fb))]) X hN hK hP hD hS hA (c_X1_addStep l D cI cB _ lw l1 l2 l3 l4 l5 l6 l7 zo_13 k 6 0 l1o_14 hw_15 hk) (gV k_594 k_595 k_596 k_97 k_597) (by decide +kernel) ⟨Nat.le_of_ble_eq_true rfl, Nat.le_of_ble_eq_true rfl⟩ ⟨rfl, rfl⟩ [4, 5] [0, 1, 2, 3] rfl rfl (by decide) (by decide) rfl rfl rfl rfl rfl hl.1 (Nat.le_of_ble_eq_true rfl) dX2_readSum_81 ⟨Nat.le_of_ble_eq_true rfl, Nat.le_of_ble_eq_true rfl⟩ (fun u H locs hw_19 hP hD hS => ?_)
          obtain ⟨zo_17, l1_fo_18⟩ := u
          try dsimp only at hw_19
          have hP : va_P D vwCl [(h0, .inr (2, [.ref tx, .ref lw])), (tx, .inr (6, [.ref tp, .int ed, .int plo_11, .int fao_12])), (tp, .inr (5, [.ref by_, .int (nI T)])), (by_, .inl (cI, 260, .inl fb)), (lw, .inr (1, [.ref l1, .ref l2, .ref l3, .ref l4, .ref l5, .ref l6, .ref l7, .int (nI zo_17), .int (nI k)])), (l1, .inl (cI, 240, .inl l1_fo_18))] H := hP
          have hD : va_D A [(h0, .inr (2, [.ref tx, .ref lw])), (tx, .inr (6, [.ref tp, .int ed, .int plo_11, .int fao_12])), (tp, .inr (5, [.ref by_, .int (nI T)])), (by_, .inl (cI, 260, .inl fb)), (lw, .inr (1, [.ref l1, .ref l2, .ref l3, .ref l4, .ref l5, .ref l6, .ref l7, .int (nI zo_17), .int (nI k)])), (l1, .inl (cI, 240, .inl l1_fo_18))] := hD
          refine lv_iinc (v := (nI (i + 1))) (lv' := [(2, .int (nI (i + 1))), (3, .int 6), (0, .ref h0), (1, .int 0)]) hx hb dX2_readSum_84 hl (k := 3) rfl (nI_1 i) (by decide) rfl (fun ls hl => ?_)
          refine lv_goto (tgt := 7) hx hb dX2_readSum_87 (by decide) ?_
          exact ih_7 (i + 1) plo_11 fao_12 zo_17 l1_fo_18 (by omega) hw_19 _ _ (hP.sub [0, 1, 2, 3, 4, 5] rfl) (hD.sub [0, 1, 2, 3, 4, 5] (by decide) rfl) hS _ (lv_sub hl [2, 3, 0] rfl)
        · refine lv_iconst (v := 5) hx hb dX2_readSum_50 (by decide) ?_
          refine lv_goto (tgt := 56) hx hb dX2_readSum_51 (by decide) ?_
          refine lv_istore_n (lv' := [(3, .int 5), (0, .ref h0), (1, .int 0), (2, .int (nI i))]) hx hb dX2_readSum_56 rfl hl (by decide) rfl (fun ls hl => ?_)
          refine lv_aload_n hx hb dX2_readSum_57 rfl (lv_at hl 1 rfl) ?_
          refine va_get (D := D) (ci := 2) (v := .ref tx) (C := RX2) (T := TX2) (N := 2) hx hb htb itX2 hown hK hP 0 rfl rfl 0 (by decide) (htb _ k_288) (fun _ h9 => h9) rfl dX2_readSum_58 ?_
          refine lv_dup hx hb dX2_readSum_61 rfl ?_
          refine va_getN (D := D) (ci := 6) (v := .int pa) (C := RX6) (T := TX6) (N := 4) hx hb htb itX6 hown hK hP 1 rfl rfl 2 (by decide) (va_Nw.use rfl (hN _ n_264 rfl)) (fun _ h9 => h9) rfl dX2_readSum_62 ?_
          refine lv_iconst (v := 1) hx hb dX2_readSum_65 (by decide) ?_
          refine lv_iadd hx hb dX2_readSum_66 ?_
          refine lv_topi (fun x_20 ex_20 => ?_)
          refine va_putN (D := D) (ci := 6) (v := .int x_20) (ty := .int) (C := RX6) (T := TX6) (N := 4) hx hb htb itX6 tyX6 tyX6_ok nmX6 hown hK hP hD hS 1 rfl rfl 2 (by decide) (va_Nw.use rfl (hN _ n_264 rfl)) (fun _ h9 => h9) rfl (tyX6_ok 2 (by decide)) rfl rfl (Nat.le_of_ble_eq_true rfl) dX2_readSum_67 (fun H locs hP hD hS => ?_)
          have hP : va_P D vwCl [(h0, .inr (2, [.ref tx, .ref lw])), (tx, .inr (6, [.ref tp, .int ed, .int x_20, .int fb_])), (tp, .inr (5, [.ref by_, .int (nI T)])), (by_, .inl (cI, 260, .inl fb)), (lw, .inr (1, [.ref l1, .ref l2, .ref l3, .ref l4, .ref l5, .ref l6, .ref l7, .int (nI za), .int (nI k)])), (l1, .inl (cI, 240, .inl qa))] H := hP
          have hD : va_D A [(h0, .inr (2, [.ref tx, .ref lw])), (tx, .inr (6, [.ref tp, .int ed, .int x_20, .int fb_])), (tp, .inr (5, [.ref by_, .int (nI T)])), (by_, .inl (cI, 260, .inl fb)), (lw, .inr (1, [.ref l1, .ref l2, .ref l3, .ref l4, .ref l5, .ref l6, .ref l7, .int (nI za), .int (nI k)])), (l1, .inl (cI, 240, .inl qa))] := hD
          refine lv_aload_n hx hb dX2_readSum_70 rfl (lv_at hl 1 rfl) ?_
          refine lv_iload_n hx hb dX2_readSum_71 rfl (lv_at hl 2 rfl) ?_
          refine cVVk (As := [.int 0]) (rest := []) (n := 1) (ci := 2) (q0 := 0) (wr := []) X hN hKO hK hP hD hS hA (c_readTerm_0 l D cI cB _ kk h0 tx tp ed x_20 fb_ by_ T fb lw l1 l2 l3 l4 l5 l6 l7 za k qa hT hza hk) (gV k_585 k_587 k_3 k_99 k_588) (by decide +kernel) ⟨Nat.le_of_ble_eq_true rfl, Nat.le_of_ble_eq_true rfl⟩ ⟨rfl, rfl⟩ [0, 1, 2, 3, 4, 5] [] rfl rfl (by decide) (by decide) rfl rfl rfl rfl rfl hl.1 (Nat.le_of_ble_eq_true rfl) dX2_readSum_72 ⟨Nat.le_of_ble_eq_true rfl, Nat.le_of_ble_eq_true rfl⟩ (fun u H locs hw_26 hP hD hS => ?_)
          obtain ⟨plo_22, fao_23, zo_24, l1o_25⟩ := u
          try dsimp only at hw_26
          have hP : va_P D vwCl [(h0, .inr (2, [.ref tx, .ref lw])), (tx, .inr (6, [.ref tp, .int ed, .int plo_22, .int fao_23])), (tp, .inr (5, [.ref by_, .int (nI T)])), (by_, .inl (cI, 260, .inl fb)), (lw, .inr (1, [.ref l1, .ref l2, .ref l3, .ref l4, .ref l5, .ref l6, .ref l7, .int (nI zo_24), .int (nI k)])), (l1, .inl (cI, 240, .inl l1o_25))] H := hP
          have hD : va_D A [(h0, .inr (2, [.ref tx, .ref lw])), (tx, .inr (6, [.ref tp, .int ed, .int plo_22, .int fao_23])), (tp, .inr (5, [.ref by_, .int (nI T)])), (by_, .inl (cI, 260, .inl fb)), (lw, .inr (1, [.ref l1, .ref l2, .ref l3, .ref l4, .ref l5, .ref l6, .ref l7, .int (nI zo_24), .int (nI k)])), (l1, .inl (cI, 240, .inl l1o_25))] := hD
          refine lv_aload_n hx hb dX2_readSum_75 rfl (lv_at hl 1 rfl) ?_
          refine va_get (D := D) (ci := 2) (v := .ref lw) (C := RX2) (T := TX2) (N := 2) hx hb htb itX2 hown hK hP 0 rfl rfl 1 (by decide) (htb _ k_289) (fun _ h9 => h9) rfl dX2_readSum_76 ?_
          refine lv_iload_n hx hb dX2_readSum_79 rfl (lv_at hl 0 rfl) ?_
          refine lv_iconst (v := 0) hx hb dX2_readSum_80 (by decide) ?_
          refine cVV (As := [.int 5, .int 0]) (rest := []) (n := 2) (ci := 1) (q0 := 0) (wr := [(h0, .inr (2, [.ref tx, .ref lw])), (tx, .inr (6, [.ref tp, .int ed, .int plo_22, .int fao_23])), (tp, .inr (5, [.ref by_, .int (nI T)])), (by_, .inl (cI, 260, .inl fb))]) X hN hK hP hD hS hA (c_X1_addStep l D cI cB _ lw l1 l2 l3 l4 l5 l6 l7 zo_24 k 5 0 l1o_25 hw_26 hk) (gV k_594 k_595 k_596 k_97 k_597) (by decide +kernel) ⟨Nat.le_of_ble_eq_true rfl, Nat.le_of_ble_eq_true rfl⟩ ⟨rfl, rfl⟩ [4, 5] [0, 1, 2, 3] rfl rfl (by decide) (by decide) rfl rfl rfl rfl rfl hl.1 (Nat.le_of_ble_eq_true rfl) dX2_readSum_81 ⟨Nat.le_of_ble_eq_true rfl, Nat.le_of_ble_eq_true rfl⟩ (fun u H locs hw_30 hP hD hS => ?_)
          obtain ⟨zo_28, l1_fo_29⟩ := u
          try dsimp only at hw_30
          have hP : va_P D vwCl [(h0, .inr (2, [.ref tx, .ref lw])), (tx, .inr (6, [.ref tp, .int ed, .int plo_22, .int fao_23])), (tp, .inr (5, [.ref by_, .int (nI T)])), (by_, .inl (cI, 260, .inl fb)), (lw, .inr (1, [.ref l1, .ref l2, .ref l3, .ref l4, .ref l5, .ref l6, .ref l7, .int (nI zo_28), .int (nI k)])), (l1, .inl (cI, 240, .inl l1_fo_29))] H := hP
          have hD : va_D A [(h0, .inr (2, [.ref tx, .ref lw])), (tx, .inr (6, [.ref tp, .int ed, .int plo_22, .int fao_23])), (tp, .inr (5, [.ref by_, .int (nI T)])), (by_, .inl (cI, 260, .inl fb)), (lw, .inr (1, [.ref l1, .ref l2, .ref l3, .ref l4, .ref l5, .ref l6, .ref l7, .int (nI zo_28), .int (nI k)])), (l1, .inl (cI, 240, .inl l1_fo_29))] := hD
          refine lv_iinc (v := (nI (i + 1))) (lv' := [(2, .int (nI (i + 1))), (3, .int 5), (0, .ref h0), (1, .int 0)]) hx hb dX2_readSum_84 hl (k := 3) rfl (nI_1 i) (by decide) rfl (fun ls hl => ?_)
          refine lv_goto (tgt := 7) hx hb dX2_readSum_87 (by decide) ?_
          exact ih_7 (i + 1) plo_22 fao_23 zo_28 l1_fo_29 (by omega) hw_30 _ _ (hP.sub [0, 1, 2, 3, 4, 5] rfl) (hD.sub [0, 1, 2, 3, 4, 5] (by decide) rfl) hS _ (lv_sub hl [2, 3, 0] rfl)
      · refine lv_aload_n hx hb dX2_readSum_26 rfl (lv_at hl 0 rfl) ?_
        refine va_get (D := D) (ci := 2) (v := .ref tx) (C := RX2) (T := TX2) (N := 2) hx hb htb itX2 hown hK hP 0 rfl rfl 0 (by decide) (htb _ k_288) (fun _ h9 => h9) rfl dX2_readSum_27 ?_
        refine cVR (As := []) (rest := []) (n := 0) (ci := 6) (q0 := 0) X hN hK hP (c_X6_sign l D cI cB tx tp ed pa fb_ by_ T fb hT) (gV k_483 k_484 k_485 k_98 k_486) (by decide +kernel) ⟨Nat.le_of_ble_eq_true rfl, Nat.le_of_ble_eq_true rfl⟩ ⟨rfl, rfl⟩ [1, 2, 3] rfl rfl rfl rfl rfl rfl hl.1 (Nat.le_of_ble_eq_true rfl) dX2_readSum_30 ⟨Nat.le_of_ble_eq_true rfl, Nat.le_of_ble_eq_true rfl⟩ (fun r_31 hr_31 => ?_)
        subst hr_31
        refine lv_bipush (v := 45) hx hb dX2_readSum_33 (by decide) ?_
        refine lv_icmp_ne (tgt := 90) hx hb dX2_readSum_35 (by decide) (fun c_35 => ?_) (fun c_35 => ?_)
        · exact ret _ _ _ _ (pa, fb_, za, qa) dX2_readSum_90 hza (hP.sub [0, 1, 2, 3, 4, 5] rfl) (hD.sub [0, 1, 2, 3, 4, 5] (by decide) rfl) hS
        · refine lv_aload_n hx hb dX2_readSum_38 rfl (lv_at hl 0 rfl) ?_
          refine va_get (D := D) (ci := 2) (v := .ref tx) (C := RX2) (T := TX2) (N := 2) hx hb htb itX2 hown hK hP 0 rfl rfl 0 (by decide) (htb _ k_288) (fun _ h9 => h9) rfl dX2_readSum_39 ?_
          refine cVR (As := []) (rest := []) (n := 0) (ci := 6) (q0 := 0) X hN hK hP (c_X6_sign l D cI cB tx tp ed pa fb_ by_ T fb hT) (gV k_483 k_484 k_485 k_98 k_486) (by decide +kernel) ⟨Nat.le_of_ble_eq_true rfl, Nat.le_of_ble_eq_true rfl⟩ ⟨rfl, rfl⟩ [1, 2, 3] rfl rfl rfl rfl rfl rfl hl.1 (Nat.le_of_ble_eq_true rfl) dX2_readSum_42 ⟨Nat.le_of_ble_eq_true rfl, Nat.le_of_ble_eq_true rfl⟩ (fun r_32 hr_32 => ?_)
          subst hr_32
          refine lv_bipush (v := 43) hx hb dX2_readSum_45 (by decide) ?_
          refine lv_icmp_ne (tgt := 54) hx hb dX2_readSum_47 (by decide) (fun c_47 => ?_) (fun c_47 => ?_)
          · refine lv_bipush (v := 6) hx hb dX2_readSum_54 (by decide) ?_
            refine lv_istore_n (lv' := [(3, .int 6), (0, .ref h0), (1, .int 0), (2, .int (nI i))]) hx hb dX2_readSum_56 rfl hl (by decide) rfl (fun ls hl => ?_)
            refine lv_aload_n hx hb dX2_readSum_57 rfl (lv_at hl 1 rfl) ?_
            refine va_get (D := D) (ci := 2) (v := .ref tx) (C := RX2) (T := TX2) (N := 2) hx hb htb itX2 hown hK hP 0 rfl rfl 0 (by decide) (htb _ k_288) (fun _ h9 => h9) rfl dX2_readSum_58 ?_
            refine lv_dup hx hb dX2_readSum_61 rfl ?_
            refine va_getN (D := D) (ci := 6) (v := .int pa) (C := RX6) (T := TX6) (N := 4) hx hb htb itX6 hown hK hP 1 rfl rfl 2 (by decide) (va_Nw.use rfl (hN _ n_264 rfl)) (fun _ h9 => h9) rfl dX2_readSum_62 ?_
            refine lv_iconst (v := 1) hx hb dX2_readSum_65 (by decide) ?_
            refine lv_iadd hx hb dX2_readSum_66 ?_
            refine lv_topi (fun x_33 ex_33 => ?_)
            refine va_putN (D := D) (ci := 6) (v := .int x_33) (ty := .int) (C := RX6) (T := TX6) (N := 4) hx hb htb itX6 tyX6 tyX6_ok nmX6 hown hK hP hD hS 1 rfl rfl 2 (by decide) (va_Nw.use rfl (hN _ n_264 rfl)) (fun _ h9 => h9) rfl (tyX6_ok 2 (by decide)) rfl rfl (Nat.le_of_ble_eq_true rfl) dX2_readSum_67 (fun H locs hP hD hS => ?_)
            have hP : va_P D vwCl [(h0, .inr (2, [.ref tx, .ref lw])), (tx, .inr (6, [.ref tp, .int ed, .int x_33, .int fb_])), (tp, .inr (5, [.ref by_, .int (nI T)])), (by_, .inl (cI, 260, .inl fb)), (lw, .inr (1, [.ref l1, .ref l2, .ref l3, .ref l4, .ref l5, .ref l6, .ref l7, .int (nI za), .int (nI k)])), (l1, .inl (cI, 240, .inl qa))] H := hP
            have hD : va_D A [(h0, .inr (2, [.ref tx, .ref lw])), (tx, .inr (6, [.ref tp, .int ed, .int x_33, .int fb_])), (tp, .inr (5, [.ref by_, .int (nI T)])), (by_, .inl (cI, 260, .inl fb)), (lw, .inr (1, [.ref l1, .ref l2, .ref l3, .ref l4, .ref l5, .ref l6, .ref l7, .int (nI za), .int (nI k)])), (l1, .inl (cI, 240, .inl qa))] := hD
            refine lv_aload_n hx hb dX2_readSum_70 rfl (lv_at hl 1 rfl) ?_
            refine lv_iload_n hx hb dX2_readSum_71 rfl (lv_at hl 2 rfl) ?_
            refine cVVk (As := [.int 0]) (rest := []) (n := 1) (ci := 2) (q0 := 0) (wr := []) X hN hKO hK hP hD hS hA (c_readTerm_0 l D cI cB _ kk h0 tx tp ed x_33 fb_ by_ T fb lw l1 l2 l3 l4 l5 l6 l7 za k qa hT hza hk) (gV k_585 k_587 k_3 k_99 k_588) (by decide +kernel) ⟨Nat.le_of_ble_eq_true rfl, Nat.le_of_ble_eq_true rfl⟩ ⟨rfl, rfl⟩ [0, 1, 2, 3, 4, 5] [] rfl rfl (by decide) (by decide) rfl rfl rfl rfl rfl hl.1 (Nat.le_of_ble_eq_true rfl) dX2_readSum_72 ⟨Nat.le_of_ble_eq_true rfl, Nat.le_of_ble_eq_true rfl⟩ (fun u H locs hw_39 hP hD hS => ?_)
            obtain ⟨plo_35, fao_36, zo_37, l1o_38⟩ := u
            try dsimp only at hw_39
            have hP : va_P D vwCl [(h0, .inr (2, [.ref tx, .ref lw])), (tx, .inr (6, [.ref tp, .int ed, .int plo_35, .int fao_36])), (tp, .inr (5, [.ref by_, .int (nI T)])), (by_, .inl (cI, 260, .inl fb)), (lw, .inr (1, [.ref l1, .ref l2, .ref l3, .ref l4, .ref l5, .ref l6, .ref l7, .int (nI zo_37), .int (nI k)])), (l1, .inl (cI, 240, .inl l1o_38))] H := hP
            have hD : va_D A [(h0, .inr (2, [.ref tx, .ref lw])), (tx, .inr (6, [.ref tp, .int ed, .int plo_35, .int fao_36])), (tp, .inr (5, [.ref by_, .int (nI T)])), (by_, .inl (cI, 260, .inl fb)), (lw, .inr (1, [.ref l1, .ref l2, .ref l3, .ref l4, .ref l5, .ref l6, .ref l7, .int (nI zo_37), .int (nI k)])), (l1, .inl (cI, 240, .inl l1o_38))] := hD
            refine lv_aload_n hx hb dX2_readSum_75 rfl (lv_at hl 1 rfl) ?_
            refine va_get (D := D) (ci := 2) (v := .ref lw) (C := RX2) (T := TX2) (N := 2) hx hb htb itX2 hown hK hP 0 rfl rfl 1 (by decide) (htb _ k_289) (fun _ h9 => h9) rfl dX2_readSum_76 ?_
            refine lv_iload_n hx hb dX2_readSum_79 rfl (lv_at hl 0 rfl) ?_
            refine lv_iconst (v := 0) hx hb dX2_readSum_80 (by decide) ?_
            refine cVV (As := [.int 6, .int 0]) (rest := []) (n := 2) (ci := 1) (q0 := 0) (wr := [(h0, .inr (2, [.ref tx, .ref lw])), (tx, .inr (6, [.ref tp, .int ed, .int plo_35, .int fao_36])), (tp, .inr (5, [.ref by_, .int (nI T)])), (by_, .inl (cI, 260, .inl fb))]) X hN hK hP hD hS hA (c_X1_addStep l D cI cB _ lw l1 l2 l3 l4 l5 l6 l7 zo_37 k 6 0 l1o_38 hw_39 hk) (gV k_594 k_595 k_596 k_97 k_597) (by decide +kernel) ⟨Nat.le_of_ble_eq_true rfl, Nat.le_of_ble_eq_true rfl⟩ ⟨rfl, rfl⟩ [4, 5] [0, 1, 2, 3] rfl rfl (by decide) (by decide) rfl rfl rfl rfl rfl hl.1 (Nat.le_of_ble_eq_true rfl) dX2_readSum_81 ⟨Nat.le_of_ble_eq_true rfl, Nat.le_of_ble_eq_true rfl⟩ (fun u H locs hw_43 hP hD hS => ?_)
            obtain ⟨zo_41, l1_fo_42⟩ := u
            try dsimp only at hw_43
            have hP : va_P D vwCl [(h0, .inr (2, [.ref tx, .ref lw])), (tx, .inr (6, [.ref tp, .int ed, .int plo_35, .int fao_36])), (tp, .inr (5, [.ref by_, .int (nI T)])), (by_, .inl (cI, 260, .inl fb)), (lw, .inr (1, [.ref l1, .ref l2, .ref l3, .ref l4, .ref l5, .ref l6, .ref l7, .int (nI zo_41), .int (nI k)])), (l1, .inl (cI, 240, .inl l1_fo_42))] H := hP
            have hD : va_D A [(h0, .inr (2, [.ref tx, .ref lw])), (tx, .inr (6, [.ref tp, .int ed, .int plo_35, .int fao_36])), (tp, .inr (5, [.ref by_, .int (nI T)])), (by_, .inl (cI, 260, .inl fb)), (lw, .inr (1, [.ref l1, .ref l2, .ref l3, .ref l4, .ref l5, .ref l6, .ref l7, .int (nI zo_41), .int (nI k)])), (l1, .inl (cI, 240, .inl l1_fo_42))] := hD
            refine lv_iinc (v := (nI (i + 1))) (lv' := [(2, .int (nI (i + 1))), (3, .int 6), (0, .ref h0), (1, .int 0)]) hx hb dX2_readSum_84 hl (k := 3) rfl (nI_1 i) (by decide) rfl (fun ls hl => ?_)
            refine lv_goto (tgt := 7) hx hb dX2_readSum_87 (by decide) ?_
            exact ih_7 (i + 1) plo_35 fao_36 zo_41 l1_fo_42 (by omega) hw_43 _ _ (hP.sub [0, 1, 2, 3, 4, 5] rfl) (hD.sub [0, 1, 2, 3, 4, 5] (by decide) rfl) hS _ (lv_sub hl [2, 3, 0] rfl)
          · refine lv_iconst (v := 5) hx hb dX2_readSum_50 (by decide) ?_
            refine lv_goto (tgt := 56) hx hb dX2_readSum_51 (by decide) ?_
            refine lv_istore_n (lv' := [(3, .int 5), (0, .ref h0), (1, .int 0), (2, .int (nI i))]) hx hb dX2_readSum_56 rfl hl (by decide) rfl (fun ls hl => ?_)
            refine lv_aload_n hx hb dX2_readSum_57 rfl (lv_at hl 1 rfl) ?_
            refine va_get (D := D) (ci := 2) (v := .ref tx) (C := RX2) (T := TX2) (N := 2) hx hb htb itX2 hown hK hP 0 rfl rfl 0 (by decide) (htb _ k_288) (fun _ h9 => h9) rfl dX2_readSum_58 ?_
            refine lv_dup hx hb dX2_readSum_61 rfl ?_
            refine va_getN (D := D) (ci := 6) (v := .int pa) (C := RX6) (T := TX6) (N := 4) hx hb htb itX6 hown hK hP 1 rfl rfl 2 (by decide) (va_Nw.use rfl (hN _ n_264 rfl)) (fun _ h9 => h9) rfl dX2_readSum_62 ?_
            refine lv_iconst (v := 1) hx hb dX2_readSum_65 (by decide) ?_
            refine lv_iadd hx hb dX2_readSum_66 ?_
            refine lv_topi (fun x_44 ex_44 => ?_)
            refine va_putN (D := D) (ci := 6) (v := .int x_44) (ty := .int) (C := RX6) (T := TX6) (N := 4) hx hb htb itX6 tyX6 tyX6_ok nmX6 hown hK hP hD hS 1 rfl rfl 2 (by decide) (va_Nw.use rfl (hN _ n_264 rfl)) (fun _ h9 => h9) rfl (tyX6_ok 2 (by decide)) rfl rfl (Nat.le_of_ble_eq_true rfl) dX2_readSum_67 (fun H locs hP hD hS => ?_)
            have hP : va_P D vwCl [(h0, .inr (2, [.ref tx, .ref lw])), (tx, .inr (6, [.ref tp, .int ed, .int x_44, .int fb_])), (tp, .inr (5, [.ref by_, .int (nI T)])), (by_, .inl (cI, 260, .inl fb)), (lw, .inr (1, [.ref l1, .ref l2, .ref l3, .ref l4, .ref l5, .ref l6, .ref l7, .int (nI za), .int (nI k)])), (l1, .inl (cI, 240, .inl qa))] H := hP
            have hD : va_D A [(h0, .inr (2, [.ref tx, .ref lw])), (tx, .inr (6, [.ref tp, .int ed, .int x_44, .int fb_])), (tp, .inr (5, [.ref by_, .int (nI T)])), (by_, .inl (cI, 260, .inl fb)), (lw, .inr (1, [.ref l1, .ref l2, .ref l3, .ref l4, .ref l5, .ref l6, .ref l7, .int (nI za), .int (nI k)])), (l1, .inl (cI, 240, .inl qa))] := hD
            refine lv_aload_n hx hb dX2_readSum_70 rfl (lv_at hl 1 rfl) ?_
            refine lv_iload_n hx hb dX2_readSum_71 rfl (lv_at hl 2 rfl) ?_
            refine cVVk (As := [.int 0]) (rest := []) (n := 1) (ci := 2) (q0 := 0) (wr := []) X hN hKO hK hP hD hS hA (c_readTerm_0 l D cI cB _ kk h0 tx tp ed x_44 fb_ by_ T fb lw l1 l2 l3 l4 l5 l6 l7 za k qa hT hza hk) (gV k_585 k_587 k_3 k_99 k_588) (by decide +kernel) ⟨Nat.le_of_ble_eq_true rfl, Nat.le_of_ble_eq_true rfl⟩ ⟨rfl, rfl⟩ [0, 1, 2, 3, 4, 5] [] rfl rfl (by decide) (by decide) rfl rfl rfl rfl rfl hl.1 (Nat.le_of_ble_eq_true rfl) dX2_readSum_72 ⟨Nat.le_of_ble_eq_true rfl, Nat.le_of_ble_eq_true rfl⟩ (fun u H locs hw_50 hP hD hS => ?_)
            obtain ⟨plo_46, fao_47, zo_48, l1o_49⟩ := u
            try dsimp only at hw_50
            have hP : va_P D vwCl [(h0, .inr (2, [.ref tx, .ref lw])), (tx, .inr (6, [.ref tp, .int ed, .int plo_46, .int fao_47])), (tp, .inr (5, [.ref by_, .int (nI T)])), (by_, .inl (cI, 260, .inl fb)), (lw, .inr (1, [.ref l1, .ref l2, .ref l3, .ref l4, .ref l5, .ref l6, .ref l7, .int (nI zo_48), .int (nI k)])), (l1, .inl (cI, 240, .inl l1o_49))] H := hP
            have hD : va_D A [(h0, .inr (2, [.ref tx, .ref lw])), (tx, .inr (6, [.ref tp, .int ed, .int plo_46, .int fao_47])), (tp, .inr (5, [.ref by_, .int (nI T)])), (by_, .inl (cI, 260, .inl fb)), (lw, .inr (1, [.ref l1, .ref l2, .ref l3, .ref l4, .ref l5, .ref l6, .ref l7, .int (nI zo_48), .int (nI k)])), (l1, .inl (cI, 240, .inl l1o_49))] := hD
            refine lv_aload_n hx hb dX2_readSum_75 rfl (lv_at hl 1 rfl) ?_
            refine va_get (D := D) (ci := 2) (v := .ref lw) (C := RX2) (T := TX2) (N := 2) hx hb htb itX2 hown hK hP 0 rfl rfl 1 (by decide) (htb _ k_289) (fun _ h9 => h9) rfl dX2_readSum_76 ?_
            refine lv_iload_n hx hb dX2_readSum_79 rfl (lv_at hl 0 rfl) ?_
            refine lv_iconst (v := 0) hx hb dX2_readSum_80 (by decide) ?_
            refine cVV (As := [.int 5, .int 0]) (rest := []) (n := 2) (ci := 1) (q0 := 0) (wr := [(h0, .inr (2, [.ref tx, .ref lw])), (tx, .inr (6, [.ref tp, .int ed, .int plo_46, .int fao_47])), (tp, .inr (5, [.ref by_, .int (nI T)])), (by_, .inl (cI, 260, .inl fb))]) X hN hK hP hD hS hA (c_X1_addStep l D cI cB _ lw l1 l2 l3 l4 l5 l6 l7 zo_48 k 5 0 l1o_49 hw_50 hk) (gV k_594 k_595 k_596 k_97 k_597) (by decide +kernel) ⟨Nat.le_of_ble_eq_true rfl, Nat.le_of_ble_eq_true rfl⟩ ⟨rfl, rfl⟩ [4, 5] [0, 1, 2, 3] rfl rfl (by decide) (by decide) rfl rfl rfl rfl rfl hl.1 (Nat.le_of_ble_eq_true rfl) dX2_readSum_81 ⟨Nat.le_of_ble_eq_true rfl, Nat.le_of_ble_eq_true rfl⟩ (fun u H locs hw_54 hP hD hS => ?_)
            obtain ⟨zo_52, l1_fo_53⟩ := u
            try dsimp only at hw_54
            have hP : va_P D vwCl [(h0, .inr (2, [.ref tx, .ref lw])), (tx, .inr (6, [.ref tp, .int ed, .int plo_46, .int fao_47])), (tp, .inr (5, [.ref by_, .int (nI T)])), (by_, .inl (cI, 260, .inl fb)), (lw, .inr (1, [.ref l1, .ref l2, .ref l3, .ref l4, .ref l5, .ref l6, .ref l7, .int (nI zo_52), .int (nI k)])), (l1, .inl (cI, 240, .inl l1_fo_53))] H := hP
            have hD : va_D A [(h0, .inr (2, [.ref tx, .ref lw])), (tx, .inr (6, [.ref tp, .int ed, .int plo_46, .int fao_47])), (tp, .inr (5, [.ref by_, .int (nI T)])), (by_, .inl (cI, 260, .inl fb)), (lw, .inr (1, [.ref l1, .ref l2, .ref l3, .ref l4, .ref l5, .ref l6, .ref l7, .int (nI zo_52), .int (nI k)])), (l1, .inl (cI, 240, .inl l1_fo_53))] := hD
            refine lv_iinc (v := (nI (i + 1))) (lv' := [(2, .int (nI (i + 1))), (3, .int 5), (0, .ref h0), (1, .int 0)]) hx hb dX2_readSum_84 hl (k := 3) rfl (nI_1 i) (by decide) rfl (fun ls hl => ?_)
            refine lv_goto (tgt := 7) hx hb dX2_readSum_87 (by decide) ?_
            exact ih_7 (i + 1) plo_46 fao_47 zo_52 l1_fo_53 (by omega) hw_54 _ _ (hP.sub [0, 1, 2, 3, 4, 5] rfl) (hD.sub [0, 1, 2, 3, 4, 5] (by decide) rfl) hS _ (lv_sub hl [2, 3, 0] rfl)
  exact loop_7 240 0 plo_2 fao_3 zo_4 l1o_5 (by omega) hw_6 _ _ (hP.sub [0, 1, 2, 3, 4, 5] rfl) (hD.sub [0, 1, 2, 3, 4, 5] (by decide) rfl) hS _ (lv_sub hl [1, 2, 0] rfl)

set_option maxRecDepth 100000 in
set_option maxHeartbeats 4000000 in
theorem c_readPiece_6 (l : Launch) (D : va_G) (cI cB : ClassId) (sz : Nat) (kk : KT) (h0 : Nat) (tx : Nat) (tp : Nat) (ed : Int32) (pl : Int32) (fa : Int32) (by_ : Nat) (T : Nat) (fb : Nat → Int32) (lw : Nat) (l1 : Nat) (l2 : Nat) (l3 : Nat) (l4 : Nat) (l5 : Nat) (l6 : Nat) (l7 : Nat) (z : Nat) (k : Nat) (q1 : Nat → Int32) (hT : T ≤ 260) (hz : z ≤ 240) (hk : k ≤ 16) : MVk (S := ((Int32) × (Int32) × (Nat) × (Nat → Int32))) l D cI cB kk yX2_readPiece cX2_readPiece 4 (rm 8 181) [.ref h0, .int 6] [(h0, .inr (2, [.ref tx, .ref lw])), (tx, .inr (6, [.ref tp, .int ed, .int pl, .int fa])), (tp, .inr (5, [.ref by_, .int (nI T)])), (by_, .inl (cI, 260, .inl fb)), (lw, .inr (1, [.ref l1, .ref l2, .ref l3, .ref l4, .ref l5, .ref l6, .ref l7, .int (nI z), .int (nI k)])), (l1, .inl (cI, 240, .inl q1))] sz (fun u => u.2.2.1 ≤ 240) (fun u : ((Int32) × (Int32) × (Nat) × (Nat → Int32)) => [(h0, .inr (2, [.ref tx, .ref lw])), (tx, .inr (6, [.ref tp, .int ed, .int u.1, .int u.2.1])), (tp, .inr (5, [.ref by_, .int (nI T)])), (by_, .inl (cI, 260, .inl fb)), (lw, .inr (1, [.ref l1, .ref l2, .ref l3, .ref l4, .ref l5, .ref l6, .ref l7, .int (nI u.2.2.1), .int (nI k)])), (l1, .inl (cI, 240, .inl u.2.2.2))]) := by
  refine MVk.of (by decide) (Nat.le_of_ble_eq_true rfl) ?_
  intro p e s m below meth c Q ls A X hin hN hKO hP hK hD hA hl ret
  have hS : va_S A s.heap s.heap [] := va_S.rf
  obtain ⟨hx, hb, hml, hown, htb⟩ := id X
  have hl : lv_has ls 4 [(0, .ref h0), (1, .int 6)] := hl
  refine lv_aload_n hx hb dX2_readPiece_0 rfl (lv_at hl 0 rfl) ?_
  refine va_get (D := D) (ci := 2) (v := .ref tx) (C := RX2) (T := TX2) (N := 2) hx hb htb itX2 hown hK hP 0 rfl rfl 0 (by decide) (htb _ k_288) (fun _ h9 => h9) rfl dX2_readPiece_1 ?_
  refine cVR (As := []) (rest := []) (n := 0) (ci := 6) (q0 := 0) X hN hK hP (c_X6_sign l D cI cB tx tp ed pl fa by_ T fb hT) (gV k_483 k_484 k_485 k_98 k_486) (by decide +kernel) ⟨Nat.le_of_ble_eq_true rfl, Nat.le_of_ble_eq_true rfl⟩ ⟨rfl, rfl⟩ [1, 2, 3] rfl rfl rfl rfl rfl rfl hl.1 (Nat.le_of_ble_eq_true rfl) dX2_readPiece_4 ⟨Nat.le_of_ble_eq_true rfl, Nat.le_of_ble_eq_true rfl⟩ (fun r_1 hr_1 => ?_)
  subst hr_1
  refine lv_topi (fun x_2 ex_2 => ?_)
  refine lv_istore_n (lv' := [(2, .int x_2), (0, .ref h0), (1, .int 6)]) hx hb dX2_readPiece_7 rfl hl (by decide) rfl (fun ls hl => ?_)
  refine lv_iload_n hx hb dX2_readPiece_8 rfl (lv_at hl 0 rfl) ?_
  refine lv_bipush (v := 33) hx hb dX2_readPiece_9 (by decide) ?_
  refine lv_icmp_ne (tgt := 41) hx hb dX2_readPiece_11 (by decide) (fun c_11 => ?_) (fun c_11 => ?_)
  · refine lv_iload_n hx hb dX2_readPiece_41 rfl (lv_at hl 0 rfl) ?_
    refine lv_bipush (v := 40) hx hb dX2_readPiece_42 (by decide) ?_
    refine lv_icmp_ne (tgt := 74) hx hb dX2_readPiece_44 (by decide) (fun c_44 => ?_) (fun c_44 => ?_)
    · refine lv_aload_n hx hb dX2_readPiece_74 rfl (lv_at hl 1 rfl) ?_
      refine lv_iload_n hx hb dX2_readPiece_75 rfl (lv_at hl 2 rfl) ?_
      refine cVVk (As := [.int 6]) (rest := []) (n := 1) (ci := 2) (q0 := 0) (wr := []) X hN hKO hK hP hD hS hA (c_readSum_6 l D cI cB _ kk h0 tx tp ed pl fa by_ T fb lw l1 l2 l3 l4 l5 l6 l7 z k q1 hT hz hk) (gV k_581 k_583 k_2 k_99 k_584) (by decide +kernel) ⟨Nat.le_of_ble_eq_true rfl, Nat.le_of_ble_eq_true rfl⟩ ⟨rfl, rfl⟩ [0, 1, 2, 3, 4, 5] [] rfl rfl (by decide) (by decide) rfl rfl rfl rfl rfl hl.1 (Nat.le_of_ble_eq_true rfl) dX2_readPiece_76 ⟨Nat.le_of_ble_eq_true rfl, Nat.le_of_ble_eq_true rfl⟩ (fun u H locs hw_8 hP hD hS => ?_)
      obtain ⟨plo_4, fao_5, zo_6, l1o_7⟩ := u
      try dsimp only at hw_8
      have hP : va_P D vwCl [(h0, .inr (2, [.ref tx, .ref lw])), (tx, .inr (6, [.ref tp, .int ed, .int plo_4, .int fao_5])), (tp, .inr (5, [.ref by_, .int (nI T)])), (by_, .inl (cI, 260, .inl fb)), (lw, .inr (1, [.ref l1, .ref l2, .ref l3, .ref l4, .ref l5, .ref l6, .ref l7, .int (nI zo_6), .int (nI k)])), (l1, .inl (cI, 240, .inl l1o_7))] H := hP
      have hD : va_D A [(h0, .inr (2, [.ref tx, .ref lw])), (tx, .inr (6, [.ref tp, .int ed, .int plo_4, .int fao_5])), (tp, .inr (5, [.ref by_, .int (nI T)])), (by_, .inl (cI, 260, .inl fb)), (lw, .inr (1, [.ref l1, .ref l2, .ref l3, .ref l4, .ref l5, .ref l6, .ref l7, .int (nI zo_6), .int (nI k)])), (l1, .inl (cI, 240, .inl l1o_7))] := hD
      refine lv_aload_n hx hb dX2_readPiece_79 rfl (lv_at hl 1 rfl) ?_
      refine cVI (As := []) (rest := []) (n := 0) (ci := 2) (q0 := 0) (wr := [(lw, .inr (1, [.ref l1, .ref l2, .ref l3, .ref l4, .ref l5, .ref l6, .ref l7, .int (nI zo_6), .int (nI k)])), (l1, .inl (cI, 240, .inl l1o_7))]) X hN hK hP hD hS hA (c_X2_comparison l D cI cB _ h0 lw tx tp ed plo_4 fao_5 by_ T fb hT) (gV k_640 k_642 k_10 k_99 k_643) (by decide +kernel) ⟨Nat.le_of_ble_eq_true rfl, Nat.le_of_ble_eq_true rfl⟩ ⟨rfl, rfl⟩ [0, 1, 2, 3] [4, 5] rfl rfl (by decide) (by decide) rfl rfl rfl rfl rfl hl.1 (Nat.le_of_ble_eq_true rfl) dX2_readPiece_80 ⟨Nat.le_of_ble_eq_true rfl, Nat.le_of_ble_eq_true rfl⟩ (fun r_9 u H locs hw_12 hP hD hS => ?_)
      obtain ⟨tx_2o_10, tx_3o_11⟩ := u
      try dsimp only at hw_12
      have hP : va_P D vwCl [(lw, .inr (1, [.ref l1, .ref l2, .ref l3, .ref l4, .ref l5, .ref l6, .ref l7, .int (nI zo_6), .int (nI k)])), (l1, .inl (cI, 240, .inl l1o_7)), (h0, .inr (2, [.ref tx, .ref lw])), (tx, .inr (6, [.ref tp, .int ed, .int tx_2o_10, .int tx_3o_11])), (tp, .inr (5, [.ref by_, .int (nI T)])), (by_, .inl (cI, 260, .inl fb))] H := hP
      have hD : va_D A [(lw, .inr (1, [.ref l1, .ref l2, .ref l3, .ref l4, .ref l5, .ref l6, .ref l7, .int (nI zo_6), .int (nI k)])), (l1, .inl (cI, 240, .inl l1o_7)), (h0, .inr (2, [.ref tx, .ref lw])), (tx, .inr (6, [.ref tp, .int ed, .int tx_2o_10, .int tx_3o_11])), (tp, .inr (5, [.ref by_, .int (nI T)])), (by_, .inl (cI, 260, .inl fb))] := hD
      refine lv_istore_n (lv' := [(3, .int r_9), (2, .int x_2), (0, .ref h0), (1, .int 6)]) hx hb dX2_readPiece_83 rfl hl (by decide) rfl (fun ls hl => ?_)
      refine lv_aload_n hx hb dX2_readPiece_84 rfl (lv_at hl 2 rfl) ?_
      refine lv_iload_n hx hb dX2_readPiece_85 rfl (lv_at hl 3 rfl) ?_
      refine cVVk (As := [.int 6]) (rest := []) (n := 1) (ci := 2) (q0 := 0) (wr := []) X hN hKO hK hP hD hS hA (c_readSum_6 l D cI cB _ kk h0 tx tp ed tx_2o_10 tx_3o_11 by_ T fb lw l1 l2 l3 l4 l5 l6 l7 zo_6 k l1o_7 hT hw_8 hk) (gV k_581 k_583 k_2 k_99 k_584) (by decide +kernel) ⟨Nat.le_of_ble_eq_true rfl, Nat.le_of_ble_eq_true rfl⟩ ⟨rfl, rfl⟩ [2, 3, 4, 5, 0, 1] [] rfl rfl (by decide) (by decide) rfl rfl rfl rfl rfl hl.1 (Nat.le_of_ble_eq_true rfl) dX2_readPiece_86 ⟨Nat.le_of_ble_eq_true rfl, Nat.le_of_ble_eq_true rfl⟩ (fun u H locs hw_18 hP hD hS => ?_)
      obtain ⟨plo_14, fao_15, zo_16, l1o_17⟩ := u
      try dsimp only at hw_18
      have hP : va_P D vwCl [(h0, .inr (2, [.ref tx, .ref lw])), (tx, .inr (6, [.ref tp, .int ed, .int plo_14, .int fao_15])), (tp, .inr (5, [.ref by_, .int (nI T)])), (by_, .inl (cI, 260, .inl fb)), (lw, .inr (1, [.ref l1, .ref l2, .ref l3, .ref l4, .ref l5, .ref l6, .ref l7, .int (nI zo_16), .int (nI k)])), (l1, .inl (cI, 240, .inl l1o_17))] H := hP
      have hD : va_D A [(h0, .inr (2, [.ref tx, .ref lw])), (tx, .inr (6, [.ref tp, .int ed, .int plo_14, .int fao_15])), (tp, .inr (5, [.ref by_, .int (nI T)])), (by_, .inl (cI, 260, .inl fb)), (lw, .inr (1, [.ref l1, .ref l2, .ref l3, .ref l4, .ref l5, .ref l6, .ref l7, .int (nI zo_16), .int (nI k)])), (l1, .inl (cI, 240, .inl l1o_17))] := hD
      refine lv_aload_n hx hb dX2_readPiece_89 rfl (lv_at hl 2 rfl) ?_
      refine va_get (D := D) (ci := 2) (v := .ref lw) (C := RX2) (T := TX2) (N := 2) hx hb htb itX2 hown hK hP 0 rfl rfl 1 (by decide) (htb _ k_289) (fun _ h9 => h9) rfl dX2_readPiece_90 ?_
      refine lv_iload_n hx hb dX2_readPiece_93 rfl (lv_at hl 0 rfl) ?_
      refine lv_iconst (v := 0) hx hb dX2_readPiece_94 (by decide) ?_
      refine cVV (As := [.int r_9, .int 0]) (rest := []) (n := 2) (ci := 1) (q0 := 0) (wr := [(h0, .inr (2, [.ref tx, .ref lw])), (tx, .inr (6, [.ref tp, .int ed, .int plo_14, .int fao_15])), (tp, .inr (5, [.ref by_, .int (nI T)])), (by_, .inl (cI, 260, .inl fb))]) X hN hK hP hD hS hA (c_X1_addStep l D cI cB _ lw l1 l2 l3 l4 l5 l6 l7 zo_16 k r_9 0 l1o_17 hw_18 hk) (gV k_594 k_595 k_596 k_97 k_597) (by decide +kernel) ⟨Nat.le_of_ble_eq_true rfl, Nat.le_of_ble_eq_true rfl⟩ ⟨rfl, rfl⟩ [4, 5] [0, 1, 2, 3] rfl rfl (by decide) (by decide) rfl rfl rfl rfl rfl hl.1 (Nat.le_of_ble_eq_true rfl) dX2_readPiece_95 ⟨Nat.le_of_ble_eq_true rfl, Nat.le_of_ble_eq_true rfl⟩ (fun u H locs hw_22 hP hD hS => ?_)
      obtain ⟨zo_20, l1_fo_21⟩ := u
      try dsimp only at hw_22
      have hP : va_P D vwCl [(h0, .inr (2, [.ref tx, .ref lw])), (tx, .inr (6, [.ref tp, .int ed, .int plo_14, .int fao_15])), (tp, .inr (5, [.ref by_, .int (nI T)])), (by_, .inl (cI, 260, .inl fb)), (lw, .inr (1, [.ref l1, .ref l2, .ref l3, .ref l4, .ref l5, .ref l6, .ref l7, .int (nI zo_20), .int (nI k)])), (l1, .inl (cI, 240, .inl l1_fo_21))] H := hP
      have hD : va_D A [(h0, .inr (2, [.ref tx, .ref lw])), (tx, .inr (6, [.ref tp, .int ed, .int plo_14, .int fao_15])), (tp, .inr (5, [.ref by_, .int (nI T)])), (by_, .inl (cI, 260, .inl fb)), (lw, .inr (1, [.ref l1, .ref l2, .ref l3, .ref l4, .ref l5, .ref l6, .ref l7, .int (nI zo_20), .int (nI k)])), (l1, .inl (cI, 240, .inl l1_fo_21))] := hD
      exact ret _ _ _ _ (plo_14, fao_15, zo_20, l1_fo_21) dX2_readPiece_98 hw_22 (hP.sub [0, 1, 2, 3, 4, 5] rfl) (hD.sub [0, 1, 2, 3, 4, 5] (by decide) rfl) hS
    · refine lv_aload_n hx hb dX2_readPiece_47 rfl (lv_at hl 1 rfl) ?_
      refine lv_iload_n hx hb dX2_readPiece_48 rfl (lv_at hl 2 rfl) ?_
      refine cVI (As := [.int 6]) (rest := []) (n := 1) (ci := 2) (q0 := 0) (wr := [(tp, .inr (5, [.ref by_, .int (nI T)])), (by_, .inl (cI, 260, .inl fb)), (lw, .inr (1, [.ref l1, .ref l2, .ref l3, .ref l4, .ref l5, .ref l6, .ref l7, .int (nI z), .int (nI k)])), (l1, .inl (cI, 240, .inl q1))]) X hN hK hP hD hS hA (c_X2_opens l D cI cB _ h0 lw tx tp ed pl fa 6) (gV k_598 k_600 k_5 k_99 k_601) (by decide +kernel) ⟨Nat.le_of_ble_eq_true rfl, Nat.le_of_ble_eq_true rfl⟩ ⟨rfl, rfl⟩ [0, 1] [2, 3, 4, 5] rfl rfl (by decide) (by decide) rfl rfl rfl rfl rfl hl.1 (Nat.le_of_ble_eq_true rfl) dX2_readPiece_49 ⟨Nat.le_of_ble_eq_true rfl, Nat.le_of_ble_eq_true rfl⟩ (fun r_23 u H locs hw_26 hP hD hS => ?_)
      obtain ⟨tx_2o_24, tx_3o_25⟩ := u
      try dsimp only at hw_26
      have hP : va_P D vwCl [(tp, .inr (5, [.ref by_, .int (nI T)])), (by_, .inl (cI, 260, .inl fb)), (lw, .inr (1, [.ref l1, .ref l2, .ref l3, .ref l4, .ref l5, .ref l6, .ref l7, .int (nI z), .int (nI k)])), (l1, .inl (cI, 240, .inl q1)), (h0, .inr (2, [.ref tx, .ref lw])), (tx, .inr (6, [.ref tp, .int ed, .int tx_2o_24, .int tx_3o_25]))] H := hP
      have hD : va_D A [(tp, .inr (5, [.ref by_, .int (nI T)])), (by_, .inl (cI, 260, .inl fb)), (lw, .inr (1, [.ref l1, .ref l2, .ref l3, .ref l4, .ref l5, .ref l6, .ref l7, .int (nI z), .int (nI k)])), (l1, .inl (cI, 240, .inl q1)), (h0, .inr (2, [.ref tx, .ref lw])), (tx, .inr (6, [.ref tp, .int ed, .int tx_2o_24, .int tx_3o_25]))] := hD
      obtain rfl : r_23 = 0 := hw_26.trans (by decide)
      refine lv_if_eq (tgt := 98) hx hb dX2_readPiece_52 (by decide) (fun _ => ?_) (fun c_52 => absurd (by decide) c_52)
      exact ret _ _ _ _ (tx_2o_24, tx_3o_25, z, q1) dX2_readPiece_98 hz (hP.sub [4, 5, 0, 1, 2, 3] rfl) (hD.sub [4, 5, 0, 1, 2, 3] (by decide) rfl) hS
  · refine lv_aload_n hx hb dX2_readPiece_14 rfl (lv_at hl 1 rfl) ?_
    refine lv_iload_n hx hb dX2_readPiece_15 rfl (lv_at hl 2 rfl) ?_
    refine cVI (As := [.int 6]) (rest := []) (n := 1) (ci := 2) (q0 := 0) (wr := [(tp, .inr (5, [.ref by_, .int (nI T)])), (by_, .inl (cI, 260, .inl fb)), (lw, .inr (1, [.ref l1, .ref l2, .ref l3, .ref l4, .ref l5, .ref l6, .ref l7, .int (nI z), .int (nI k)])), (l1, .inl (cI, 240, .inl q1))]) X hN hK hP hD hS hA (c_X2_opens l D cI cB _ h0 lw tx tp ed pl fa 6) (gV k_598 k_600 k_5 k_99 k_601) (by decide +kernel) ⟨Nat.le_of_ble_eq_true rfl, Nat.le_of_ble_eq_true rfl⟩ ⟨rfl, rfl⟩ [0, 1] [2, 3, 4, 5] rfl rfl (by decide) (by decide) rfl rfl rfl rfl rfl hl.1 (Nat.le_of_ble_eq_true rfl) dX2_readPiece_16 ⟨Nat.le_of_ble_eq_true rfl, Nat.le_of_ble_eq_true rfl⟩ (fun r_27 u H locs hw_30 hP hD hS => ?_)
    obtain ⟨tx_2o_28, tx_3o_29⟩ := u
    try dsimp only at hw_30
    have hP : va_P D vwCl [(tp, .inr (5, [.ref by_, .int (nI T)])), (by_, .inl (cI, 260, .inl fb)), (lw, .inr (1, [.ref l1, .ref l2, .ref l3, .ref l4, .ref l5, .ref l6, .ref l7, .int (nI z), .int (nI k)])), (l1, .inl (cI, 240, .inl q1)), (h0, .inr (2, [.ref tx, .ref lw])), (tx, .inr (6, [.ref tp, .int ed, .int tx_2o_28, .int tx_3o_29]))] H := hP
    have hD : va_D A [(tp, .inr (5, [.ref by_, .int (nI T)])), (by_, .inl (cI, 260, .inl fb)), (lw, .inr (1, [.ref l1, .ref l2, .ref l3, .ref l4, .ref l5, .ref l6, .ref l7, .int (nI z), .int (nI k)])), (l1, .inl (cI, 240, .inl q1)), (h0, .inr (2, [.ref tx, .ref lw])), (tx, .inr (6, [.ref tp, .int ed, .int tx_2o_28, .int tx_3o_29]))] := hD
    obtain rfl : r_27 = 0 := hw_30.trans (by decide)
    refine lv_if_eq (tgt := 98) hx hb dX2_readPiece_19 (by decide) (fun _ => ?_) (fun c_19 => absurd (by decide) c_19)
    exact ret _ _ _ _ (tx_2o_28, tx_3o_29, z, q1) dX2_readPiece_98 hz (hP.sub [4, 5, 0, 1, 2, 3] rfl) (hD.sub [4, 5, 0, 1, 2, 3] (by decide) rfl) hS

set_option maxRecDepth 100000 in
set_option maxHeartbeats 4000000 in
theorem c_readPart_6 (l : Launch) (D : va_G) (cI cB : ClassId) (sz : Nat) (kk : KT) (h0 : Nat) (tx : Nat) (tp : Nat) (ed : Int32) (pl : Int32) (fa : Int32) (by_ : Nat) (T : Nat) (fb : Nat → Int32) (lw : Nat) (l1 : Nat) (l2 : Nat) (l3 : Nat) (l4 : Nat) (l5 : Nat) (l6 : Nat) (l7 : Nat) (z : Nat) (k : Nat) (q1 : Nat → Int32) (hT : T ≤ 260) (hz : z ≤ 240) (hk : k ≤ 16) : MVk (S := ((Int32) × (Int32) × (Nat) × (Nat → Int32))) l D cI cB kk yX2_readPart cX2_readPart 4 (rm 9 204) [.ref h0, .int 6] [(h0, .inr (2, [.ref tx, .ref lw])), (tx, .inr (6, [.ref tp, .int ed, .int pl, .int fa])), (tp, .inr (5, [.ref by_, .int (nI T)])), (by_, .inl (cI, 260, .inl fb)), (lw, .inr (1, [.ref l1, .ref l2, .ref l3, .ref l4, .ref l5, .ref l6, .ref l7, .int (nI z), .int (nI k)])), (l1, .inl (cI, 240, .inl q1))] sz (fun u => u.2.2.1 ≤ 240) (fun u : ((Int32) × (Int32) × (Nat) × (Nat → Int32)) => [(h0, .inr (2, [.ref tx, .ref lw])), (tx, .inr (6, [.ref tp, .int ed, .int u.1, .int u.2.1])), (tp, .inr (5, [.ref by_, .int (nI T)])), (by_, .inl (cI, 260, .inl fb)), (lw, .inr (1, [.ref l1, .ref l2, .ref l3, .ref l4, .ref l5, .ref l6, .ref l7, .int (nI u.2.2.1), .int (nI k)])), (l1, .inl (cI, 240, .inl u.2.2.2))]) := by
  refine MVk.of (by decide) (Nat.le_of_ble_eq_true rfl) ?_
  intro p e s m below meth c Q ls A X hin hN hKO hP hK hD hA hl ret
  have hS : va_S A s.heap s.heap [] := va_S.rf
  obtain ⟨hx, hb, hml, hown, htb⟩ := id X
  have hl : lv_has ls 4 [(0, .ref h0), (1, .int 6)] := hl
  refine lv_aload_n hx hb dX2_readPart_0 rfl (lv_at hl 0 rfl) ?_
  refine lv_iload_n hx hb dX2_readPart_1 rfl (lv_at hl 1 rfl) ?_
  refine cVVk (As := [.int 6]) (rest := []) (n := 1) (ci := 2) (q0 := 0) (wr := []) X hN hKO hK hP hD hS hA (c_readPiece_6 l D cI cB _ kk h0 tx tp ed pl fa by_ T fb lw l1 l2 l3 l4 l5 l6 l7 z k q1 hT hz hk) (gV k_636 k_638 k_9 k_99 k_639) (by decide +kernel) ⟨Nat.le_of_ble_eq_true rfl, Nat.le_of_ble_eq_true rfl⟩ ⟨rfl, rfl⟩ [0, 1, 2, 3, 4, 5] [] rfl rfl (by decide) (by decide) rfl rfl rfl rfl rfl hl.1 (Nat.le_of_ble_eq_true rfl) dX2_readPart_2 ⟨Nat.le_of_ble_eq_true rfl, Nat.le_of_ble_eq_true rfl⟩ (fun u H locs hw_6 hP hD hS => ?_)
  obtain ⟨plo_2, fao_3, zo_4, l1o_5⟩ := u
  try dsimp only at hw_6
  have hP : va_P D vwCl [(h0, .inr (2, [.ref tx, .ref lw])), (tx, .inr (6, [.ref tp, .int ed, .int plo_2, .int fao_3])), (tp, .inr (5, [.ref by_, .int (nI T)])), (by_, .inl (cI, 260, .inl fb)), (lw, .inr (1, [.ref l1, .ref l2, .ref l3, .ref l4, .ref l5, .ref l6, .ref l7, .int (nI zo_4), .int (nI k)])), (l1, .inl (cI, 240, .inl l1o_5))] H := hP
  have hD : va_D A [(h0, .inr (2, [.ref tx, .ref lw])), (tx, .inr (6, [.ref tp, .int ed, .int plo_2, .int fao_3])), (tp, .inr (5, [.ref by_, .int (nI T)])), (by_, .inl (cI, 260, .inl fb)), (lw, .inr (1, [.ref l1, .ref l2, .ref l3, .ref l4, .ref l5, .ref l6, .ref l7, .int (nI zo_4), .int (nI k)])), (l1, .inl (cI, 240, .inl l1o_5))] := hD
  refine lv_iconst (v := 0) hx hb dX2_readPart_5 (by decide) ?_
  refine lv_istore_n (lv' := [(2, .int 0), (0, .ref h0), (1, .int 6)]) hx hb dX2_readPart_6 rfl hl (by decide) rfl (fun ls hl => ?_)
  have loop_7 : ∀ (n i : Nat) (pa : Int32) (fb_ : Int32) (za : Nat) (qa : Nat → Int32), n + i = 240 → (za ≤ 240) → ∀ (H : Heap) (locs : List Loc), va_P D vwCl [(h0, .inr (2, [.ref tx, .ref lw])), (tx, .inr (6, [.ref tp, .int ed, .int pa, .int fb_])), (tp, .inr (5, [.ref by_, .int (nI T)])), (by_, .inl (cI, 260, .inl fb)), (lw, .inr (1, [.ref l1, .ref l2, .ref l3, .ref l4, .ref l5, .ref l6, .ref l7, .int (nI za), .int (nI k)])), (l1, .inl (cI, 240, .inl qa))] H → va_D A [(h0, .inr (2, [.ref tx, .ref lw])), (tx, .inr (6, [.ref tp, .int ed, .int pa, .int fb_])), (tp, .inr (5, [.ref by_, .int (nI T)])), (by_, .inl (cI, 260, .inl fb)), (lw, .inr (1, [.ref l1, .ref l2, .ref l3, .ref l4, .ref l5, .ref l6, .ref l7, .int (nI za), .int (nI k)])), (l1, .inl (cI, 240, .inl qa))] → va_S A s.heap H locs → ∀ (ls : Array Slot), lv_has ls 4 [(0, .ref h0), (1, .int 6), (2, .int (nI i))] → W p l e (rm 9 204) s m ([.ref h0, .int 6] : List Value).toArray below meth c H locs 0 0 Q (F0 m 7 ls []) := by
    intro n
    induction n with
    | zero =>
      intro i pa fb_ za qa hni hza H locs hP hD hS ls hl
      have hni_7 := hni
      have hi : i = 240 := by omega
      refine lv_iload_n hx hb dX2_readPart_7 rfl (lv_at hl 2 rfl) ?_
      refine lv_sipush (v := 240) hx hb dX2_readPart_8 (by decide) ?_
      refine lv_icmp_ge (tgt := 62) hx hb dX2_readPart_11 (by decide) (fun _ => ?_) (fun c_11 => absurd (by rw [hi]; decide) c_11)
      exact ret _ _ _ _ (pa, fb_, za, qa) dX2_readPart_62 hza (hP.sub [0, 1, 2, 3, 4, 5] rfl) (hD.sub [0, 1, 2, 3, 4, 5] (by decide) rfl) hS
    | succ n ih_7 =>
      intro i pa fb_ za qa hni hza H locs hP hD hS ls hl
      have hni_7 := hni
      have hi : i < 240 := by omega
      refine lv_iload_n hx hb dX2_readPart_7 rfl (lv_at hl 2 rfl) ?_
      refine lv_sipush (v := 240) hx hb dX2_readPart_8 (by decide) ?_
      refine lv_icmp_ge (tgt := 62) hx hb dX2_readPart_11 (by decide) (fun c_11 => absurd c_11 (nI_ge hi (by decide))) (fun _ => ?_)
      refine lv_aload_n hx hb dX2_readPart_14 rfl (lv_at hl 0 rfl) ?_
      refine va_get (D := D) (ci := 2) (v := .ref tx) (C := RX2) (T := TX2) (N := 2) hx hb htb itX2 hown hK hP 0 rfl rfl 0 (by decide) (htb _ k_288) (fun _ h9 => h9) rfl dX2_readPart_15 ?_
      refine lv_bipush (v := 38) hx hb dX2_readPart_18 (by decide) ?_
      refine cVI (As := [.int 38]) (rest := []) (n := 1) (ci := 6) (q0 := 0) (wr := [(h0, .inr (2, [.ref tx, .ref lw])), (lw, .inr (1, [.ref l1, .ref l2, .ref l3, .ref l4, .ref l5, .ref l6, .ref l7, .int (nI za), .int (nI k)])), (l1, .inl (cI, 240, .inl qa))]) X hN hK hP hD hS hA (c_X6_skip l D cI cB _ tx tp ed pa fb_ by_ T fb 38 hT) (gV k_644 k_607 k_608 k_98 k_609) (by decide +kernel) ⟨Nat.le_of_ble_eq_true rfl, Nat.le_of_ble_eq_true rfl⟩ ⟨rfl, rfl⟩ [1, 2, 3] [0, 4, 5] rfl rfl (by decide) (by decide) rfl rfl rfl rfl rfl hl.1 (Nat.le_of_ble_eq_true rfl) dX2_readPart_20 ⟨Nat.le_of_ble_eq_true rfl, Nat.le_of_ble_eq_true rfl⟩ (fun r_7 u H locs hw_9 hP hD hS => ?_)
      obtain ⟨h0_2o_8, rfl⟩ : ∃ z, z = u := ⟨_, rfl⟩
      try dsimp only at hw_9
      have hP : va_P D vwCl [(h0, .inr (2, [.ref tx, .ref lw])), (lw, .inr (1, [.ref l1, .ref l2, .ref l3, .ref l4, .ref l5, .ref l6, .ref l7, .int (nI za), .int (nI k)])), (l1, .inl (cI, 240, .inl qa)), (tx, .inr (6, [.ref tp, .int ed, .int h0_2o_8, .int fb_])), (tp, .inr (5, [.ref by_, .int (nI T)])), (by_, .inl (cI, 260, .inl fb))] H := hP
      have hD : va_D A [(h0, .inr (2, [.ref tx, .ref lw])), (lw, .inr (1, [.ref l1, .ref l2, .ref l3, .ref l4, .ref l5, .ref l6, .ref l7, .int (nI za), .int (nI k)])), (l1, .inl (cI, 240, .inl qa)), (tx, .inr (6, [.ref tp, .int ed, .int h0_2o_8, .int fb_])), (tp, .inr (5, [.ref by_, .int (nI T)])), (by_, .inl (cI, 260, .inl fb))] := hD
      refine lv_if_eq (tgt := 62) hx hb dX2_readPart_23 (by decide) (fun c_23 => ?_) (fun c_23 => ?_)
      · exact ret _ _ _ _ (h0_2o_8, fb_, za, qa) dX2_readPart_62 hza (hP.sub [0, 3, 4, 5, 1, 2] rfl) (hD.sub [0, 3, 4, 5, 1, 2] (by decide) rfl) hS
      · refine lv_aload_n hx hb dX2_readPart_26 rfl (lv_at hl 0 rfl) ?_
        refine va_get (D := D) (ci := 2) (v := .ref lw) (C := RX2) (T := TX2) (N := 2) hx hb htb itX2 hown hK hP 0 rfl rfl 1 (by decide) (htb _ k_289) (fun _ h9 => h9) rfl dX2_readPart_27 ?_
        refine va_getN (D := D) (ci := 1) (v := .int (nI za)) (C := RX1) (T := TX1) (N := 9) hx hb htb itX1 hown hK hP 1 rfl rfl 7 (by decide) (va_Nw.use rfl (hN _ n_232 rfl)) (fun _ h9 => h9) rfl dX2_readPart_30 ?_
        refine lv_istore_n (lv' := [(3, .int (nI za)), (0, .ref h0), (1, .int 6), (2, .int (nI i))]) hx hb dX2_readPart_33 rfl hl (by decide) rfl (fun ls hl => ?_)
        refine lv_aload_n hx hb dX2_readPart_34 rfl (lv_at hl 1 rfl) ?_
        refine va_get (D := D) (ci := 2) (v := .ref lw) (C := RX2) (T := TX2) (N := 2) hx hb htb itX2 hown hK hP 0 rfl rfl 1 (by decide) (htb _ k_289) (fun _ h9 => h9) rfl dX2_readPart_35 ?_
        refine lv_iconst (v := 4) hx hb dX2_readPart_38 (by decide) ?_
        refine lv_iconst (v := 0) hx hb dX2_readPart_39 (by decide) ?_
        refine cVV (As := [.int 4, .int 0]) (rest := []) (n := 2) (ci := 1) (q0 := 0) (wr := [(h0, .inr (2, [.ref tx, .ref lw])), (tx, .inr (6, [.ref tp, .int ed, .int h0_2o_8, .int fb_])), (tp, .inr (5, [.ref by_, .int (nI T)])), (by_, .inl (cI, 260, .inl fb))]) X hN hK hP hD hS hA (c_X1_addStep l D cI cB _ lw l1 l2 l3 l4 l5 l6 l7 za k 4 0 qa hza hk) (gV k_594 k_595 k_596 k_97 k_597) (by decide +kernel) ⟨Nat.le_of_ble_eq_true rfl, Nat.le_of_ble_eq_true rfl⟩ ⟨rfl, rfl⟩ [1, 2] [0, 3, 4, 5] rfl rfl (by decide) (by decide) rfl rfl rfl rfl rfl hl.1 (Nat.le_of_ble_eq_true rfl) dX2_readPart_40 ⟨Nat.le_of_ble_eq_true rfl, Nat.le_of_ble_eq_true rfl⟩ (fun u H locs hw_13 hP hD hS => ?_)
        obtain ⟨zo_11, l1_fo_12⟩ := u
        try dsimp only at hw_13
        have hP : va_P D vwCl [(h0, .inr (2, [.ref tx, .ref lw])), (tx, .inr (6, [.ref tp, .int ed, .int h0_2o_8, .int fb_])), (tp, .inr (5, [.ref by_, .int (nI T)])), (by_, .inl (cI, 260, .inl fb)), (lw, .inr (1, [.ref l1, .ref l2, .ref l3, .ref l4, .ref l5, .ref l6, .ref l7, .int (nI zo_11), .int (nI k)])), (l1, .inl (cI, 240, .inl l1_fo_12))] H := hP
        have hD : va_D A [(h0, .inr (2, [.ref tx, .ref lw])), (tx, .inr (6, [.ref tp, .int ed, .int h0_2o_8, .int fb_])), (tp, .inr (5, [.ref by_, .int (nI T)])), (by_, .inl (cI, 260, .inl fb)), (lw, .inr (1, [.ref l1, .ref l2, .ref l3, .ref l4, .ref l5, .ref l6, .ref l7, .int (nI zo_11), .int (nI k)])), (l1, .inl (cI, 240, .inl l1_fo_12))] := hD
        refine lv_aload_n hx hb dX2_readPart_43 rfl (lv_at hl 1 rfl) ?_
        refine lv_iload_n hx hb dX2_readPart_44 rfl (lv_at hl 2 rfl) ?_
        refine cVVk (As := [.int 6]) (rest := []) (n := 1) (ci := 2) (q0 := 0) (wr := []) X hN hKO hK hP hD hS hA (c_readPiece_6 l D cI cB _ kk h0 tx tp ed h0_2o_8 fb_ by_ T fb lw l1 l2 l3 l4 l5 l6 l7 zo_11 k l1_fo_12 hT hw_13 hk) (gV k_636 k_638 k_9 k_99 k_639) (by decide +kernel) ⟨Nat.le_of_ble_eq_true rfl, Nat.le_of_ble_eq_true rfl⟩ ⟨rfl, rfl⟩ [0, 1, 2, 3, 4, 5] [] rfl rfl (by decide) (by decide) rfl rfl rfl rfl rfl hl.1 (Nat.le_of_ble_eq_true rfl) dX2_readPart_45 ⟨Nat.le_of_ble_eq_true rfl, Nat.le_of_ble_eq_true rfl⟩ (fun u H locs hw_19 hP hD hS => ?_)
        obtain ⟨plo_15, fao_16, zo_17, l1o_18⟩ := u
        try dsimp only at hw_19
        have hP : va_P D vwCl [(h0, .inr (2, [.ref tx, .ref lw])), (tx, .inr (6, [.ref tp, .int ed, .int plo_15, .int fao_16])), (tp, .inr (5, [.ref by_, .int (nI T)])), (by_, .inl (cI, 260, .inl fb)), (lw, .inr (1, [.ref l1, .ref l2, .ref l3, .ref l4, .ref l5, .ref l6, .ref l7, .int (nI zo_17), .int (nI k)])), (l1, .inl (cI, 240, .inl l1o_18))] H := hP
        have hD : va_D A [(h0, .inr (2, [.ref tx, .ref lw])), (tx, .inr (6, [.ref tp, .int ed, .int plo_15, .int fao_16])), (tp, .inr (5, [.ref by_, .int (nI T)])), (by_, .inl (cI, 260, .inl fb)), (lw, .inr (1, [.ref l1, .ref l2, .ref l3, .ref l4, .ref l5, .ref l6, .ref l7, .int (nI zo_17), .int (nI k)])), (l1, .inl (cI, 240, .inl l1o_18))] := hD
        refine lv_aload_n hx hb dX2_readPart_48 rfl (lv_at hl 1 rfl) ?_
        refine va_get (D := D) (ci := 2) (v := .ref lw) (C := RX2) (T := TX2) (N := 2) hx hb htb itX2 hown hK hP 0 rfl rfl 1 (by decide) (htb _ k_289) (fun _ h9 => h9) rfl dX2_readPart_49 ?_
        refine lv_iload_n hx hb dX2_readPart_52 rfl (lv_at hl 0 rfl) ?_
        refine cVV (As := [.int (nI za)]) (rest := []) (n := 1) (ci := 1) (q0 := 0) (wr := [(h0, .inr (2, [.ref tx, .ref lw])), (tx, .inr (6, [.ref tp, .int ed, .int plo_15, .int fao_16])), (tp, .inr (5, [.ref by_, .int (nI T)])), (by_, .inl (cI, 260, .inl fb))]) X hN hK hP hD hS hA (c_X1_landSkip l D cI cB _ lw l1 l2 l3 l4 l5 l6 l7 zo_17 k (nI za) l1o_18 hw_19 hk) (gV k_645 k_646 k_647 k_97 k_648) (by decide +kernel) ⟨Nat.le_of_ble_eq_true rfl, Nat.le_of_ble_eq_true rfl⟩ ⟨rfl, rfl⟩ [4, 5] [0, 1, 2, 3] rfl rfl (by decide) (by decide) rfl rfl rfl rfl rfl hl.1 (Nat.le_of_ble_eq_true rfl) dX2_readPart_53 ⟨Nat.le_of_ble_eq_true rfl, Nat.le_of_ble_eq_true rfl⟩ (fun u H locs hw_22 hP hD hS => ?_)
        obtain ⟨l1_fo_21, rfl⟩ : ∃ z, z = u := ⟨_, rfl⟩
        try dsimp only at hw_22
        have hP : va_P D vwCl [(h0, .inr (2, [.ref tx, .ref lw])), (tx, .inr (6, [.ref tp, .int ed, .int plo_15, .int fao_16])), (tp, .inr (5, [.ref by_, .int (nI T)])), (by_, .inl (cI, 260, .inl fb)), (lw, .inr (1, [.ref l1, .ref l2, .ref l3, .ref l4, .ref l5, .ref l6, .ref l7, .int (nI zo_17), .int (nI k)])), (l1, .inl (cI, 240, .inl l1_fo_21))] H := hP
        have hD : va_D A [(h0, .inr (2, [.ref tx, .ref lw])), (tx, .inr (6, [.ref tp, .int ed, .int plo_15, .int fao_16])), (tp, .inr (5, [.ref by_, .int (nI T)])), (by_, .inl (cI, 260, .inl fb)), (lw, .inr (1, [.ref l1, .ref l2, .ref l3, .ref l4, .ref l5, .ref l6, .ref l7, .int (nI zo_17), .int (nI k)])), (l1, .inl (cI, 240, .inl l1_fo_21))] := hD
        refine lv_iinc (v := (nI (i + 1))) (lv' := [(2, .int (nI (i + 1))), (3, .int (nI za)), (0, .ref h0), (1, .int 6)]) hx hb dX2_readPart_56 hl (k := 3) rfl (nI_1 i) (by decide) rfl (fun ls hl => ?_)
        refine lv_goto (tgt := 7) hx hb dX2_readPart_59 (by decide) ?_
        exact ih_7 (i + 1) plo_15 fao_16 zo_17 l1_fo_21 (by omega) hw_19 _ _ (hP.sub [0, 1, 2, 3, 4, 5] rfl) (hD.sub [0, 1, 2, 3, 4, 5] (by decide) rfl) hS _ (lv_sub hl [2, 3, 0] rfl)
  exact loop_7 240 0 plo_2 fao_3 zo_4 l1o_5 (by omega) hw_6 _ _ (hP.sub [0, 1, 2, 3, 4, 5] rfl) (hD.sub [0, 1, 2, 3, 4, 5] (by decide) rfl) hS _ (lv_sub hl [1, 2, 0] rfl)

set_option maxRecDepth 100000 in
set_option maxHeartbeats 4000000 in
theorem c_readChoice_6 (l : Launch) (D : va_G) (cI cB : ClassId) (sz : Nat) (kk : KT) (h0 : Nat) (tx : Nat) (tp : Nat) (ed : Int32) (pl : Int32) (fa : Int32) (by_ : Nat) (T : Nat) (fb : Nat → Int32) (lw : Nat) (l1 : Nat) (l2 : Nat) (l3 : Nat) (l4 : Nat) (l5 : Nat) (l6 : Nat) (l7 : Nat) (z : Nat) (k : Nat) (q1 : Nat → Int32) (hT : T ≤ 260) (hz : z ≤ 240) (hk : k ≤ 16) : MVk (S := ((Int32) × (Int32) × (Nat) × (Nat → Int32))) l D cI cB kk yX2_readChoice cX2_readChoice 4 (rm 10 227) [.ref h0, .int 6] [(h0, .inr (2, [.ref tx, .ref lw])), (tx, .inr (6, [.ref tp, .int ed, .int pl, .int fa])), (tp, .inr (5, [.ref by_, .int (nI T)])), (by_, .inl (cI, 260, .inl fb)), (lw, .inr (1, [.ref l1, .ref l2, .ref l3, .ref l4, .ref l5, .ref l6, .ref l7, .int (nI z), .int (nI k)])), (l1, .inl (cI, 240, .inl q1))] sz (fun u => u.2.2.1 ≤ 240) (fun u : ((Int32) × (Int32) × (Nat) × (Nat → Int32)) => [(h0, .inr (2, [.ref tx, .ref lw])), (tx, .inr (6, [.ref tp, .int ed, .int u.1, .int u.2.1])), (tp, .inr (5, [.ref by_, .int (nI T)])), (by_, .inl (cI, 260, .inl fb)), (lw, .inr (1, [.ref l1, .ref l2, .ref l3, .ref l4, .ref l5, .ref l6, .ref l7, .int (nI u.2.2.1), .int (nI k)])), (l1, .inl (cI, 240, .inl u.2.2.2))]) := by
  refine MVk.of (by decide) (Nat.le_of_ble_eq_true rfl) ?_
  intro p e s m below meth c Q ls A X hin hN hKO hP hK hD hA hl ret
  have hS : va_S A s.heap s.heap [] := va_S.rf
  obtain ⟨hx, hb, hml, hown, htb⟩ := id X
  have hl : lv_has ls 4 [(0, .ref h0), (1, .int 6)] := hl
  refine lv_aload_n hx hb dX2_readChoice_0 rfl (lv_at hl 0 rfl) ?_
  refine lv_iload_n hx hb dX2_readChoice_1 rfl (lv_at hl 1 rfl) ?_
  refine cVVk (As := [.int 6]) (rest := []) (n := 1) (ci := 2) (q0 := 0) (wr := []) X hN hKO hK hP hD hS hA (c_readPart_6 l D cI cB _ kk h0 tx tp ed pl fa by_ T fb lw l1 l2 l3 l4 l5 l6 l7 z k q1 hT hz hk) (gV k_632 k_634 k_8 k_99 k_635) (by decide +kernel) ⟨Nat.le_of_ble_eq_true rfl, Nat.le_of_ble_eq_true rfl⟩ ⟨rfl, rfl⟩ [0, 1, 2, 3, 4, 5] [] rfl rfl (by decide) (by decide) rfl rfl rfl rfl rfl hl.1 (Nat.le_of_ble_eq_true rfl) dX2_readChoice_2 ⟨Nat.le_of_ble_eq_true rfl, Nat.le_of_ble_eq_true rfl⟩ (fun u H locs hw_6 hP hD hS => ?_)
  obtain ⟨plo_2, fao_3, zo_4, l1o_5⟩ := u
  try dsimp only at hw_6
  have hP : va_P D vwCl [(h0, .inr (2, [.ref tx, .ref lw])), (tx, .inr (6, [.ref tp, .int ed, .int plo_2, .int fao_3])), (tp, .inr (5, [.ref by_, .int (nI T)])), (by_, .inl (cI, 260, .inl fb)), (lw, .inr (1, [.ref l1, .ref l2, .ref l3, .ref l4, .ref l5, .ref l6, .ref l7, .int (nI zo_4), .int (nI k)])), (l1, .inl (cI, 240, .inl l1o_5))] H := hP
  have hD : va_D A [(h0, .inr (2, [.ref tx, .ref lw])), (tx, .inr (6, [.ref tp, .int ed, .int plo_2, .int fao_3])), (tp, .inr (5, [.ref by_, .int (nI T)])), (by_, .inl (cI, 260, .inl fb)), (lw, .inr (1, [.ref l1, .ref l2, .ref l3, .ref l4, .ref l5, .ref l6, .ref l7, .int (nI zo_4), .int (nI k)])), (l1, .inl (cI, 240, .inl l1o_5))] := hD
  refine lv_iconst (v := 0) hx hb dX2_readChoice_5 (by decide) ?_
  refine lv_istore_n (lv' := [(2, .int 0), (0, .ref h0), (1, .int 6)]) hx hb dX2_readChoice_6 rfl hl (by decide) rfl (fun ls hl => ?_)
  have loop_7 : ∀ (n i : Nat) (pa : Int32) (fb_ : Int32) (za : Nat) (qa : Nat → Int32), n + i = 240 → (za ≤ 240) → ∀ (H : Heap) (locs : List Loc), va_P D vwCl [(h0, .inr (2, [.ref tx, .ref lw])), (tx, .inr (6, [.ref tp, .int ed, .int pa, .int fb_])), (tp, .inr (5, [.ref by_, .int (nI T)])), (by_, .inl (cI, 260, .inl fb)), (lw, .inr (1, [.ref l1, .ref l2, .ref l3, .ref l4, .ref l5, .ref l6, .ref l7, .int (nI za), .int (nI k)])), (l1, .inl (cI, 240, .inl qa))] H → va_D A [(h0, .inr (2, [.ref tx, .ref lw])), (tx, .inr (6, [.ref tp, .int ed, .int pa, .int fb_])), (tp, .inr (5, [.ref by_, .int (nI T)])), (by_, .inl (cI, 260, .inl fb)), (lw, .inr (1, [.ref l1, .ref l2, .ref l3, .ref l4, .ref l5, .ref l6, .ref l7, .int (nI za), .int (nI k)])), (l1, .inl (cI, 240, .inl qa))] → va_S A s.heap H locs → ∀ (ls : Array Slot), lv_has ls 4 [(0, .ref h0), (1, .int 6), (2, .int (nI i))] → W p l e (rm 10 227) s m ([.ref h0, .int 6] : List Value).toArray below meth c H locs 0 0 Q (F0 m 7 ls []) := by
    intro n
    induction n with
    | zero =>
      intro i pa fb_ za qa hni hza H locs hP hD hS ls hl
      have hni_7 := hni
      have hi : i = 240 := by omega
      refine lv_iload_n hx hb dX2_readChoice_7 rfl (lv_at hl 2 rfl) ?_
      refine lv_sipush (v := 240) hx hb dX2_readChoice_8 (by decide) ?_
      refine lv_icmp_ge (tgt := 62) hx hb dX2_readChoice_11 (by decide) (fun _ => ?_) (fun c_11 => absurd (by rw [hi]; decide) c_11)
      exact ret _ _ _ _ (pa, fb_, za, qa) dX2_readChoice_62 hza (hP.sub [0, 1, 2, 3, 4, 5] rfl) (hD.sub [0, 1, 2, 3, 4, 5] (by decide) rfl) hS
    | succ n ih_7 =>
      intro i pa fb_ za qa hni hza H locs hP hD hS ls hl
      have hni_7 := hni
      have hi : i < 240 := by omega
      refine lv_iload_n hx hb dX2_readChoice_7 rfl (lv_at hl 2 rfl) ?_
      refine lv_sipush (v := 240) hx hb dX2_readChoice_8 (by decide) ?_
      refine lv_icmp_ge (tgt := 62) hx hb dX2_readChoice_11 (by decide) (fun c_11 => absurd c_11 (nI_ge hi (by decide))) (fun _ => ?_)
      refine lv_aload_n hx hb dX2_readChoice_14 rfl (lv_at hl 0 rfl) ?_
      refine va_get (D := D) (ci := 2) (v := .ref tx) (C := RX2) (T := TX2) (N := 2) hx hb htb itX2 hown hK hP 0 rfl rfl 0 (by decide) (htb _ k_288) (fun _ h9 => h9) rfl dX2_readChoice_15 ?_
      refine lv_bipush (v := 124) hx hb dX2_readChoice_18 (by decide) ?_
      refine cVI (As := [.int 124]) (rest := []) (n := 1) (ci := 6) (q0 := 0) (wr := [(h0, .inr (2, [.ref tx, .ref lw])), (lw, .inr (1, [.ref l1, .ref l2, .ref l3, .ref l4, .ref l5, .ref l6, .ref l7, .int (nI za), .int (nI k)])), (l1, .inl (cI, 240, .inl qa))]) X hN hK hP hD hS hA (c_X6_skip l D cI cB _ tx tp ed pa fb_ by_ T fb 124 hT) (gV k_644 k_607 k_608 k_98 k_609) (by decide +kernel) ⟨Nat.le_of_ble_eq_true rfl, Nat.le_of_ble_eq_true rfl⟩ ⟨rfl, rfl⟩ [1, 2, 3] [0, 4, 5] rfl rfl (by decide) (by decide) rfl rfl rfl rfl rfl hl.1 (Nat.le_of_ble_eq_true rfl) dX2_readChoice_20 ⟨Nat.le_of_ble_eq_true rfl, Nat.le_of_ble_eq_true rfl⟩ (fun r_7 u H locs hw_9 hP hD hS => ?_)
      obtain ⟨h0_2o_8, rfl⟩ : ∃ z, z = u := ⟨_, rfl⟩
      try dsimp only at hw_9
      have hP : va_P D vwCl [(h0, .inr (2, [.ref tx, .ref lw])), (lw, .inr (1, [.ref l1, .ref l2, .ref l3, .ref l4, .ref l5, .ref l6, .ref l7, .int (nI za), .int (nI k)])), (l1, .inl (cI, 240, .inl qa)), (tx, .inr (6, [.ref tp, .int ed, .int h0_2o_8, .int fb_])), (tp, .inr (5, [.ref by_, .int (nI T)])), (by_, .inl (cI, 260, .inl fb))] H := hP
      have hD : va_D A [(h0, .inr (2, [.ref tx, .ref lw])), (lw, .inr (1, [.ref l1, .ref l2, .ref l3, .ref l4, .ref l5, .ref l6, .ref l7, .int (nI za), .int (nI k)])), (l1, .inl (cI, 240, .inl qa)), (tx, .inr (6, [.ref tp, .int ed, .int h0_2o_8, .int fb_])), (tp, .inr (5, [.ref by_, .int (nI T)])), (by_, .inl (cI, 260, .inl fb))] := hD
      refine lv_if_eq (tgt := 62) hx hb dX2_readChoice_23 (by decide) (fun c_23 => ?_) (fun c_23 => ?_)
      · exact ret _ _ _ _ (h0_2o_8, fb_, za, qa) dX2_readChoice_62 hza (hP.sub [0, 3, 4, 5, 1, 2] rfl) (hD.sub [0, 3, 4, 5, 1, 2] (by decide) rfl) hS
      · refine lv_aload_n hx hb dX2_readChoice_26 rfl (lv_at hl 0 rfl) ?_
        refine va_get (D := D) (ci := 2) (v := .ref lw) (C := RX2) (T := TX2) (N := 2) hx hb htb itX2 hown hK hP 0 rfl rfl 1 (by decide) (htb _ k_289) (fun _ h9 => h9) rfl dX2_readChoice_27 ?_
        refine va_getN (D := D) (ci := 1) (v := .int (nI za)) (C := RX1) (T := TX1) (N := 9) hx hb htb itX1 hown hK hP 1 rfl rfl 7 (by decide) (va_Nw.use rfl (hN _ n_232 rfl)) (fun _ h9 => h9) rfl dX2_readChoice_30 ?_
        refine lv_istore_n (lv' := [(3, .int (nI za)), (0, .ref h0), (1, .int 6), (2, .int (nI i))]) hx hb dX2_readChoice_33 rfl hl (by decide) rfl (fun ls hl => ?_)
        refine lv_aload_n hx hb dX2_readChoice_34 rfl (lv_at hl 1 rfl) ?_
        refine va_get (D := D) (ci := 2) (v := .ref lw) (C := RX2) (T := TX2) (N := 2) hx hb htb itX2 hown hK hP 0 rfl rfl 1 (by decide) (htb _ k_289) (fun _ h9 => h9) rfl dX2_readChoice_35 ?_
        refine lv_iconst (v := 3) hx hb dX2_readChoice_38 (by decide) ?_
        refine lv_iconst (v := 0) hx hb dX2_readChoice_39 (by decide) ?_
        refine cVV (As := [.int 3, .int 0]) (rest := []) (n := 2) (ci := 1) (q0 := 0) (wr := [(h0, .inr (2, [.ref tx, .ref lw])), (tx, .inr (6, [.ref tp, .int ed, .int h0_2o_8, .int fb_])), (tp, .inr (5, [.ref by_, .int (nI T)])), (by_, .inl (cI, 260, .inl fb))]) X hN hK hP hD hS hA (c_X1_addStep l D cI cB _ lw l1 l2 l3 l4 l5 l6 l7 za k 3 0 qa hza hk) (gV k_594 k_595 k_596 k_97 k_597) (by decide +kernel) ⟨Nat.le_of_ble_eq_true rfl, Nat.le_of_ble_eq_true rfl⟩ ⟨rfl, rfl⟩ [1, 2] [0, 3, 4, 5] rfl rfl (by decide) (by decide) rfl rfl rfl rfl rfl hl.1 (Nat.le_of_ble_eq_true rfl) dX2_readChoice_40 ⟨Nat.le_of_ble_eq_true rfl, Nat.le_of_ble_eq_true rfl⟩ (fun u H locs hw_13 hP hD hS => ?_)
        obtain ⟨zo_11, l1_fo_12⟩ := u
        try dsimp only at hw_13
        have hP : va_P D vwCl [(h0, .inr (2, [.ref tx, .ref lw])), (tx, .inr (6, [.ref tp, .int ed, .int h0_2o_8, .int fb_])), (tp, .inr (5, [.ref by_, .int (nI T)])), (by_, .inl (cI, 260, .inl fb)), (lw, .inr (1, [.ref l1, .ref l2, .ref l3, .ref l4, .ref l5, .ref l6, .ref l7, .int (nI zo_11), .int (nI k)])), (l1, .inl (cI, 240, .inl l1_fo_12))] H := hP
        have hD : va_D A [(h0, .inr (2, [.ref tx, .ref lw])), (tx, .inr (6, [.ref tp, .int ed, .int h0_2o_8, .int fb_])), (tp, .inr (5, [.ref by_, .int (nI T)])), (by_, .inl (cI, 260, .inl fb)), (lw, .inr (1, [.ref l1, .ref l2, .ref l3, .ref l4, .ref l5, .ref l6, .ref l7, .int (nI zo_11), .int (nI k)])), (l1, .inl (cI, 240, .inl l1_fo_12))] := hD
        refine lv_aload_n hx hb dX2_readChoice_43 rfl (lv_at hl 1 rfl) ?_
        refine lv_iload_n hx hb dX2_readChoice_44 rfl (lv_at hl 2 rfl) ?_
        refine cVVk (As := [.int 6]) (rest := []) (n := 1) (ci := 2) (q0 := 0) (wr := []) X hN hKO hK hP hD hS hA (c_readPart_6 l D cI cB _ kk h0 tx tp ed h0_2o_8 fb_ by_ T fb lw l1 l2 l3 l4 l5 l6 l7 zo_11 k l1_fo_12 hT hw_13 hk) (gV k_632 k_634 k_8 k_99 k_635) (by decide +kernel) ⟨Nat.le_of_ble_eq_true rfl, Nat.le_of_ble_eq_true rfl⟩ ⟨rfl, rfl⟩ [0, 1, 2, 3, 4, 5] [] rfl rfl (by decide) (by decide) rfl rfl rfl rfl rfl hl.1 (Nat.le_of_ble_eq_true rfl) dX2_readChoice_45 ⟨Nat.le_of_ble_eq_true rfl, Nat.le_of_ble_eq_true rfl⟩ (fun u H locs hw_19 hP hD hS => ?_)
        obtain ⟨plo_15, fao_16, zo_17, l1o_18⟩ := u
        try dsimp only at hw_19
        have hP : va_P D vwCl [(h0, .inr (2, [.ref tx, .ref lw])), (tx, .inr (6, [.ref tp, .int ed, .int plo_15, .int fao_16])), (tp, .inr (5, [.ref by_, .int (nI T)])), (by_, .inl (cI, 260, .inl fb)), (lw, .inr (1, [.ref l1, .ref l2, .ref l3, .ref l4, .ref l5, .ref l6, .ref l7, .int (nI zo_17), .int (nI k)])), (l1, .inl (cI, 240, .inl l1o_18))] H := hP
        have hD : va_D A [(h0, .inr (2, [.ref tx, .ref lw])), (tx, .inr (6, [.ref tp, .int ed, .int plo_15, .int fao_16])), (tp, .inr (5, [.ref by_, .int (nI T)])), (by_, .inl (cI, 260, .inl fb)), (lw, .inr (1, [.ref l1, .ref l2, .ref l3, .ref l4, .ref l5, .ref l6, .ref l7, .int (nI zo_17), .int (nI k)])), (l1, .inl (cI, 240, .inl l1o_18))] := hD
        refine lv_aload_n hx hb dX2_readChoice_48 rfl (lv_at hl 1 rfl) ?_
        refine va_get (D := D) (ci := 2) (v := .ref lw) (C := RX2) (T := TX2) (N := 2) hx hb htb itX2 hown hK hP 0 rfl rfl 1 (by decide) (htb _ k_289) (fun _ h9 => h9) rfl dX2_readChoice_49 ?_
        refine lv_iload_n hx hb dX2_readChoice_52 rfl (lv_at hl 0 rfl) ?_
        refine cVV (As := [.int (nI za)]) (rest := []) (n := 1) (ci := 1) (q0 := 0) (wr := [(h0, .inr (2, [.ref tx, .ref lw])), (tx, .inr (6, [.ref tp, .int ed, .int plo_15, .int fao_16])), (tp, .inr (5, [.ref by_, .int (nI T)])), (by_, .inl (cI, 260, .inl fb))]) X hN hK hP hD hS hA (c_X1_landSkip l D cI cB _ lw l1 l2 l3 l4 l5 l6 l7 zo_17 k (nI za) l1o_18 hw_19 hk) (gV k_645 k_646 k_647 k_97 k_648) (by decide +kernel) ⟨Nat.le_of_ble_eq_true rfl, Nat.le_of_ble_eq_true rfl⟩ ⟨rfl, rfl⟩ [4, 5] [0, 1, 2, 3] rfl rfl (by decide) (by decide) rfl rfl rfl rfl rfl hl.1 (Nat.le_of_ble_eq_true rfl) dX2_readChoice_53 ⟨Nat.le_of_ble_eq_true rfl, Nat.le_of_ble_eq_true rfl⟩ (fun u H locs hw_22 hP hD hS => ?_)
        obtain ⟨l1_fo_21, rfl⟩ : ∃ z, z = u := ⟨_, rfl⟩
        try dsimp only at hw_22
        have hP : va_P D vwCl [(h0, .inr (2, [.ref tx, .ref lw])), (tx, .inr (6, [.ref tp, .int ed, .int plo_15, .int fao_16])), (tp, .inr (5, [.ref by_, .int (nI T)])), (by_, .inl (cI, 260, .inl fb)), (lw, .inr (1, [.ref l1, .ref l2, .ref l3, .ref l4, .ref l5, .ref l6, .ref l7, .int (nI zo_17), .int (nI k)])), (l1, .inl (cI, 240, .inl l1_fo_21))] H := hP
        have hD : va_D A [(h0, .inr (2, [.ref tx, .ref lw])), (tx, .inr (6, [.ref tp, .int ed, .int plo_15, .int fao_16])), (tp, .inr (5, [.ref by_, .int (nI T)])), (by_, .inl (cI, 260, .inl fb)), (lw, .inr (1, [.ref l1, .ref l2, .ref l3, .ref l4, .ref l5, .ref l6, .ref l7, .int (nI zo_17), .int (nI k)])), (l1, .inl (cI, 240, .inl l1_fo_21))] := hD
        refine lv_iinc (v := (nI (i + 1))) (lv' := [(2, .int (nI (i + 1))), (3, .int (nI za)), (0, .ref h0), (1, .int 6)]) hx hb dX2_readChoice_56 hl (k := 3) rfl (nI_1 i) (by decide) rfl (fun ls hl => ?_)
        refine lv_goto (tgt := 7) hx hb dX2_readChoice_59 (by decide) ?_
        exact ih_7 (i + 1) plo_15 fao_16 zo_17 l1_fo_21 (by omega) hw_19 _ _ (hP.sub [0, 1, 2, 3, 4, 5] rfl) (hD.sub [0, 1, 2, 3, 4, 5] (by decide) rfl) hS _ (lv_sub hl [2, 3, 0] rfl)
  exact loop_7 240 0 plo_2 fao_3 zo_4 l1o_5 (by omega) hw_6 _ _ (hP.sub [0, 1, 2, 3, 4, 5] rfl) (hD.sub [0, 1, 2, 3, 4, 5] (by decide) rfl) hS _ (lv_sub hl [1, 2, 0] rfl)

set_option maxRecDepth 100000 in
set_option maxHeartbeats 4000000 in
theorem c_readPiece_5 (l : Launch) (D : va_G) (cI cB : ClassId) (sz : Nat) (kk : KT) (h0 : Nat) (tx : Nat) (tp : Nat) (ed : Int32) (pl : Int32) (fa : Int32) (by_ : Nat) (T : Nat) (fb : Nat → Int32) (lw : Nat) (l1 : Nat) (l2 : Nat) (l3 : Nat) (l4 : Nat) (l5 : Nat) (l6 : Nat) (l7 : Nat) (z : Nat) (k : Nat) (q1 : Nat → Int32) (hT : T ≤ 260) (hz : z ≤ 240) (hk : k ≤ 16) : MVk (S := ((Int32) × (Int32) × (Nat) × (Nat → Int32))) l D cI cB kk yX2_readPiece cX2_readPiece 4 (rm 11 250) [.ref h0, .int 5] [(h0, .inr (2, [.ref tx, .ref lw])), (tx, .inr (6, [.ref tp, .int ed, .int pl, .int fa])), (tp, .inr (5, [.ref by_, .int (nI T)])), (by_, .inl (cI, 260, .inl fb)), (lw, .inr (1, [.ref l1, .ref l2, .ref l3, .ref l4, .ref l5, .ref l6, .ref l7, .int (nI z), .int (nI k)])), (l1, .inl (cI, 240, .inl q1))] sz (fun u => u.2.2.1 ≤ 240) (fun u : ((Int32) × (Int32) × (Nat) × (Nat → Int32)) => [(h0, .inr (2, [.ref tx, .ref lw])), (tx, .inr (6, [.ref tp, .int ed, .int u.1, .int u.2.1])), (tp, .inr (5, [.ref by_, .int (nI T)])), (by_, .inl (cI, 260, .inl fb)), (lw, .inr (1, [.ref l1, .ref l2, .ref l3, .ref l4, .ref l5, .ref l6, .ref l7, .int (nI u.2.2.1), .int (nI k)])), (l1, .inl (cI, 240, .inl u.2.2.2))]) := by
  refine MVk.of (by decide) (Nat.le_of_ble_eq_true rfl) ?_
  intro p e s m below meth c Q ls A X hin hN hKO hP hK hD hA hl ret
  have hS : va_S A s.heap s.heap [] := va_S.rf
  obtain ⟨hx, hb, hml, hown, htb⟩ := id X
  have hl : lv_has ls 4 [(0, .ref h0), (1, .int 5)] := hl
  refine lv_aload_n hx hb dX2_readPiece_0 rfl (lv_at hl 0 rfl) ?_
  refine va_get (D := D) (ci := 2) (v := .ref tx) (C := RX2) (T := TX2) (N := 2) hx hb htb itX2 hown hK hP 0 rfl rfl 0 (by decide) (htb _ k_288) (fun _ h9 => h9) rfl dX2_readPiece_1 ?_
  refine cVR (As := []) (rest := []) (n := 0) (ci := 6) (q0 := 0) X hN hK hP (c_X6_sign l D cI cB tx tp ed pl fa by_ T fb hT) (gV k_483 k_484 k_485 k_98 k_486) (by decide +kernel) ⟨Nat.le_of_ble_eq_true rfl, Nat.le_of_ble_eq_true rfl⟩ ⟨rfl, rfl⟩ [1, 2, 3] rfl rfl rfl rfl rfl rfl hl.1 (Nat.le_of_ble_eq_true rfl) dX2_readPiece_4 ⟨Nat.le_of_ble_eq_true rfl, Nat.le_of_ble_eq_true rfl⟩ (fun r_1 hr_1 => ?_)
  subst hr_1
  refine lv_topi (fun x_2 ex_2 => ?_)
  refine lv_istore_n (lv' := [(2, .int x_2), (0, .ref h0), (1, .int 5)]) hx hb dX2_readPiece_7 rfl hl (by decide) rfl (fun ls hl => ?_)
  refine lv_iload_n hx hb dX2_readPiece_8 rfl (lv_at hl 0 rfl) ?_
  refine lv_bipush (v := 33) hx hb dX2_readPiece_9 (by decide) ?_
  refine lv_icmp_ne (tgt := 41) hx hb dX2_readPiece_11 (by decide) (fun c_11 => ?_) (fun c_11 => ?_)
  · refine lv_iload_n hx hb dX2_readPiece_41 rfl (lv_at hl 0 rfl) ?_
    refine lv_bipush (v := 40) hx hb dX2_readPiece_42 (by decide) ?_
    refine lv_icmp_ne (tgt := 74) hx hb dX2_readPiece_44 (by decide) (fun c_44 => ?_) (fun c_44 => ?_)
    · refine lv_aload_n hx hb dX2_readPiece_74 rfl (lv_at hl 1 rfl) ?_
      refine lv_iload_n hx hb dX2_readPiece_75 rfl (lv_at hl 2 rfl) ?_
      refine cVVk (As := [.int 5]) (rest := []) (n := 1) (ci := 2) (q0 := 0) (wr := []) X hN hKO hK hP hD hS hA (c_readSum_5 l D cI cB _ kk h0 tx tp ed pl fa by_ T fb lw l1 l2 l3 l4 l5 l6 l7 z k q1 hT hz hk) (gV k_581 k_583 k_2 k_99 k_584) (by decide +kernel) ⟨Nat.le_of_ble_eq_true rfl, Nat.le_of_ble_eq_true rfl⟩ ⟨rfl, rfl⟩ [0, 1, 2, 3, 4, 5] [] rfl rfl (by decide) (by decide) rfl rfl rfl rfl rfl hl.1 (Nat.le_of_ble_eq_true rfl) dX2_readPiece_76 ⟨Nat.le_of_ble_eq_true rfl, Nat.le_of_ble_eq_true rfl⟩ (fun u H locs hw_8 hP hD hS => ?_)
      obtain ⟨plo_4, fao_5, zo_6, l1o_7⟩ := u
      try dsimp only at hw_8
      have hP : va_P D vwCl [(h0, .inr (2, [.ref tx, .ref lw])), (tx, .inr (6, [.ref tp, .int ed, .int plo_4, .int fao_5])), (tp, .inr (5, [.ref by_, .int (nI T)])), (by_, .inl (cI, 260, .inl fb)), (lw, .inr (1, [.ref l1, .ref l2, .ref l3, .ref l4, .ref l5, .ref l6, .ref l7, .int (nI zo_6), .int (nI k)])), (l1, .inl (cI, 240, .inl l1o_7))] H := hP
      have hD : va_D A [(h0, .inr (2, [.ref tx, .ref lw])), (tx, .inr (6, [.ref tp, .int ed, .int plo_4, .int fao_5])), (tp, .inr (5, [.ref by_, .int (nI T)])), (by_, .inl (cI, 260, .inl fb)), (lw, .inr (1, [.ref l1, .ref l2, .ref l3, .ref l4, .ref l5, .ref l6, .ref l7, .int (nI zo_6), .int (nI k)])), (l1, .inl (cI, 240, .inl l1o_7))] := hD
      refine lv_aload_n hx hb dX2_readPiece_79 rfl (lv_at hl 1 rfl) ?_
      refine cVI (As := []) (rest := []) (n := 0) (ci := 2) (q0 := 0) (wr := [(lw, .inr (1, [.ref l1, .ref l2, .ref l3, .ref l4, .ref l5, .ref l6, .ref l7, .int (nI zo_6), .int (nI k)])), (l1, .inl (cI, 240, .inl l1o_7))]) X hN hK hP hD hS hA (c_X2_comparison l D cI cB _ h0 lw tx tp ed plo_4 fao_5 by_ T fb hT) (gV k_640 k_642 k_10 k_99 k_643) (by decide +kernel) ⟨Nat.le_of_ble_eq_true rfl, Nat.le_of_ble_eq_true rfl⟩ ⟨rfl, rfl⟩ [0, 1, 2, 3] [4, 5] rfl rfl (by decide) (by decide) rfl rfl rfl rfl rfl hl.1 (Nat.le_of_ble_eq_true rfl) dX2_readPiece_80 ⟨Nat.le_of_ble_eq_true rfl, Nat.le_of_ble_eq_true rfl⟩ (fun r_9 u H locs hw_12 hP hD hS => ?_)
      obtain ⟨tx_2o_10, tx_3o_11⟩ := u
      try dsimp only at hw_12
      have hP : va_P D vwCl [(lw, .inr (1, [.ref l1, .ref l2, .ref l3, .ref l4, .ref l5, .ref l6, .ref l7, .int (nI zo_6), .int (nI k)])), (l1, .inl (cI, 240, .inl l1o_7)), (h0, .inr (2, [.ref tx, .ref lw])), (tx, .inr (6, [.ref tp, .int ed, .int tx_2o_10, .int tx_3o_11])), (tp, .inr (5, [.ref by_, .int (nI T)])), (by_, .inl (cI, 260, .inl fb))] H := hP
      have hD : va_D A [(lw, .inr (1, [.ref l1, .ref l2, .ref l3, .ref l4, .ref l5, .ref l6, .ref l7, .int (nI zo_6), .int (nI k)])), (l1, .inl (cI, 240, .inl l1o_7)), (h0, .inr (2, [.ref tx, .ref lw])), (tx, .inr (6, [.ref tp, .int ed, .int tx_2o_10, .int tx_3o_11])), (tp, .inr (5, [.ref by_, .int (nI T)])), (by_, .inl (cI, 260, .inl fb))] := hD
      refine lv_istore_n (lv' := [(3, .int r_9), (2, .int x_2), (0, .ref h0), (1, .int 5)]) hx hb dX2_readPiece_83 rfl hl (by decide) rfl (fun ls hl => ?_)
      refine lv_aload_n hx hb dX2_readPiece_84 rfl (lv_at hl 2 rfl) ?_
      refine lv_iload_n hx hb dX2_readPiece_85 rfl (lv_at hl 3 rfl) ?_
      refine cVVk (As := [.int 5]) (rest := []) (n := 1) (ci := 2) (q0 := 0) (wr := []) X hN hKO hK hP hD hS hA (c_readSum_5 l D cI cB _ kk h0 tx tp ed tx_2o_10 tx_3o_11 by_ T fb lw l1 l2 l3 l4 l5 l6 l7 zo_6 k l1o_7 hT hw_8 hk) (gV k_581 k_583 k_2 k_99 k_584) (by decide +kernel) ⟨Nat.le_of_ble_eq_true rfl, Nat.le_of_ble_eq_true rfl⟩ ⟨rfl, rfl⟩ [2, 3, 4, 5, 0, 1] [] rfl rfl (by decide) (by decide) rfl rfl rfl rfl rfl hl.1 (Nat.le_of_ble_eq_true rfl) dX2_readPiece_86 ⟨Nat.le_of_ble_eq_true rfl, Nat.le_of_ble_eq_true rfl⟩ (fun u H locs hw_18 hP hD hS => ?_)
      obtain ⟨plo_14, fao_15, zo_16, l1o_17⟩ := u
      try dsimp only at hw_18
      have hP : va_P D vwCl [(h0, .inr (2, [.ref tx, .ref lw])), (tx, .inr (6, [.ref tp, .int ed, .int plo_14, .int fao_15])), (tp, .inr (5, [.ref by_, .int (nI T)])), (by_, .inl (cI, 260, .inl fb)), (lw, .inr (1, [.ref l1, .ref l2, .ref l3, .ref l4, .ref l5, .ref l6, .ref l7, .int (nI zo_16), .int (nI k)])), (l1, .inl (cI, 240, .inl l1o_17))] H := hP
      have hD : va_D A [(h0, .inr (2, [.ref tx, .ref lw])), (tx, .inr (6, [.ref tp, .int ed, .int plo_14, .int fao_15])), (tp, .inr (5, [.ref by_, .int (nI T)])), (by_, .inl (cI, 260, .inl fb)), (lw, .inr (1, [.ref l1, .ref l2, .ref l3, .ref l4, .ref l5, .ref l6, .ref l7, .int (nI zo_16), .int (nI k)])), (l1, .inl (cI, 240, .inl l1o_17))] := hD
      refine lv_aload_n hx hb dX2_readPiece_89 rfl (lv_at hl 2 rfl) ?_
      refine va_get (D := D) (ci := 2) (v := .ref lw) (C := RX2) (T := TX2) (N := 2) hx hb htb itX2 hown hK hP 0 rfl rfl 1 (by decide) (htb _ k_289) (fun _ h9 => h9) rfl dX2_readPiece_90 ?_
      refine lv_iload_n hx hb dX2_readPiece_93 rfl (lv_at hl 0 rfl) ?_
      refine lv_iconst (v := 0) hx hb dX2_readPiece_94 (by decide) ?_
      refine cVV (As := [.int r_9, .int 0]) (rest := []) (n := 2) (ci := 1) (q0 := 0) (wr := [(h0, .inr (2, [.ref tx, .ref lw])), (tx, .inr (6, [.ref tp, .int ed, .int plo_14, .int fao_15])), (tp, .inr (5, [.ref by_, .int (nI T)])), (by_, .inl (cI, 260, .inl fb))]) X hN hK hP hD hS hA (c_X1_addStep l D cI cB _ lw l1 l2 l3 l4 l5 l6 l7 zo_16 k r_9 0 l1o_17 hw_18 hk) (gV k_594 k_595 k_596 k_97 k_597) (by decide +kernel) ⟨Nat.le_of_ble_eq_true rfl, Nat.le_of_ble_eq_true rfl⟩ ⟨rfl, rfl⟩ [4, 5] [0, 1, 2, 3] rfl rfl (by decide) (by decide) rfl rfl rfl rfl rfl hl.1 (Nat.le_of_ble_eq_true rfl) dX2_readPiece_95 ⟨Nat.le_of_ble_eq_true rfl, Nat.le_of_ble_eq_true rfl⟩ (fun u H locs hw_22 hP hD hS => ?_)
      obtain ⟨zo_20, l1_fo_21⟩ := u
      try dsimp only at hw_22
      have hP : va_P D vwCl [(h0, .inr (2, [.ref tx, .ref lw])), (tx, .inr (6, [.ref tp, .int ed, .int plo_14, .int fao_15])), (tp, .inr (5, [.ref by_, .int (nI T)])), (by_, .inl (cI, 260, .inl fb)), (lw, .inr (1, [.ref l1, .ref l2, .ref l3, .ref l4, .ref l5, .ref l6, .ref l7, .int (nI zo_20), .int (nI k)])), (l1, .inl (cI, 240, .inl l1_fo_21))] H := hP
      have hD : va_D A [(h0, .inr (2, [.ref tx, .ref lw])), (tx, .inr (6, [.ref tp, .int ed, .int plo_14, .int fao_15])), (tp, .inr (5, [.ref by_, .int (nI T)])), (by_, .inl (cI, 260, .inl fb)), (lw, .inr (1, [.ref l1, .ref l2, .ref l3, .ref l4, .ref l5, .ref l6, .ref l7, .int (nI zo_20), .int (nI k)])), (l1, .inl (cI, 240, .inl l1_fo_21))] := hD
      exact ret _ _ _ _ (plo_14, fao_15, zo_20, l1_fo_21) dX2_readPiece_98 hw_22 (hP.sub [0, 1, 2, 3, 4, 5] rfl) (hD.sub [0, 1, 2, 3, 4, 5] (by decide) rfl) hS
    · refine lv_aload_n hx hb dX2_readPiece_47 rfl (lv_at hl 1 rfl) ?_
      refine lv_iload_n hx hb dX2_readPiece_48 rfl (lv_at hl 2 rfl) ?_
      refine cVI (As := [.int 5]) (rest := []) (n := 1) (ci := 2) (q0 := 0) (wr := [(tp, .inr (5, [.ref by_, .int (nI T)])), (by_, .inl (cI, 260, .inl fb)), (lw, .inr (1, [.ref l1, .ref l2, .ref l3, .ref l4, .ref l5, .ref l6, .ref l7, .int (nI z), .int (nI k)])), (l1, .inl (cI, 240, .inl q1))]) X hN hK hP hD hS hA (c_X2_opens l D cI cB _ h0 lw tx tp ed pl fa 5) (gV k_598 k_600 k_5 k_99 k_601) (by decide +kernel) ⟨Nat.le_of_ble_eq_true rfl, Nat.le_of_ble_eq_true rfl⟩ ⟨rfl, rfl⟩ [0, 1] [2, 3, 4, 5] rfl rfl (by decide) (by decide) rfl rfl rfl rfl rfl hl.1 (Nat.le_of_ble_eq_true rfl) dX2_readPiece_49 ⟨Nat.le_of_ble_eq_true rfl, Nat.le_of_ble_eq_true rfl⟩ (fun r_23 u H locs hw_26 hP hD hS => ?_)
      obtain ⟨tx_2o_24, tx_3o_25⟩ := u
      try dsimp only at hw_26
      have hP : va_P D vwCl [(tp, .inr (5, [.ref by_, .int (nI T)])), (by_, .inl (cI, 260, .inl fb)), (lw, .inr (1, [.ref l1, .ref l2, .ref l3, .ref l4, .ref l5, .ref l6, .ref l7, .int (nI z), .int (nI k)])), (l1, .inl (cI, 240, .inl q1)), (h0, .inr (2, [.ref tx, .ref lw])), (tx, .inr (6, [.ref tp, .int ed, .int tx_2o_24, .int tx_3o_25]))] H := hP
      have hD : va_D A [(tp, .inr (5, [.ref by_, .int (nI T)])), (by_, .inl (cI, 260, .inl fb)), (lw, .inr (1, [.ref l1, .ref l2, .ref l3, .ref l4, .ref l5, .ref l6, .ref l7, .int (nI z), .int (nI k)])), (l1, .inl (cI, 240, .inl q1)), (h0, .inr (2, [.ref tx, .ref lw])), (tx, .inr (6, [.ref tp, .int ed, .int tx_2o_24, .int tx_3o_25]))] := hD
      obtain rfl : r_23 = 1 := hw_26.trans (by decide)
      refine lv_if_eq (tgt := 98) hx hb dX2_readPiece_52 (by decide) (fun c_52 => absurd c_52 (by decide)) (fun _ => ?_)
      refine lv_aload_n hx hb dX2_readPiece_55 rfl (lv_at hl 1 rfl) ?_
      refine lv_iload_n hx hb dX2_readPiece_56 rfl (lv_at hl 2 rfl) ?_
      refine lv_iconst (v := 1) hx hb dX2_readPiece_57 (by decide) ?_
      refine lv_iadd hx hb dX2_readPiece_58 ?_
      refine tv (z := 6) (by decide) ?_
      refine cVVk (As := [.int 6]) (rest := []) (n := 1) (ci := 2) (q0 := 0) (wr := []) X hN hKO hK hP hD hS hA (c_readChoice_6 l D cI cB _ kk h0 tx tp ed tx_2o_24 tx_3o_25 by_ T fb lw l1 l2 l3 l4 l5 l6 l7 z k q1 hT hz hk) (gV k_628 k_630 k_7 k_99 k_631) (by decide +kernel) ⟨Nat.le_of_ble_eq_true rfl, Nat.le_of_ble_eq_true rfl⟩ ⟨rfl, rfl⟩ [4, 5, 0, 1, 2, 3] [] rfl rfl (by decide) (by decide) rfl rfl rfl rfl rfl hl.1 (Nat.le_of_ble_eq_true rfl) dX2_readPiece_59 ⟨Nat.le_of_ble_eq_true rfl, Nat.le_of_ble_eq_true rfl⟩ (fun u H locs hw_32 hP hD hS => ?_)
      obtain ⟨plo_28, fao_29, zo_30, l1o_31⟩ := u
      try dsimp only at hw_32
      have hP : va_P D vwCl [(h0, .inr (2, [.ref tx, .ref lw])), (tx, .inr (6, [.ref tp, .int ed, .int plo_28, .int fao_29])), (tp, .inr (5, [.ref by_, .int (nI T)])), (by_, .inl (cI, 260, .inl fb)), (lw, .inr (1, [.ref l1, .ref l2, .ref l3, .ref l4, .ref l5, .ref l6, .ref l7, .int (nI zo_30), .int (nI k)])), (l1, .inl (cI, 240, .inl l1o_31))] H := hP
      have hD : va_D A [(h0, .inr (2, [.ref tx, .ref lw])), (tx, .inr (6, [.ref tp, .int ed, .int plo_28, .int fao_29])), (tp, .inr (5, [.ref by_, .int (nI T)])), (by_, .inl (cI, 260, .inl fb)), (lw, .inr (1, [.ref l1, .ref l2, .ref l3, .ref l4, .ref l5, .ref l6, .ref l7, .int (nI zo_30), .int (nI k)])), (l1, .inl (cI, 240, .inl l1o_31))] := hD
      refine lv_aload_n hx hb dX2_readPiece_62 rfl (lv_at hl 1 rfl) ?_
      refine va_get (D := D) (ci := 2) (v := .ref tx) (C := RX2) (T := TX2) (N := 2) hx hb htb itX2 hown hK hP 0 rfl rfl 0 (by decide) (htb _ k_288) (fun _ h9 => h9) rfl dX2_readPiece_63 ?_
      refine lv_bipush (v := 41) hx hb dX2_readPiece_66 (by decide) ?_
      refine cVV (As := [.int 41]) (rest := []) (n := 1) (ci := 6) (q0 := 0) (wr := [(h0, .inr (2, [.ref tx, .ref lw])), (lw, .inr (1, [.ref l1, .ref l2, .ref l3, .ref l4, .ref l5, .ref l6, .ref l7, .int (nI zo_30), .int (nI k)])), (l1, .inl (cI, 240, .inl l1o_31))]) X hN hK hP hD hS hA (c_X6_expect l D cI cB _ tx tp ed plo_28 fao_29 by_ T fb 41 hT) (gV k_602 k_603 k_604 k_98 k_605) (by decide +kernel) ⟨Nat.le_of_ble_eq_true rfl, Nat.le_of_ble_eq_true rfl⟩ ⟨rfl, rfl⟩ [1, 2, 3] [0, 4, 5] rfl rfl (by decide) (by decide) rfl rfl rfl rfl rfl hl.1 (Nat.le_of_ble_eq_true rfl) dX2_readPiece_68 ⟨Nat.le_of_ble_eq_true rfl, Nat.le_of_ble_eq_true rfl⟩ (fun u H locs hw_36 hP hD hS => ?_)
      obtain ⟨h0_2o_34, h0_3o_35⟩ := u
      try dsimp only at hw_36
      have hP : va_P D vwCl [(h0, .inr (2, [.ref tx, .ref lw])), (lw, .inr (1, [.ref l1, .ref l2, .ref l3, .ref l4, .ref l5, .ref l6, .ref l7, .int (nI zo_30), .int (nI k)])), (l1, .inl (cI, 240, .inl l1o_31)), (tx, .inr (6, [.ref tp, .int ed, .int h0_2o_34, .int h0_3o_35])), (tp, .inr (5, [.ref by_, .int (nI T)])), (by_, .inl (cI, 260, .inl fb))] H := hP
      have hD : va_D A [(h0, .inr (2, [.ref tx, .ref lw])), (lw, .inr (1, [.ref l1, .ref l2, .ref l3, .ref l4, .ref l5, .ref l6, .ref l7, .int (nI zo_30), .int (nI k)])), (l1, .inl (cI, 240, .inl l1o_31)), (tx, .inr (6, [.ref tp, .int ed, .int h0_2o_34, .int h0_3o_35])), (tp, .inr (5, [.ref by_, .int (nI T)])), (by_, .inl (cI, 260, .inl fb))] := hD
      refine lv_goto (tgt := 98) hx hb dX2_readPiece_71 (by decide) ?_
      exact ret _ _ _ _ (h0_2o_34, h0_3o_35, zo_30, l1o_31) dX2_readPiece_98 hw_32 (hP.sub [0, 3, 4, 5, 1, 2] rfl) (hD.sub [0, 3, 4, 5, 1, 2] (by decide) rfl) hS
  · refine lv_aload_n hx hb dX2_readPiece_14 rfl (lv_at hl 1 rfl) ?_
    refine lv_iload_n hx hb dX2_readPiece_15 rfl (lv_at hl 2 rfl) ?_
    refine cVI (As := [.int 5]) (rest := []) (n := 1) (ci := 2) (q0 := 0) (wr := [(tp, .inr (5, [.ref by_, .int (nI T)])), (by_, .inl (cI, 260, .inl fb)), (lw, .inr (1, [.ref l1, .ref l2, .ref l3, .ref l4, .ref l5, .ref l6, .ref l7, .int (nI z), .int (nI k)])), (l1, .inl (cI, 240, .inl q1))]) X hN hK hP hD hS hA (c_X2_opens l D cI cB _ h0 lw tx tp ed pl fa 5) (gV k_598 k_600 k_5 k_99 k_601) (by decide +kernel) ⟨Nat.le_of_ble_eq_true rfl, Nat.le_of_ble_eq_true rfl⟩ ⟨rfl, rfl⟩ [0, 1] [2, 3, 4, 5] rfl rfl (by decide) (by decide) rfl rfl rfl rfl rfl hl.1 (Nat.le_of_ble_eq_true rfl) dX2_readPiece_16 ⟨Nat.le_of_ble_eq_true rfl, Nat.le_of_ble_eq_true rfl⟩ (fun r_37 u H locs hw_40 hP hD hS => ?_)
    obtain ⟨tx_2o_38, tx_3o_39⟩ := u
    try dsimp only at hw_40
    have hP : va_P D vwCl [(tp, .inr (5, [.ref by_, .int (nI T)])), (by_, .inl (cI, 260, .inl fb)), (lw, .inr (1, [.ref l1, .ref l2, .ref l3, .ref l4, .ref l5, .ref l6, .ref l7, .int (nI z), .int (nI k)])), (l1, .inl (cI, 240, .inl q1)), (h0, .inr (2, [.ref tx, .ref lw])), (tx, .inr (6, [.ref tp, .int ed, .int tx_2o_38, .int tx_3o_39]))] H := hP
    have hD : va_D A [(tp, .inr (5, [.ref by_, .int (nI T)])), (by_, .inl (cI, 260, .inl fb)), (lw, .inr (1, [.ref l1, .ref l2, .ref l3, .ref l4, .ref l5, .ref l6, .ref l7, .int (nI z), .int (nI k)])), (l1, .inl (cI, 240, .inl q1)), (h0, .inr (2, [.ref tx, .ref lw])), (tx, .inr (6, [.ref tp, .int ed, .int tx_2o_38, .int tx_3o_39]))] := hD
    obtain rfl : r_37 = 1 := hw_40.trans (by decide)
    refine lv_if_eq (tgt := 98) hx hb dX2_readPiece_19 (by decide) (fun c_19 => absurd c_19 (by decide)) (fun _ => ?_)
    refine lv_aload_n hx hb dX2_readPiece_22 rfl (lv_at hl 1 rfl) ?_
    refine lv_iload_n hx hb dX2_readPiece_23 rfl (lv_at hl 2 rfl) ?_
    refine lv_iconst (v := 1) hx hb dX2_readPiece_24 (by decide) ?_
    refine lv_iadd hx hb dX2_readPiece_25 ?_
    refine tv (z := 6) (by decide) ?_
    refine cVVk (As := [.int 6]) (rest := []) (n := 1) (ci := 2) (q0 := 0) (wr := []) X hN hKO hK hP hD hS hA (c_readPiece_6 l D cI cB _ kk h0 tx tp ed tx_2o_38 tx_3o_39 by_ T fb lw l1 l2 l3 l4 l5 l6 l7 z k q1 hT hz hk) (gV k_636 k_638 k_9 k_99 k_639) (by decide +kernel) ⟨Nat.le_of_ble_eq_true rfl, Nat.le_of_ble_eq_true rfl⟩ ⟨rfl, rfl⟩ [4, 5, 0, 1, 2, 3] [] rfl rfl (by decide) (by decide) rfl rfl rfl rfl rfl hl.1 (Nat.le_of_ble_eq_true rfl) dX2_readPiece_26 ⟨Nat.le_of_ble_eq_true rfl, Nat.le_of_ble_eq_true rfl⟩ (fun u H locs hw_46 hP hD hS => ?_)
    obtain ⟨plo_42, fao_43, zo_44, l1o_45⟩ := u
    try dsimp only at hw_46
    have hP : va_P D vwCl [(h0, .inr (2, [.ref tx, .ref lw])), (tx, .inr (6, [.ref tp, .int ed, .int plo_42, .int fao_43])), (tp, .inr (5, [.ref by_, .int (nI T)])), (by_, .inl (cI, 260, .inl fb)), (lw, .inr (1, [.ref l1, .ref l2, .ref l3, .ref l4, .ref l5, .ref l6, .ref l7, .int (nI zo_44), .int (nI k)])), (l1, .inl (cI, 240, .inl l1o_45))] H := hP
    have hD : va_D A [(h0, .inr (2, [.ref tx, .ref lw])), (tx, .inr (6, [.ref tp, .int ed, .int plo_42, .int fao_43])), (tp, .inr (5, [.ref by_, .int (nI T)])), (by_, .inl (cI, 260, .inl fb)), (lw, .inr (1, [.ref l1, .ref l2, .ref l3, .ref l4, .ref l5, .ref l6, .ref l7, .int (nI zo_44), .int (nI k)])), (l1, .inl (cI, 240, .inl l1o_45))] := hD
    refine lv_aload_n hx hb dX2_readPiece_29 rfl (lv_at hl 1 rfl) ?_
    refine va_get (D := D) (ci := 2) (v := .ref lw) (C := RX2) (T := TX2) (N := 2) hx hb htb itX2 hown hK hP 0 rfl rfl 1 (by decide) (htb _ k_289) (fun _ h9 => h9) rfl dX2_readPiece_30 ?_
    refine lv_iconst (v := 2) hx hb dX2_readPiece_33 (by decide) ?_
    refine lv_iconst (v := 0) hx hb dX2_readPiece_34 (by decide) ?_
    refine cVV (As := [.int 2, .int 0]) (rest := []) (n := 2) (ci := 1) (q0 := 0) (wr := [(h0, .inr (2, [.ref tx, .ref lw])), (tx, .inr (6, [.ref tp, .int ed, .int plo_42, .int fao_43])), (tp, .inr (5, [.ref by_, .int (nI T)])), (by_, .inl (cI, 260, .inl fb))]) X hN hK hP hD hS hA (c_X1_addStep l D cI cB _ lw l1 l2 l3 l4 l5 l6 l7 zo_44 k 2 0 l1o_45 hw_46 hk) (gV k_594 k_595 k_596 k_97 k_597) (by decide +kernel) ⟨Nat.le_of_ble_eq_true rfl, Nat.le_of_ble_eq_true rfl⟩ ⟨rfl, rfl⟩ [4, 5] [0, 1, 2, 3] rfl rfl (by decide) (by decide) rfl rfl rfl rfl rfl hl.1 (Nat.le_of_ble_eq_true rfl) dX2_readPiece_35 ⟨Nat.le_of_ble_eq_true rfl, Nat.le_of_ble_eq_true rfl⟩ (fun u H locs hw_50 hP hD hS => ?_)
    obtain ⟨zo_48, l1_fo_49⟩ := u
    try dsimp only at hw_50
    have hP : va_P D vwCl [(h0, .inr (2, [.ref tx, .ref lw])), (tx, .inr (6, [.ref tp, .int ed, .int plo_42, .int fao_43])), (tp, .inr (5, [.ref by_, .int (nI T)])), (by_, .inl (cI, 260, .inl fb)), (lw, .inr (1, [.ref l1, .ref l2, .ref l3, .ref l4, .ref l5, .ref l6, .ref l7, .int (nI zo_48), .int (nI k)])), (l1, .inl (cI, 240, .inl l1_fo_49))] H := hP
    have hD : va_D A [(h0, .inr (2, [.ref tx, .ref lw])), (tx, .inr (6, [.ref tp, .int ed, .int plo_42, .int fao_43])), (tp, .inr (5, [.ref by_, .int (nI T)])), (by_, .inl (cI, 260, .inl fb)), (lw, .inr (1, [.ref l1, .ref l2, .ref l3, .ref l4, .ref l5, .ref l6, .ref l7, .int (nI zo_48), .int (nI k)])), (l1, .inl (cI, 240, .inl l1_fo_49))] := hD
    refine lv_goto (tgt := 98) hx hb dX2_readPiece_38 (by decide) ?_
    exact ret _ _ _ _ (plo_42, fao_43, zo_48, l1_fo_49) dX2_readPiece_98 hw_50 (hP.sub [0, 1, 2, 3, 4, 5] rfl) (hD.sub [0, 1, 2, 3, 4, 5] (by decide) rfl) hS

set_option maxRecDepth 100000 in
set_option maxHeartbeats 4000000 in
theorem c_readPart_5 (l : Launch) (D : va_G) (cI cB : ClassId) (sz : Nat) (kk : KT) (h0 : Nat) (tx : Nat) (tp : Nat) (ed : Int32) (pl : Int32) (fa : Int32) (by_ : Nat) (T : Nat) (fb : Nat → Int32) (lw : Nat) (l1 : Nat) (l2 : Nat) (l3 : Nat) (l4 : Nat) (l5 : Nat) (l6 : Nat) (l7 : Nat) (z : Nat) (k : Nat) (q1 : Nat → Int32) (hT : T ≤ 260) (hz : z ≤ 240) (hk : k ≤ 16) : MVk (S := ((Int32) × (Int32) × (Nat) × (Nat → Int32))) l D cI cB kk yX2_readPart cX2_readPart 4 (rm 12 273) [.ref h0, .int 5] [(h0, .inr (2, [.ref tx, .ref lw])), (tx, .inr (6, [.ref tp, .int ed, .int pl, .int fa])), (tp, .inr (5, [.ref by_, .int (nI T)])), (by_, .inl (cI, 260, .inl fb)), (lw, .inr (1, [.ref l1, .ref l2, .ref l3, .ref l4, .ref l5, .ref l6, .ref l7, .int (nI z), .int (nI k)])), (l1, .inl (cI, 240, .inl q1))] sz (fun u => u.2.2.1 ≤ 240) (fun u : ((Int32) × (Int32) × (Nat) × (Nat → Int32)) => [(h0, .inr (2, [.ref tx, .ref lw])), (tx, .inr (6, [.ref tp, .int ed, .int u.1, .int u.2.1])), (tp, .inr (5, [.ref by_, .int (nI T)])), (by_, .inl (cI, 260, .inl fb)), (lw, .inr (1, [.ref l1, .ref l2, .ref l3, .ref l4, .ref l5, .ref l6, .ref l7, .int (nI u.2.2.1), .int (nI k)])), (l1, .inl (cI, 240, .inl u.2.2.2))]) := by
  refine MVk.of (by decide) (Nat.le_of_ble_eq_true rfl) ?_
  intro p e s m below meth c Q ls A X hin hN hKO hP hK hD hA hl ret
  have hS : va_S A s.heap s.heap [] := va_S.rf
  obtain ⟨hx, hb, hml, hown, htb⟩ := id X
  have hl : lv_has ls 4 [(0, .ref h0), (1, .int 5)] := hl
  refine lv_aload_n hx hb dX2_readPart_0 rfl (lv_at hl 0 rfl) ?_
  refine lv_iload_n hx hb dX2_readPart_1 rfl (lv_at hl 1 rfl) ?_
  refine cVVk (As := [.int 5]) (rest := []) (n := 1) (ci := 2) (q0 := 0) (wr := []) X hN hKO hK hP hD hS hA (c_readPiece_5 l D cI cB _ kk h0 tx tp ed pl fa by_ T fb lw l1 l2 l3 l4 l5 l6 l7 z k q1 hT hz hk) (gV k_636 k_638 k_9 k_99 k_639) (by decide +kernel) ⟨Nat.le_of_ble_eq_true rfl, Nat.le_of_ble_eq_true rfl⟩ ⟨rfl, rfl⟩ [0, 1, 2, 3, 4, 5] [] rfl rfl (by decide) (by decide) rfl rfl rfl rfl rfl hl.1 (Nat.le_of_ble_eq_true rfl) dX2_readPart_2 ⟨Nat.le_of_ble_eq_true rfl, Nat.le_of_ble_eq_true rfl⟩ (fun u H locs hw_6 hP hD hS => ?_)
  obtain ⟨plo_2, fao_3, zo_4, l1o_5⟩ := u
  try dsimp only at hw_6
  have hP : va_P D vwCl [(h0, .inr (2, [.ref tx, .ref lw])), (tx, .inr (6, [.ref tp, .int ed, .int plo_2, .int fao_3])), (tp, .inr (5, [.ref by_, .int (nI T)])), (by_, .inl (cI, 260, .inl fb)), (lw, .inr (1, [.ref l1, .ref l2, .ref l3, .ref l4, .ref l5, .ref l6, .ref l7, .int (nI zo_4), .int (nI k)])), (l1, .inl (cI, 240, .inl l1o_5))] H := hP
  have hD : va_D A [(h0, .inr (2, [.ref tx, .ref lw])), (tx, .inr (6, [.ref tp, .int ed, .int plo_2, .int fao_3])), (tp, .inr (5, [.ref by_, .int (nI T)])), (by_, .inl (cI, 260, .inl fb)), (lw, .inr (1, [.ref l1, .ref l2, .ref l3, .ref l4, .ref l5, .ref l6, .ref l7, .int (nI zo_4), .int (nI k)])), (l1, .inl (cI, 240, .inl l1o_5))] := hD
  refine lv_iconst (v := 0) hx hb dX2_readPart_5 (by decide) ?_
  refine lv_istore_n (lv' := [(2, .int 0), (0, .ref h0), (1, .int 5)]) hx hb dX2_readPart_6 rfl hl (by decide) rfl (fun ls hl => ?_)
  have loop_7 : ∀ (n i : Nat) (pa : Int32) (fb_ : Int32) (za : Nat) (qa : Nat → Int32), n + i = 240 → (za ≤ 240) → ∀ (H : Heap) (locs : List Loc), va_P D vwCl [(h0, .inr (2, [.ref tx, .ref lw])), (tx, .inr (6, [.ref tp, .int ed, .int pa, .int fb_])), (tp, .inr (5, [.ref by_, .int (nI T)])), (by_, .inl (cI, 260, .inl fb)), (lw, .inr (1, [.ref l1, .ref l2, .ref l3, .ref l4, .ref l5, .ref l6, .ref l7, .int (nI za), .int (nI k)])), (l1, .inl (cI, 240, .inl qa))] H → va_D A [(h0, .inr (2, [.ref tx, .ref lw])), (tx, .inr (6, [.ref tp, .int ed, .int pa, .int fb_])), (tp, .inr (5, [.ref by_, .int (nI T)])), (by_, .inl (cI, 260, .inl fb)), (lw, .inr (1, [.ref l1, .ref l2, .ref l3, .ref l4, .ref l5, .ref l6, .ref l7, .int (nI za), .int (nI k)])), (l1, .inl (cI, 240, .inl qa))] → va_S A s.heap H locs → ∀ (ls : Array Slot), lv_has ls 4 [(0, .ref h0), (1, .int 5), (2, .int (nI i))] → W p l e (rm 12 273) s m ([.ref h0, .int 5] : List Value).toArray below meth c H locs 0 0 Q (F0 m 7 ls []) := by
    intro n
    induction n with
    | zero =>
      intro i pa fb_ za qa hni hza H locs hP hD hS ls hl
      have hni_7 := hni
      have hi : i = 240 := by omega
      refine lv_iload_n hx hb dX2_readPart_7 rfl (lv_at hl 2 rfl) ?_
      refine lv_sipush (v := 240) hx hb dX2_readPart_8 (by decide) ?_
      refine lv_icmp_ge (tgt := 62) hx hb dX2_readPart_11 (by decide) (fun _ => ?_) (fun c_11 => absurd (by rw [hi]; decide) c_11)
      exact ret _ _ _ _ (pa, fb_, za, qa) dX2_readPart_62 hza (hP.sub [0, 1, 2, 3, 4, 5] rfl) (hD.sub [0, 1, 2, 3, 4, 5] (by decide) rfl) hS
    | succ n ih_7 =>
      intro i pa fb_ za qa hni hza H locs hP hD hS ls hl
      have hni_7 := hni
      have hi : i < 240 := by omega
      refine lv_iload_n hx hb dX2_readPart_7 rfl (lv_at hl 2 rfl) ?_
      refine lv_sipush (v := 240) hx hb dX2_readPart_8 (by decide) ?_
      refine lv_icmp_ge (tgt := 62) hx hb dX2_readPart_11 (by decide) (fun c_11 => absurd c_11 (nI_ge hi (by decide))) (fun _ => ?_)
      refine lv_aload_n hx hb dX2_readPart_14 rfl (lv_at hl 0 rfl) ?_
      refine va_get (D := D) (ci := 2) (v := .ref tx) (C := RX2) (T := TX2) (N := 2) hx hb htb itX2 hown hK hP 0 rfl rfl 0 (by decide) (htb _ k_288) (fun _ h9 => h9) rfl dX2_readPart_15 ?_
      refine lv_bipush (v := 38) hx hb dX2_readPart_18 (by decide) ?_
      refine cVI (As := [.int 38]) (rest := []) (n := 1) (ci := 6) (q0 := 0) (wr := [(h0, .inr (2, [.ref tx, .ref lw])), (lw, .inr (1, [.ref l1, .ref l2, .ref l3, .ref l4, .ref l5, .ref l6, .ref l7, .int (nI za), .int (nI k)])), (l1, .inl (cI, 240, .inl qa))]) X hN hK hP hD hS hA (c_X6_skip l D cI cB _ tx tp ed pa fb_ by_ T fb 38 hT) (gV k_644 k_607 k_608 k_98 k_609) (by decide +kernel) ⟨Nat.le_of_ble_eq_true rfl, Nat.le_of_ble_eq_true rfl⟩ ⟨rfl, rfl⟩ [1, 2, 3] [0, 4, 5] rfl rfl (by decide) (by decide) rfl rfl rfl rfl rfl hl.1 (Nat.le_of_ble_eq_true rfl) dX2_readPart_20 ⟨Nat.le_of_ble_eq_true rfl, Nat.le_of_ble_eq_true rfl⟩ (fun r_7 u H locs hw_9 hP hD hS => ?_)
      obtain ⟨h0_2o_8, rfl⟩ : ∃ z, z = u := ⟨_, rfl⟩
      try dsimp only at hw_9
      have hP : va_P D vwCl [(h0, .inr (2, [.ref tx, .ref lw])), (lw, .inr (1, [.ref l1, .ref l2, .ref l3, .ref l4, .ref l5, .ref l6, .ref l7, .int (nI za), .int (nI k)])), (l1, .inl (cI, 240, .inl qa)), (tx, .inr (6, [.ref tp, .int ed, .int h0_2o_8, .int fb_])), (tp, .inr (5, [.ref by_, .int (nI T)])), (by_, .inl (cI, 260, .inl fb))] H := hP
      have hD : va_D A [(h0, .inr (2, [.ref tx, .ref lw])), (lw, .inr (1, [.ref l1, .ref l2, .ref l3, .ref l4, .ref l5, .ref l6, .ref l7, .int (nI za), .int (nI k)])), (l1, .inl (cI, 240, .inl qa)), (tx, .inr (6, [.ref tp, .int ed, .int h0_2o_8, .int fb_])), (tp, .inr (5, [.ref by_, .int (nI T)])), (by_, .inl (cI, 260, .inl fb))] := hD
      refine lv_if_eq (tgt := 62) hx hb dX2_readPart_23 (by decide) (fun c_23 => ?_) (fun c_23 => ?_)
      · exact ret _ _ _ _ (h0_2o_8, fb_, za, qa) dX2_readPart_62 hza (hP.sub [0, 3, 4, 5, 1, 2] rfl) (hD.sub [0, 3, 4, 5, 1, 2] (by decide) rfl) hS
      · refine lv_aload_n hx hb dX2_readPart_26 rfl (lv_at hl 0 rfl) ?_
        refine va_get (D := D) (ci := 2) (v := .ref lw) (C := RX2) (T := TX2) (N := 2) hx hb htb itX2 hown hK hP 0 rfl rfl 1 (by decide) (htb _ k_289) (fun _ h9 => h9) rfl dX2_readPart_27 ?_
        refine va_getN (D := D) (ci := 1) (v := .int (nI za)) (C := RX1) (T := TX1) (N := 9) hx hb htb itX1 hown hK hP 1 rfl rfl 7 (by decide) (va_Nw.use rfl (hN _ n_232 rfl)) (fun _ h9 => h9) rfl dX2_readPart_30 ?_
        refine lv_istore_n (lv' := [(3, .int (nI za)), (0, .ref h0), (1, .int 5), (2, .int (nI i))]) hx hb dX2_readPart_33 rfl hl (by decide) rfl (fun ls hl => ?_)
        refine lv_aload_n hx hb dX2_readPart_34 rfl (lv_at hl 1 rfl) ?_
        refine va_get (D := D) (ci := 2) (v := .ref lw) (C := RX2) (T := TX2) (N := 2) hx hb htb itX2 hown hK hP 0 rfl rfl 1 (by decide) (htb _ k_289) (fun _ h9 => h9) rfl dX2_readPart_35 ?_
        refine lv_iconst (v := 4) hx hb dX2_readPart_38 (by decide) ?_
        refine lv_iconst (v := 0) hx hb dX2_readPart_39 (by decide) ?_
        refine cVV (As := [.int 4, .int 0]) (rest := []) (n := 2) (ci := 1) (q0 := 0) (wr := [(h0, .inr (2, [.ref tx, .ref lw])), (tx, .inr (6, [.ref tp, .int ed, .int h0_2o_8, .int fb_])), (tp, .inr (5, [.ref by_, .int (nI T)])), (by_, .inl (cI, 260, .inl fb))]) X hN hK hP hD hS hA (c_X1_addStep l D cI cB _ lw l1 l2 l3 l4 l5 l6 l7 za k 4 0 qa hza hk) (gV k_594 k_595 k_596 k_97 k_597) (by decide +kernel) ⟨Nat.le_of_ble_eq_true rfl, Nat.le_of_ble_eq_true rfl⟩ ⟨rfl, rfl⟩ [1, 2] [0, 3, 4, 5] rfl rfl (by decide) (by decide) rfl rfl rfl rfl rfl hl.1 (Nat.le_of_ble_eq_true rfl) dX2_readPart_40 ⟨Nat.le_of_ble_eq_true rfl, Nat.le_of_ble_eq_true rfl⟩ (fun u H locs hw_13 hP hD hS => ?_)
        obtain ⟨zo_11, l1_fo_12⟩ := u
        try dsimp only at hw_13
        have hP : va_P D vwCl [(h0, .inr (2, [.ref tx, .ref lw])), (tx, .inr (6, [.ref tp, .int ed, .int h0_2o_8, .int fb_])), (tp, .inr (5, [.ref by_, .int (nI T)])), (by_, .inl (cI, 260, .inl fb)), (lw, .inr (1, [.ref l1, .ref l2, .ref l3, .ref l4, .ref l5, .ref l6, .ref l7, .int (nI zo_11), .int (nI k)])), (l1, .inl (cI, 240, .inl l1_fo_12))] H := hP
        have hD : va_D A [(h0, .inr (2, [.ref tx, .ref lw])), (tx, .inr (6, [.ref tp, .int ed, .int h0_2o_8, .int fb_])), (tp, .inr (5, [.ref by_, .int (nI T)])), (by_, .inl (cI, 260, .inl fb)), (lw, .inr (1, [.ref l1, .ref l2, .ref l3, .ref l4, .ref l5, .ref l6, .ref l7, .int (nI zo_11), .int (nI k)])), (l1, .inl (cI, 240, .inl l1_fo_12))] := hD
        refine lv_aload_n hx hb dX2_readPart_43 rfl (lv_at hl 1 rfl) ?_
        refine lv_iload_n hx hb dX2_readPart_44 rfl (lv_at hl 2 rfl) ?_
        refine cVVk (As := [.int 5]) (rest := []) (n := 1) (ci := 2) (q0 := 0) (wr := []) X hN hKO hK hP hD hS hA (c_readPiece_5 l D cI cB _ kk h0 tx tp ed h0_2o_8 fb_ by_ T fb lw l1 l2 l3 l4 l5 l6 l7 zo_11 k l1_fo_12 hT hw_13 hk) (gV k_636 k_638 k_9 k_99 k_639) (by decide +kernel) ⟨Nat.le_of_ble_eq_true rfl, Nat.le_of_ble_eq_true rfl⟩ ⟨rfl, rfl⟩ [0, 1, 2, 3, 4, 5] [] rfl rfl (by decide) (by decide) rfl rfl rfl rfl rfl hl.1 (Nat.le_of_ble_eq_true rfl) dX2_readPart_45 ⟨Nat.le_of_ble_eq_true rfl, Nat.le_of_ble_eq_true rfl⟩ (fun u H locs hw_19 hP hD hS => ?_)
        obtain ⟨plo_15, fao_16, zo_17, l1o_18⟩ := u
        try dsimp only at hw_19
        have hP : va_P D vwCl [(h0, .inr (2, [.ref tx, .ref lw])), (tx, .inr (6, [.ref tp, .int ed, .int plo_15, .int fao_16])), (tp, .inr (5, [.ref by_, .int (nI T)])), (by_, .inl (cI, 260, .inl fb)), (lw, .inr (1, [.ref l1, .ref l2, .ref l3, .ref l4, .ref l5, .ref l6, .ref l7, .int (nI zo_17), .int (nI k)])), (l1, .inl (cI, 240, .inl l1o_18))] H := hP
        have hD : va_D A [(h0, .inr (2, [.ref tx, .ref lw])), (tx, .inr (6, [.ref tp, .int ed, .int plo_15, .int fao_16])), (tp, .inr (5, [.ref by_, .int (nI T)])), (by_, .inl (cI, 260, .inl fb)), (lw, .inr (1, [.ref l1, .ref l2, .ref l3, .ref l4, .ref l5, .ref l6, .ref l7, .int (nI zo_17), .int (nI k)])), (l1, .inl (cI, 240, .inl l1o_18))] := hD
        refine lv_aload_n hx hb dX2_readPart_48 rfl (lv_at hl 1 rfl) ?_
        refine va_get (D := D) (ci := 2) (v := .ref lw) (C := RX2) (T := TX2) (N := 2) hx hb htb itX2 hown hK hP 0 rfl rfl 1 (by decide) (htb _ k_289) (fun _ h9 => h9) rfl dX2_readPart_49 ?_
        refine lv_iload_n hx hb dX2_readPart_52 rfl (lv_at hl 0 rfl) ?_
        refine cVV (As := [.int (nI za)]) (rest := []) (n := 1) (ci := 1) (q0 := 0) (wr := [(h0, .inr (2, [.ref tx, .ref lw])), (tx, .inr (6, [.ref tp, .int ed, .int plo_15, .int fao_16])), (tp, .inr (5, [.ref by_, .int (nI T)])), (by_, .inl (cI, 260, .inl fb))]) X hN hK hP hD hS hA (c_X1_landSkip l D cI cB _ lw l1 l2 l3 l4 l5 l6 l7 zo_17 k (nI za) l1o_18 hw_19 hk) (gV k_645 k_646 k_647 k_97 k_648) (by decide +kernel) ⟨Nat.le_of_ble_eq_true rfl, Nat.le_of_ble_eq_true rfl⟩ ⟨rfl, rfl⟩ [4, 5] [0, 1, 2, 3] rfl rfl (by decide) (by decide) rfl rfl rfl rfl rfl hl.1 (Nat.le_of_ble_eq_true rfl) dX2_readPart_53 ⟨Nat.le_of_ble_eq_true rfl, Nat.le_of_ble_eq_true rfl⟩ (fun u H locs hw_22 hP hD hS => ?_)
        obtain ⟨l1_fo_21, rfl⟩ : ∃ z, z = u := ⟨_, rfl⟩
        try dsimp only at hw_22
        have hP : va_P D vwCl [(h0, .inr (2, [.ref tx, .ref lw])), (tx, .inr (6, [.ref tp, .int ed, .int plo_15, .int fao_16])), (tp, .inr (5, [.ref by_, .int (nI T)])), (by_, .inl (cI, 260, .inl fb)), (lw, .inr (1, [.ref l1, .ref l2, .ref l3, .ref l4, .ref l5, .ref l6, .ref l7, .int (nI zo_17), .int (nI k)])), (l1, .inl (cI, 240, .inl l1_fo_21))] H := hP
        have hD : va_D A [(h0, .inr (2, [.ref tx, .ref lw])), (tx, .inr (6, [.ref tp, .int ed, .int plo_15, .int fao_16])), (tp, .inr (5, [.ref by_, .int (nI T)])), (by_, .inl (cI, 260, .inl fb)), (lw, .inr (1, [.ref l1, .ref l2, .ref l3, .ref l4, .ref l5, .ref l6, .ref l7, .int (nI zo_17), .int (nI k)])), (l1, .inl (cI, 240, .inl l1_fo_21))] := hD
        refine lv_iinc (v := (nI (i + 1))) (lv' := [(2, .int (nI (i + 1))), (3, .int (nI za)), (0, .ref h0), (1, .int 5)]) hx hb dX2_readPart_56 hl (k := 3) rfl (nI_1 i) (by decide) rfl (fun ls hl => ?_)
        refine lv_goto (tgt := 7) hx hb dX2_readPart_59 (by decide) ?_
        exact ih_7 (i + 1) plo_15 fao_16 zo_17 l1_fo_21 (by omega) hw_19 _ _ (hP.sub [0, 1, 2, 3, 4, 5] rfl) (hD.sub [0, 1, 2, 3, 4, 5] (by decide) rfl) hS _ (lv_sub hl [2, 3, 0] rfl)
  exact loop_7 240 0 plo_2 fao_3 zo_4 l1o_5 (by omega) hw_6 _ _ (hP.sub [0, 1, 2, 3, 4, 5] rfl) (hD.sub [0, 1, 2, 3, 4, 5] (by decide) rfl) hS _ (lv_sub hl [1, 2, 0] rfl)

set_option maxRecDepth 100000 in
set_option maxHeartbeats 4000000 in
theorem c_readChoice_5 (l : Launch) (D : va_G) (cI cB : ClassId) (sz : Nat) (kk : KT) (h0 : Nat) (tx : Nat) (tp : Nat) (ed : Int32) (pl : Int32) (fa : Int32) (by_ : Nat) (T : Nat) (fb : Nat → Int32) (lw : Nat) (l1 : Nat) (l2 : Nat) (l3 : Nat) (l4 : Nat) (l5 : Nat) (l6 : Nat) (l7 : Nat) (z : Nat) (k : Nat) (q1 : Nat → Int32) (hT : T ≤ 260) (hz : z ≤ 240) (hk : k ≤ 16) : MVk (S := ((Int32) × (Int32) × (Nat) × (Nat → Int32))) l D cI cB kk yX2_readChoice cX2_readChoice 4 (rm 13 296) [.ref h0, .int 5] [(h0, .inr (2, [.ref tx, .ref lw])), (tx, .inr (6, [.ref tp, .int ed, .int pl, .int fa])), (tp, .inr (5, [.ref by_, .int (nI T)])), (by_, .inl (cI, 260, .inl fb)), (lw, .inr (1, [.ref l1, .ref l2, .ref l3, .ref l4, .ref l5, .ref l6, .ref l7, .int (nI z), .int (nI k)])), (l1, .inl (cI, 240, .inl q1))] sz (fun u => u.2.2.1 ≤ 240) (fun u : ((Int32) × (Int32) × (Nat) × (Nat → Int32)) => [(h0, .inr (2, [.ref tx, .ref lw])), (tx, .inr (6, [.ref tp, .int ed, .int u.1, .int u.2.1])), (tp, .inr (5, [.ref by_, .int (nI T)])), (by_, .inl (cI, 260, .inl fb)), (lw, .inr (1, [.ref l1, .ref l2, .ref l3, .ref l4, .ref l5, .ref l6, .ref l7, .int (nI u.2.2.1), .int (nI k)])), (l1, .inl (cI, 240, .inl u.2.2.2))]) := by
  refine MVk.of (by decide) (Nat.le_of_ble_eq_true rfl) ?_
  intro p e s m below meth c Q ls A X hin hN hKO hP hK hD hA hl ret
  have hS : va_S A s.heap s.heap [] := va_S.rf
  obtain ⟨hx, hb, hml, hown, htb⟩ := id X
  have hl : lv_has ls 4 [(0, .ref h0), (1, .int 5)] := hl
  refine lv_aload_n hx hb dX2_readChoice_0 rfl (lv_at hl 0 rfl) ?_
  refine lv_iload_n hx hb dX2_readChoice_1 rfl (lv_at hl 1 rfl) ?_
  refine cVVk (As := [.int 5]) (rest := []) (n := 1) (ci := 2) (q0 := 0) (wr := []) X hN hKO hK hP hD hS hA (c_readPart_5 l D cI cB _ kk h0 tx tp ed pl fa by_ T fb lw l1 l2 l3 l4 l5 l6 l7 z k q1 hT hz hk) (gV k_632 k_634 k_8 k_99 k_635) (by decide +kernel) ⟨Nat.le_of_ble_eq_true rfl, Nat.le_of_ble_eq_true rfl⟩ ⟨rfl, rfl⟩ [0, 1, 2, 3, 4, 5] [] rfl rfl (by decide) (by decide) rfl rfl rfl rfl rfl hl.1 (Nat.le_of_ble_eq_true rfl) dX2_readChoice_2 ⟨Nat.le_of_ble_eq_true rfl, Nat.le_of_ble_eq_true rfl⟩ (fun u H locs hw_6 hP hD hS => ?_)
  obtain ⟨plo_2, fao_3, zo_4, l1o_5⟩ := u
  try dsimp only at hw_6
  have hP : va_P D vwCl [(h0, .inr (2, [.ref tx, .ref lw])), (tx, .inr (6, [.ref tp, .int ed, .int plo_2, .int fao_3])), (tp, .inr (5, [.ref by_, .int (nI T)])), (by_, .inl (cI, 260, .inl fb)), (lw, .inr (1, [.ref l1, .ref l2, .ref l3, .ref l4, .ref l5, .ref l6, .ref l7, .int (nI zo_4), .int (nI k)])), (l1, .inl (cI, 240, .inl l1o_5))] H := hP
  have hD : va_D A [(h0, .inr (2, [.ref tx, .ref lw])), (tx, .inr (6, [.ref tp, .int ed, .int plo_2, .int fao_3])), (tp, .inr (5, [.ref by_, .int (nI T)])), (by_, .inl (cI, 260, .inl fb)), (lw, .inr (1, [.ref l1, .ref l2, .ref l3, .ref l4, .ref l5, .ref l6, .ref l7, .int (nI zo_4), .int (nI k)])), (l1, .inl (cI, 240, .inl l1o_5))] := hD
  refine lv_iconst (v := 0) hx hb dX2_readChoice_5 (by decide) ?_
  refine lv_istore_n (lv' := [(2, .int 0), (0, .ref h0), (1, .int 5)]) hx hb dX2_readChoice_6 rfl hl (by decide) rfl (fun ls hl => ?_)
  have loop_7 : ∀ (n i : Nat) (pa : Int32) (fb_ : Int32) (za : Nat) (qa : Nat → Int32), n + i = 240 → (za ≤ 240) → ∀ (H : Heap) (locs : List Loc), va_P D vwCl [(h0, .inr (2, [.ref tx, .ref lw])), (tx, .inr (6, [.ref tp, .int ed, .int pa, .int fb_])), (tp, .inr (5, [.ref by_, .int (nI T)])), (by_, .inl (cI, 260, .inl fb)), (lw, .inr (1, [.ref l1, .ref l2, .ref l3, .ref l4, .ref l5, .ref l6, .ref l7, .int (nI za), .int (nI k)])), (l1, .inl (cI, 240, .inl qa))] H → va_D A [(h0, .inr (2, [.ref tx, .ref lw])), (tx, .inr (6, [.ref tp, .int ed, .int pa, .int fb_])), (tp, .inr (5, [.ref by_, .int (nI T)])), (by_, .inl (cI, 260, .inl fb)), (lw, .inr (1, [.ref l1, .ref l2, .ref l3, .ref l4, .ref l5, .ref l6, .ref l7, .int (nI za), .int (nI k)])), (l1, .inl (cI, 240, .inl qa))] → va_S A s.heap H locs → ∀ (ls : Array Slot), lv_has ls 4 [(0, .ref h0), (1, .int 5), (2, .int (nI i))] → W p l e (rm 13 296) s m ([.ref h0, .int 5] : List Value).toArray below meth c H locs 0 0 Q (F0 m 7 ls []) := by
    intro n
    induction n with
    | zero =>
      intro i pa fb_ za qa hni hza H locs hP hD hS ls hl
      have hni_7 := hni
      have hi : i = 240 := by omega
      refine lv_iload_n hx hb dX2_readChoice_7 rfl (lv_at hl 2 rfl) ?_
      refine lv_sipush (v := 240) hx hb dX2_readChoice_8 (by decide) ?_
      refine lv_icmp_ge (tgt := 62) hx hb dX2_readChoice_11 (by decide) (fun _ => ?_) (fun c_11 => absurd (by rw [hi]; decide) c_11)
      exact ret _ _ _ _ (pa, fb_, za, qa) dX2_readChoice_62 hza (hP.sub [0, 1, 2, 3, 4, 5] rfl) (hD.sub [0, 1, 2, 3, 4, 5] (by decide) rfl) hS
    | succ n ih_7 =>
      intro i pa fb_ za qa hni hza H locs hP hD hS ls hl
      have hni_7 := hni
      have hi : i < 240 := by omega
      refine lv_iload_n hx hb dX2_readChoice_7 rfl (lv_at hl 2 rfl) ?_
      refine lv_sipush (v := 240) hx hb dX2_readChoice_8 (by decide) ?_
      refine lv_icmp_ge (tgt := 62) hx hb dX2_readChoice_11 (by decide) (fun c_11 => absurd c_11 (nI_ge hi (by decide))) (fun _ => ?_)
      refine lv_aload_n hx hb dX2_readChoice_14 rfl (lv_at hl 0 rfl) ?_
      refine va_get (D := D) (ci := 2) (v := .ref tx) (C := RX2) (T := TX2) (N := 2) hx hb htb itX2 hown hK hP 0 rfl rfl 0 (by decide) (htb _ k_288) (fun _ h9 => h9) rfl dX2_readChoice_15 ?_
      refine lv_bipush (v := 124) hx hb dX2_readChoice_18 (by decide) ?_
      refine cVI (As := [.int 124]) (rest := []) (n := 1) (ci := 6) (q0 := 0) (wr := [(h0, .inr (2, [.ref tx, .ref lw])), (lw, .inr (1, [.ref l1, .ref l2, .ref l3, .ref l4, .ref l5, .ref l6, .ref l7, .int (nI za), .int (nI k)])), (l1, .inl (cI, 240, .inl qa))]) X hN hK hP hD hS hA (c_X6_skip l D cI cB _ tx tp ed pa fb_ by_ T fb 124 hT) (gV k_644 k_607 k_608 k_98 k_609) (by decide +kernel) ⟨Nat.le_of_ble_eq_true rfl, Nat.le_of_ble_eq_true rfl⟩ ⟨rfl, rfl⟩ [1, 2, 3] [0, 4, 5] rfl rfl (by decide) (by decide) rfl rfl rfl rfl rfl hl.1 (Nat.le_of_ble_eq_true rfl) dX2_readChoice_20 ⟨Nat.le_of_ble_eq_true rfl, Nat.le_of_ble_eq_true rfl⟩ (fun r_7 u H locs hw_9 hP hD hS => ?_)
      obtain ⟨h0_2o_8, rfl⟩ : ∃ z, z = u := ⟨_, rfl⟩
      try dsimp only at hw_9
      have hP : va_P D vwCl [(h0, .inr (2, [.ref tx, .ref lw])), (lw, .inr (1, [.ref l1, .ref l2, .ref l3, .ref l4, .ref l5, .ref l6, .ref l7, .int (nI za), .int (nI k)])), (l1, .inl (cI, 240, .inl qa)), (tx, .inr (6, [.ref tp, .int ed, .int h0_2o_8, .int fb_])), (tp, .inr (5, [.ref by_, .int (nI T)])), (by_, .inl (cI, 260, .inl fb))] H := hP
      have hD : va_D A [(h0, .inr (2, [.ref tx, .ref lw])), (lw, .inr (1, [.ref l1, .ref l2, .ref l3, .ref l4, .ref l5, .ref l6, .ref l7, .int (nI za), .int (nI k)])), (l1, .inl (cI, 240, .inl qa)), (tx, .inr (6, [.ref tp, .int ed, .int h0_2o_8, .int fb_])), (tp, .inr (5, [.ref by_, .int (nI T)])), (by_, .inl (cI, 260, .inl fb))] := hD
      refine lv_if_eq (tgt := 62) hx hb dX2_readChoice_23 (by decide) (fun c_23 => ?_) (fun c_23 => ?_)
      · exact ret _ _ _ _ (h0_2o_8, fb_, za, qa) dX2_readChoice_62 hza (hP.sub [0, 3, 4, 5, 1, 2] rfl) (hD.sub [0, 3, 4, 5, 1, 2] (by decide) rfl) hS
      · refine lv_aload_n hx hb dX2_readChoice_26 rfl (lv_at hl 0 rfl) ?_
        refine va_get (D := D) (ci := 2) (v := .ref lw) (C := RX2) (T := TX2) (N := 2) hx hb htb itX2 hown hK hP 0 rfl rfl 1 (by decide) (htb _ k_289) (fun _ h9 => h9) rfl dX2_readChoice_27 ?_
        refine va_getN (D := D) (ci := 1) (v := .int (nI za)) (C := RX1) (T := TX1) (N := 9) hx hb htb itX1 hown hK hP 1 rfl rfl 7 (by decide) (va_Nw.use rfl (hN _ n_232 rfl)) (fun _ h9 => h9) rfl dX2_readChoice_30 ?_
        refine lv_istore_n (lv' := [(3, .int (nI za)), (0, .ref h0), (1, .int 5), (2, .int (nI i))]) hx hb dX2_readChoice_33 rfl hl (by decide) rfl (fun ls hl => ?_)
        refine lv_aload_n hx hb dX2_readChoice_34 rfl (lv_at hl 1 rfl) ?_
        refine va_get (D := D) (ci := 2) (v := .ref lw) (C := RX2) (T := TX2) (N := 2) hx hb htb itX2 hown hK hP 0 rfl rfl 1 (by decide) (htb _ k_289) (fun _ h9 => h9) rfl dX2_readChoice_35 ?_
        refine lv_iconst (v := 3) hx hb dX2_readChoice_38 (by decide) ?_
        refine lv_iconst (v := 0) hx hb dX2_readChoice_39 (by decide) ?_
        refine cVV (As := [.int 3, .int 0]) (rest := []) (n := 2) (ci := 1) (q0 := 0) (wr := [(h0, .inr (2, [.ref tx, .ref lw])), (tx, .inr (6, [.ref tp, .int ed, .int h0_2o_8, .int fb_])), (tp, .inr (5, [.ref by_, .int (nI T)])), (by_, .inl (cI, 260, .inl fb))]) X hN hK hP hD hS hA (c_X1_addStep l D cI cB _ lw l1 l2 l3 l4 l5 l6 l7 za k 3 0 qa hza hk) (gV k_594 k_595 k_596 k_97 k_597) (by decide +kernel) ⟨Nat.le_of_ble_eq_true rfl, Nat.le_of_ble_eq_true rfl⟩ ⟨rfl, rfl⟩ [1, 2] [0, 3, 4, 5] rfl rfl (by decide) (by decide) rfl rfl rfl rfl rfl hl.1 (Nat.le_of_ble_eq_true rfl) dX2_readChoice_40 ⟨Nat.le_of_ble_eq_true rfl, Nat.le_of_ble_eq_true rfl⟩ (fun u H locs hw_13 hP hD hS => ?_)
        obtain ⟨zo_11, l1_fo_12⟩ := u
        try dsimp only at hw_13
        have hP : va_P D vwCl [(h0, .inr (2, [.ref tx, .ref lw])), (tx, .inr (6, [.ref tp, .int ed, .int h0_2o_8, .int fb_])), (tp, .inr (5, [.ref by_, .int (nI T)])), (by_, .inl (cI, 260, .inl fb)), (lw, .inr (1, [.ref l1, .ref l2, .ref l3, .ref l4, .ref l5, .ref l6, .ref l7, .int (nI zo_11), .int (nI k)])), (l1, .inl (cI, 240, .inl l1_fo_12))] H := hP
        have hD : va_D A [(h0, .inr (2, [.ref tx, .ref lw])), (tx, .inr (6, [.ref tp, .int ed, .int h0_2o_8, .int fb_])), (tp, .inr (5, [.ref by_, .int (nI T)])), (by_, .inl (cI, 260, .inl fb)), (lw, .inr (1, [.ref l1, .ref l2, .ref l3, .ref l4, .ref l5, .ref l6, .ref l7, .int (nI zo_11), .int (nI k)])), (l1, .inl (cI, 240, .inl l1_fo_12))] := hD
        refine lv_aload_n hx hb dX2_readChoice_43 rfl (lv_at hl 1 rfl) ?_
        refine lv_iload_n hx hb dX2_readChoice_44 rfl (lv_at hl 2 rfl) ?_
        refine cVVk (As := [.int 5]) (rest := []) (n := 1) (ci := 2) (q0 := 0) (wr := []) X hN hKO hK hP hD hS hA (c_readPart_5 l D cI cB _ kk h0 tx tp ed h0_2o_8 fb_ by_ T fb lw l1 l2 l3 l4 l5 l6 l7 zo_11 k l1_fo_12 hT hw_13 hk) (gV k_632 k_634 k_8 k_99 k_635) (by decide +kernel) ⟨Nat.le_of_ble_eq_true rfl, Nat.le_of_ble_eq_true rfl⟩ ⟨rfl, rfl⟩ [0, 1, 2, 3, 4, 5] [] rfl rfl (by decide) (by decide) rfl rfl rfl rfl rfl hl.1 (Nat.le_of_ble_eq_true rfl) dX2_readChoice_45 ⟨Nat.le_of_ble_eq_true rfl, Nat.le_of_ble_eq_true rfl⟩ (fun u H locs hw_19 hP hD hS => ?_)
        obtain ⟨plo_15, fao_16, zo_17, l1o_18⟩ := u
        try dsimp only at hw_19
        have hP : va_P D vwCl [(h0, .inr (2, [.ref tx, .ref lw])), (tx, .inr (6, [.ref tp, .int ed, .int plo_15, .int fao_16])), (tp, .inr (5, [.ref by_, .int (nI T)])), (by_, .inl (cI, 260, .inl fb)), (lw, .inr (1, [.ref l1, .ref l2, .ref l3, .ref l4, .ref l5, .ref l6, .ref l7, .int (nI zo_17), .int (nI k)])), (l1, .inl (cI, 240, .inl l1o_18))] H := hP
        have hD : va_D A [(h0, .inr (2, [.ref tx, .ref lw])), (tx, .inr (6, [.ref tp, .int ed, .int plo_15, .int fao_16])), (tp, .inr (5, [.ref by_, .int (nI T)])), (by_, .inl (cI, 260, .inl fb)), (lw, .inr (1, [.ref l1, .ref l2, .ref l3, .ref l4, .ref l5, .ref l6, .ref l7, .int (nI zo_17), .int (nI k)])), (l1, .inl (cI, 240, .inl l1o_18))] := hD
        refine lv_aload_n hx hb dX2_readChoice_48 rfl (lv_at hl 1 rfl) ?_
        refine va_get (D := D) (ci := 2) (v := .ref lw) (C := RX2) (T := TX2) (N := 2) hx hb htb itX2 hown hK hP 0 rfl rfl 1 (by decide) (htb _ k_289) (fun _ h9 => h9) rfl dX2_readChoice_49 ?_
        refine lv_iload_n hx hb dX2_readChoice_52 rfl (lv_at hl 0 rfl) ?_
        refine cVV (As := [.int (nI za)]) (rest := []) (n := 1) (ci := 1) (q0 := 0) (wr := [(h0, .inr (2, [.ref tx, .ref lw])), (tx, .inr (6, [.ref tp, .int ed, .int plo_15, .int fao_16])), (tp, .inr (5, [.ref by_, .int (nI T)])), (by_, .inl (cI, 260, .inl fb))]) X hN hK hP hD hS hA (c_X1_landSkip l D cI cB _ lw l1 l2 l3 l4 l5 l6 l7 zo_17 k (nI za) l1o_18 hw_19 hk) (gV k_645 k_646 k_647 k_97 k_648) (by decide +kernel) ⟨Nat.le_of_ble_eq_true rfl, Nat.le_of_ble_eq_true rfl⟩ ⟨rfl, rfl⟩ [4, 5] [0, 1, 2, 3] rfl rfl (by decide) (by decide) rfl rfl rfl rfl rfl hl.1 (Nat.le_of_ble_eq_true rfl) dX2_readChoice_53 ⟨Nat.le_of_ble_eq_true rfl, Nat.le_of_ble_eq_true rfl⟩ (fun u H locs hw_22 hP hD hS => ?_)
        obtain ⟨l1_fo_21, rfl⟩ : ∃ z, z = u := ⟨_, rfl⟩
        try dsimp only at hw_22
        have hP : va_P D vwCl [(h0, .inr (2, [.ref tx, .ref lw])), (tx, .inr (6, [.ref tp, .int ed, .int plo_15, .int fao_16])), (tp, .inr (5, [.ref by_, .int (nI T)])), (by_, .inl (cI, 260, .inl fb)), (lw, .inr (1, [.ref l1, .ref l2, .ref l3, .ref l4, .ref l5, .ref l6, .ref l7, .int (nI zo_17), .int (nI k)])), (l1, .inl (cI, 240, .inl l1_fo_21))] H := hP
        have hD : va_D A [(h0, .inr (2, [.ref tx, .ref lw])), (tx, .inr (6, [.ref tp, .int ed, .int plo_15, .int fao_16])), (tp, .inr (5, [.ref by_, .int (nI T)])), (by_, .inl (cI, 260, .inl fb)), (lw, .inr (1, [.ref l1, .ref l2, .ref l3, .ref l4, .ref l5, .ref l6, .ref l7, .int (nI zo_17), .int (nI k)])), (l1, .inl (cI, 240, .inl l1_fo_21))] := hD
        refine lv_iinc (v := (nI (i + 1))) (lv' := [(2, .int (nI (i + 1))), (3, .int (nI za)), (0, .ref h0), (1, .int 5)]) hx hb dX2_readChoice_56 hl (k := 3) rfl (nI_1 i) (by decide) rfl (fun ls hl => ?_)
        refine lv_goto (tgt := 7) hx hb dX2_readChoice_59 (by decide) ?_
        exact ih_7 (i + 1) plo_15 fao_16 zo_17 l1_fo_21 (by omega) hw_19 _ _ (hP.sub [0, 1, 2, 3, 4, 5] rfl) (hD.sub [0, 1, 2, 3, 4, 5] (by decide) rfl) hS _ (lv_sub hl [2, 3, 0] rfl)
  exact loop_7 240 0 plo_2 fao_3 zo_4 l1o_5 (by omega) hw_6 _ _ (hP.sub [0, 1, 2, 3, 4, 5] rfl) (hD.sub [0, 1, 2, 3, 4, 5] (by decide) rfl) hS _ (lv_sub hl [1, 2, 0] rfl)

set_option maxRecDepth 100000 in
set_option maxHeartbeats 4000000 in
theorem c_readPiece_4 (l : Launch) (D : va_G) (cI cB : ClassId) (sz : Nat) (kk : KT) (h0 : Nat) (tx : Nat) (tp : Nat) (ed : Int32) (pl : Int32) (fa : Int32) (by_ : Nat) (T : Nat) (fb : Nat → Int32) (lw : Nat) (l1 : Nat) (l2 : Nat) (l3 : Nat) (l4 : Nat) (l5 : Nat) (l6 : Nat) (l7 : Nat) (z : Nat) (k : Nat) (q1 : Nat → Int32) (hT : T ≤ 260) (hz : z ≤ 240) (hk : k ≤ 16) : MVk (S := ((Int32) × (Int32) × (Nat) × (Nat → Int32))) l D cI cB kk yX2_readPiece cX2_readPiece 4 (rm 14 319) [.ref h0, .int 4] [(h0, .inr (2, [.ref tx, .ref lw])), (tx, .inr (6, [.ref tp, .int ed, .int pl, .int fa])), (tp, .inr (5, [.ref by_, .int (nI T)])), (by_, .inl (cI, 260, .inl fb)), (lw, .inr (1, [.ref l1, .ref l2, .ref l3, .ref l4, .ref l5, .ref l6, .ref l7, .int (nI z), .int (nI k)])), (l1, .inl (cI, 240, .inl q1))] sz (fun u => u.2.2.1 ≤ 240) (fun u : ((Int32) × (Int32) × (Nat) × (Nat → Int32)) => [(h0, .inr (2, [.ref tx, .ref lw])), (tx, .inr (6, [.ref tp, .int ed, .int u.1, .int u.2.1])), (tp, .inr (5, [.ref by_, .int (nI T)])), (by_, .inl (cI, 260, .inl fb)), (lw, .inr (1, [.ref l1, .ref l2, .ref l3, .ref l4, .ref l5, .ref l6, .ref l7, .int (nI u.2.2.1), .int (nI k)])), (l1, .inl (cI, 240, .inl u.2.2.2))]) := by
  refine MVk.of (by decide) (Nat.le_of_ble_eq_true rfl) ?_
  intro p e s m below meth c Q ls A X hin hN hKO hP hK hD hA hl ret
  have hS : va_S A s.heap s.heap [] := va_S.rf
  obtain ⟨hx, hb, hml, hown, htb⟩ := id X
  have hl : lv_has ls 4 [(0, .ref h0), (1, .int 4)] := hl
  refine lv_aload_n hx hb dX2_readPiece_0 rfl (lv_at hl 0 rfl) ?_
  refine va_get (D := D) (ci := 2) (v := .ref tx) (C := RX2) (T := TX2) (N := 2) hx hb htb itX2 hown hK hP 0 rfl rfl 0 (by decide) (htb _ k_288) (fun _ h9 => h9) rfl dX2_readPiece_1 ?_
  refine cVR (As := []) (rest := []) (n := 0) (ci := 6) (q0 := 0) X hN hK hP (c_X6_sign l D cI cB tx tp ed pl fa by_ T fb hT) (gV k_483 k_484 k_485 k_98 k_486) (by decide +kernel) ⟨Nat.le_of_ble_eq_true rfl, Nat.le_of_ble_eq_true rfl⟩ ⟨rfl, rfl⟩ [1, 2, 3] rfl rfl rfl rfl rfl rfl hl.1 (Nat.le_of_ble_eq_true rfl) dX2_readPiece_4 ⟨Nat.le_of_ble_eq_true rfl, Nat.le_of_ble_eq_true rfl⟩ (fun r_1 hr_1 => ?_)
  subst hr_1
  refine lv_topi (fun x_2 ex_2 => ?_)
  refine lv_istore_n (lv' := [(2, .int x_2), (0, .ref h0), (1, .int 4)]) hx hb dX2_readPiece_7 rfl hl (by decide) rfl (fun ls hl => ?_)
  refine lv_iload_n hx hb dX2_readPiece_8 rfl (lv_at hl 0 rfl) ?_
  refine lv_bipush (v := 33) hx hb dX2_readPiece_9 (by decide) ?_
  refine lv_icmp_ne (tgt := 41) hx hb dX2_readPiece_11 (by decide) (fun c_11 => ?_) (fun c_11 => ?_)
  · refine lv_iload_n hx hb dX2_readPiece_41 rfl (lv_at hl 0 rfl) ?_
    refine lv_bipush (v := 40) hx hb dX2_readPiece_42 (by decide) ?_
    refine lv_icmp_ne (tgt := 74) hx hb dX2_readPiece_44 (by decide) (fun c_44 => ?_) (fun c_44 => ?_)
    · refine lv_aload_n hx hb dX2_readPiece_74 rfl (lv_at hl 1 rfl) ?_
      refine lv_iload_n hx hb dX2_readPiece_75 rfl (lv_at hl 2 rfl) ?_
      refine cVVk (As := [.int 4]) (rest := []) (n := 1) (ci := 2) (q0 := 0) (wr := []) X hN hKO hK hP hD hS hA (c_readSum_4 l D cI cB _ kk h0 tx tp ed pl fa by_ T fb lw l1 l2 l3 l4 l5 l6 l7 z k q1 hT hz hk) (gV k_581 k_583 k_2 k_99 k_584) (by decide +kernel) ⟨Nat.le_of_ble_eq_true rfl, Nat.le_of_ble_eq_true rfl⟩ ⟨rfl, rfl⟩ [0, 1, 2, 3, 4, 5] [] rfl rfl (by decide) (by decide) rfl rfl rfl rfl rfl hl.1 (Nat.le_of_ble_eq_true rfl) dX2_readPiece_76 ⟨Nat.le_of_ble_eq_true rfl, Nat.le_of_ble_eq_true rfl⟩ (fun u H locs hw_8 hP hD hS => ?_)
      obtain ⟨plo_4, fao_5, zo_6, l1o_7⟩ := u
      try dsimp only at hw_8
      have hP : va_P D vwCl [(h0, .inr (2, [.ref tx, .ref lw])), (tx, .inr (6, [.ref tp, .int ed, .int plo_4, .int fao_5])), (tp, .inr (5, [.ref by_, .int (nI T)])), (by_, .inl (cI, 260, .inl fb)), (lw, .inr (1, [.ref l1, .ref l2, .ref l3, .ref l4, .ref l5, .ref l6, .ref l7, .int (nI zo_6), .int (nI k)])), (l1, .inl (cI, 240, .inl l1o_7))] H := hP
      have hD : va_D A [(h0, .inr (2, [.ref tx, .ref lw])), (tx, .inr (6, [.ref tp, .int ed, .int plo_4, .int fao_5])), (tp, .inr (5, [.ref by_, .int (nI T)])), (by_, .inl (cI, 260, .inl fb)), (lw, .inr (1, [.ref l1, .ref l2, .ref l3, .ref l4, .ref l5, .ref l6, .ref l7, .int (nI zo_6), .int (nI k)])), (l1, .inl (cI, 240, .inl l1o_7))] := hD
      refine lv_aload_n hx hb dX2_readPiece_79 rfl (lv_at hl 1 rfl) ?_
      refine cVI (As := []) (rest := []) (n := 0) (ci := 2) (q0 := 0) (wr := [(lw, .inr (1, [.ref l1, .ref l2, .ref l3, .ref l4, .ref l5, .ref l6, .ref l7, .int (nI zo_6), .int (nI k)])), (l1, .inl (cI, 240, .inl l1o_7))]) X hN hK hP hD hS hA (c_X2_comparison l D cI cB _ h0 lw tx tp ed plo_4 fao_5 by_ T fb hT) (gV k_640 k_642 k_10 k_99 k_643) (by decide +kernel) ⟨Nat.le_of_ble_eq_true rfl, Nat.le_of_ble_eq_true rfl⟩ ⟨rfl, rfl⟩ [0, 1, 2, 3] [4, 5] rfl rfl (by decide) (by decide) rfl rfl rfl rfl rfl hl.1 (Nat.le_of_ble_eq_true rfl) dX2_readPiece_80 ⟨Nat.le_of_ble_eq_true rfl, Nat.le_of_ble_eq_true rfl⟩ (fun r_9 u H locs hw_12 hP hD hS => ?_)
      obtain ⟨tx_2o_10, tx_3o_11⟩ := u
      try dsimp only at hw_12
      have hP : va_P D vwCl [(lw, .inr (1, [.ref l1, .ref l2, .ref l3, .ref l4, .ref l5, .ref l6, .ref l7, .int (nI zo_6), .int (nI k)])), (l1, .inl (cI, 240, .inl l1o_7)), (h0, .inr (2, [.ref tx, .ref lw])), (tx, .inr (6, [.ref tp, .int ed, .int tx_2o_10, .int tx_3o_11])), (tp, .inr (5, [.ref by_, .int (nI T)])), (by_, .inl (cI, 260, .inl fb))] H := hP
      have hD : va_D A [(lw, .inr (1, [.ref l1, .ref l2, .ref l3, .ref l4, .ref l5, .ref l6, .ref l7, .int (nI zo_6), .int (nI k)])), (l1, .inl (cI, 240, .inl l1o_7)), (h0, .inr (2, [.ref tx, .ref lw])), (tx, .inr (6, [.ref tp, .int ed, .int tx_2o_10, .int tx_3o_11])), (tp, .inr (5, [.ref by_, .int (nI T)])), (by_, .inl (cI, 260, .inl fb))] := hD
      refine lv_istore_n (lv' := [(3, .int r_9), (2, .int x_2), (0, .ref h0), (1, .int 4)]) hx hb dX2_readPiece_83 rfl hl (by decide) rfl (fun ls hl => ?_)
      refine lv_aload_n hx hb dX2_readPiece_84 rfl (lv_at hl 2 rfl) ?_
      refine lv_iload_n hx hb dX2_readPiece_85 rfl (lv_at hl 3 rfl) ?_
      refine cVVk (As := [.int 4]) (rest := []) (n := 1) (ci := 2) (q0 := 0) (wr := []) X hN hKO hK hP hD hS hA (c_readSum_4 l D cI cB _ kk h0 tx tp ed tx_2o_10 tx_3o_11 by_ T fb lw l1 l2 l3 l4 l5 l6 l7 zo_6 k l1o_7 hT hw_8 hk) (gV k_581 k_583 k_2 k_99 k_584) (by decide +kernel) ⟨Nat.le_of_ble_eq_true rfl, Nat.le_of_ble_eq_true rfl⟩ ⟨rfl, rfl⟩ [2, 3, 4, 5, 0, 1] [] rfl rfl (by decide) (by decide) rfl rfl rfl rfl rfl hl.1 (Nat.le_of_ble_eq_true rfl) dX2_readPiece_86 ⟨Nat.le_of_ble_eq_true rfl, Nat.le_of_ble_eq_true rfl⟩ (fun u H locs hw_18 hP hD hS => ?_)
      obtain ⟨plo_14, fao_15, zo_16, l1o_17⟩ := u
      try dsimp only at hw_18
      have hP : va_P D vwCl [(h0, .inr (2, [.ref tx, .ref lw])), (tx, .inr (6, [.ref tp, .int ed, .int plo_14, .int fao_15])), (tp, .inr (5, [.ref by_, .int (nI T)])), (by_, .inl (cI, 260, .inl fb)), (lw, .inr (1, [.ref l1, .ref l2, .ref l3, .ref l4, .ref l5, .ref l6, .ref l7, .int (nI zo_16), .int (nI k)])), (l1, .inl (cI, 240, .inl l1o_17))] H := hP
      have hD : va_D A [(h0, .inr (2, [.ref tx, .ref lw])), (tx, .inr (6, [.ref tp, .int ed, .int plo_14, .int fao_15])), (tp, .inr (5, [.ref by_, .int (nI T)])), (by_, .inl (cI, 260, .inl fb)), (lw, .inr (1, [.ref l1, .ref l2, .ref l3, .ref l4, .ref l5, .ref l6, .ref l7, .int (nI zo_16), .int (nI k)])), (l1, .inl (cI, 240, .inl l1o_17))] := hD
      refine lv_aload_n hx hb dX2_readPiece_89 rfl (lv_at hl 2 rfl) ?_
      refine va_get (D := D) (ci := 2) (v := .ref lw) (C := RX2) (T := TX2) (N := 2) hx hb htb itX2 hown hK hP 0 rfl rfl 1 (by decide) (htb _ k_289) (fun _ h9 => h9) rfl dX2_readPiece_90 ?_
      refine lv_iload_n hx hb dX2_readPiece_93 rfl (lv_at hl 0 rfl) ?_
      refine lv_iconst (v := 0) hx hb dX2_readPiece_94 (by decide) ?_
      refine cVV (As := [.int r_9, .int 0]) (rest := []) (n := 2) (ci := 1) (q0 := 0) (wr := [(h0, .inr (2, [.ref tx, .ref lw])), (tx, .inr (6, [.ref tp, .int ed, .int plo_14, .int fao_15])), (tp, .inr (5, [.ref by_, .int (nI T)])), (by_, .inl (cI, 260, .inl fb))]) X hN hK hP hD hS hA (c_X1_addStep l D cI cB _ lw l1 l2 l3 l4 l5 l6 l7 zo_16 k r_9 0 l1o_17 hw_18 hk) (gV k_594 k_595 k_596 k_97 k_597) (by decide +kernel) ⟨Nat.le_of_ble_eq_true rfl, Nat.le_of_ble_eq_true rfl⟩ ⟨rfl, rfl⟩ [4, 5] [0, 1, 2, 3] rfl rfl (by decide) (by decide) rfl rfl rfl rfl rfl hl.1 (Nat.le_of_ble_eq_true rfl) dX2_readPiece_95 ⟨Nat.le_of_ble_eq_true rfl, Nat.le_of_ble_eq_true rfl⟩ (fun u H locs hw_22 hP hD hS => ?_)
      obtain ⟨zo_20, l1_fo_21⟩ := u
      try dsimp only at hw_22
      have hP : va_P D vwCl [(h0, .inr (2, [.ref tx, .ref lw])), (tx, .inr (6, [.ref tp, .int ed, .int plo_14, .int fao_15])), (tp, .inr (5, [.ref by_, .int (nI T)])), (by_, .inl (cI, 260, .inl fb)), (lw, .inr (1, [.ref l1, .ref l2, .ref l3, .ref l4, .ref l5, .ref l6, .ref l7, .int (nI zo_20), .int (nI k)])), (l1, .inl (cI, 240, .inl l1_fo_21))] H := hP
      have hD : va_D A [(h0, .inr (2, [.ref tx, .ref lw])), (tx, .inr (6, [.ref tp, .int ed, .int plo_14, .int fao_15])), (tp, .inr (5, [.ref by_, .int (nI T)])), (by_, .inl (cI, 260, .inl fb)), (lw, .inr (1, [.ref l1, .ref l2, .ref l3, .ref l4, .ref l5, .ref l6, .ref l7, .int (nI zo_20), .int (nI k)])), (l1, .inl (cI, 240, .inl l1_fo_21))] := hD
      exact ret _ _ _ _ (plo_14, fao_15, zo_20, l1_fo_21) dX2_readPiece_98 hw_22 (hP.sub [0, 1, 2, 3, 4, 5] rfl) (hD.sub [0, 1, 2, 3, 4, 5] (by decide) rfl) hS
    · refine lv_aload_n hx hb dX2_readPiece_47 rfl (lv_at hl 1 rfl) ?_
      refine lv_iload_n hx hb dX2_readPiece_48 rfl (lv_at hl 2 rfl) ?_
      refine cVI (As := [.int 4]) (rest := []) (n := 1) (ci := 2) (q0 := 0) (wr := [(tp, .inr (5, [.ref by_, .int (nI T)])), (by_, .inl (cI, 260, .inl fb)), (lw, .inr (1, [.ref l1, .ref l2, .ref l3, .ref l4, .ref l5, .ref l6, .ref l7, .int (nI z), .int (nI k)])), (l1, .inl (cI, 240, .inl q1))]) X hN hK hP hD hS hA (c_X2_opens l D cI cB _ h0 lw tx tp ed pl fa 4) (gV k_598 k_600 k_5 k_99 k_601) (by decide +kernel) ⟨Nat.le_of_ble_eq_true rfl, Nat.le_of_ble_eq_true rfl⟩ ⟨rfl, rfl⟩ [0, 1] [2, 3, 4, 5] rfl rfl (by decide) (by decide) rfl rfl rfl rfl rfl hl.1 (Nat.le_of_ble_eq_true rfl) dX2_readPiece_49 ⟨Nat.le_of_ble_eq_true rfl, Nat.le_of_ble_eq_true rfl⟩ (fun r_23 u H locs hw_26 hP hD hS => ?_)
      obtain ⟨tx_2o_24, tx_3o_25⟩ := u
      try dsimp only at hw_26
      have hP : va_P D vwCl [(tp, .inr (5, [.ref by_, .int (nI T)])), (by_, .inl (cI, 260, .inl fb)), (lw, .inr (1, [.ref l1, .ref l2, .ref l3, .ref l4, .ref l5, .ref l6, .ref l7, .int (nI z), .int (nI k)])), (l1, .inl (cI, 240, .inl q1)), (h0, .inr (2, [.ref tx, .ref lw])), (tx, .inr (6, [.ref tp, .int ed, .int tx_2o_24, .int tx_3o_25]))] H := hP
      have hD : va_D A [(tp, .inr (5, [.ref by_, .int (nI T)])), (by_, .inl (cI, 260, .inl fb)), (lw, .inr (1, [.ref l1, .ref l2, .ref l3, .ref l4, .ref l5, .ref l6, .ref l7, .int (nI z), .int (nI k)])), (l1, .inl (cI, 240, .inl q1)), (h0, .inr (2, [.ref tx, .ref lw])), (tx, .inr (6, [.ref tp, .int ed, .int tx_2o_24, .int tx_3o_25]))] := hD
      obtain rfl : r_23 = 1 := hw_26.trans (by decide)
      refine lv_if_eq (tgt := 98) hx hb dX2_readPiece_52 (by decide) (fun c_52 => absurd c_52 (by decide)) (fun _ => ?_)
      refine lv_aload_n hx hb dX2_readPiece_55 rfl (lv_at hl 1 rfl) ?_
      refine lv_iload_n hx hb dX2_readPiece_56 rfl (lv_at hl 2 rfl) ?_
      refine lv_iconst (v := 1) hx hb dX2_readPiece_57 (by decide) ?_
      refine lv_iadd hx hb dX2_readPiece_58 ?_
      refine tv (z := 5) (by decide) ?_
      refine cVVk (As := [.int 5]) (rest := []) (n := 1) (ci := 2) (q0 := 0) (wr := []) X hN hKO hK hP hD hS hA (c_readChoice_5 l D cI cB _ kk h0 tx tp ed tx_2o_24 tx_3o_25 by_ T fb lw l1 l2 l3 l4 l5 l6 l7 z k q1 hT hz hk) (gV k_628 k_630 k_7 k_99 k_631) (by decide +kernel) ⟨Nat.le_of_ble_eq_true rfl, Nat.le_of_ble_eq_true rfl⟩ ⟨rfl, rfl⟩ [4, 5, 0, 1, 2, 3] [] rfl rfl (by decide) (by decide) rfl rfl rfl rfl rfl hl.1 (Nat.le_of_ble_eq_true rfl) dX2_readPiece_59 ⟨Nat.le_of_ble_eq_true rfl, Nat.le_of_ble_eq_true rfl⟩ (fun u H locs hw_32 hP hD hS => ?_)
      obtain ⟨plo_28, fao_29, zo_30, l1o_31⟩ := u
      try dsimp only at hw_32
      have hP : va_P D vwCl [(h0, .inr (2, [.ref tx, .ref lw])), (tx, .inr (6, [.ref tp, .int ed, .int plo_28, .int fao_29])), (tp, .inr (5, [.ref by_, .int (nI T)])), (by_, .inl (cI, 260, .inl fb)), (lw, .inr (1, [.ref l1, .ref l2, .ref l3, .ref l4, .ref l5, .ref l6, .ref l7, .int (nI zo_30), .int (nI k)])), (l1, .inl (cI, 240, .inl l1o_31))] H := hP
      have hD : va_D A [(h0, .inr (2, [.ref tx, .ref lw])), (tx, .inr (6, [.ref tp, .int ed, .int plo_28, .int fao_29])), (tp, .inr (5, [.ref by_, .int (nI T)])), (by_, .inl (cI, 260, .inl fb)), (lw, .inr (1, [.ref l1, .ref l2, .ref l3, .ref l4, .ref l5, .ref l6, .ref l7, .int (nI zo_30), .int (nI k)])), (l1, .inl (cI, 240, .inl l1o_31))] := hD
      refine lv_aload_n hx hb dX2_readPiece_62 rfl (lv_at hl 1 rfl) ?_
      refine va_get (D := D) (ci := 2) (v := .ref tx) (C := RX2) (T := TX2) (N := 2) hx hb htb itX2 hown hK hP 0 rfl rfl 0 (by decide) (htb _ k_288) (fun _ h9 => h9) rfl dX2_readPiece_63 ?_
      refine lv_bipush (v := 41) hx hb dX2_readPiece_66 (by decide) ?_
      refine cVV (As := [.int 41]) (rest := []) (n := 1) (ci := 6) (q0 := 0) (wr := [(h0, .inr (2, [.ref tx, .ref lw])), (lw, .inr (1, [.ref l1, .ref l2, .ref l3, .ref l4, .ref l5, .ref l6, .ref l7, .int (nI zo_30), .int (nI k)])), (l1, .inl (cI, 240, .inl l1o_31))]) X hN hK hP hD hS hA (c_X6_expect l D cI cB _ tx tp ed plo_28 fao_29 by_ T fb 41 hT) (gV k_602 k_603 k_604 k_98 k_605) (by decide +kernel) ⟨Nat.le_of_ble_eq_true rfl, Nat.le_of_ble_eq_true rfl⟩ ⟨rfl, rfl⟩ [1, 2, 3] [0, 4, 5] rfl rfl (by decide) (by decide) rfl rfl rfl rfl rfl hl.1 (Nat.le_of_ble_eq_true rfl) dX2_readPiece_68 ⟨Nat.le_of_ble_eq_true rfl, Nat.le_of_ble_eq_true rfl⟩ (fun u H locs hw_36 hP hD hS => ?_)
      obtain ⟨h0_2o_34, h0_3o_35⟩ := u
      try dsimp only at hw_36
      have hP : va_P D vwCl [(h0, .inr (2, [.ref tx, .ref lw])), (lw, .inr (1, [.ref l1, .ref l2, .ref l3, .ref l4, .ref l5, .ref l6, .ref l7, .int (nI zo_30), .int (nI k)])), (l1, .inl (cI, 240, .inl l1o_31)), (tx, .inr (6, [.ref tp, .int ed, .int h0_2o_34, .int h0_3o_35])), (tp, .inr (5, [.ref by_, .int (nI T)])), (by_, .inl (cI, 260, .inl fb))] H := hP
      have hD : va_D A [(h0, .inr (2, [.ref tx, .ref lw])), (lw, .inr (1, [.ref l1, .ref l2, .ref l3, .ref l4, .ref l5, .ref l6, .ref l7, .int (nI zo_30), .int (nI k)])), (l1, .inl (cI, 240, .inl l1o_31)), (tx, .inr (6, [.ref tp, .int ed, .int h0_2o_34, .int h0_3o_35])), (tp, .inr (5, [.ref by_, .int (nI T)])), (by_, .inl (cI, 260, .inl fb))] := hD
      refine lv_goto (tgt := 98) hx hb dX2_readPiece_71 (by decide) ?_
      exact ret _ _ _ _ (h0_2o_34, h0_3o_35, zo_30, l1o_31) dX2_readPiece_98 hw_32 (hP.sub [0, 3, 4, 5, 1, 2] rfl) (hD.sub [0, 3, 4, 5, 1, 2] (by decide) rfl) hS
  · refine lv_aload_n hx hb dX2_readPiece_14 rfl (lv_at hl 1 rfl) ?_
    refine lv_iload_n hx hb dX2_readPiece_15 rfl (lv_at hl 2 rfl) ?_
    refine cVI (As := [.int 4]) (rest := []) (n := 1) (ci := 2) (q0 := 0) (wr := [(tp, .inr (5, [.ref by_, .int (nI T)])), (by_, .inl (cI, 260, .inl fb)), (lw, .inr (1, [.ref l1, .ref l2, .ref l3, .ref l4, .ref l5, .ref l6, .ref l7, .int (nI z), .int (nI k)])), (l1, .inl (cI, 240, .inl q1))]) X hN hK hP hD hS hA (c_X2_opens l D cI cB _ h0 lw tx tp ed pl fa 4) (gV k_598 k_600 k_5 k_99 k_601) (by decide +kernel) ⟨Nat.le_of_ble_eq_true rfl, Nat.le_of_ble_eq_true rfl⟩ ⟨rfl, rfl⟩ [0, 1] [2, 3, 4, 5] rfl rfl (by decide) (by decide) rfl rfl rfl rfl rfl hl.1 (Nat.le_of_ble_eq_true rfl) dX2_readPiece_16 ⟨Nat.le_of_ble_eq_true rfl, Nat.le_of_ble_eq_true rfl⟩ (fun r_37 u H locs hw_40 hP hD hS => ?_)
    obtain ⟨tx_2o_38, tx_3o_39⟩ := u
    try dsimp only at hw_40
    have hP : va_P D vwCl [(tp, .inr (5, [.ref by_, .int (nI T)])), (by_, .inl (cI, 260, .inl fb)), (lw, .inr (1, [.ref l1, .ref l2, .ref l3, .ref l4, .ref l5, .ref l6, .ref l7, .int (nI z), .int (nI k)])), (l1, .inl (cI, 240, .inl q1)), (h0, .inr (2, [.ref tx, .ref lw])), (tx, .inr (6, [.ref tp, .int ed, .int tx_2o_38, .int tx_3o_39]))] H := hP
    have hD : va_D A [(tp, .inr (5, [.ref by_, .int (nI T)])), (by_, .inl (cI, 260, .inl fb)), (lw, .inr (1, [.ref l1, .ref l2, .ref l3, .ref l4, .ref l5, .ref l6, .ref l7, .int (nI z), .int (nI k)])), (l1, .inl (cI, 240, .inl q1)), (h0, .inr (2, [.ref tx, .ref lw])), (tx, .inr (6, [.ref tp, .int ed, .int tx_2o_38, .int tx_3o_39]))] := hD
    obtain rfl : r_37 = 1 := hw_40.trans (by decide)
    refine lv_if_eq (tgt := 98) hx hb dX2_readPiece_19 (by decide) (fun c_19 => absurd c_19 (by decide)) (fun _ => ?_)
    refine lv_aload_n hx hb dX2_readPiece_22 rfl (lv_at hl 1 rfl) ?_
    refine lv_iload_n hx hb dX2_readPiece_23 rfl (lv_at hl 2 rfl) ?_
    refine lv_iconst (v := 1) hx hb dX2_readPiece_24 (by decide) ?_
    refine lv_iadd hx hb dX2_readPiece_25 ?_
    refine tv (z := 5) (by decide) ?_
    refine cVVk (As := [.int 5]) (rest := []) (n := 1) (ci := 2) (q0 := 0) (wr := []) X hN hKO hK hP hD hS hA (c_readPiece_5 l D cI cB _ kk h0 tx tp ed tx_2o_38 tx_3o_39 by_ T fb lw l1 l2 l3 l4 l5 l6 l7 z k q1 hT hz hk) (gV k_636 k_638 k_9 k_99 k_639) (by decide +kernel) ⟨Nat.le_of_ble_eq_true rfl, Nat.le_of_ble_eq_true rfl⟩ ⟨rfl, rfl⟩ [4, 5, 0, 1, 2, 3] [] rfl rfl (by decide) (by decide) rfl rfl rfl rfl rfl hl.1 (Nat.le_of_ble_eq_true rfl) dX2_readPiece_26 ⟨Nat.le_of_ble_eq_true rfl, Nat.le_of_ble_eq_true rfl⟩ (fun u H locs hw_46 hP hD hS => ?_)
    obtain ⟨plo_42, fao_43, zo_44, l1o_45⟩ := u
    try dsimp only at hw_46
    have hP : va_P D vwCl [(h0, .inr (2, [.ref tx, .ref lw])), (tx, .inr (6, [.ref tp, .int ed, .int plo_42, .int fao_43])), (tp, .inr (5, [.ref by_, .int (nI T)])), (by_, .inl (cI, 260, .inl fb)), (lw, .inr (1, [.ref l1, .ref l2, .ref l3, .ref l4, .ref l5, .ref l6, .ref l7, .int (nI zo_44), .int (nI k)])), (l1, .inl (cI, 240, .inl l1o_45))] H := hP
    have hD : va_D A [(h0, .inr (2, [.ref tx, .ref lw])), (tx, .inr (6, [.ref tp, .int ed, .int plo_42, .int fao_43])), (tp, .inr (5, [.ref by_, .int (nI T)])), (by_, .inl (cI, 260, .inl fb)), (lw, .inr (1, [.ref l1, .ref l2, .ref l3, .ref l4, .ref l5, .ref l6, .ref l7, .int (nI zo_44), .int (nI k)])), (l1, .inl (cI, 240, .inl l1o_45))] := hD
    refine lv_aload_n hx hb dX2_readPiece_29 rfl (lv_at hl 1 rfl) ?_
    refine va_get (D := D) (ci := 2) (v := .ref lw) (C := RX2) (T := TX2) (N := 2) hx hb htb itX2 hown hK hP 0 rfl rfl 1 (by decide) (htb _ k_289) (fun _ h9 => h9) rfl dX2_readPiece_30 ?_
    refine lv_iconst (v := 2) hx hb dX2_readPiece_33 (by decide) ?_
    refine lv_iconst (v := 0) hx hb dX2_readPiece_34 (by decide) ?_
    refine cVV (As := [.int 2, .int 0]) (rest := []) (n := 2) (ci := 1) (q0 := 0) (wr := [(h0, .inr (2, [.ref tx, .ref lw])), (tx, .inr (6, [.ref tp, .int ed, .int plo_42, .int fao_43])), (tp, .inr (5, [.ref by_, .int (nI T)])), (by_, .inl (cI, 260, .inl fb))]) X hN hK hP hD hS hA (c_X1_addStep l D cI cB _ lw l1 l2 l3 l4 l5 l6 l7 zo_44 k 2 0 l1o_45 hw_46 hk) (gV k_594 k_595 k_596 k_97 k_597) (by decide +kernel) ⟨Nat.le_of_ble_eq_true rfl, Nat.le_of_ble_eq_true rfl⟩ ⟨rfl, rfl⟩ [4, 5] [0, 1, 2, 3] rfl rfl (by decide) (by decide) rfl rfl rfl rfl rfl hl.1 (Nat.le_of_ble_eq_true rfl) dX2_readPiece_35 ⟨Nat.le_of_ble_eq_true rfl, Nat.le_of_ble_eq_true rfl⟩ (fun u H locs hw_50 hP hD hS => ?_)
    obtain ⟨zo_48, l1_fo_49⟩ := u
    try dsimp only at hw_50
    have hP : va_P D vwCl [(h0, .inr (2, [.ref tx, .ref lw])), (tx, .inr (6, [.ref tp, .int ed, .int plo_42, .int fao_43])), (tp, .inr (5, [.ref by_, .int (nI T)])), (by_, .inl (cI, 260, .inl fb)), (lw, .inr (1, [.ref l1, .ref l2, .ref l3, .ref l4, .ref l5, .ref l6, .ref l7, .int (nI zo_48), .int (nI k)])), (l1, .inl (cI, 240, .inl l1_fo_49))] H := hP
    have hD : va_D A [(h0, .inr (2, [.ref tx, .ref lw])), (tx, .inr (6, [.ref tp, .int ed, .int plo_42, .int fao_43])), (tp, .inr (5, [.ref by_, .int (nI T)])), (by_, .inl (cI, 260, .inl fb)), (lw, .inr (1, [.ref l1, .ref l2, .ref l3, .ref l4, .ref l5, .ref l6, .ref l7, .int (nI zo_48), .int (nI k)])), (l1, .inl (cI, 240, .inl l1_fo_49))] := hD
    refine lv_goto (tgt := 98) hx hb dX2_readPiece_38 (by decide) ?_
    exact ret _ _ _ _ (plo_42, fao_43, zo_48, l1_fo_49) dX2_readPiece_98 hw_50 (hP.sub [0, 1, 2, 3, 4, 5] rfl) (hD.sub [0, 1, 2, 3, 4, 5] (by decide) rfl) hS

set_option maxRecDepth 100000 in
set_option maxHeartbeats 4000000 in
theorem c_readPart_4 (l : Launch) (D : va_G) (cI cB : ClassId) (sz : Nat) (kk : KT) (h0 : Nat) (tx : Nat) (tp : Nat) (ed : Int32) (pl : Int32) (fa : Int32) (by_ : Nat) (T : Nat) (fb : Nat → Int32) (lw : Nat) (l1 : Nat) (l2 : Nat) (l3 : Nat) (l4 : Nat) (l5 : Nat) (l6 : Nat) (l7 : Nat) (z : Nat) (k : Nat) (q1 : Nat → Int32) (hT : T ≤ 260) (hz : z ≤ 240) (hk : k ≤ 16) : MVk (S := ((Int32) × (Int32) × (Nat) × (Nat → Int32))) l D cI cB kk yX2_readPart cX2_readPart 4 (rm 15 342) [.ref h0, .int 4] [(h0, .inr (2, [.ref tx, .ref lw])), (tx, .inr (6, [.ref tp, .int ed, .int pl, .int fa])), (tp, .inr (5, [.ref by_, .int (nI T)])), (by_, .inl (cI, 260, .inl fb)), (lw, .inr (1, [.ref l1, .ref l2, .ref l3, .ref l4, .ref l5, .ref l6, .ref l7, .int (nI z), .int (nI k)])), (l1, .inl (cI, 240, .inl q1))] sz (fun u => u.2.2.1 ≤ 240) (fun u : ((Int32) × (Int32) × (Nat) × (Nat → Int32)) => [(h0, .inr (2, [.ref tx, .ref lw])), (tx, .inr (6, [.ref tp, .int ed, .int u.1, .int u.2.1])), (tp, .inr (5, [.ref by_, .int (nI T)])), (by_, .inl (cI, 260, .inl fb)), (lw, .inr (1, [.ref l1, .ref l2, .ref l3, .ref l4, .ref l5, .ref l6, .ref l7, .int (nI u.2.2.1), .int (nI k)])), (l1, .inl (cI, 240, .inl u.2.2.2))]) := by
  refine MVk.of (by decide) (Nat.le_of_ble_eq_true rfl) ?_
  intro p e s m below meth c Q ls A X hin hN hKO hP hK hD hA hl ret
  have hS : va_S A s.heap s.heap [] := va_S.rf
  obtain ⟨hx, hb, hml, hown, htb⟩ := id X
  have hl : lv_has ls 4 [(0, .ref h0), (1, .int 4)] := hl
  refine lv_aload_n hx hb dX2_readPart_0 rfl (lv_at hl 0 rfl) ?_
  refine lv_iload_n hx hb dX2_readPart_1 rfl (lv_at hl 1 rfl) ?_
  refine cVVk (As := [.int 4]) (rest := []) (n := 1) (ci := 2) (q0 := 0) (wr := []) X hN hKO hK hP hD hS hA (c_readPiece_4 l D cI cB _ kk h0 tx tp ed pl fa by_ T fb lw l1 l2 l3 l4 l5 l6 l7 z k q1 hT hz hk) (gV k_636 k_638 k_9 k_99 k_639) (by decide +kernel) ⟨Nat.le_of_ble_eq_true rfl, Nat.le_of_ble_eq_true rfl⟩ ⟨rfl, rfl⟩ [0, 1, 2, 3, 4, 5] [] rfl rfl (by decide) (by decide) rfl rfl rfl rfl rfl hl.1 (Nat.le_of_ble_eq_true rfl) dX2_readPart_2 ⟨Nat.le_of_ble_eq_true rfl, Nat.le_of_ble_eq_true rfl⟩ (fun u H locs hw_6 hP hD hS => ?_)
  obtain ⟨plo_2, fao_3, zo_4, l1o_5⟩ := u
  try dsimp only at hw_6
  have hP : va_P D vwCl [(h0, .inr (2, [.ref tx, .ref lw])), (tx, .inr (6, [.ref tp, .int ed, .int plo_2, .int fao_3])), (tp, .inr (5, [.ref by_, .int (nI T)])), (by_, .inl (cI, 260, .inl fb)), (lw, .inr (1, [.ref l1, .ref l2, .ref l3, .ref l4, .ref l5, .ref l6, .ref l7, .int (nI zo_4), .int (nI k)])), (l1, .inl (cI, 240, .inl l1o_5))] H := hP
  have hD : va_D A [(h0, .inr (2, [.ref tx, .ref lw])), (tx, .inr (6, [.ref tp, .int ed, .int plo_2, .int fao_3])), (tp, .inr (5, [.ref by_, .int (nI T)])), (by_, .inl (cI, 260, .inl fb)), (lw, .inr (1, [.ref l1, .ref l2, .ref l3, .ref l4, .ref l5, .ref l6, .ref l7, .int (nI zo_4), .int (nI k)])), (l1, .inl (cI, 240, .inl l1o_5))] := hD
  refine lv_iconst (v := 0) hx hb dX2_readPart_5 (by decide) ?_
  refine lv_istore_n (lv' := [(2, .int 0), (0, .ref h0), (1, .int 4)]) hx hb dX2_readPart_6 rfl hl (by decide) rfl (fun ls hl => ?_)
  have loop_7 : ∀ (n i : Nat) (pa : Int32) (fb_ : Int32) (za : Nat) (qa : Nat → Int32), n + i = 240 → (za ≤ 240) → ∀ (H : Heap) (locs : List Loc), va_P D vwCl [(h0, .inr (2, [.ref tx, .ref lw])), (tx, .inr (6, [.ref tp, .int ed, .int pa, .int fb_])), (tp, .inr (5, [.ref by_, .int (nI T)])), (by_, .inl (cI, 260, .inl fb)), (lw, .inr (1, [.ref l1, .ref l2, .ref l3, .ref l4, .ref l5, .ref l6, .ref l7, .int (nI za), .int (nI k)])), (l1, .inl (cI, 240, .inl qa))] H → va_D A [(h0, .inr (2, [.ref tx, .ref lw])), (tx, .inr (6, [.ref tp, .int ed, .int pa, .int fb_])), (tp, .inr (5, [.ref by_, .int (nI T)])), (by_, .inl (cI, 260, .inl fb)), (lw, .inr (1, [.ref l1, .ref l2, .ref l3, .ref l4, .ref l5, .ref l6, .ref l7, .int (nI za), .int (nI k)])), (l1, .inl (cI, 240, .inl qa))] → va_S A s.heap H locs → ∀ (ls : Array Slot), lv_has ls 4 [(0, .ref h0), (1, .int 4), (2, .int (nI i))] → W p l e (rm 15 342) s m ([.ref h0, .int 4] : List Value).toArray below meth c H locs 0 0 Q (F0 m 7 ls []) := by
    intro n
    induction n with
    | zero =>
      intro i pa fb_ za qa hni hza H locs hP hD hS ls hl
      have hni_7 := hni
      have hi : i = 240 := by omega
      refine lv_iload_n hx hb dX2_readPart_7 rfl (lv_at hl 2 rfl) ?_
      refine lv_sipush (v := 240) hx hb dX2_readPart_8 (by decide) ?_
      refine lv_icmp_ge (tgt := 62) hx hb dX2_readPart_11 (by decide) (fun _ => ?_) (fun c_11 => absurd (by rw [hi]; decide) c_11)
      exact ret _ _ _ _ (pa, fb_, za, qa) dX2_readPart_62 hza (hP.sub [0, 1, 2, 3, 4, 5] rfl) (hD.sub [0, 1, 2, 3, 4, 5] (by decide) rfl) hS
    | succ n ih_7 =>
      intro i pa fb_ za qa hni hza H locs hP hD hS ls hl
      have hni_7 := hni
      have hi : i < 240 := by omega
      refine lv_iload_n hx hb dX2_readPart_7 rfl (lv_at hl 2 rfl) ?_
      refine lv_sipush (v := 240) hx hb dX2_readPart_8 (by decide) ?_
      refine lv_icmp_ge (tgt := 62) hx hb dX2_readPart_11 (by decide) (fun c_11 => absurd c_11 (nI_ge hi (by decide))) (fun _ => ?_)
      refine lv_aload_n hx hb dX2_readPart_14 rfl (lv_at hl 0 rfl) ?_
      refine va_get (D := D) (ci := 2) (v := .ref tx) (C := RX2) (T := TX2) (N := 2) hx hb htb itX2 hown hK hP 0 rfl rfl 0 (by decide) (htb _ k_288) (fun _ h9 => h9) rfl dX2_readPart_15 ?_
      refine lv_bipush (v := 38) hx hb dX2_readPart_18 (by decide) ?_
      refine cVI (As := [.int 38]) (rest := []) (n := 1) (ci := 6) (q0 := 0) (wr := [(h0, .inr (2, [.ref tx, .ref lw])), (lw, .inr (1, [.ref l1, .ref l2, .ref l3, .ref l4, .ref l5, .ref l6, .ref l7, .int (nI za), .int (nI k)])), (l1, .inl (cI, 240, .inl qa))]) X hN hK hP hD hS hA (c_X6_skip l D cI cB _ tx tp ed pa fb_ by_ T fb 38 hT) (gV k_644 k_607 k_608 k_98 k_609) (by decide +kernel) ⟨Nat.le_of_ble_eq_true rfl, Nat.le_of_ble_eq_true rfl⟩ ⟨rfl, rfl⟩ [1, 2, 3] [0, 4, 5] rfl rfl (by decide) (by decide) rfl rfl rfl rfl rfl hl.1 (Nat.le_of_ble_eq_true rfl) dX2_readPart_20 ⟨Nat.le_of_ble_eq_true rfl, Nat.le_of_ble_eq_true rfl⟩ (fun r_7 u H locs hw_9 hP hD hS => ?_)
      obtain ⟨h0_2o_8, rfl⟩ : ∃ z, z = u := ⟨_, rfl⟩
      try dsimp only at hw_9
      have hP : va_P D vwCl [(h0, .inr (2, [.ref tx, .ref lw])), (lw, .inr (1, [.ref l1, .ref l2, .ref l3, .ref l4, .ref l5, .ref l6, .ref l7, .int (nI za), .int (nI k)])), (l1, .inl (cI, 240, .inl qa)), (tx, .inr (6, [.ref tp, .int ed, .int h0_2o_8, .int fb_])), (tp, .inr (5, [.ref by_, .int (nI T)])), (by_, .inl (cI, 260, .inl fb))] H := hP
      have hD : va_D A [(h0, .inr (2, [.ref tx, .ref lw])), (lw, .inr (1, [.ref l1, .ref l2, .ref l3, .ref l4, .ref l5, .ref l6, .ref l7, .int (nI za), .int (nI k)])), (l1, .inl (cI, 240, .inl qa)), (tx, .inr (6, [.ref tp, .int ed, .int h0_2o_8, .int fb_])), (tp, .inr (5, [.ref by_, .int (nI T)])), (by_, .inl (cI, 260, .inl fb))] := hD
      refine lv_if_eq (tgt := 62) hx hb dX2_readPart_23 (by decide) (fun c_23 => ?_) (fun c_23 => ?_)
      · exact ret _ _ _ _ (h0_2o_8, fb_, za, qa) dX2_readPart_62 hza (hP.sub [0, 3, 4, 5, 1, 2] rfl) (hD.sub [0, 3, 4, 5, 1, 2] (by decide) rfl) hS
      · refine lv_aload_n hx hb dX2_readPart_26 rfl (lv_at hl 0 rfl) ?_
        refine va_get (D := D) (ci := 2) (v := .ref lw) (C := RX2) (T := TX2) (N := 2) hx hb htb itX2 hown hK hP 0 rfl rfl 1 (by decide) (htb _ k_289) (fun _ h9 => h9) rfl dX2_readPart_27 ?_
        refine va_getN (D := D) (ci := 1) (v := .int (nI za)) (C := RX1) (T := TX1) (N := 9) hx hb htb itX1 hown hK hP 1 rfl rfl 7 (by decide) (va_Nw.use rfl (hN _ n_232 rfl)) (fun _ h9 => h9) rfl dX2_readPart_30 ?_
        refine lv_istore_n (lv' := [(3, .int (nI za)), (0, .ref h0), (1, .int 4), (2, .int (nI i))]) hx hb dX2_readPart_33 rfl hl (by decide) rfl (fun ls hl => ?_)
        refine lv_aload_n hx hb dX2_readPart_34 rfl (lv_at hl 1 rfl) ?_
        refine va_get (D := D) (ci := 2) (v := .ref lw) (C := RX2) (T := TX2) (N := 2) hx hb htb itX2 hown hK hP 0 rfl rfl 1 (by decide) (htb _ k_289) (fun _ h9 => h9) rfl dX2_readPart_35 ?_
        refine lv_iconst (v := 4) hx hb dX2_readPart_38 (by decide) ?_
        refine lv_iconst (v := 0) hx hb dX2_readPart_39 (by decide) ?_
        refine cVV (As := [.int 4, .int 0]) (rest := []) (n := 2) (ci := 1) (q0 := 0) (wr := [(h0, .inr (2, [.ref tx, .ref lw])), (tx, .inr (6, [.ref tp, .int ed, .int h0_2o_8, .int fb_])), (tp, .inr (5, [.ref by_, .int (nI T)])), (by_, .inl (cI, 260, .inl fb))]) X hN hK hP hD hS hA (c_X1_addStep l D cI cB _ lw l1 l2 l3 l4 l5 l6 l7 za k 4 0 qa hza hk) (gV k_594 k_595 k_596 k_97 k_597) (by decide +kernel) ⟨Nat.le_of_ble_eq_true rfl, Nat.le_of_ble_eq_true rfl⟩ ⟨rfl, rfl⟩ [1, 2] [0, 3, 4, 5] rfl rfl (by decide) (by decide) rfl rfl rfl rfl rfl hl.1 (Nat.le_of_ble_eq_true rfl) dX2_readPart_40 ⟨Nat.le_of_ble_eq_true rfl, Nat.le_of_ble_eq_true rfl⟩ (fun u H locs hw_13 hP hD hS => ?_)
        obtain ⟨zo_11, l1_fo_12⟩ := u
        try dsimp only at hw_13
        have hP : va_P D vwCl [(h0, .inr (2, [.ref tx, .ref lw])), (tx, .inr (6, [.ref tp, .int ed, .int h0_2o_8, .int fb_])), (tp, .inr (5, [.ref by_, .int (nI T)])), (by_, .inl (cI, 260, .inl fb)), (lw, .inr (1, [.ref l1, .ref l2, .ref l3, .ref l4, .ref l5, .ref l6, .ref l7, .int (nI zo_11), .int (nI k)])), (l1, .inl (cI, 240, .inl l1_fo_12))] H := hP
        have hD : va_D A [(h0, .inr (2, [.ref tx, .ref lw])), (tx, .inr (6, [.ref tp, .int ed, .int h0_2o_8, .int fb_])), (tp, .inr (5, [.ref by_, .int (nI T)])), (by_, .inl (cI, 260, .inl fb)), (lw, .inr (1, [.ref l1, .ref l2, .ref l3, .ref l4, .ref l5, .ref l6, .ref l7, .int (nI zo_11), .int (nI k)])), (l1, .inl (cI, 240, .inl l1_fo_12))] := hD
        refine lv_aload_n hx hb dX2_readPart_43 rfl (lv_at hl 1 rfl) ?_
        refine lv_iload_n hx hb dX2_readPart_44 rfl (lv_at hl 2 rfl) ?_
        refine cVVk (As := [.int 4]) (rest := []) (n := 1) (ci := 2) (q0 := 0) (wr := []) X hN hKO hK hP hD hS hA (c_readPiece_4 l D cI cB _ kk h0 tx tp ed h0_2o_8 fb_ by_ T fb lw l1 l2 l3 l4 l5 l6 l7 zo_11 k l1_fo_12 hT hw_13 hk) (gV k_636 k_638 k_9 k_99 k_639) (by decide +kernel) ⟨Nat.le_of_ble_eq_true rfl, Nat.le_of_ble_eq_true rfl⟩ ⟨rfl, rfl⟩ [0, 1, 2, 3, 4, 5] [] rfl rfl (by decide) (by decide) rfl rfl rfl rfl rfl hl.1 (Nat.le_of_ble_eq_true rfl) dX2_readPart_45 ⟨Nat.le_of_ble_eq_true rfl, Nat.le_of_ble_eq_true rfl⟩ (fun u H locs hw_19 hP hD hS => ?_)
        obtain ⟨plo_15, fao_16, zo_17, l1o_18⟩ := u
        try dsimp only at hw_19
        have hP : va_P D vwCl [(h0, .inr (2, [.ref tx, .ref lw])), (tx, .inr (6, [.ref tp, .int ed, .int plo_15, .int fao_16])), (tp, .inr (5, [.ref by_, .int (nI T)])), (by_, .inl (cI, 260, .inl fb)), (lw, .inr (1, [.ref l1, .ref l2, .ref l3, .ref l4, .ref l5, .ref l6, .ref l7, .int (nI zo_17), .int (nI k)])), (l1, .inl (cI, 240, .inl l1o_18))] H := hP
        have hD : va_D A [(h0, .inr (2, [.ref tx, .ref lw])), (tx, .inr (6, [.ref tp, .int ed, .int plo_15, .int fao_16])), (tp, .inr (5, [.ref by_, .int (nI T)])), (by_, .inl (cI, 260, .inl fb)), (lw, .inr (1, [.ref l1, .ref l2, .ref l3, .ref l4, .ref l5, .ref l6, .ref l7, .int (nI zo_17), .int (nI k)])), (l1, .inl (cI, 240, .inl l1o_18))] := hD
        refine lv_aload_n hx hb dX2_readPart_48 rfl (lv_at hl 1 rfl) ?_
        refine va_get (D := D) (ci := 2) (v := .ref lw) (C := RX2) (T := TX2) (N := 2) hx hb htb itX2 hown hK hP 0 rfl rfl 1 (by decide) (htb _ k_289) (fun _ h9 => h9) rfl dX2_readPart_49 ?_
        refine lv_iload_n hx hb dX2_readPart_52 rfl (lv_at hl 0 rfl) ?_
        refine cVV (As := [.int (nI za)]) (rest := []) (n := 1) (ci := 1) (q0 := 0) (wr := [(h0, .inr (2, [.ref tx, .ref lw])), (tx, .inr (6, [.ref tp, .int ed, .int plo_15, .int fao_16])), (tp, .inr (5, [.ref by_, .int (nI T)])), (by_, .inl (cI, 260, .inl fb))]) X hN hK hP hD hS hA (c_X1_landSkip l D cI cB _ lw l1 l2 l3 l4 l5 l6 l7 zo_17 k (nI za) l1o_18 hw_19 hk) (gV k_645 k_646 k_647 k_97 k_648) (by decide +kernel) ⟨Nat.le_of_ble_eq_true rfl, Nat.le_of_ble_eq_true rfl⟩ ⟨rfl, rfl⟩ [4, 5] [0, 1, 2, 3] rfl rfl (by decide) (by decide) rfl rfl rfl rfl rfl hl.1 (Nat.le_of_ble_eq_true rfl) dX2_readPart_53 ⟨Nat.le_of_ble_eq_true rfl, Nat.le_of_ble_eq_true rfl⟩ (fun u H locs hw_22 hP hD hS => ?_)
        obtain ⟨l1_fo_21, rfl⟩ : ∃ z, z = u := ⟨_, rfl⟩
        try dsimp only at hw_22
        have hP : va_P D vwCl [(h0, .inr (2, [.ref tx, .ref lw])), (tx, .inr (6, [.ref tp, .int ed, .int plo_15, .int fao_16])), (tp, .inr (5, [.ref by_, .int (nI T)])), (by_, .inl (cI, 260, .inl fb)), (lw, .inr (1, [.ref l1, .ref l2, .ref l3, .ref l4, .ref l5, .ref l6, .ref l7, .int (nI zo_17), .int (nI k)])), (l1, .inl (cI, 240, .inl l1_fo_21))] H := hP
        have hD : va_D A [(h0, .inr (2, [.ref tx, .ref lw])), (tx, .inr (6, [.ref tp, .int ed, .int plo_15, .int fao_16])), (tp, .inr (5, [.ref by_, .int (nI T)])), (by_, .inl (cI, 260, .inl fb)), (lw, .inr (1, [.ref l1, .ref l2, .ref l3, .ref l4, .ref l5, .ref l6, .ref l7, .int (nI zo_17), .int (nI k)])), (l1, .inl (cI, 240, .inl l1_fo_21))] := hD
        refine lv_iinc (v := (nI (i + 1))) (lv' := [(2, .int (nI (i + 1))), (3, .int (nI za)), (0, .ref h0), (1, .int 4)]) hx hb dX2_readPart_56 hl (k := 3) rfl (nI_1 i) (by decide) rfl (fun ls hl => ?_)
        refine lv_goto (tgt := 7) hx hb dX2_readPart_59 (by decide) ?_
        exact ih_7 (i + 1) plo_15 fao_16 zo_17 l1_fo_21 (by omega) hw_19 _ _ (hP.sub [0, 1, 2, 3, 4, 5] rfl) (hD.sub [0, 1, 2, 3, 4, 5] (by decide) rfl) hS _ (lv_sub hl [2, 3, 0] rfl)
  exact loop_7 240 0 plo_2 fao_3 zo_4 l1o_5 (by omega) hw_6 _ _ (hP.sub [0, 1, 2, 3, 4, 5] rfl) (hD.sub [0, 1, 2, 3, 4, 5] (by decide) rfl) hS _ (lv_sub hl [1, 2, 0] rfl)

set_option maxRecDepth 100000 in
set_option maxHeartbeats 4000000 in
theorem c_readChoice_4 (l : Launch) (D : va_G) (cI cB : ClassId) (sz : Nat) (kk : KT) (h0 : Nat) (tx : Nat) (tp : Nat) (ed : Int32) (pl : Int32) (fa : Int32) (by_ : Nat) (T : Nat) (fb : Nat → Int32) (lw : Nat) (l1 : Nat) (l2 : Nat) (l3 : Nat) (l4 : Nat) (l5 : Nat) (l6 : Nat) (l7 : Nat) (z : Nat) (k : Nat) (q1 : Nat → Int32) (hT : T ≤ 260) (hz : z ≤ 240) (hk : k ≤ 16) : MVk (S := ((Int32) × (Int32) × (Nat) × (Nat → Int32))) l D cI cB kk yX2_readChoice cX2_readChoice 4 (rm 16 365) [.ref h0, .int 4] [(h0, .inr (2, [.ref tx, .ref lw])), (tx, .inr (6, [.ref tp, .int ed, .int pl, .int fa])), (tp, .inr (5, [.ref by_, .int (nI T)])), (by_, .inl (cI, 260, .inl fb)), (lw, .inr (1, [.ref l1, .ref l2, .ref l3, .ref l4, .ref l5, .ref l6, .ref l7, .int (nI z), .int (nI k)])), (l1, .inl (cI, 240, .inl q1))] sz (fun u => u.2.2.1 ≤ 240) (fun u : ((Int32) × (Int32) × (Nat) × (Nat → Int32)) => [(h0, .inr (2, [.ref tx, .ref lw])), (tx, .inr (6, [.ref tp, .int ed, .int u.1, .int u.2.1])), (tp, .inr (5, [.ref by_, .int (nI T)])), (by_, .inl (cI, 260, .inl fb)), (lw, .inr (1, [.ref l1, .ref l2, .ref l3, .ref l4, .ref l5, .ref l6, .ref l7, .int (nI u.2.2.1), .int (nI k)])), (l1, .inl (cI, 240, .inl u.2.2.2))]) := by
  refine MVk.of (by decide) (Nat.le_of_ble_eq_true rfl) ?_
  intro p e s m below meth c Q ls A X hin hN hKO hP hK hD hA hl ret
  have hS : va_S A s.heap s.heap [] := va_S.rf
  obtain ⟨hx, hb, hml, hown, htb⟩ := id X
  have hl : lv_has ls 4 [(0, .ref h0), (1, .int 4)] := hl
  refine lv_aload_n hx hb dX2_readChoice_0 rfl (lv_at hl 0 rfl) ?_
  refine lv_iload_n hx hb dX2_readChoice_1 rfl (lv_at hl 1 rfl) ?_
  refine cVVk (As := [.int 4]) (rest := []) (n := 1) (ci := 2) (q0 := 0) (wr := []) X hN hKO hK hP hD hS hA (c_readPart_4 l D cI cB _ kk h0 tx tp ed pl fa by_ T fb lw l1 l2 l3 l4 l5 l6 l7 z k q1 hT hz hk) (gV k_632 k_634 k_8 k_99 k_635) (by decide +kernel) ⟨Nat.le_of_ble_eq_true rfl, Nat.le_of_ble_eq_true rfl⟩ ⟨rfl, rfl⟩ [0, 1, 2, 3, 4, 5] [] rfl rfl (by decide) (by decide) rfl rfl rfl rfl rfl hl.1 (Nat.le_of_ble_eq_true rfl) dX2_readChoice_2 ⟨Nat.le_of_ble_eq_true rfl, Nat.le_of_ble_eq_true rfl⟩ (fun u H locs hw_6 hP hD hS => ?_)
  obtain ⟨plo_2, fao_3, zo_4, l1o_5⟩ := u
  try dsimp only at hw_6
  have hP : va_P D vwCl [(h0, .inr (2, [.ref tx, .ref lw])), (tx, .inr (6, [.ref tp, .int ed, .int plo_2, .int fao_3])), (tp, .inr (5, [.ref by_, .int (nI T)])), (by_, .inl (cI, 260, .inl fb)), (lw, .inr (1, [.ref l1, .ref l2, .ref l3, .ref l4, .ref l5, .ref l6, .ref l7, .int (nI zo_4), .int (nI k)])), (l1, .inl (cI, 240, .inl l1o_5))] H := hP
  have hD : va_D A [(h0, .inr (2, [.ref tx, .ref lw])), (tx, .inr (6, [.ref tp, .int ed, .int plo_2, .int fao_3])), (tp, .inr (5, [.ref by_, .int (nI T)])), (by_, .inl (cI, 260, .inl fb)), (lw, .inr (1, [.ref l1, .ref l2, .ref l3, .ref l4, .ref l5, .ref l6, .ref l7, .int (nI zo_4), .int (nI k)])), (l1, .inl (cI, 240, .inl l1o_5))] := hD
  refine lv_iconst (v := 0) hx hb dX2_readChoice_5 (by decide) ?_
  refine lv_istore_n (lv' := [(2, .int 0), (0, .ref h0), (1, .int 4)]) hx hb dX2_readChoice_6 rfl hl (by decide) rfl (fun ls hl => ?_)
  have loop_7 : ∀ (n i : Nat) (pa : Int32) (fb_ : Int32) (za : Nat) (qa : Nat → Int32), n + i = 240 → (za ≤ 240) → ∀ (H : Heap) (locs : List Loc), va_P D vwCl [(h0, .inr (2, [.ref tx, .ref lw])), (tx, .inr (6, [.ref tp, .int ed, .int pa, .int fb_])), (tp, .inr (5, [.ref by_, .int (nI T)])), (by_, .inl (cI, 260, .inl fb)), (lw, .inr (1, [.ref l1, .ref l2, .ref l3, .ref l4, .ref l5, .ref l6, .ref l7, .int (nI za), .int (nI k)])), (l1, .inl (cI, 240, .inl qa))] H → va_D A [(h0, .inr (2, [.ref tx, .ref lw])), (tx, .inr (6, [.ref tp, .int ed, .int pa, .int fb_])), (tp, .inr (5, [.ref by_, .int (nI T)])), (by_, .inl (cI, 260, .inl fb)), (lw, .inr (1, [.ref l1, .ref l2, .ref l3, .ref l4, .ref l5, .ref l6, .ref l7, .int (nI za), .int (nI k)])), (l1, .inl (cI, 240, .inl qa))] → va_S A s.heap H locs → ∀ (ls : Array Slot), lv_has ls 4 [(0, .ref h0), (1, .int 4), (2, .int (nI i))] → W p l e (rm 16 365) s m ([.ref h0, .int 4] : List Value).toArray below meth c H locs 0 0 Q (F0 m 7 ls []) := by
    intro n
    induction n with
    | zero =>
      intro i pa fb_ za qa hni hza H locs hP hD hS ls hl
      have hni_7 := hni
      have hi : i = 240 := by omega
      refine lv_iload_n hx hb dX2_readChoice_7 rfl (lv_at hl 2 rfl) ?_
      refine lv_sipush (v := 240) hx hb dX2_readChoice_8 (by decide) ?_
      refine lv_icmp_ge (tgt := 62) hx hb dX2_readChoice_11 (by decide) (fun _ => ?_) (fun c_11 => absurd (by rw [hi]; decide) c_11)
      exact ret _ _ _ _ (pa, fb_, za, qa) dX2_readChoice_62 hza (hP.sub [0, 1, 2, 3, 4, 5] rfl) (hD.sub [0, 1, 2, 3, 4, 5] (by decide) rfl) hS
    | succ n ih_7 =>
      intro i pa fb_ za qa hni hza H locs hP hD hS ls hl
      have hni_7 := hni
      have hi : i < 240 := by omega
      refine lv_iload_n hx hb dX2_readChoice_7 rfl (lv_at hl 2 rfl) ?_
      refine lv_sipush (v := 240) hx hb dX2_readChoice_8 (by decide) ?_
      refine lv_icmp_ge (tgt := 62) hx hb dX2_readChoice_11 (by decide) (fun c_11 => absurd c_11 (nI_ge hi (by decide))) (fun _ => ?_)
      refine lv_aload_n hx hb dX2_readChoice_14 rfl (lv_at hl 0 rfl) ?_
      refine va_get (D := D) (ci := 2) (v := .ref tx) (C := RX2) (T := TX2) (N := 2) hx hb htb itX2 hown hK hP 0 rfl rfl 0 (by decide) (htb _ k_288) (fun _ h9 => h9) rfl dX2_readChoice_15 ?_
      refine lv_bipush (v := 124) hx hb dX2_readChoice_18 (by decide) ?_
      refine cVI (As := [.int 124]) (rest := []) (n := 1) (ci := 6) (q0 := 0) (wr := [(h0, .inr (2, [.ref tx, .ref lw])), (lw, .inr (1, [.ref l1, .ref l2, .ref l3, .ref l4, .ref l5, .ref l6, .ref l7, .int (nI za), .int (nI k)])), (l1, .inl (cI, 240, .inl qa))]) X hN hK hP hD hS hA (c_X6_skip l D cI cB _ tx tp ed pa fb_ by_ T fb 124 hT) (gV k_644 k_607 k_608 k_98 k_609) (by decide +kernel) ⟨Nat.le_of_ble_eq_true rfl, Nat.le_of_ble_eq_true rfl⟩ ⟨rfl, rfl⟩ [1, 2, 3] [0, 4, 5] rfl rfl (by decide) (by decide) rfl rfl rfl rfl rfl hl.1 (Nat.le_of_ble_eq_true rfl) dX2_readChoice_20 ⟨Nat.le_of_ble_eq_true rfl, Nat.le_of_ble_eq_true rfl⟩ (fun r_7 u H locs hw_9 hP hD hS => ?_)
      obtain ⟨h0_2o_8, rfl⟩ : ∃ z, z = u := ⟨_, rfl⟩
      try dsimp only at hw_9
      have hP : va_P D vwCl [(h0, .inr (2, [.ref tx, .ref lw])), (lw, .inr (1, [.ref l1, .ref l2, .ref l3, .ref l4, .ref l5, .ref l6, .ref l7, .int (nI za), .int (nI k)])), (l1, .inl (cI, 240, .inl qa)), (tx, .inr (6, [.ref tp, .int ed, .int h0_2o_8, .int fb_])), (tp, .inr (5, [.ref by_, .int (nI T)])), (by_, .inl (cI, 260, .inl fb))] H := hP
      have hD : va_D A [(h0, .inr (2, [.ref tx, .ref lw])), (lw, .inr (1, [.ref l1, .ref l2, .ref l3, .ref l4, .ref l5, .ref l6, .ref l7, .int (nI za), .int (nI k)])), (l1, .inl (cI, 240, .inl qa)), (tx, .inr (6, [.ref tp, .int ed, .int h0_2o_8, .int fb_])), (tp, .inr (5, [.ref by_, .int (nI T)])), (by_, .inl (cI, 260, .inl fb))] := hD
      refine lv_if_eq (tgt := 62) hx hb dX2_readChoice_23 (by decide) (fun c_23 => ?_) (fun c_23 => ?_)
      · exact ret _ _ _ _ (h0_2o_8, fb_, za, qa) dX2_readChoice_62 hza (hP.sub [0, 3, 4, 5, 1, 2] rfl) (hD.sub [0, 3, 4, 5, 1, 2] (by decide) rfl) hS
      · refine lv_aload_n hx hb dX2_readChoice_26 rfl (lv_at hl 0 rfl) ?_
        refine va_get (D := D) (ci := 2) (v := .ref lw) (C := RX2) (T := TX2) (N := 2) hx hb htb itX2 hown hK hP 0 rfl rfl 1 (by decide) (htb _ k_289) (fun _ h9 => h9) rfl dX2_readChoice_27 ?_
        refine va_getN (D := D) (ci := 1) (v := .int (nI za)) (C := RX1) (T := TX1) (N := 9) hx hb htb itX1 hown hK hP 1 rfl rfl 7 (by decide) (va_Nw.use rfl (hN _ n_232 rfl)) (fun _ h9 => h9) rfl dX2_readChoice_30 ?_
        refine lv_istore_n (lv' := [(3, .int (nI za)), (0, .ref h0), (1, .int 4), (2, .int (nI i))]) hx hb dX2_readChoice_33 rfl hl (by decide) rfl (fun ls hl => ?_)
        refine lv_aload_n hx hb dX2_readChoice_34 rfl (lv_at hl 1 rfl) ?_
        refine va_get (D := D) (ci := 2) (v := .ref lw) (C := RX2) (T := TX2) (N := 2) hx hb htb itX2 hown hK hP 0 rfl rfl 1 (by decide) (htb _ k_289) (fun _ h9 => h9) rfl dX2_readChoice_35 ?_
        refine lv_iconst (v := 3) hx hb dX2_readChoice_38 (by decide) ?_
        refine lv_iconst (v := 0) hx hb dX2_readChoice_39 (by decide) ?_
        refine cVV (As := [.int 3, .int 0]) (rest := []) (n := 2) (ci := 1) (q0 := 0) (wr := [(h0, .inr (2, [.ref tx, .ref lw])), (tx, .inr (6, [.ref tp, .int ed, .int h0_2o_8, .int fb_])), (tp, .inr (5, [.ref by_, .int (nI T)])), (by_, .inl (cI, 260, .inl fb))]) X hN hK hP hD hS hA (c_X1_addStep l D cI cB _ lw l1 l2 l3 l4 l5 l6 l7 za k 3 0 qa hza hk) (gV k_594 k_595 k_596 k_97 k_597) (by decide +kernel) ⟨Nat.le_of_ble_eq_true rfl, Nat.le_of_ble_eq_true rfl⟩ ⟨rfl, rfl⟩ [1, 2] [0, 3, 4, 5] rfl rfl (by decide) (by decide) rfl rfl rfl rfl rfl hl.1 (Nat.le_of_ble_eq_true rfl) dX2_readChoice_40 ⟨Nat.le_of_ble_eq_true rfl, Nat.le_of_ble_eq_true rfl⟩ (fun u H locs hw_13 hP hD hS => ?_)
        obtain ⟨zo_11, l1_fo_12⟩ := u
        try dsimp only at hw_13
        have hP : va_P D vwCl [(h0, .inr (2, [.ref tx, .ref lw])), (tx, .inr (6, [.ref tp, .int ed, .int h0_2o_8, .int fb_])), (tp, .inr (5, [.ref by_, .int (nI T)])), (by_, .inl (cI, 260, .inl fb)), (lw, .inr (1, [.ref l1, .ref l2, .ref l3, .ref l4, .ref l5, .ref l6, .ref l7, .int (nI zo_11), .int (nI k)])), (l1, .inl (cI, 240, .inl l1_fo_12))] H := hP
        have hD : va_D A [(h0, .inr (2, [.ref tx, .ref lw])), (tx, .inr (6, [.ref tp, .int ed, .int h0_2o_8, .int fb_])), (tp, .inr (5, [.ref by_, .int (nI T)])), (by_, .inl (cI, 260, .inl fb)), (lw, .inr (1, [.ref l1, .ref l2, .ref l3, .ref l4, .ref l5, .ref l6, .ref l7, .int (nI zo_11), .int (nI k)])), (l1, .inl (cI, 240, .inl l1_fo_12))] := hD
        refine lv_aload_n hx hb dX2_readChoice_43 rfl (lv_at hl 1 rfl) ?_
        refine lv_iload_n hx hb dX2_readChoice_44 rfl (lv_at hl 2 rfl) ?_
        refine cVVk (As := [.int 4]) (rest := []) (n := 1) (ci := 2) (q0 := 0) (wr := []) X hN hKO hK hP hD hS hA (c_readPart_4 l D cI cB _ kk h0 tx tp ed h0_2o_8 fb_ by_ T fb lw l1 l2 l3 l4 l5 l6 l7 zo_11 k l1_fo_12 hT hw_13 hk) (gV k_632 k_634 k_8 k_99 k_635) (by decide +kernel) ⟨Nat.le_of_ble_eq_true rfl, Nat.le_of_ble_eq_true rfl⟩ ⟨rfl, rfl⟩ [0, 1, 2, 3, 4, 5] [] rfl rfl (by decide) (by decide) rfl rfl rfl rfl rfl hl.1 (Nat.le_of_ble_eq_true rfl) dX2_readChoice_45 ⟨Nat.le_of_ble_eq_true rfl, Nat.le_of_ble_eq_true rfl⟩ (fun u H locs hw_19 hP hD hS => ?_)
        obtain ⟨plo_15, fao_16, zo_17, l1o_18⟩ := u
        try dsimp only at hw_19
        have hP : va_P D vwCl [(h0, .inr (2, [.ref tx, .ref lw])), (tx, .inr (6, [.ref tp, .int ed, .int plo_15, .int fao_16])), (tp, .inr (5, [.ref by_, .int (nI T)])), (by_, .inl (cI, 260, .inl fb)), (lw, .inr (1, [.ref l1, .ref l2, .ref l3, .ref l4, .ref l5, .ref l6, .ref l7, .int (nI zo_17), .int (nI k)])), (l1, .inl (cI, 240, .inl l1o_18))] H := hP
        have hD : va_D A [(h0, .inr (2, [.ref tx, .ref lw])), (tx, .inr (6, [.ref tp, .int ed, .int plo_15, .int fao_16])), (tp, .inr (5, [.ref by_, .int (nI T)])), (by_, .inl (cI, 260, .inl fb)), (lw, .inr (1, [.ref l1, .ref l2, .ref l3, .ref l4, .ref l5, .ref l6, .ref l7, .int (nI zo_17), .int (nI k)])), (l1, .inl (cI, 240, .inl l1o_18))] := hD
        refine lv_aload_n hx hb dX2_readChoice_48 rfl (lv_at hl 1 rfl) ?_
        refine va_get (D := D) (ci := 2) (v := .ref lw) (C := RX2) (T := TX2) (N := 2) hx hb htb itX2 hown hK hP 0 rfl rfl 1 (by decide) (htb _ k_289) (fun _ h9 => h9) rfl dX2_readChoice_49 ?_
        refine lv_iload_n hx hb dX2_readChoice_52 rfl (lv_at hl 0 rfl) ?_
        refine cVV (As := [.int (nI za)]) (rest := []) (n := 1) (ci := 1) (q0 := 0) (wr := [(h0, .inr (2, [.ref tx, .ref lw])), (tx, .inr (6, [.ref tp, .int ed, .int plo_15, .int fao_16])), (tp, .inr (5, [.ref by_, .int (nI T)])), (by_, .inl (cI, 260, .inl fb))]) X hN hK hP hD hS hA (c_X1_landSkip l D cI cB _ lw l1 l2 l3 l4 l5 l6 l7 zo_17 k (nI za) l1o_18 hw_19 hk) (gV k_645 k_646 k_647 k_97 k_648) (by decide +kernel) ⟨Nat.le_of_ble_eq_true rfl, Nat.le_of_ble_eq_true rfl⟩ ⟨rfl, rfl⟩ [4, 5] [0, 1, 2, 3] rfl rfl (by decide) (by decide) rfl rfl rfl rfl rfl hl.1 (Nat.le_of_ble_eq_true rfl) dX2_readChoice_53 ⟨Nat.le_of_ble_eq_true rfl, Nat.le_of_ble_eq_true rfl⟩ (fun u H locs hw_22 hP hD hS => ?_)
        obtain ⟨l1_fo_21, rfl⟩ : ∃ z, z = u := ⟨_, rfl⟩
        try dsimp only at hw_22
        have hP : va_P D vwCl [(h0, .inr (2, [.ref tx, .ref lw])), (tx, .inr (6, [.ref tp, .int ed, .int plo_15, .int fao_16])), (tp, .inr (5, [.ref by_, .int (nI T)])), (by_, .inl (cI, 260, .inl fb)), (lw, .inr (1, [.ref l1, .ref l2, .ref l3, .ref l4, .ref l5, .ref l6, .ref l7, .int (nI zo_17), .int (nI k)])), (l1, .inl (cI, 240, .inl l1_fo_21))] H := hP
        have hD : va_D A [(h0, .inr (2, [.ref tx, .ref lw])), (tx, .inr (6, [.ref tp, .int ed, .int plo_15, .int fao_16])), (tp, .inr (5, [.ref by_, .int (nI T)])), (by_, .inl (cI, 260, .inl fb)), (lw, .inr (1, [.ref l1, .ref l2, .ref l3, .ref l4, .ref l5, .ref l6, .ref l7, .int (nI zo_17), .int (nI k)])), (l1, .inl (cI, 240, .inl l1_fo_21))] := hD
        refine lv_iinc (v := (nI (i + 1))) (lv' := [(2, .int (nI (i + 1))), (3, .int (nI za)), (0, .ref h0), (1, .int 4)]) hx hb dX2_readChoice_56 hl (k := 3) rfl (nI_1 i) (by decide) rfl (fun ls hl => ?_)
        refine lv_goto (tgt := 7) hx hb dX2_readChoice_59 (by decide) ?_
        exact ih_7 (i + 1) plo_15 fao_16 zo_17 l1_fo_21 (by omega) hw_19 _ _ (hP.sub [0, 1, 2, 3, 4, 5] rfl) (hD.sub [0, 1, 2, 3, 4, 5] (by decide) rfl) hS _ (lv_sub hl [2, 3, 0] rfl)
  exact loop_7 240 0 plo_2 fao_3 zo_4 l1o_5 (by omega) hw_6 _ _ (hP.sub [0, 1, 2, 3, 4, 5] rfl) (hD.sub [0, 1, 2, 3, 4, 5] (by decide) rfl) hS _ (lv_sub hl [1, 2, 0] rfl)

set_option maxRecDepth 100000 in
set_option maxHeartbeats 4000000 in
theorem c_readPiece_3 (l : Launch) (D : va_G) (cI cB : ClassId) (sz : Nat) (kk : KT) (h0 : Nat) (tx : Nat) (tp : Nat) (ed : Int32) (pl : Int32) (fa : Int32) (by_ : Nat) (T : Nat) (fb : Nat → Int32) (lw : Nat) (l1 : Nat) (l2 : Nat) (l3 : Nat) (l4 : Nat) (l5 : Nat) (l6 : Nat) (l7 : Nat) (z : Nat) (k : Nat) (q1 : Nat → Int32) (hT : T ≤ 260) (hz : z ≤ 240) (hk : k ≤ 16) : MVk (S := ((Int32) × (Int32) × (Nat) × (Nat → Int32))) l D cI cB kk yX2_readPiece cX2_readPiece 4 (rm 17 388) [.ref h0, .int 3] [(h0, .inr (2, [.ref tx, .ref lw])), (tx, .inr (6, [.ref tp, .int ed, .int pl, .int fa])), (tp, .inr (5, [.ref by_, .int (nI T)])), (by_, .inl (cI, 260, .inl fb)), (lw, .inr (1, [.ref l1, .ref l2, .ref l3, .ref l4, .ref l5, .ref l6, .ref l7, .int (nI z), .int (nI k)])), (l1, .inl (cI, 240, .inl q1))] sz (fun u => u.2.2.1 ≤ 240) (fun u : ((Int32) × (Int32) × (Nat) × (Nat → Int32)) => [(h0, .inr (2, [.ref tx, .ref lw])), (tx, .inr (6, [.ref tp, .int ed, .int u.1, .int u.2.1])), (tp, .inr (5, [.ref by_, .int (nI T)])), (by_, .inl (cI, 260, .inl fb)), (lw, .inr (1, [.ref l1, .ref l2, .ref l3, .ref l4, .ref l5, .ref l6, .ref l7, .int (nI u.2.2.1), .int (nI k)])), (l1, .inl (cI, 240, .inl u.2.2.2))]) := by
  refine MVk.of (by decide) (Nat.le_of_ble_eq_true rfl) ?_
  intro p e s m below meth c Q ls A X hin hN hKO hP hK hD hA hl ret
  have hS : va_S A s.heap s.heap [] := va_S.rf
  obtain ⟨hx, hb, hml, hown, htb⟩ := id X
  have hl : lv_has ls 4 [(0, .ref h0), (1, .int 3)] := hl
  refine lv_aload_n hx hb dX2_readPiece_0 rfl (lv_at hl 0 rfl) ?_
  refine va_get (D := D) (ci := 2) (v := .ref tx) (C := RX2) (T := TX2) (N := 2) hx hb htb itX2 hown hK hP 0 rfl rfl 0 (by decide) (htb _ k_288) (fun _ h9 => h9) rfl dX2_readPiece_1 ?_
  refine cVR (As := []) (rest := []) (n := 0) (ci := 6) (q0 := 0) X hN hK hP (c_X6_sign l D cI cB tx tp ed pl fa by_ T fb hT) (gV k_483 k_484 k_485 k_98 k_486) (by decide +kernel) ⟨Nat.le_of_ble_eq_true rfl, Nat.le_of_ble_eq_true rfl⟩ ⟨rfl, rfl⟩ [1, 2, 3] rfl rfl rfl rfl rfl rfl hl.1 (Nat.le_of_ble_eq_true rfl) dX2_readPiece_4 ⟨Nat.le_of_ble_eq_true rfl, Nat.le_of_ble_eq_true rfl⟩ (fun r_1 hr_1 => ?_)
  subst hr_1
  refine lv_topi (fun x_2 ex_2 => ?_)
  refine lv_istore_n (lv' := [(2, .int x_2), (0, .ref h0), (1, .int 3)]) hx hb dX2_readPiece_7 rfl hl (by decide) rfl (fun ls hl => ?_)
  refine lv_iload_n hx hb dX2_readPiece_8 rfl (lv_at hl 0 rfl) ?_
  refine lv_bipush (v := 33) hx hb dX2_readPiece_9 (by decide) ?_
  refine lv_icmp_ne (tgt := 41) hx hb dX2_readPiece_11 (by decide) (fun c_11 => ?_) (fun c_11 => ?_)
  · refine lv_iload_n hx hb dX2_readPiece_41 rfl (lv_at hl 0 rfl) ?_
    refine lv_bipush (v := 40) hx hb dX2_readPiece_42 (by decide) ?_
    refine lv_icmp_ne (tgt := 74) hx hb dX2_readPiece_44 (by decide) (fun c_44 => ?_) (fun c_44 => ?_)
    · refine lv_aload_n hx hb dX2_readPiece_74 rfl (lv_at hl 1 rfl) ?_
      refine lv_iload_n hx hb dX2_readPiece_75 rfl (lv_at hl 2 rfl) ?_
      refine cVVk (As := [.int 3]) (rest := []) (n := 1) (ci := 2) (q0 := 0) (wr := []) X hN hKO hK hP hD hS hA (c_readSum_3 l D cI cB _ kk h0 tx tp ed pl fa by_ T fb lw l1 l2 l3 l4 l5 l6 l7 z k q1 hT hz hk) (gV k_581 k_583 k_2 k_99 k_584) (by decide +kernel) ⟨Nat.le_of_ble_eq_true rfl, Nat.le_of_ble_eq_true rfl⟩ ⟨rfl, rfl⟩ [0, 1, 2, 3, 4, 5] [] rfl rfl (by decide) (by decide) rfl rfl rfl rfl rfl hl.1 (Nat.le_of_ble_eq_true rfl) dX2_readPiece_76 ⟨Nat.le_of_ble_eq_true rfl, Nat.le_of_ble_eq_true rfl⟩ (fun u H locs hw_8 hP hD hS => ?_)
      obtain ⟨plo_4, fao_5, zo_6, l1o_7⟩ := u
      try dsimp only at hw_8
      have hP : va_P D vwCl [(h0, .inr (2, [.ref tx, .ref lw])), (tx, .inr (6, [.ref tp, .int ed, .int plo_4, .int fao_5])), (tp, .inr (5, [.ref by_, .int (nI T)])), (by_, .inl (cI, 260, .inl fb)), (lw, .inr (1, [.ref l1, .ref l2, .ref l3, .ref l4, .ref l5, .ref l6, .ref l7, .int (nI zo_6), .int (nI k)])), (l1, .inl (cI, 240, .inl l1o_7))] H := hP
      have hD : va_D A [(h0, .inr (2, [.ref tx, .ref lw])), (tx, .inr (6, [.ref tp, .int ed, .int plo_4, .int fao_5])), (tp, .inr (5, [.ref by_, .int (nI T)])), (by_, .inl (cI, 260, .inl fb)), (lw, .inr (1, [.ref l1, .ref l2, .ref l3, .ref l4, .ref l5, .ref l6, .ref l7, .int (nI zo_6), .int (nI k)])), (l1, .inl (cI, 240, .inl l1o_7))] := hD
      refine lv_aload_n hx hb dX2_readPiece_79 rfl (lv_at hl 1 rfl) ?_
      refine cVI (As := []) (rest := []) (n := 0) (ci := 2) (q0 := 0) (wr := [(lw, .inr (1, [.ref l1, .ref l2, .ref l3, .ref l4, .ref l5, .ref l6, .ref l7, .int (nI zo_6), .int (nI k)])), (l1, .inl (cI, 240, .inl l1o_7))]) X hN hK hP hD hS hA (c_X2_comparison l D cI cB _ h0 lw tx tp ed plo_4 fao_5 by_ T fb hT) (gV k_640 k_642 k_10 k_99 k_643) (by decide +kernel) ⟨Nat.le_of_ble_eq_true rfl, Nat.le_of_ble_eq_true rfl⟩ ⟨rfl, rfl⟩ [0, 1, 2, 3] [4, 5] rfl rfl (by decide) (by decide) rfl rfl rfl rfl rfl hl.1 (Nat.le_of_ble_eq_true rfl) dX2_readPiece_80 ⟨Nat.le_of_ble_eq_true rfl, Nat.le_of_ble_eq_true rfl⟩ (fun r_9 u H locs hw_12 hP hD hS => ?_)
      obtain ⟨tx_2o_10, tx_3o_11⟩ := u
      try dsimp only at hw_12
      have hP : va_P D vwCl [(lw, .inr (1, [.ref l1, .ref l2, .ref l3, .ref l4, .ref l5, .ref l6, .ref l7, .int (nI zo_6), .int (nI k)])), (l1, .inl (cI, 240, .inl l1o_7)), (h0, .inr (2, [.ref tx, .ref lw])), (tx, .inr (6, [.ref tp, .int ed, .int tx_2o_10, .int tx_3o_11])), (tp, .inr (5, [.ref by_, .int (nI T)])), (by_, .inl (cI, 260, .inl fb))] H := hP
      have hD : va_D A [(lw, .inr (1, [.ref l1, .ref l2, .ref l3, .ref l4, .ref l5, .ref l6, .ref l7, .int (nI zo_6), .int (nI k)])), (l1, .inl (cI, 240, .inl l1o_7)), (h0, .inr (2, [.ref tx, .ref lw])), (tx, .inr (6, [.ref tp, .int ed, .int tx_2o_10, .int tx_3o_11])), (tp, .inr (5, [.ref by_, .int (nI T)])), (by_, .inl (cI, 260, .inl fb))] := hD
      refine lv_istore_n (lv' := [(3, .int r_9), (2, .int x_2), (0, .ref h0), (1, .int 3)]) hx hb dX2_readPiece_83 rfl hl (by decide) rfl (fun ls hl => ?_)
      refine lv_aload_n hx hb dX2_readPiece_84 rfl (lv_at hl 2 rfl) ?_
      refine lv_iload_n hx hb dX2_readPiece_85 rfl (lv_at hl 3 rfl) ?_
      refine cVVk (As := [.int 3]) (rest := []) (n := 1) (ci := 2) (q0 := 0) (wr := []) X hN hKO hK hP hD hS hA (c_readSum_3 l D cI cB _ kk h0 tx tp ed tx_2o_10 tx_3o_11 by_ T fb lw l1 l2 l3 l4 l5 l6 l7 zo_6 k l1o_7 hT hw_8 hk) (gV k_581 k_583 k_2 k_99 k_584) (by decide +kernel) ⟨Nat.le_of_ble_eq_true rfl, Nat.le_of_ble_eq_true rfl⟩ ⟨rfl, rfl⟩ [2, 3, 4, 5, 0, 1] [] rfl rfl (by decide) (by decide) rfl rfl rfl rfl rfl hl.1 (Nat.le_of_ble_eq_true rfl) dX2_readPiece_86 ⟨Nat.le_of_ble_eq_true rfl, Nat.le_of_ble_eq_true rfl⟩ (fun u H locs hw_18 hP hD hS => ?_)
      obtain ⟨plo_14, fao_15, zo_16, l1o_17⟩ := u
      try dsimp only at hw_18
      have hP : va_P D vwCl [(h0, .inr (2, [.ref tx, .ref lw])), (tx, .inr (6, [.ref tp, .int ed, .int plo_14, .int fao_15])), (tp, .inr (5, [.ref by_, .int (nI T)])), (by_, .inl (cI, 260, .inl fb)), (lw, .inr (1, [.ref l1, .ref l2, .ref l3, .ref l4, .ref l5, .ref l6, .ref l7, .int (nI zo_16), .int (nI k)])), (l1, .inl (cI, 240, .inl l1o_17))] H := hP
      have hD : va_D A [(h0, .inr (2, [.ref tx, .ref lw])), (tx, .inr (6, [.ref tp, .int ed, .int plo_14, .int fao_15])), (tp, .inr (5, [.ref by_, .int (nI T)])), (by_, .inl (cI, 260, .inl fb)), (lw, .inr (1, [.ref l1, .ref l2, .ref l3, .ref l4, .ref l5, .ref l6, .ref l7, .int (nI zo_16), .int (nI k)])), (l1, .inl (cI, 240, .inl l1o_17))] := hD
      refine lv_aload_n hx hb dX2_readPiece_89 rfl (lv_at hl 2 rfl) ?_
      refine va_get (D := D) (ci := 2) (v := .ref lw) (C := RX2) (T := TX2) (N := 2) hx hb htb itX2 hown hK hP 0 rfl rfl 1 (by decide) (htb _ k_289) (fun _ h9 => h9) rfl dX2_readPiece_90 ?_
      refine lv_iload_n hx hb dX2_readPiece_93 rfl (lv_at hl 0 rfl) ?_
      refine lv_iconst (v := 0) hx hb dX2_readPiece_94 (by decide) ?_
      refine cVV (As := [.int r_9, .int 0]) (rest := []) (n := 2) (ci := 1) (q0 := 0) (wr := [(h0, .inr (2, [.ref tx, .ref lw])), (tx, .inr (6, [.ref tp, .int ed, .int plo_14, .int fao_15])), (tp, .inr (5, [.ref by_, .int (nI T)])), (by_, .inl (cI, 260, .inl fb))]) X hN hK hP hD hS hA (c_X1_addStep l D cI cB _ lw l1 l2 l3 l4 l5 l6 l7 zo_16 k r_9 0 l1o_17 hw_18 hk) (gV k_594 k_595 k_596 k_97 k_597) (by decide +kernel) ⟨Nat.le_of_ble_eq_true rfl, Nat.le_of_ble_eq_true rfl⟩ ⟨rfl, rfl⟩ [4, 5] [0, 1, 2, 3] rfl rfl (by decide) (by decide) rfl rfl rfl rfl rfl hl.1 (Nat.le_of_ble_eq_true rfl) dX2_readPiece_95 ⟨Nat.le_of_ble_eq_true rfl, Nat.le_of_ble_eq_true rfl⟩ (fun u H locs hw_22 hP hD hS => ?_)
      obtain ⟨zo_20, l1_fo_21⟩ := u
      try dsimp only at hw_22
      have hP : va_P D vwCl [(h0, .inr (2, [.ref tx, .ref lw])), (tx, .inr (6, [.ref tp, .int ed, .int plo_14, .int fao_15])), (tp, .inr (5, [.ref by_, .int (nI T)])), (by_, .inl (cI, 260, .inl fb)), (lw, .inr (1, [.ref l1, .ref l2, .ref l3, .ref l4, .ref l5, .ref l6, .ref l7, .int (nI zo_20), .int (nI k)])), (l1, .inl (cI, 240, .inl l1_fo_21))] H := hP
      have hD : va_D A [(h0, .inr (2, [.ref tx, .ref lw])), (tx, .inr (6, [.ref tp, .int ed, .int plo_14, .int fao_15])), (tp, .inr (5, [.ref by_, .int (nI T)])), (by_, .inl (cI, 260, .inl fb)), (lw, .inr (1, [.ref l1, .ref l2, .ref l3, .ref l4, .ref l5, .ref l6, .ref l7, .int (nI zo_20), .int (nI k)])), (l1, .inl (cI, 240, .inl l1_fo_21))] := hD
      exact ret _ _ _ _ (plo_14, fao_15, zo_20, l1_fo_21) dX2_readPiece_98 hw_22 (hP.sub [0, 1, 2, 3, 4, 5] rfl) (hD.sub [0, 1, 2, 3, 4, 5] (by decide) rfl) hS
    · refine lv_aload_n hx hb dX2_readPiece_47 rfl (lv_at hl 1 rfl) ?_
      refine lv_iload_n hx hb dX2_readPiece_48 rfl (lv_at hl 2 rfl) ?_
      refine cVI (As := [.int 3]) (rest := []) (n := 1) (ci := 2) (q0 := 0) (wr := [(tp, .inr (5, [.ref by_, .int (nI T)])), (by_, .inl (cI, 260, .inl fb)), (lw, .inr (1, [.ref l1, .ref l2, .ref l3, .ref l4, .ref l5, .ref l6, .ref l7, .int (nI z), .int (nI k)])), (l1, .inl (cI, 240, .inl q1))]) X hN hK hP hD hS hA (c_X2_opens l D cI cB _ h0 lw tx tp ed pl fa 3) (gV k_598 k_600 k_5 k_99 k_601) (by decide +kernel) ⟨Nat.le_of_ble_eq_true rfl, Nat.le_of_ble_eq_true rfl⟩ ⟨rfl, rfl⟩ [0, 1] [2, 3, 4, 5] rfl rfl (by decide) (by decide) rfl rfl rfl rfl rfl hl.1 (Nat.le_of_ble_eq_true rfl) dX2_readPiece_49 ⟨Nat.le_of_ble_eq_true rfl, Nat.le_of_ble_eq_true rfl⟩ (fun r_23 u H locs hw_26 hP hD hS => ?_)
      obtain ⟨tx_2o_24, tx_3o_25⟩ := u
      try dsimp only at hw_26
      have hP : va_P D vwCl [(tp, .inr (5, [.ref by_, .int (nI T)])), (by_, .inl (cI, 260, .inl fb)), (lw, .inr (1, [.ref l1, .ref l2, .ref l3, .ref l4, .ref l5, .ref l6, .ref l7, .int (nI z), .int (nI k)])), (l1, .inl (cI, 240, .inl q1)), (h0, .inr (2, [.ref tx, .ref lw])), (tx, .inr (6, [.ref tp, .int ed, .int tx_2o_24, .int tx_3o_25]))] H := hP
      have hD : va_D A [(tp, .inr (5, [.ref by_, .int (nI T)])), (by_, .inl (cI, 260, .inl fb)), (lw, .inr (1, [.ref l1, .ref l2, .ref l3, .ref l4, .ref l5, .ref l6, .ref l7, .int (nI z), .int (nI k)])), (l1, .inl (cI, 240, .inl q1)), (h0, .inr (2, [.ref tx, .ref lw])), (tx, .inr (6, [.ref tp, .int ed, .int tx_2o_24, .int tx_3o_25]))] := hD
      obtain rfl : r_23 = 1 := hw_26.trans (by decide)
      refine lv_if_eq (tgt := 98) hx hb dX2_readPiece_52 (by decide) (fun c_52 => absurd c_52 (by decide)) (fun _ => ?_)
      refine lv_aload_n hx hb dX2_readPiece_55 rfl (lv_at hl 1 rfl) ?_
      refine lv_iload_n hx hb dX2_readPiece_56 rfl (lv_at hl 2 rfl) ?_
      refine lv_iconst (v := 1) hx hb dX2_readPiece_57 (by decide) ?_
      refine lv_iadd hx hb dX2_readPiece_58 ?_
      refine tv (z := 4) (by decide) ?_
      refine cVVk (As := [.int 4]) (rest := []) (n := 1) (ci := 2) (q0 := 0) (wr := []) X hN hKO hK hP hD hS hA (c_readChoice_4 l D cI cB _ kk h0 tx tp ed tx_2o_24 tx_3o_25 by_ T fb lw l1 l2 l3 l4 l5 l6 l7 z k q1 hT hz hk) (gV k_628 k_630 k_7 k_99 k_631) (by decide +kernel) ⟨Nat.le_of_ble_eq_true rfl, Nat.le_of_ble_eq_true rfl⟩ ⟨rfl, rfl⟩ [4, 5, 0, 1, 2, 3] [] rfl rfl (by decide) (by decide) rfl rfl rfl rfl rfl hl.1 (Nat.le_of_ble_eq_true rfl) dX2_readPiece_59 ⟨Nat.le_of_ble_eq_true rfl, Nat.le_of_ble_eq_true rfl⟩ (fun u H locs hw_32 hP hD hS => ?_)
      obtain ⟨plo_28, fao_29, zo_30, l1o_31⟩ := u
      try dsimp only at hw_32
      have hP : va_P D vwCl [(h0, .inr (2, [.ref tx, .ref lw])), (tx, .inr (6, [.ref tp, .int ed, .int plo_28, .int fao_29])), (tp, .inr (5, [.ref by_, .int (nI T)])), (by_, .inl (cI, 260, .inl fb)), (lw, .inr (1, [.ref l1, .ref l2, .ref l3, .ref l4, .ref l5, .ref l6, .ref l7, .int (nI zo_30), .int (nI k)])), (l1, .inl (cI, 240, .inl l1o_31))] H := hP
      have hD : va_D A [(h0, .inr (2, [.ref tx, .ref lw])), (tx, .inr (6, [.ref tp, .int ed, .int plo_28, .int fao_29])), (tp, .inr (5, [.ref by_, .int (nI T)])), (by_, .inl (cI, 260, .inl fb)), (lw, .inr (1, [.ref l1, .ref l2, .ref l3, .ref l4, .ref l5, .ref l6, .ref l7, .int (nI zo_30), .int (nI k)])), (l1, .inl (cI, 240, .inl l1o_31))] := hD
      refine lv_aload_n hx hb dX2_readPiece_62 rfl (lv_at hl 1 rfl) ?_
      refine va_get (D := D) (ci := 2) (v := .ref tx) (C := RX2) (T := TX2) (N := 2) hx hb htb itX2 hown hK hP 0 rfl rfl 0 (by decide) (htb _ k_288) (fun _ h9 => h9) rfl dX2_readPiece_63 ?_
      refine lv_bipush (v := 41) hx hb dX2_readPiece_66 (by decide) ?_
      refine cVV (As := [.int 41]) (rest := []) (n := 1) (ci := 6) (q0 := 0) (wr := [(h0, .inr (2, [.ref tx, .ref lw])), (lw, .inr (1, [.ref l1, .ref l2, .ref l3, .ref l4, .ref l5, .ref l6, .ref l7, .int (nI zo_30), .int (nI k)])), (l1, .inl (cI, 240, .inl l1o_31))]) X hN hK hP hD hS hA (c_X6_expect l D cI cB _ tx tp ed plo_28 fao_29 by_ T fb 41 hT) (gV k_602 k_603 k_604 k_98 k_605) (by decide +kernel) ⟨Nat.le_of_ble_eq_true rfl, Nat.le_of_ble_eq_true rfl⟩ ⟨rfl, rfl⟩ [1, 2, 3] [0, 4, 5] rfl rfl (by decide) (by decide) rfl rfl rfl rfl rfl hl.1 (Nat.le_of_ble_eq_true rfl) dX2_readPiece_68 ⟨Nat.le_of_ble_eq_true rfl, Nat.le_of_ble_eq_true rfl⟩ (fun u H locs hw_36 hP hD hS => ?_)
      obtain ⟨h0_2o_34, h0_3o_35⟩ := u
      try dsimp only at hw_36
      have hP : va_P D vwCl [(h0, .inr (2, [.ref tx, .ref lw])), (lw, .inr (1, [.ref l1, .ref l2, .ref l3, .ref l4, .ref l5, .ref l6, .ref l7, .int (nI zo_30), .int (nI k)])), (l1, .inl (cI, 240, .inl l1o_31)), (tx, .inr (6, [.ref tp, .int ed, .int h0_2o_34, .int h0_3o_35])), (tp, .inr (5, [.ref by_, .int (nI T)])), (by_, .inl (cI, 260, .inl fb))] H := hP
      have hD : va_D A [(h0, .inr (2, [.ref tx, .ref lw])), (lw, .inr (1, [.ref l1, .ref l2, .ref l3, .ref l4, .ref l5, .ref l6, .ref l7, .int (nI zo_30), .int (nI k)])), (l1, .inl (cI, 240, .inl l1o_31)), (tx, .inr (6, [.ref tp, .int ed, .int h0_2o_34, .int h0_3o_35])), (tp, .inr (5, [.ref by_, .int (nI T)])), (by_, .inl (cI, 260, .inl fb))] := hD
      refine lv_goto (tgt := 98) hx hb dX2_readPiece_71 (by decide) ?_
      exact ret _ _ _ _ (h0_2o_34, h0_3o_35, zo_30, l1o_31) dX2_readPiece_98 hw_32 (hP.sub [0, 3, 4, 5, 1, 2] rfl) (hD.sub [0, 3, 4, 5, 1, 2] (by decide) rfl) hS
  · refine lv_aload_n hx hb dX2_readPiece_14 rfl (lv_at hl 1 rfl) ?_
    refine lv_iload_n hx hb dX2_readPiece_15 rfl (lv_at hl 2 rfl) ?_
    refine cVI (As := [.int 3]) (rest := []) (n := 1) (ci := 2) (q0 := 0) (wr := [(tp, .inr (5, [.ref by_, .int (nI T)])), (by_, .inl (cI, 260, .inl fb)), (lw, .inr (1, [.ref l1, .ref l2, .ref l3, .ref l4, .ref l5, .ref l6, .ref l7, .int (nI z), .int (nI k)])), (l1, .inl (cI, 240, .inl q1))]) X hN hK hP hD hS hA (c_X2_opens l D cI cB _ h0 lw tx tp ed pl fa 3) (gV k_598 k_600 k_5 k_99 k_601) (by decide +kernel) ⟨Nat.le_of_ble_eq_true rfl, Nat.le_of_ble_eq_true rfl⟩ ⟨rfl, rfl⟩ [0, 1] [2, 3, 4, 5] rfl rfl (by decide) (by decide) rfl rfl rfl rfl rfl hl.1 (Nat.le_of_ble_eq_true rfl) dX2_readPiece_16 ⟨Nat.le_of_ble_eq_true rfl, Nat.le_of_ble_eq_true rfl⟩ (fun r_37 u H locs hw_40 hP hD hS => ?_)
    obtain ⟨tx_2o_38, tx_3o_39⟩ := u
    try dsimp only at hw_40
    have hP : va_P D vwCl [(tp, .inr (5, [.ref by_, .int (nI T)])), (by_, .inl (cI, 260, .inl fb)), (lw, .inr (1, [.ref l1, .ref l2, .ref l3, .ref l4, .ref l5, .ref l6, .ref l7, .int (nI z), .int (nI k)])), (l1, .inl (cI, 240, .inl q1)), (h0, .inr (2, [.ref tx, .ref lw])), (tx, .inr (6, [.ref tp, .int ed, .int tx_2o_38, .int tx_3o_39]))] H := hP
    have hD : va_D A [(tp, .inr (5, [.ref by_, .int (nI T)])), (by_, .inl (cI, 260, .inl fb)), (lw, .inr (1, [.ref l1, .ref l2, .ref l3, .ref l4, .ref l5, .ref l6, .ref l7, .int (nI z), .int (nI k)])), (l1, .inl (cI, 240, .inl q1)), (h0, .inr (2, [.ref tx, .ref lw])), (tx, .inr (6, [.ref tp, .int ed, .int tx_2o_38, .int tx_3o_39]))] := hD
    obtain rfl : r_37 = 1 := hw_40.trans (by decide)
    refine lv_if_eq (tgt := 98) hx hb dX2_readPiece_19 (by decide) (fun c_19 => absurd c_19 (by decide)) (fun _ => ?_)
    refine lv_aload_n hx hb dX2_readPiece_22 rfl (lv_at hl 1 rfl) ?_
    refine lv_iload_n hx hb dX2_readPiece_23 rfl (lv_at hl 2 rfl) ?_
    refine lv_iconst (v := 1) hx hb dX2_readPiece_24 (by decide) ?_
    refine lv_iadd hx hb dX2_readPiece_25 ?_
    refine tv (z := 4) (by decide) ?_
    refine cVVk (As := [.int 4]) (rest := []) (n := 1) (ci := 2) (q0 := 0) (wr := []) X hN hKO hK hP hD hS hA (c_readPiece_4 l D cI cB _ kk h0 tx tp ed tx_2o_38 tx_3o_39 by_ T fb lw l1 l2 l3 l4 l5 l6 l7 z k q1 hT hz hk) (gV k_636 k_638 k_9 k_99 k_639) (by decide +kernel) ⟨Nat.le_of_ble_eq_true rfl, Nat.le_of_ble_eq_true rfl⟩ ⟨rfl, rfl⟩ [4, 5, 0, 1, 2, 3] [] rfl rfl (by decide) (by decide) rfl rfl rfl rfl rfl hl.1 (Nat.le_of_ble_eq_true rfl) dX2_readPiece_26 ⟨Nat.le_of_ble_eq_true rfl, Nat.le_of_ble_eq_true rfl⟩ (fun u H locs hw_46 hP hD hS => ?_)
    obtain ⟨plo_42, fao_43, zo_44, l1o_45⟩ := u
    try dsimp only at hw_46
    have hP : va_P D vwCl [(h0, .inr (2, [.ref tx, .ref lw])), (tx, .inr (6, [.ref tp, .int ed, .int plo_42, .int fao_43])), (tp, .inr (5, [.ref by_, .int (nI T)])), (by_, .inl (cI, 260, .inl fb)), (lw, .inr (1, [.ref l1, .ref l2, .ref l3, .ref l4, .ref l5, .ref l6, .ref l7, .int (nI zo_44), .int (nI k)])), (l1, .inl (cI, 240, .inl l1o_45))] H := hP
    have hD : va_D A [(h0, .inr (2, [.ref tx, .ref lw])), (tx, .inr (6, [.ref tp, .int ed, .int plo_42, .int fao_43])), (tp, .inr (5, [.ref by_, .int (nI T)])), (by_, .inl (cI, 260, .inl fb)), (lw, .inr (1, [.ref l1, .ref l2, .ref l3, .ref l4, .ref l5, .ref l6, .ref l7, .int (nI zo_44), .int (nI k)])), (l1, .inl (cI, 240, .inl l1o_45))] := hD
    refine lv_aload_n hx hb dX2_readPiece_29 rfl (lv_at hl 1 rfl) ?_
    refine va_get (D := D) (ci := 2) (v := .ref lw) (C := RX2) (T := TX2) (N := 2) hx hb htb itX2 hown hK hP 0 rfl rfl 1 (by decide) (htb _ k_289) (fun _ h9 => h9) rfl dX2_readPiece_30 ?_
    refine lv_iconst (v := 2) hx hb dX2_readPiece_33 (by decide) ?_
    refine lv_iconst (v := 0) hx hb dX2_readPiece_34 (by decide) ?_
    refine cVV (As := [.int 2, .int 0]) (rest := []) (n := 2) (ci := 1) (q0 := 0) (wr := [(h0, .inr (2, [.ref tx, .ref lw])), (tx, .inr (6, [.ref tp, .int ed, .int plo_42, .int fao_43])), (tp, .inr (5, [.ref by_, .int (nI T)])), (by_, .inl (cI, 260, .inl fb))]) X hN hK hP hD hS hA (c_X1_addStep l D cI cB _ lw l1 l2 l3 l4 l5 l6 l7 zo_44 k 2 0 l1o_45 hw_46 hk) (gV k_594 k_595 k_596 k_97 k_597) (by decide +kernel) ⟨Nat.le_of_ble_eq_true rfl, Nat.le_of_ble_eq_true rfl⟩ ⟨rfl, rfl⟩ [4, 5] [0, 1, 2, 3] rfl rfl (by decide) (by decide) rfl rfl rfl rfl rfl hl.1 (Nat.le_of_ble_eq_true rfl) dX2_readPiece_35 ⟨Nat.le_of_ble_eq_true rfl, Nat.le_of_ble_eq_true rfl⟩ (fun u H locs hw_50 hP hD hS => ?_)
    obtain ⟨zo_48, l1_fo_49⟩ := u
    try dsimp only at hw_50
    have hP : va_P D vwCl [(h0, .inr (2, [.ref tx, .ref lw])), (tx, .inr (6, [.ref tp, .int ed, .int plo_42, .int fao_43])), (tp, .inr (5, [.ref by_, .int (nI T)])), (by_, .inl (cI, 260, .inl fb)), (lw, .inr (1, [.ref l1, .ref l2, .ref l3, .ref l4, .ref l5, .ref l6, .ref l7, .int (nI zo_48), .int (nI k)])), (l1, .inl (cI, 240, .inl l1_fo_49))] H := hP
    have hD : va_D A [(h0, .inr (2, [.ref tx, .ref lw])), (tx, .inr (6, [.ref tp, .int ed, .int plo_42, .int fao_43])), (tp, .inr (5, [.ref by_, .int (nI T)])), (by_, .inl (cI, 260, .inl fb)), (lw, .inr (1, [.ref l1, .ref l2, .ref l3, .ref l4, .ref l5, .ref l6, .ref l7, .int (nI zo_48), .int (nI k)])), (l1, .inl (cI, 240, .inl l1_fo_49))] := hD
    refine lv_goto (tgt := 98) hx hb dX2_readPiece_38 (by decide) ?_
    exact ret _ _ _ _ (plo_42, fao_43, zo_48, l1_fo_49) dX2_readPiece_98 hw_50 (hP.sub [0, 1, 2, 3, 4, 5] rfl) (hD.sub [0, 1, 2, 3, 4, 5] (by decide) rfl) hS

set_option maxRecDepth 100000 in
set_option maxHeartbeats 4000000 in
theorem c_readPart_3 (l : Launch) (D : va_G) (cI cB : ClassId) (sz : Nat) (kk : KT) (h0 : Nat) (tx : Nat) (tp : Nat) (ed : Int32) (pl : Int32) (fa : Int32) (by_ : Nat) (T : Nat) (fb : Nat → Int32) (lw : Nat) (l1 : Nat) (l2 : Nat) (l3 : Nat) (l4 : Nat) (l5 : Nat) (l6 : Nat) (l7 : Nat) (z : Nat) (k : Nat) (q1 : Nat → Int32) (hT : T ≤ 260) (hz : z ≤ 240) (hk : k ≤ 16) : MVk (S := ((Int32) × (Int32) × (Nat) × (Nat → Int32))) l D cI cB kk yX2_readPart cX2_readPart 4 (rm 18 411) [.ref h0, .int 3] [(h0, .inr (2, [.ref tx, .ref lw])), (tx, .inr (6, [.ref tp, .int ed, .int pl, .int fa])), (tp, .inr (5, [.ref by_, .int (nI T)])), (by_, .inl (cI, 260, .inl fb)), (lw, .inr (1, [.ref l1, .ref l2, .ref l3, .ref l4, .ref l5, .ref l6, .ref l7, .int (nI z), .int (nI k)])), (l1, .inl (cI, 240, .inl q1))] sz (fun u => u.2.2.1 ≤ 240) (fun u : ((Int32) × (Int32) × (Nat) × (Nat → Int32)) => [(h0, .inr (2, [.ref tx, .ref lw])), (tx, .inr (6, [.ref tp, .int ed, .int u.1, .int u.2.1])), (tp, .inr (5, [.ref by_, .int (nI T)])), (by_, .inl (cI, 260, .inl fb)), (lw, .inr (1, [.ref l1, .ref l2, .ref l3, .ref l4, .ref l5, .ref l6, .ref l7, .int (nI u.2.2.1), .int (nI k)])), (l1, .inl (cI, 240, .inl u.2.2.2))]) := by
  refine MVk.of (by decide) (Nat.le_of_ble_eq_true rfl) ?_
  intro p e s m below meth c Q ls A X hin hN hKO hP hK hD hA hl ret
  have hS : va_S A s.heap s.heap [] := va_S.rf
  obtain ⟨hx, hb, hml, hown, htb⟩ := id X
  have hl : lv_has ls 4 [(0, .ref h0), (1, .int 3)] := hl
  refine lv_aload_n hx hb dX2_readPart_0 rfl (lv_at hl 0 rfl) ?_
  refine lv_iload_n hx hb dX2_readPart_1 rfl (lv_at hl 1 rfl) ?_
  refine cVVk (As := [.int 3]) (rest := []) (n := 1) (ci := 2) (q0 := 0) (wr := []) X hN hKO hK hP hD hS hA (c_readPiece_3 l D cI cB _ kk h0 tx tp ed pl fa by_ T fb lw l1 l2 l3 l4 l5 l6 l7 z k q1 hT hz hk) (gV k_636 k_638 k_9 k_99 k_639) (by decide +kernel) ⟨Nat.le_of_ble_eq_true rfl, Nat.le_of_ble_eq_true rfl⟩ ⟨rfl, rfl⟩ [0, 1, 2, 3, 4, 5] [] rfl rfl (by decide) (by decide) rfl rfl rfl rfl rfl hl.1 (Nat.le_of_ble_eq_true rfl) dX2_readPart_2 ⟨Nat.le_of_ble_eq_true rfl, Nat.le_of_ble_eq_true rfl⟩ (fun u H locs hw_6 hP hD hS => ?_)
  obtain ⟨plo_2, fao_3, zo_4, l1o_5⟩ := u
  try dsimp only at hw_6
  have hP : va_P D vwCl [(h0, .inr (2, [.ref tx, .ref lw])), (tx, .inr (6, [.ref tp, .int ed, .int plo_2, .int fao_3])), (tp, .inr (5, [.ref by_, .int (nI T)])), (by_, .inl (cI, 260, .inl fb)), (lw, .inr (1, [.ref l1, .ref l2, .ref l3, .ref l4, .ref l5, .ref l6, .ref l7, .int (nI zo_4), .int (nI k)])), (l1, .inl (cI, 240, .inl l1o_5))] H := hP
  have hD : va_D A [(h0, .inr (2, [.ref tx, .ref lw])), (tx, .inr (6, [.ref tp, .int ed, .int plo_2, .int fao_3])), (tp, .inr (5, [.ref by_, .int (nI T)])), (by_, .inl (cI, 260, .inl fb)), (lw, .inr (1, [.ref l1, .ref l2, .ref l3, .ref l4, .ref l5, .ref l6, .ref l7, .int (nI zo_4), .int (nI k)])), (l1, .inl (cI, 240, .inl l1o_5))] := hD
  refine lv_iconst (v := 0) hx hb dX2_readPart_5 (by decide) ?_
  refine lv_istore_n (lv' := [(2, .int 0), (0, .ref h0), (1, .int 3)]) hx hb dX2_readPart_6 rfl hl (by decide) rfl (fun ls hl => ?_)
  have loop_7 : ∀ (n i : Nat) (pa : Int32) (fb_ : Int32) (za : Nat) (qa : Nat → Int32), n + i = 240 → (za ≤ 240) → ∀ (H : Heap) (locs : List Loc), va_P D vwCl [(h0, .inr (2, [.ref tx, .ref lw])), (tx, .inr (6, [.ref tp, .int ed, .int pa, .int fb_])), (tp, .inr (5, [.ref by_, .int (nI T)])), (by_, .inl (cI, 260, .inl fb)), (lw, .inr (1, [.ref l1, .ref l2, .ref l3, .ref l4, .ref l5, .ref l6, .ref l7, .int (nI za), .int (nI k)])), (l1, .inl (cI, 240, .inl qa))] H → va_D A [(h0, .inr (2, [.ref tx, .ref lw])), (tx, .inr (6, [.ref tp, .int ed, .int pa, .int fb_])), (tp, .inr (5, [.ref by_, .int (nI T)])), (by_, .inl (cI, 260, .inl fb)), (lw, .inr (1, [.ref l1, .ref l2, .ref l3, .ref l4, .ref l5, .ref l6, .ref l7, .int (nI za), .int (nI k)])), (l1, .inl (cI, 240, .inl qa))] → va_S A s.heap H locs → ∀ (ls : Array Slot), lv_has ls 4 [(0, .ref h0), (1, .int 3), (2, .int (nI i))] → W p l e (rm 18 411) s m ([.ref h0, .int 3] : List Value).toArray below meth c H locs 0 0 Q (F0 m 7 ls []) := by
    intro n
    induction n with
    | zero =>
      intro i pa fb_ za qa hni hza H locs hP hD hS ls hl
      have hni_7 := hni
      have hi : i = 240 := by omega
      refine lv_iload_n hx hb dX2_readPart_7 rfl (lv_at hl 2 rfl) ?_
      refine lv_sipush (v := 240) hx hb dX2_readPart_8 (by decide) ?_
      refine lv_icmp_ge (tgt := 62) hx hb dX2_readPart_11 (by decide) (fun _ => ?_) (fun c_11 => absurd (by rw [hi]; decide) c_11)
      exact ret _ _ _ _ (pa, fb_, za, qa) dX2_readPart_62 hza (hP.sub [0, 1, 2, 3, 4, 5] rfl) (hD.sub [0, 1, 2, 3, 4, 5] (by decide) rfl) hS
    | succ n ih_7 =>
      intro i pa fb_ za qa hni hza H locs hP hD hS ls hl
      have hni_7 := hni
      have hi : i < 240 := by omega
      refine lv_iload_n hx hb dX2_readPart_7 rfl (lv_at hl 2 rfl) ?_
      refine lv_sipush (v := 240) hx hb dX2_readPart_8 (by decide) ?_
      refine lv_icmp_ge (tgt := 62) hx hb dX2_readPart_11 (by decide) (fun c_11 => absurd c_11 (nI_ge hi (by decide))) (fun _ => ?_)
      refine lv_aload_n hx hb dX2_readPart_14 rfl (lv_at hl 0 rfl) ?_
      refine va_get (D := D) (ci := 2) (v := .ref tx) (C := RX2) (T := TX2) (N := 2) hx hb htb itX2 hown hK hP 0 rfl rfl 0 (by decide) (htb _ k_288) (fun _ h9 => h9) rfl dX2_readPart_15 ?_
      refine lv_bipush (v := 38) hx hb dX2_readPart_18 (by decide) ?_
      refine cVI (As := [.int 38]) (rest := []) (n := 1) (ci := 6) (q0 := 0) (wr := [(h0, .inr (2, [.ref tx, .ref lw])), (lw, .inr (1, [.ref l1, .ref l2, .ref l3, .ref l4, .ref l5, .ref l6, .ref l7, .int (nI za), .int (nI k)])), (l1, .inl (cI, 240, .inl qa))]) X hN hK hP hD hS hA (c_X6_skip l D cI cB _ tx tp ed pa fb_ by_ T fb 38 hT) (gV k_644 k_607 k_608 k_98 k_609) (by decide +kernel) ⟨Nat.le_of_ble_eq_true rfl, Nat.le_of_ble_eq_true rfl⟩ ⟨rfl, rfl⟩ [1, 2, 3] [0, 4, 5] rfl rfl (by decide) (by decide) rfl rfl rfl rfl rfl hl.1 (Nat.le_of_ble_eq_true rfl) dX2_readPart_20 ⟨Nat.le_of_ble_eq_true rfl, Nat.le_of_ble_eq_true rfl⟩ (fun r_7 u H locs hw_9 hP hD hS => ?_)
      obtain ⟨h0_2o_8, rfl⟩ : ∃ z, z = u := ⟨_, rfl⟩
      try dsimp only at hw_9
      have hP : va_P D vwCl [(h0, .inr (2, [.ref tx, .ref lw])), (lw, .inr (1, [.ref l1, .ref l2, .ref l3, .ref l4, .ref l5, .ref l6, .ref l7, .int (nI za), .int (nI k)])), (l1, .inl (cI, 240, .inl qa)), (tx, .inr (6, [.ref tp, .int ed, .int h0_2o_8, .int fb_])), (tp, .inr (5, [.ref by_, .int (nI T)])), (by_, .inl (cI, 260, .inl fb))] H := hP
      have hD : va_D A [(h0, .inr (2, [.ref tx, .ref lw])), (lw, .inr (1, [.ref l1, .ref l2, .ref l3, .ref l4, .ref l5, .ref l6, .ref l7, .int (nI za), .int (nI k)])), (l1, .inl (cI, 240, .inl qa)), (tx, .inr (6, [.ref tp, .int ed, .int h0_2o_8, .int fb_])), (tp, .inr (5, [.ref by_, .int (nI T)])), (by_, .inl (cI, 260, .inl fb))] := hD
      refine lv_if_eq (tgt := 62) hx hb dX2_readPart_23 (by decide) (fun c_23 => ?_) (fun c_23 => ?_)
      · exact ret _ _ _ _ (h0_2o_8, fb_, za, qa) dX2_readPart_62 hza (hP.sub [0, 3, 4, 5, 1, 2] rfl) (hD.sub [0, 3, 4, 5, 1, 2] (by decide) rfl) hS
      · refine lv_aload_n hx hb dX2_readPart_26 rfl (lv_at hl 0 rfl) ?_
        refine va_get (D := D) (ci := 2) (v := .ref lw) (C := RX2) (T := TX2) (N := 2) hx hb htb itX2 hown hK hP 0 rfl rfl 1 (by decide) (htb _ k_289) (fun _ h9 => h9) rfl dX2_readPart_27 ?_
        refine va_getN (D := D) (ci := 1) (v := .int (nI za)) (C := RX1) (T := TX1) (N := 9) hx hb htb itX1 hown hK hP 1 rfl rfl 7 (by decide) (va_Nw.use rfl (hN _ n_232 rfl)) (fun _ h9 => h9) rfl dX2_readPart_30 ?_
        refine lv_istore_n (lv' := [(3, .int (nI za)), (0, .ref h0), (1, .int 3), (2, .int (nI i))]) hx hb dX2_readPart_33 rfl hl (by decide) rfl (fun ls hl => ?_)
        refine lv_aload_n hx hb dX2_readPart_34 rfl (lv_at hl 1 rfl) ?_
        refine va_get (D := D) (ci := 2) (v := .ref lw) (C := RX2) (T := TX2) (N := 2) hx hb htb itX2 hown hK hP 0 rfl rfl 1 (by decide) (htb _ k_289) (fun _ h9 => h9) rfl dX2_readPart_35 ?_
        refine lv_iconst (v := 4) hx hb dX2_readPart_38 (by decide) ?_
        refine lv_iconst (v := 0) hx hb dX2_readPart_39 (by decide) ?_
        refine cVV (As := [.int 4, .int 0]) (rest := []) (n := 2) (ci := 1) (q0 := 0) (wr := [(h0, .inr (2, [.ref tx, .ref lw])), (tx, .inr (6, [.ref tp, .int ed, .int h0_2o_8, .int fb_])), (tp, .inr (5, [.ref by_, .int (nI T)])), (by_, .inl (cI, 260, .inl fb))]) X hN hK hP hD hS hA (c_X1_addStep l D cI cB _ lw l1 l2 l3 l4 l5 l6 l7 za k 4 0 qa hza hk) (gV k_594 k_595 k_596 k_97 k_597) (by decide +kernel) ⟨Nat.le_of_ble_eq_true rfl, Nat.le_of_ble_eq_true rfl⟩ ⟨rfl, rfl⟩ [1, 2] [0, 3, 4, 5] rfl rfl (by decide) (by decide) rfl rfl rfl rfl rfl hl.1 (Nat.le_of_ble_eq_true rfl) dX2_readPart_40 ⟨Nat.le_of_ble_eq_true rfl, Nat.le_of_ble_eq_true rfl⟩ (fun u H locs hw_13 hP hD hS => ?_)
        obtain ⟨zo_11, l1_fo_12⟩ := u
        try dsimp only at hw_13
        have hP : va_P D vwCl [(h0, .inr (2, [.ref tx, .ref lw])), (tx, .inr (6, [.ref tp, .int ed, .int h0_2o_8, .int fb_])), (tp, .inr (5, [.ref by_, .int (nI T)])), (by_, .inl (cI, 260, .inl fb)), (lw, .inr (1, [.ref l1, .ref l2, .ref l3, .ref l4, .ref l5, .ref l6, .ref l7, .int (nI zo_11), .int (nI k)])), (l1, .inl (cI, 240, .inl l1_fo_12))] H := hP
        have hD : va_D A [(h0, .inr (2, [.ref tx, .ref lw])), (tx, .inr (6, [.ref tp, .int ed, .int h0_2o_8, .int fb_])), (tp, .inr (5, [.ref by_, .int (nI T)])), (by_, .inl (cI, 260, .inl fb)), (lw, .inr (1, [.ref l1, .ref l2, .ref l3, .ref l4, .ref l5, .ref l6, .ref l7, .int (nI zo_11), .int (nI k)])), (l1, .inl (cI, 240, .inl l1_fo_12))] := hD
        refine lv_aload_n hx hb dX2_readPart_43 rfl (lv_at hl 1 rfl) ?_
        refine lv_iload_n hx hb dX2_readPart_44 rfl (lv_at hl 2 rfl) ?_
        refine cVVk (As := [.int 3]) (rest := []) (n := 1) (ci := 2) (q0 := 0) (wr := []) X hN hKO hK hP hD hS hA (c_readPiece_3 l D cI cB _ kk h0 tx tp ed h0_2o_8 fb_ by_ T fb lw l1 l2 l3 l4 l5 l6 l7 zo_11 k l1_fo_12 hT hw_13 hk) (gV k_636 k_638 k_9 k_99 k_639) (by decide +kernel) ⟨Nat.le_of_ble_eq_true rfl, Nat.le_of_ble_eq_true rfl⟩ ⟨rfl, rfl⟩ [0, 1, 2, 3, 4, 5] [] rfl rfl (by decide) (by decide) rfl rfl rfl rfl rfl hl.1 (Nat.le_of_ble_eq_true rfl) dX2_readPart_45 ⟨Nat.le_of_ble_eq_true rfl, Nat.le_of_ble_eq_true rfl⟩ (fun u H locs hw_19 hP hD hS => ?_)
        obtain ⟨plo_15, fao_16, zo_17, l1o_18⟩ := u
        try dsimp only at hw_19
        have hP : va_P D vwCl [(h0, .inr (2, [.ref tx, .ref lw])), (tx, .inr (6, [.ref tp, .int ed, .int plo_15, .int fao_16])), (tp, .inr (5, [.ref by_, .int (nI T)])), (by_, .inl (cI, 260, .inl fb)), (lw, .inr (1, [.ref l1, .ref l2, .ref l3, .ref l4, .ref l5, .ref l6, .ref l7, .int (nI zo_17), .int (nI k)])), (l1, .inl (cI, 240, .inl l1o_18))] H := hP
        have hD : va_D A [(h0, .inr (2, [.ref tx, .ref lw])), (tx, .inr (6, [.ref tp, .int ed, .int plo_15, .int fao_16])), (tp, .inr (5, [.ref by_, .int (nI T)])), (by_, .inl (cI, 260, .inl fb)), (lw, .inr (1, [.ref l1, .ref l2, .ref l3, .ref l4, .ref l5, .ref l6, .ref l7, .int (nI zo_17), .int (nI k)])), (l1, .inl (cI, 240, .inl l1o_18))] := hD
        refine lv_aload_n hx hb dX2_readPart_48 rfl (lv_at hl 1 rfl) ?_
        refine va_get (D := D) (ci := 2) (v := .ref lw) (C := RX2) (T := TX2) (N := 2) hx hb htb itX2 hown hK hP 0 rfl rfl 1 (by decide) (htb _ k_289) (fun _ h9 => h9) rfl dX2_readPart_49 ?_
        refine lv_iload_n hx hb dX2_readPart_52 rfl (lv_at hl 0 rfl) ?_
        refine cVV (As := [.int (nI za)]) (rest := []) (n := 1) (ci := 1) (q0 := 0) (wr := [(h0, .inr (2, [.ref tx, .ref lw])), (tx, .inr (6, [.ref tp, .int ed, .int plo_15, .int fao_16])), (tp, .inr (5, [.ref by_, .int (nI T)])), (by_, .inl (cI, 260, .inl fb))]) X hN hK hP hD hS hA (c_X1_landSkip l D cI cB _ lw l1 l2 l3 l4 l5 l6 l7 zo_17 k (nI za) l1o_18 hw_19 hk) (gV k_645 k_646 k_647 k_97 k_648) (by decide +kernel) ⟨Nat.le_of_ble_eq_true rfl, Nat.le_of_ble_eq_true rfl⟩ ⟨rfl, rfl⟩ [4, 5] [0, 1, 2, 3] rfl rfl (by decide) (by decide) rfl rfl rfl rfl rfl hl.1 (Nat.le_of_ble_eq_true rfl) dX2_readPart_53 ⟨Nat.le_of_ble_eq_true rfl, Nat.le_of_ble_eq_true rfl⟩ (fun u H locs hw_22 hP hD hS => ?_)
        obtain ⟨l1_fo_21, rfl⟩ : ∃ z, z = u := ⟨_, rfl⟩
        try dsimp only at hw_22
        have hP : va_P D vwCl [(h0, .inr (2, [.ref tx, .ref lw])), (tx, .inr (6, [.ref tp, .int ed, .int plo_15, .int fao_16])), (tp, .inr (5, [.ref by_, .int (nI T)])), (by_, .inl (cI, 260, .inl fb)), (lw, .inr (1, [.ref l1, .ref l2, .ref l3, .ref l4, .ref l5, .ref l6, .ref l7, .int (nI zo_17), .int (nI k)])), (l1, .inl (cI, 240, .inl l1_fo_21))] H := hP
        have hD : va_D A [(h0, .inr (2, [.ref tx, .ref lw])), (tx, .inr (6, [.ref tp, .int ed, .int plo_15, .int fao_16])), (tp, .inr (5, [.ref by_, .int (nI T)])), (by_, .inl (cI, 260, .inl fb)), (lw, .inr (1, [.ref l1, .ref l2, .ref l3, .ref l4, .ref l5, .ref l6, .ref l7, .int (nI zo_17), .int (nI k)])), (l1, .inl (cI, 240, .inl l1_fo_21))] := hD
        refine lv_iinc (v := (nI (i + 1))) (lv' := [(2, .int (nI (i + 1))), (3, .int (nI za)), (0, .ref h0), (1, .int 3)]) hx hb dX2_readPart_56 hl (k := 3) rfl (nI_1 i) (by decide) rfl (fun ls hl => ?_)
        refine lv_goto (tgt := 7) hx hb dX2_readPart_59 (by decide) ?_
        exact ih_7 (i + 1) plo_15 fao_16 zo_17 l1_fo_21 (by omega) hw_19 _ _ (hP.sub [0, 1, 2, 3, 4, 5] rfl) (hD.sub [0, 1, 2, 3, 4, 5] (by decide) rfl) hS _ (lv_sub hl [2, 3, 0] rfl)
  exact loop_7 240 0 plo_2 fao_3 zo_4 l1o_5 (by omega) hw_6 _ _ (hP.sub [0, 1, 2, 3, 4, 5] rfl) (hD.sub [0, 1, 2, 3, 4, 5] (by decide) rfl) hS _ (lv_sub hl [1, 2, 0] rfl)

set_option maxRecDepth 100000 in
set_option maxHeartbeats 4000000 in
theorem c_readChoice_3 (l : Launch) (D : va_G) (cI cB : ClassId) (sz : Nat) (kk : KT) (h0 : Nat) (tx : Nat) (tp : Nat) (ed : Int32) (pl : Int32) (fa : Int32) (by_ : Nat) (T : Nat) (fb : Nat → Int32) (lw : Nat) (l1 : Nat) (l2 : Nat) (l3 : Nat) (l4 : Nat) (l5 : Nat) (l6 : Nat) (l7 : Nat) (z : Nat) (k : Nat) (q1 : Nat → Int32) (hT : T ≤ 260) (hz : z ≤ 240) (hk : k ≤ 16) : MVk (S := ((Int32) × (Int32) × (Nat) × (Nat → Int32))) l D cI cB kk yX2_readChoice cX2_readChoice 4 (rm 19 434) [.ref h0, .int 3] [(h0, .inr (2, [.ref tx, .ref lw])), (tx, .inr (6, [.ref tp, .int ed, .int pl, .int fa])), (tp, .inr (5, [.ref by_, .int (nI T)])), (by_, .inl (cI, 260, .inl fb)), (lw, .inr (1, [.ref l1, .ref l2, .ref l3, .ref l4, .ref l5, .ref l6, .ref l7, .int (nI z), .int (nI k)])), (l1, .inl (cI, 240, .inl q1))] sz (fun u => u.2.2.1 ≤ 240) (fun u : ((Int32) × (Int32) × (Nat) × (Nat → Int32)) => [(h0, .inr (2, [.ref tx, .ref lw])), (tx, .inr (6, [.ref tp, .int ed, .int u.1, .int u.2.1])), (tp, .inr (5, [.ref by_, .int (nI T)])), (by_, .inl (cI, 260, .inl fb)), (lw, .inr (1, [.ref l1, .ref l2, .ref l3, .ref l4, .ref l5, .ref l6, .ref l7, .int (nI u.2.2.1), .int (nI k)])), (l1, .inl (cI, 240, .inl u.2.2.2))]) := by
  refine MVk.of (by decide) (Nat.le_of_ble_eq_true rfl) ?_
  intro p e s m below meth c Q ls A X hin hN hKO hP hK hD hA hl ret
  have hS : va_S A s.heap s.heap [] := va_S.rf
  obtain ⟨hx, hb, hml, hown, htb⟩ := id X
  have hl : lv_has ls 4 [(0, .ref h0), (1, .int 3)] := hl
  refine lv_aload_n hx hb dX2_readChoice_0 rfl (lv_at hl 0 rfl) ?_
  refine lv_iload_n hx hb dX2_readChoice_1 rfl (lv_at hl 1 rfl) ?_
  refine cVVk (As := [.int 3]) (rest := []) (n := 1) (ci := 2) (q0 := 0) (wr := []) X hN hKO hK hP hD hS hA (c_readPart_3 l D cI cB _ kk h0 tx tp ed pl fa by_ T fb lw l1 l2 l3 l4 l5 l6 l7 z k q1 hT hz hk) (gV k_632 k_634 k_8 k_99 k_635) (by decide +kernel) ⟨Nat.le_of_ble_eq_true rfl, Nat.le_of_ble_eq_true rfl⟩ ⟨rfl, rfl⟩ [0, 1, 2, 3, 4, 5] [] rfl rfl (by decide) (by decide) rfl rfl rfl rfl rfl hl.1 (Nat.le_of_ble_eq_true rfl) dX2_readChoice_2 ⟨Nat.le_of_ble_eq_true rfl, Nat.le_of_ble_eq_true rfl⟩ (fun u H locs hw_6 hP hD hS => ?_)
  obtain ⟨plo_2, fao_3, zo_4, l1o_5⟩ := u
  try dsimp only at hw_6
  have hP : va_P D vwCl [(h0, .inr (2, [.ref tx, .ref lw])), (tx, .inr (6, [.ref tp, .int ed, .int plo_2, .int fao_3])), (tp, .inr (5, [.ref by_, .int (nI T)])), (by_, .inl (cI, 260, .inl fb)), (lw, .inr (1, [.ref l1, .ref l2, .ref l3, .ref l4, .ref l5, .ref l6, .ref l7, .int (nI zo_4), .int (nI k)])), (l1, .inl (cI, 240, .inl l1o_5))] H := hP
  have hD : va_D A [(h0, .inr (2, [.ref tx, .ref lw])), (tx, .inr (6, [.ref tp, .int ed, .int plo_2, .int fao_3])), (tp, .inr (5, [.ref by_, .int (nI T)])), (by_, .inl (cI, 260, .inl fb)), (lw, .inr (1, [.ref l1, .ref l2, .ref l3, .ref l4, .ref l5, .ref l6, .ref l7, .int (nI zo_4), .int (nI k)])), (l1, .inl (cI, 240, .inl l1o_5))] := hD
  refine lv_iconst (v := 0) hx hb dX2_readChoice_5 (by decide) ?_
  refine lv_istore_n (lv' := [(2, .int 0), (0, .ref h0), (1, .int 3)]) hx hb dX2_readChoice_6 rfl hl (by decide) rfl (fun ls hl => ?_)
  have loop_7 : ∀ (n i : Nat) (pa : Int32) (fb_ : Int32) (za : Nat) (qa : Nat → Int32), n + i = 240 → (za ≤ 240) → ∀ (H : Heap) (locs : List Loc), va_P D vwCl [(h0, .inr (2, [.ref tx, .ref lw])), (tx, .inr (6, [.ref tp, .int ed, .int pa, .int fb_])), (tp, .inr (5, [.ref by_, .int (nI T)])), (by_, .inl (cI, 260, .inl fb)), (lw, .inr (1, [.ref l1, .ref l2, .ref l3, .ref l4, .ref l5, .ref l6, .ref l7, .int (nI za), .int (nI k)])), (l1, .inl (cI, 240, .inl qa))] H → va_D A [(h0, .inr (2, [.ref tx, .ref lw])), (tx, .inr (6, [.ref tp, .int ed, .int pa, .int fb_])), (tp, .inr (5, [.ref by_, .int (nI T)])), (by_, .inl (cI, 260, .inl fb)), (lw, .inr (1, [.ref l1, .ref l2, .ref l3, .ref l4, .ref l5, .ref l6, .ref l7, .int (nI za), .int (nI k)])), (l1, .inl (cI, 240, .inl qa))] → va_S A s.heap H locs → ∀ (ls : Array Slot), lv_has ls 4 [(0, .ref h0), (1, .int 3), (2, .int (nI i))] → W p l e (rm 19 434) s m ([.ref h0, .int 3] : List Value).toArray below meth c H locs 0 0 Q (F0 m 7 ls []) := by
    intro n
    induction n with
    | zero =>
      intro i pa fb_ za qa hni hza H locs hP hD hS ls hl
      have hni_7 := hni
      have hi : i = 240 := by omega
      refine lv_iload_n hx hb dX2_readChoice_7 rfl (lv_at hl 2 rfl) ?_
      refine lv_sipush (v := 240) hx hb dX2_readChoice_8 (by decide) ?_
      refine lv_icmp_ge (tgt := 62) hx hb dX2_readChoice_11 (by decide) (fun _ => ?_) (fun c_11 => absurd (by rw [hi]; decide) c_11)
      exact ret _ _ _ _ (pa, fb_, za, qa) dX2_readChoice_62 hza (hP.sub [0, 1, 2, 3, 4, 5] rfl) (hD.sub [0, 1, 2, 3, 4, 5] (by decide) rfl) hS
    | succ n ih_7 =>
      intro i pa fb_ za qa hni hza H locs hP hD hS ls hl
      have hni_7 := hni
      have hi : i < 240 := by omega
      refine lv_iload_n hx hb dX2_readChoice_7 rfl (lv_at hl 2 rfl) ?_
      refine lv_sipush (v := 240) hx hb dX2_readChoice_8 (by decide) ?_
      refine lv_icmp_ge (tgt := 62) hx hb dX2_readChoice_11 (by decide) (fun c_11 => absurd c_11 (nI_ge hi (by decide))) (fun _ => ?_)
      refine lv_aload_n hx hb dX2_readChoice_14 rfl (lv_at hl 0 rfl) ?_
      refine va_get (D := D) (ci := 2) (v := .ref tx) (C := RX2) (T := TX2) (N := 2) hx hb htb itX2 hown hK hP 0 rfl rfl 0 (by decide) (htb _ k_288) (fun _ h9 => h9) rfl dX2_readChoice_15 ?_
      refine lv_bipush (v := 124) hx hb dX2_readChoice_18 (by decide) ?_
      refine cVI (As := [.int 124]) (rest := []) (n := 1) (ci := 6) (q0 := 0) (wr := [(h0, .inr (2, [.ref tx, .ref lw])), (lw, .inr (1, [.ref l1, .ref l2, .ref l3, .ref l4, .ref l5, .ref l6, .ref l7, .int (nI za), .int (nI k)])), (l1, .inl (cI, 240, .inl qa))]) X hN hK hP hD hS hA (c_X6_skip l D cI cB _ tx tp ed pa fb_ by_ T fb 124 hT) (gV k_644 k_607 k_608 k_98 k_609) (by decide +kernel) ⟨Nat.le_of_ble_eq_true rfl, Nat.le_of_ble_eq_true rfl⟩ ⟨rfl, rfl⟩ [1, 2, 3] [0, 4, 5] rfl rfl (by decide) (by decide) rfl rfl rfl rfl rfl hl.1 (Nat.le_of_ble_eq_true rfl) dX2_readChoice_20 ⟨Nat.le_of_ble_eq_true rfl, Nat.le_of_ble_eq_true rfl⟩ (fun r_7 u H locs hw_9 hP hD hS => ?_)
      obtain ⟨h0_2o_8, rfl⟩ : ∃ z, z = u := ⟨_, rfl⟩
      try dsimp only at hw_9
      have hP : va_P D vwCl [(h0, .inr (2, [.ref tx, .ref lw])), (lw, .inr (1, [.ref l1, .ref l2, .ref l3, .ref l4, .ref l5, .ref l6, .ref l7, .int (nI za), .int (nI k)])), (l1, .inl (cI, 240, .inl qa)), (tx, .inr (6, [.ref tp, .int ed, .int h0_2o_8, .int fb_])), (tp, .inr (5, [.ref by_, .int (nI T)])), (by_, .inl (cI, 260, .inl fb))] H := hP
      have hD : va_D A [(h0, .inr (2, [.ref tx, .ref lw])), (lw, .inr (1, [.ref l1, .ref l2, .ref l3, .ref l4, .ref l5, .ref l6, .ref l7, .int (nI za), .int (nI k)])), (l1, .inl (cI, 240, .inl qa)), (tx, .inr (6, [.ref tp, .int ed, .int h0_2o_8, .int fb_])), (tp, .inr (5, [.ref by_, .int (nI T)])), (by_, .inl (cI, 260, .inl fb))] := hD
      refine lv_if_eq (tgt := 62) hx hb dX2_readChoice_23 (by decide) (fun c_23 => ?_) (fun c_23 => ?_)
      · exact ret _ _ _ _ (h0_2o_8, fb_, za, qa) dX2_readChoice_62 hza (hP.sub [0, 3, 4, 5, 1, 2] rfl) (hD.sub [0, 3, 4, 5, 1, 2] (by decide) rfl) hS
      · refine lv_aload_n hx hb dX2_readChoice_26 rfl (lv_at hl 0 rfl) ?_
        refine va_get (D := D) (ci := 2) (v := .ref lw) (C := RX2) (T := TX2) (N := 2) hx hb htb itX2 hown hK hP 0 rfl rfl 1 (by decide) (htb _ k_289) (fun _ h9 => h9) rfl dX2_readChoice_27 ?_
        refine va_getN (D := D) (ci := 1) (v := .int (nI za)) (C := RX1) (T := TX1) (N := 9) hx hb htb itX1 hown hK hP 1 rfl rfl 7 (by decide) (va_Nw.use rfl (hN _ n_232 rfl)) (fun _ h9 => h9) rfl dX2_readChoice_30 ?_
        refine lv_istore_n (lv' := [(3, .int (nI za)), (0, .ref h0), (1, .int 3), (2, .int (nI i))]) hx hb dX2_readChoice_33 rfl hl (by decide) rfl (fun ls hl => ?_)
        refine lv_aload_n hx hb dX2_readChoice_34 rfl (lv_at hl 1 rfl) ?_
        refine va_get (D := D) (ci := 2) (v := .ref lw) (C := RX2) (T := TX2) (N := 2) hx hb htb itX2 hown hK hP 0 rfl rfl 1 (by decide) (htb _ k_289) (fun _ h9 => h9) rfl dX2_readChoice_35 ?_
        refine lv_iconst (v := 3) hx hb dX2_readChoice_38 (by decide) ?_
        refine lv_iconst (v := 0) hx hb dX2_readChoice_39 (by decide) ?_
        refine cVV (As := [.int 3, .int 0]) (rest := []) (n := 2) (ci := 1) (q0 := 0) (wr := [(h0, .inr (2, [.ref tx, .ref lw])), (tx, .inr (6, [.ref tp, .int ed, .int h0_2o_8, .int fb_])), (tp, .inr (5, [.ref by_, .int (nI T)])), (by_, .inl (cI, 260, .inl fb))]) X hN hK hP hD hS hA (c_X1_addStep l D cI cB _ lw l1 l2 l3 l4 l5 l6 l7 za k 3 0 qa hza hk) (gV k_594 k_595 k_596 k_97 k_597) (by decide +kernel) ⟨Nat.le_of_ble_eq_true rfl, Nat.le_of_ble_eq_true rfl⟩ ⟨rfl, rfl⟩ [1, 2] [0, 3, 4, 5] rfl rfl (by decide) (by decide) rfl rfl rfl rfl rfl hl.1 (Nat.le_of_ble_eq_true rfl) dX2_readChoice_40 ⟨Nat.le_of_ble_eq_true rfl, Nat.le_of_ble_eq_true rfl⟩ (fun u H locs hw_13 hP hD hS => ?_)
        obtain ⟨zo_11, l1_fo_12⟩ := u
        try dsimp only at hw_13
        have hP : va_P D vwCl [(h0, .inr (2, [.ref tx, .ref lw])), (tx, .inr (6, [.ref tp, .int ed, .int h0_2o_8, .int fb_])), (tp, .inr (5, [.ref by_, .int (nI T)])), (by_, .inl (cI, 260, .inl fb)), (lw, .inr (1, [.ref l1, .ref l2, .ref l3, .ref l4, .ref l5, .ref l6, .ref l7, .int (nI zo_11), .int (nI k)])), (l1, .inl (cI, 240, .inl l1_fo_12))] H := hP
        have hD : va_D A [(h0, .inr (2, [.ref tx, .ref lw])), (tx, .inr (6, [.ref tp, .int ed, .int h0_2o_8, .int fb_])), (tp, .inr (5, [.ref by_, .int (nI T)])), (by_, .inl (cI, 260, .inl fb)), (lw, .inr (1, [.ref l1, .ref l2, .ref l3, .ref l4, .ref l5, .ref l6, .ref l7, .int (nI zo_11), .int (nI k)])), (l1, .inl (cI, 240, .inl l1_fo_12))] := hD
        refine lv_aload_n hx hb dX2_readChoice_43 rfl (lv_at hl 1 rfl) ?_
        refine lv_iload_n hx hb dX2_readChoice_44 rfl (lv_at hl 2 rfl) ?_
        refine cVVk (As := [.int 3]) (rest := []) (n := 1) (ci := 2) (q0 := 0) (wr := []) X hN hKO hK hP hD hS hA (c_readPart_3 l D cI cB _ kk h0 tx tp ed h0_2o_8 fb_ by_ T fb lw l1 l2 l3 l4 l5 l6 l7 zo_11 k l1_fo_12 hT hw_13 hk) (gV k_632 k_634 k_8 k_99 k_635) (by decide +kernel) ⟨Nat.le_of_ble_eq_true rfl, Nat.le_of_ble_eq_true rfl⟩ ⟨rfl, rfl⟩ [0, 1, 2, 3, 4, 5] [] rfl rfl (by decide) (by decide) rfl rfl rfl rfl rfl hl.1 (Nat.le_of_ble_eq_true rfl) dX2_readChoice_45 ⟨Nat.le_of_ble_eq_true rfl, Nat.le_of_ble_eq_true rfl⟩ (fun u H locs hw_19 hP hD hS => ?_)
        obtain ⟨plo_15, fao_16, zo_17, l1o_18⟩ := u
        try dsimp only at hw_19
        have hP : va_P D vwCl [(h0, .inr (2, [.ref tx, .ref lw])), (tx, .inr (6, [.ref tp, .int ed, .int plo_15, .int fao_16])), (tp, .inr (5, [.ref by_, .int (nI T)])), (by_, .inl (cI, 260, .inl fb)), (lw, .inr (1, [.ref l1, .ref l2, .ref l3, .ref l4, .ref l5, .ref l6, .ref l7, .int (nI zo_17), .int (nI k)])), (l1, .inl (cI, 240, .inl l1o_18))] H := hP
        have hD : va_D A [(h0, .inr (2, [.ref tx, .ref lw])), (tx, .inr (6, [.ref tp, .int ed, .int plo_15, .int fao_16])), (tp, .inr (5, [.ref by_, .int (nI T)])), (by_, .inl (cI, 260, .inl fb)), (lw, .inr (1, [.ref l1, .ref l2, .ref l3, .ref l4, .ref l5, .ref l6, .ref l7, .int (nI zo_17), .int (nI k)])), (l1, .inl (cI, 240, .inl l1o_18))] := hD
        refine lv_aload_n hx hb dX2_readChoice_48 rfl (lv_at hl 1 rfl) ?_
        refine va_get (D := D) (ci := 2) (v := .ref lw) (C := RX2) (T := TX2) (N := 2) hx hb htb itX2 hown hK hP 0 rfl rfl 1 (by decide) (htb _ k_289) (fun _ h9 => h9) rfl dX2_readChoice_49 ?_
        refine lv_iload_n hx hb dX2_readChoice_52 rfl (lv_at hl 0 rfl) ?_
        refine cVV (As := [.int (nI za)]) (rest := []) (n := 1) (ci := 1) (q0 := 0) (wr := [(h0, .inr (2, [.ref tx, .ref lw])), (tx, .inr (6, [.ref tp, .int ed, .int plo_15, .int fao_16])), (tp, .inr (5, [.ref by_, .int (nI T)])), (by_, .inl (cI, 260, .inl fb))]) X hN hK hP hD hS hA (c_X1_landSkip l D cI cB _ lw l1 l2 l3 l4 l5 l6 l7 zo_17 k (nI za) l1o_18 hw_19 hk) (gV k_645 k_646 k_647 k_97 k_648) (by decide +kernel) ⟨Nat.le_of_ble_eq_true rfl, Nat.le_of_ble_eq_true rfl⟩ ⟨rfl, rfl⟩ [4, 5] [0, 1, 2, 3] rfl rfl (by decide) (by decide) rfl rfl rfl rfl rfl hl.1 (Nat.le_of_ble_eq_true rfl) dX2_readChoice_53 ⟨Nat.le_of_ble_eq_true rfl, Nat.le_of_ble_eq_true rfl⟩ (fun u H locs hw_22 hP hD hS => ?_)
        obtain ⟨l1_fo_21, rfl⟩ : ∃ z, z = u := ⟨_, rfl⟩
        try dsimp only at hw_22
        have hP : va_P D vwCl [(h0, .inr (2, [.ref tx, .ref lw])), (tx, .inr (6, [.ref tp, .int ed, .int plo_15, .int fao_16])), (tp, .inr (5, [.ref by_, .int (nI T)])), (by_, .inl (cI, 260, .inl fb)), (lw, .inr (1, [.ref l1, .ref l2, .ref l3, .ref l4, .ref l5, .ref l6, .ref l7, .int (nI zo_17), .int (nI k)])), (l1, .inl (cI, 240, .inl l1_fo_21))] H := hP
        have hD : va_D A [(h0, .inr (2, [.ref tx, .ref lw])), (tx, .inr (6, [.ref tp, .int ed, .int plo_15, .int fao_16])), (tp, .inr (5, [.ref by_, .int (nI T)])), (by_, .inl (cI, 260, .inl fb)), (lw, .inr (1, [.ref l1, .ref l2, .ref l3, .ref l4, .ref l5, .ref l6, .ref l7, .int (nI zo_17), .int (nI k)])), (l1, .inl (cI, 240, .inl l1_fo_21))] := hD
        refine lv_iinc (v := (nI (i + 1))) (lv' := [(2, .int (nI (i + 1))), (3, .int (nI za)), (0, .ref h0), (1, .int 3)]) hx hb dX2_readChoice_56 hl (k := 3) rfl (nI_1 i) (by decide) rfl (fun ls hl => ?_)
        refine lv_goto (tgt := 7) hx hb dX2_readChoice_59 (by decide) ?_
        exact ih_7 (i + 1) plo_15 fao_16 zo_17 l1_fo_21 (by omega) hw_19 _ _ (hP.sub [0, 1, 2, 3, 4, 5] rfl) (hD.sub [0, 1, 2, 3, 4, 5] (by decide) rfl) hS _ (lv_sub hl [2, 3, 0] rfl)
  exact loop_7 240 0 plo_2 fao_3 zo_4 l1o_5 (by omega) hw_6 _ _ (hP.sub [0, 1, 2, 3, 4, 5] rfl) (hD.sub [0, 1, 2, 3, 4, 5] (by decide) rfl) hS _ (lv_sub hl [1, 2, 0] rfl)

set_option maxRecDepth 100000 in
set_option maxHeartbeats 4000000 in
theorem c_readPiece_2 (l : Launch) (D : va_G) (cI cB : ClassId) (sz : Nat) (kk : KT) (h0 : Nat) (tx : Nat) (tp : Nat) (ed : Int32) (pl : Int32) (fa : Int32) (by_ : Nat) (T : Nat) (fb : Nat → Int32) (lw : Nat) (l1 : Nat) (l2 : Nat) (l3 : Nat) (l4 : Nat) (l5 : Nat) (l6 : Nat) (l7 : Nat) (z : Nat) (k : Nat) (q1 : Nat → Int32) (hT : T ≤ 260) (hz : z ≤ 240) (hk : k ≤ 16) : MVk (S := ((Int32) × (Int32) × (Nat) × (Nat → Int32))) l D cI cB kk yX2_readPiece cX2_readPiece 4 (rm 20 457) [.ref h0, .int 2] [(h0, .inr (2, [.ref tx, .ref lw])), (tx, .inr (6, [.ref tp, .int ed, .int pl, .int fa])), (tp, .inr (5, [.ref by_, .int (nI T)])), (by_, .inl (cI, 260, .inl fb)), (lw, .inr (1, [.ref l1, .ref l2, .ref l3, .ref l4, .ref l5, .ref l6, .ref l7, .int (nI z), .int (nI k)])), (l1, .inl (cI, 240, .inl q1))] sz (fun u => u.2.2.1 ≤ 240) (fun u : ((Int32) × (Int32) × (Nat) × (Nat → Int32)) => [(h0, .inr (2, [.ref tx, .ref lw])), (tx, .inr (6, [.ref tp, .int ed, .int u.1, .int u.2.1])), (tp, .inr (5, [.ref by_, .int (nI T)])), (by_, .inl (cI, 260, .inl fb)), (lw, .inr (1, [.ref l1, .ref l2, .ref l3, .ref l4, .ref l5, .ref l6, .ref l7, .int (nI u.2.2.1), .int (nI k)])), (l1, .inl (cI, 240, .inl u.2.2.2))]) := by
  refine MVk.of (by decide) (Nat.le_of_ble_eq_true rfl) ?_
  intro p e s m below meth c Q ls A X hin hN hKO hP hK hD hA hl ret
  have hS : va_S A s.heap s.heap [] := va_S.rf
  obtain ⟨hx, hb, hml, hown, htb⟩ := id X
  have hl : lv_has ls 4 [(0, .ref h0), (1, .int 2)] := hl
  refine lv_aload_n hx hb dX2_readPiece_0 rfl (lv_at hl 0 rfl) ?_
  refine va_get (D := D) (ci := 2) (v := .ref tx) (C := RX2) (T := TX2) (N := 2) hx hb htb itX2 hown hK hP 0 rfl rfl 0 (by decide) (htb _ k_288) (fun _ h9 => h9) rfl dX2_readPiece_1 ?_
  refine cVR (As := []) (rest := []) (n := 0) (ci := 6) (q0 := 0) X hN hK hP (c_X6_sign l D cI cB tx tp ed pl fa by_ T fb hT) (gV k_483 k_484 k_485 k_98 k_486) (by decide +kernel) ⟨Nat.le_of_ble_eq_true rfl, Nat.le_of_ble_eq_true rfl⟩ ⟨rfl, rfl⟩ [1, 2, 3] rfl rfl rfl rfl rfl rfl hl.1 (Nat.le_of_ble_eq_true rfl) dX2_readPiece_4 ⟨Nat.le_of_ble_eq_true rfl, Nat.le_of_ble_eq_true rfl⟩ (fun r_1 hr_1 => ?_)
  subst hr_1
  refine lv_topi (fun x_2 ex_2 => ?_)
  refine lv_istore_n (lv' := [(2, .int x_2), (0, .ref h0), (1, .int 2)]) hx hb dX2_readPiece_7 rfl hl (by decide) rfl (fun ls hl => ?_)
  refine lv_iload_n hx hb dX2_readPiece_8 rfl (lv_at hl 0 rfl) ?_
  refine lv_bipush (v := 33) hx hb dX2_readPiece_9 (by decide) ?_
  refine lv_icmp_ne (tgt := 41) hx hb dX2_readPiece_11 (by decide) (fun c_11 => ?_) (fun c_11 => ?_)
  · refine lv_iload_n hx hb dX2_readPiece_41 rfl (lv_at hl 0 rfl) ?_
    refine lv_bipush (v := 40) hx hb dX2_readPiece_42 (by decide) ?_
    refine lv_icmp_ne (tgt := 74) hx hb dX2_readPiece_44 (by decide) (fun c_44 => ?_) (fun c_44 => ?_)
    · refine lv_aload_n hx hb dX2_readPiece_74 rfl (lv_at hl 1 rfl) ?_
      refine lv_iload_n hx hb dX2_readPiece_75 rfl (lv_at hl 2 rfl) ?_
      refine cVVk (As := [.int 2]) (rest := []) (n := 1) (ci := 2) (q0 := 0) (wr := []) X hN hKO hK hP hD hS hA (c_readSum_2 l D cI cB _ kk h0 tx tp ed pl fa by_ T fb lw l1 l2 l3 l4 l5 l6 l7 z k q1 hT hz hk) (gV k_581 k_583 k_2 k_99 k_584) (by decide +kernel) ⟨Nat.le_of_ble_eq_true rfl, Nat.le_of_ble_eq_true rfl⟩ ⟨rfl, rfl⟩ [0, 1, 2, 3, 4, 5] [] rfl rfl (by decide) (by decide) rfl rfl rfl rfl rfl hl.1 (Nat.le_of_ble_eq_true rfl) dX2_readPiece_76 ⟨Nat.le_of_ble_eq_true rfl, Nat.le_of_ble_eq_true rfl⟩ (fun u H locs hw_8 hP hD hS => ?_)
      obtain ⟨plo_4, fao_5, zo_6, l1o_7⟩ := u
      try dsimp only at hw_8
      have hP : va_P D vwCl [(h0, .inr (2, [.ref tx, .ref lw])), (tx, .inr (6, [.ref tp, .int ed, .int plo_4, .int fao_5])), (tp, .inr (5, [.ref by_, .int (nI T)])), (by_, .inl (cI, 260, .inl fb)), (lw, .inr (1, [.ref l1, .ref l2, .ref l3, .ref l4, .ref l5, .ref l6, .ref l7, .int (nI zo_6), .int (nI k)])), (l1, .inl (cI, 240, .inl l1o_7))] H := hP
      have hD : va_D A [(h0, .inr (2, [.ref tx, .ref lw])), (tx, .inr (6, [.ref tp, .int ed, .int plo_4, .int fao_5])), (tp, .inr (5, [.ref by_, .int (nI T)])), (by_, .inl (cI, 260, .inl fb)), (lw, .inr (1, [.ref l1, .ref l2, .ref l3, .ref l4, .ref l5, .ref l6, .ref l7, .int (nI zo_6), .int (nI k)])), (l1, .inl (cI, 240, .inl l1o_7))] := hD
      refine lv_aload_n hx hb dX2_readPiece_79 rfl (lv_at hl 1 rfl) ?_
      refine cVI (As := []) (rest := []) (n := 0) (ci := 2) (q0 := 0) (wr := [(lw, .inr (1, [.ref l1, .ref l2, .ref l3, .ref l4, .ref l5, .ref l6, .ref l7, .int (nI zo_6), .int (nI k)])), (l1, .inl (cI, 240, .inl l1o_7))]) X hN hK hP hD hS hA (c_X2_comparison l D cI cB _ h0 lw tx tp ed plo_4 fao_5 by_ T fb hT) (gV k_640 k_642 k_10 k_99 k_643) (by decide +kernel) ⟨Nat.le_of_ble_eq_true rfl, Nat.le_of_ble_eq_true rfl⟩ ⟨rfl, rfl⟩ [0, 1, 2, 3] [4, 5] rfl rfl (by decide) (by decide) rfl rfl rfl rfl rfl hl.1 (Nat.le_of_ble_eq_true rfl) dX2_readPiece_80 ⟨Nat.le_of_ble_eq_true rfl, Nat.le_of_ble_eq_true rfl⟩ (fun r_9 u H locs hw_12 hP hD hS => ?_)
      obtain ⟨tx_2o_10, tx_3o_11⟩ := u
      try dsimp only at hw_12
      have hP : va_P D vwCl [(lw, .inr (1, [.ref l1, .ref l2, .ref l3, .ref l4, .ref l5, .ref l6, .ref l7, .int (nI zo_6), .int (nI k)])), (l1, .inl (cI, 240, .inl l1o_7)), (h0, .inr (2, [.ref tx, .ref lw])), (tx, .inr (6, [.ref tp, .int ed, .int tx_2o_10, .int tx_3o_11])), (tp, .inr (5, [.ref by_, .int (nI T)])), (by_, .inl (cI, 260, .inl fb))] H := hP
      have hD : va_D A [(lw, .inr (1, [.ref l1, .ref l2, .ref l3, .ref l4, .ref l5, .ref l6, .ref l7, .int (nI zo_6), .int (nI k)])), (l1, .inl (cI, 240, .inl l1o_7)), (h0, .inr (2, [.ref tx, .ref lw])), (tx, .inr (6, [.ref tp, .int ed, .int tx_2o_10, .int tx_3o_11])), (tp, .inr (5, [.ref by_, .int (nI T)])), (by_, .inl (cI, 260, .inl fb))] := hD
      refine lv_istore_n (lv' := [(3, .int r_9), (2, .int x_2), (0, .ref h0), (1, .int 2)]) hx hb dX2_readPiece_83 rfl hl (by decide) rfl (fun ls hl => ?_)
      refine lv_aload_n hx hb dX2_readPiece_84 rfl (lv_at hl 2 rfl) ?_
      refine lv_iload_n hx hb dX2_readPiece_85 rfl (lv_at hl 3 rfl) ?_
      refine cVVk (As := [.int 2]) (rest := []) (n := 1) (ci := 2) (q0 := 0) (wr := []) X hN hKO hK hP hD hS hA (c_readSum_2 l D cI cB _ kk h0 tx tp ed tx_2o_10 tx_3o_11 by_ T fb lw l1 l2 l3 l4 l5 l6 l7 zo_6 k l1o_7 hT hw_8 hk) (gV k_581 k_583 k_2 k_99 k_584) (by decide +kernel) ⟨Nat.le_of_ble_eq_true rfl, Nat.le_of_ble_eq_true rfl⟩ ⟨rfl, rfl⟩ [2, 3, 4, 5, 0, 1] [] rfl rfl (by decide) (by decide) rfl rfl rfl rfl rfl hl.1 (Nat.le_of_ble_eq_true rfl) dX2_readPiece_86 ⟨Nat.le_of_ble_eq_true rfl, Nat.le_of_ble_eq_true rfl⟩ (fun u H locs hw_18 hP hD hS => ?_)
      obtain ⟨plo_14, fao_15, zo_16, l1o_17⟩ := u
      try dsimp only at hw_18
      have hP : va_P D vwCl [(h0, .inr (2, [.ref tx, .ref lw])), (tx, .inr (6, [.ref tp, .int ed, .int plo_14, .int fao_15])), (tp, .inr (5, [.ref by_, .int (nI T)])), (by_, .inl (cI, 260, .inl fb)), (lw, .inr (1, [.ref l1, .ref l2, .ref l3, .ref l4, .ref l5, .ref l6, .ref l7, .int (nI zo_16), .int (nI k)])), (l1, .inl (cI, 240, .inl l1o_17))] H := hP
      have hD : va_D A [(h0, .inr (2, [.ref tx, .ref lw])), (tx, .inr (6, [.ref tp, .int ed, .int plo_14, .int fao_15])), (tp, .inr (5, [.ref by_, .int (nI T)])), (by_, .inl (cI, 260, .inl fb)), (lw, .inr (1, [.ref l1, .ref l2, .ref l3, .ref l4, .ref l5, .ref l6, .ref l7, .int (nI zo_16), .int (nI k)])), (l1, .inl (cI, 240, .inl l1o_17))] := hD
      refine lv_aload_n hx hb dX2_readPiece_89 rfl (lv_at hl 2 rfl) ?_
      refine va_get (D := D) (ci := 2) (v := .ref lw) (C := RX2) (T := TX2) (N := 2) hx hb htb itX2 hown hK hP 0 rfl rfl 1 (by decide) (htb _ k_289) (fun _ h9 => h9) rfl dX2_readPiece_90 ?_
      refine lv_iload_n hx hb dX2_readPiece_93 rfl (lv_at hl 0 rfl) ?_
      refine lv_iconst (v := 0) hx hb dX2_readPiece_94 (by decide) ?_
      refine cVV (As := [.int r_9, .int 0]) (rest := []) (n := 2) (ci := 1) (q0 := 0) (wr := [(h0, .inr (2, [.ref tx, .ref lw])), (tx, .inr (6, [.ref tp, .int ed, .int plo_14, .int fao_15])), (tp, .inr (5, [.ref by_, .int (nI T)])), (by_, .inl (cI, 260, .inl fb))]) X hN hK hP hD hS hA (c_X1_addStep l D cI cB _ lw l1 l2 l3 l4 l5 l6 l7 zo_16 k r_9 0 l1o_17 hw_18 hk) (gV k_594 k_595 k_596 k_97 k_597) (by decide +kernel) ⟨Nat.le_of_ble_eq_true rfl, Nat.le_of_ble_eq_true rfl⟩ ⟨rfl, rfl⟩ [4, 5] [0, 1, 2, 3] rfl rfl (by decide) (by decide) rfl rfl rfl rfl rfl hl.1 (Nat.le_of_ble_eq_true rfl) dX2_readPiece_95 ⟨Nat.le_of_ble_eq_true rfl, Nat.le_of_ble_eq_true rfl⟩ (fun u H locs hw_22 hP hD hS => ?_)
      obtain ⟨zo_20, l1_fo_21⟩ := u
      try dsimp only at hw_22
      have hP : va_P D vwCl [(h0, .inr (2, [.ref tx, .ref lw])), (tx, .inr (6, [.ref tp, .int ed, .int plo_14, .int fao_15])), (tp, .inr (5, [.ref by_, .int (nI T)])), (by_, .inl (cI, 260, .inl fb)), (lw, .inr (1, [.ref l1, .ref l2, .ref l3, .ref l4, .ref l5, .ref l6, .ref l7, .int (nI zo_20), .int (nI k)])), (l1, .inl (cI, 240, .inl l1_fo_21))] H := hP
      have hD : va_D A [(h0, .inr (2, [.ref tx, .ref lw])), (tx, .inr (6, [.ref tp, .int ed, .int plo_14, .int fao_15])), (tp, .inr (5, [.ref by_, .int (nI T)])), (by_, .inl (cI, 260, .inl fb)), (lw, .inr (1, [.ref l1, .ref l2, .ref l3, .ref l4, .ref l5, .ref l6, .ref l7, .int (nI zo_20), .int (nI k)])), (l1, .inl (cI, 240, .inl l1_fo_21))] := hD
      exact ret _ _ _ _ (plo_14, fao_15, zo_20, l1_fo_21) dX2_readPiece_98 hw_22 (hP.sub [0, 1, 2, 3, 4, 5] rfl) (hD.sub [0, 1, 2, 3, 4, 5] (by decide) rfl) hS
    · refine lv_aload_n hx hb dX2_readPiece_47 rfl (lv_at hl 1 rfl) ?_
      refine lv_iload_n hx hb dX2_readPiece_48 rfl (lv_at hl 2 rfl) ?_
      refine cVI (As := [.int 2]) (rest := []) (n := 1) (ci := 2) (q0 := 0) (wr := [(tp, .inr (5, [.ref by_, .int (nI T)])), (by_, .inl (cI, 260, .inl fb)), (lw, .inr (1, [.ref l1, .ref l2, .ref l3, .ref l4, .ref l5, .ref l6, .ref l7, .int (nI z), .int (nI k)])), (l1, .inl (cI, 240, .inl q1))]) X hN hK hP hD hS hA (c_X2_opens l D cI cB _ h0 lw tx tp ed pl fa 2) (gV k_598 k_600 k_5 k_99 k_601) (by decide +kernel) ⟨Nat.le_of_ble_eq_true rfl, Nat.le_of_ble_eq_true rfl⟩ ⟨rfl, rfl⟩ [0, 1] [2, 3, 4, 5] rfl rfl (by decide) (by decide) rfl rfl rfl rfl rfl hl.1 (Nat.le_of_ble_eq_true rfl) dX2_readPiece_49 ⟨Nat.le_of_ble_eq_true rfl, Nat.le_of_ble_eq_true rfl⟩ (fun r_23 u H locs hw_26 hP hD hS => ?_)
      obtain ⟨tx_2o_24, tx_3o_25⟩ := u
      try dsimp only at hw_26
      have hP : va_P D vwCl [(tp, .inr (5, [.ref by_, .int (nI T)])), (by_, .inl (cI, 260, .inl fb)), (lw, .inr (1, [.ref l1, .ref l2, .ref l3, .ref l4, .ref l5, .ref l6, .ref l7, .int (nI z), .int (nI k)])), (l1, .inl (cI, 240, .inl q1)), (h0, .inr (2, [.ref tx, .ref lw])), (tx, .inr (6, [.ref tp, .int ed, .int tx_2o_24, .int tx_3o_25]))] H := hP
      have hD : va_D A [(tp, .inr (5, [.ref by_, .int (nI T)])), (by_, .inl (cI, 260, .inl fb)), (lw, .inr (1, [.ref l1, .ref l2, .ref l3, .ref l4, .ref l5, .ref l6, .ref l7, .int (nI z), .int (nI k)])), (l1, .inl (cI, 240, .inl q1)), (h0, .inr (2, [.ref tx, .ref lw])), (tx, .inr (6, [.ref tp, .int ed, .int tx_2o_24, .int tx_3o_25]))] := hD
      obtain rfl : r_23 = 1 := hw_26.trans (by decide)
      refine lv_if_eq (tgt := 98) hx hb dX2_readPiece_52 (by decide) (fun c_52 => absurd c_52 (by decide)) (fun _ => ?_)
      refine lv_aload_n hx hb dX2_readPiece_55 rfl (lv_at hl 1 rfl) ?_
      refine lv_iload_n hx hb dX2_readPiece_56 rfl (lv_at hl 2 rfl) ?_
      refine lv_iconst (v := 1) hx hb dX2_readPiece_57 (by decide) ?_
      refine lv_iadd hx hb dX2_readPiece_58 ?_
      refine tv (z := 3) (by decide) ?_
      refine cVVk (As := [.int 3]) (rest := []) (n := 1) (ci := 2) (q0 := 0) (wr := []) X hN hKO hK hP hD hS hA (c_readChoice_3 l D cI cB _ kk h0 tx tp ed tx_2o_24 tx_3o_25 by_ T fb lw l1 l2 l3 l4 l5 l6 l7 z k q1 hT hz hk) (gV k_628 k_630 k_7 k_99 k_631) (by decide +kernel) ⟨Nat.le_of_ble_eq_true rfl, Nat.le_of_ble_eq_true rfl⟩ ⟨rfl, rfl⟩ [4, 5, 0, 1, 2, 3] [] rfl rfl (by decide) (by decide) rfl rfl rfl rfl rfl hl.1 (Nat.le_of_ble_eq_true rfl) dX2_readPiece_59 ⟨Nat.le_of_ble_eq_true rfl, Nat.le_of_ble_eq_true rfl⟩ (fun u H locs hw_32 hP hD hS => ?_)
      obtain ⟨plo_28, fao_29, zo_30, l1o_31⟩ := u
      try dsimp only at hw_32
      have hP : va_P D vwCl [(h0, .inr (2, [.ref tx, .ref lw])), (tx, .inr (6, [.ref tp, .int ed, .int plo_28, .int fao_29])), (tp, .inr (5, [.ref by_, .int (nI T)])), (by_, .inl (cI, 260, .inl fb)), (lw, .inr (1, [.ref l1, .ref l2, .ref l3, .ref l4, .ref l5, .ref l6, .ref l7, .int (nI zo_30), .int (nI k)])), (l1, .inl (cI, 240, .inl l1o_31))] H := hP
      have hD : va_D A [(h0, .inr (2, [.ref tx, .ref lw])), (tx, .inr (6, [.ref tp, .int ed, .int plo_28, .int fao_29])), (tp, .inr (5, [.ref by_, .int (nI T)])), (by_, .inl (cI, 260, .inl fb)), (lw, .inr (1, [.ref l1, .ref l2, .ref l3, .ref l4, .ref l5, .ref l6, .ref l7, .int (nI zo_30), .int (nI k)])), (l1, .inl (cI, 240, .inl l1o_31))] := hD
      refine lv_aload_n hx hb dX2_readPiece_62 rfl (lv_at hl 1 rfl) ?_
      refine va_get (D := D) (ci := 2) (v := .ref tx) (C := RX2) (T := TX2) (N := 2) hx hb htb itX2 hown hK hP 0 rfl rfl 0 (by decide) (htb _ k_288) (fun _ h9 => h9) rfl dX2_readPiece_63 ?_
      refine lv_bipush (v := 41) hx hb dX2_readPiece_66 (by decide) ?_
      refine cVV (As := [.int 41]) (rest := []) (n := 1) (ci := 6) (q0 := 0) (wr := [(h0, .inr (2, [.ref tx, .ref lw])), (lw, .inr (1, [.ref l1, .ref l2, .ref l3, .ref l4, .ref l5, .ref l6, .ref l7, .int (nI zo_30), .int (nI k)])), (l1, .inl (cI, 240, .inl l1o_31))]) X hN hK hP hD hS hA (c_X6_expect l D cI cB _ tx tp ed plo_28 fao_29 by_ T fb 41 hT) (gV k_602 k_603 k_604 k_98 k_605) (by decide +kernel) ⟨Nat.le_of_ble_eq_true rfl, Nat.le_of_ble_eq_true rfl⟩ ⟨rfl, rfl⟩ [1, 2, 3] [0, 4, 5] rfl rfl (by decide) (by decide) rfl rfl rfl rfl rfl hl.1 (Nat.le_of_ble_eq_true rfl) dX2_readPiece_68 ⟨Nat.le_of_ble_eq_true rfl, Nat.le_of_ble_eq_true rfl⟩ (fun u H locs hw_36 hP hD hS => ?_)
      obtain ⟨h0_2o_34, h0_3o_35⟩ := u
      try dsimp only at hw_36
      have hP : va_P D vwCl [(h0, .inr (2, [.ref tx, .ref lw])), (lw, .inr (1, [.ref l1, .ref l2, .ref l3, .ref l4, .ref l5, .ref l6, .ref l7, .int (nI zo_30), .int (nI k)])), (l1, .inl (cI, 240, .inl l1o_31)), (tx, .inr (6, [.ref tp, .int ed, .int h0_2o_34, .int h0_3o_35])), (tp, .inr (5, [.ref by_, .int (nI T)])), (by_, .inl (cI, 260, .inl fb))] H := hP
      have hD : va_D A [(h0, .inr (2, [.ref tx, .ref lw])), (lw, .inr (1, [.ref l1, .ref l2, .ref l3, .ref l4, .ref l5, .ref l6, .ref l7, .int (nI zo_30), .int (nI k)])), (l1, .inl (cI, 240, .inl l1o_31)), (tx, .inr (6, [.ref tp, .int ed, .int h0_2o_34, .int h0_3o_35])), (tp, .inr (5, [.ref by_, .int (nI T)])), (by_, .inl (cI, 260, .inl fb))] := hD
      refine lv_goto (tgt := 98) hx hb dX2_readPiece_71 (by decide) ?_
      exact ret _ _ _ _ (h0_2o_34, h0_3o_35, zo_30, l1o_31) dX2_readPiece_98 hw_32 (hP.sub [0, 3, 4, 5, 1, 2] rfl) (hD.sub [0, 3, 4, 5, 1, 2] (by decide) rfl) hS
  · refine lv_aload_n hx hb dX2_readPiece_14 rfl (lv_at hl 1 rfl) ?_
    refine lv_iload_n hx hb dX2_readPiece_15 rfl (lv_at hl 2 rfl) ?_
    refine cVI (As := [.int 2]) (rest := []) (n := 1) (ci := 2) (q0 := 0) (wr := [(tp, .inr (5, [.ref by_, .int (nI T)])), (by_, .inl (cI, 260, .inl fb)), (lw, .inr (1, [.ref l1, .ref l2, .ref l3, .ref l4, .ref l5, .ref l6, .ref l7, .int (nI z), .int (nI k)])), (l1, .inl (cI, 240, .inl q1))]) X hN hK hP hD hS hA (c_X2_opens l D cI cB _ h0 lw tx tp ed pl fa 2) (gV k_598 k_600 k_5 k_99 k_601) (by decide +kernel) ⟨Nat.le_of_ble_eq_true rfl, Nat.le_of_ble_eq_true rfl⟩ ⟨rfl, rfl⟩ [0, 1] [2, 3, 4, 5] rfl rfl (by decide) (by decide) rfl rfl rfl rfl rfl hl.1 (Nat.le_of_ble_eq_true rfl) dX2_readPiece_16 ⟨Nat.le_of_ble_eq_true rfl, Nat.le_of_ble_eq_true rfl⟩ (fun r_37 u H locs hw_40 hP hD hS => ?_)
    obtain ⟨tx_2o_38, tx_3o_39⟩ := u
    try dsimp only at hw_40
    have hP : va_P D vwCl [(tp, .inr (5, [.ref by_, .int (nI T)])), (by_, .inl (cI, 260, .inl fb)), (lw, .inr (1, [.ref l1, .ref l2, .ref l3, .ref l4, .ref l5, .ref l6, .ref l7, .int (nI z), .int (nI k)])), (l1, .inl (cI, 240, .inl q1)), (h0, .inr (2, [.ref tx, .ref lw])), (tx, .inr (6, [.ref tp, .int ed, .int tx_2o_38, .int tx_3o_39]))] H := hP
    have hD : va_D A [(tp, .inr (5, [.ref by_, .int (nI T)])), (by_, .inl (cI, 260, .inl fb)), (lw, .inr (1, [.ref l1, .ref l2, .ref l3, .ref l4, .ref l5, .ref l6, .ref l7, .int (nI z), .int (nI k)])), (l1, .inl (cI, 240, .inl q1)), (h0, .inr (2, [.ref tx, .ref lw])), (tx, .inr (6, [.ref tp, .int ed, .int tx_2o_38, .int tx_3o_39]))] := hD
    obtain rfl : r_37 = 1 := hw_40.trans (by decide)
    refine lv_if_eq (tgt := 98) hx hb dX2_readPiece_19 (by decide) (fun c_19 => absurd c_19 (by decide)) (fun _ => ?_)
    refine lv_aload_n hx hb dX2_readPiece_22 rfl (lv_at hl 1 rfl) ?_
    refine lv_iload_n hx hb dX2_readPiece_23 rfl (lv_at hl 2 rfl) ?_
    refine lv_iconst (v := 1) hx hb dX2_readPiece_24 (by decide) ?_
    refine lv_iadd hx hb dX2_readPiece_25 ?_
    refine tv (z := 3) (by decide) ?_
    refine cVVk (As := [.int 3]) (rest := []) (n := 1) (ci := 2) (q0 := 0) (wr := []) X hN hKO hK hP hD hS hA (c_readPiece_3 l D cI cB _ kk h0 tx tp ed tx_2o_38 tx_3o_39 by_ T fb lw l1 l2 l3 l4 l5 l6 l7 z k q1 hT hz hk) (gV k_636 k_638 k_9 k_99 k_639) (by decide +kernel) ⟨Nat.le_of_ble_eq_true rfl, Nat.le_of_ble_eq_true rfl⟩ ⟨rfl, rfl⟩ [4, 5, 0, 1, 2, 3] [] rfl rfl (by decide) (by decide) rfl rfl rfl rfl rfl hl.1 (Nat.le_of_ble_eq_true rfl) dX2_readPiece_26 ⟨Nat.le_of_ble_eq_true rfl, Nat.le_of_ble_eq_true rfl⟩ (fun u H locs hw_46 hP hD hS => ?_)
    obtain ⟨plo_42, fao_43, zo_44, l1o_45⟩ := u
    try dsimp only at hw_46
    have hP : va_P D vwCl [(h0, .inr (2, [.ref tx, .ref lw])), (tx, .inr (6, [.ref tp, .int ed, .int plo_42, .int fao_43])), (tp, .inr (5, [.ref by_, .int (nI T)])), (by_, .inl (cI, 260, .inl fb)), (lw, .inr (1, [.ref l1, .ref l2, .ref l3, .ref l4, .ref l5, .ref l6, .ref l7, .int (nI zo_44), .int (nI k)])), (l1, .inl (cI, 240, .inl l1o_45))] H := hP
    have hD : va_D A [(h0, .inr (2, [.ref tx, .ref lw])), (tx, .inr (6, [.ref tp, .int ed, .int plo_42, .int fao_43])), (tp, .inr (5, [.ref by_, .int (nI T)])), (by_, .inl (cI, 260, .inl fb)), (lw, .inr (1, [.ref l1, .ref l2, .ref l3, .ref l4, .ref l5, .ref l6, .ref l7, .int (nI zo_44), .int (nI k)])), (l1, .inl (cI, 240, .inl l1o_45))] := hD
    refine lv_aload_n hx hb dX2_readPiece_29 rfl (lv_at hl 1 rfl) ?_
    refine va_get (D := D) (ci := 2) (v := .ref lw) (C := RX2) (T := TX2) (N := 2) hx hb htb itX2 hown hK hP 0 rfl rfl 1 (by decide) (htb _ k_289) (fun _ h9 => h9) rfl dX2_readPiece_30 ?_
    refine lv_iconst (v := 2) hx hb dX2_readPiece_33 (by decide) ?_
    refine lv_iconst (v := 0) hx hb dX2_readPiece_34 (by decide) ?_
    refine cVV (As := [.int 2, .int 0]) (rest := []) (n := 2) (ci := 1) (q0 := 0) (wr := [(h0, .inr (2, [.ref tx, .ref lw])), (tx, .inr (6, [.ref tp, .int ed, .int plo_42, .int fao_43])), (tp, .inr (5, [.ref by_, .int (nI T)])), (by_, .inl (cI, 260, .inl fb))]) X hN hK hP hD hS hA (c_X1_addStep l D cI cB _ lw l1 l2 l3 l4 l5 l6 l7 zo_44 k 2 0 l1o_45 hw_46 hk) (gV k_594 k_595 k_596 k_97 k_597) (by decide +kernel) ⟨Nat.le_of_ble_eq_true rfl, Nat.le_of_ble_eq_true rfl⟩ ⟨rfl, rfl⟩ [4, 5] [0, 1, 2, 3] rfl rfl (by decide) (by decide) rfl rfl rfl rfl rfl hl.1 (Nat.le_of_ble_eq_true rfl) dX2_readPiece_35 ⟨Nat.le_of_ble_eq_true rfl, Nat.le_of_ble_eq_true rfl⟩ (fun u H locs hw_50 hP hD hS => ?_)
    obtain ⟨zo_48, l1_fo_49⟩ := u
    try dsimp only at hw_50
    have hP : va_P D vwCl [(h0, .inr (2, [.ref tx, .ref lw])), (tx, .inr (6, [.ref tp, .int ed, .int plo_42, .int fao_43])), (tp, .inr (5, [.ref by_, .int (nI T)])), (by_, .inl (cI, 260, .inl fb)), (lw, .inr (1, [.ref l1, .ref l2, .ref l3, .ref l4, .ref l5, .ref l6, .ref l7, .int (nI zo_48), .int (nI k)])), (l1, .inl (cI, 240, .inl l1_fo_49))] H := hP
    have hD : va_D A [(h0, .inr (2, [.ref tx, .ref lw])), (tx, .inr (6, [.ref tp, .int ed, .int plo_42, .int fao_43])), (tp, .inr (5, [.ref by_, .int (nI T)])), (by_, .inl (cI, 260, .inl fb)), (lw, .inr (1, [.ref l1, .ref l2, .ref l3, .ref l4, .ref l5, .ref l6, .ref l7, .int (nI zo_48), .int (nI k)])), (l1, .inl (cI, 240, .inl l1_fo_49))] := hD
    refine lv_goto (tgt := 98) hx hb dX2_readPiece_38 (by decide) ?_
    exact ret _ _ _ _ (plo_42, fao_43, zo_48, l1_fo_49) dX2_readPiece_98 hw_50 (hP.sub [0, 1, 2, 3, 4, 5] rfl) (hD.sub [0, 1, 2, 3, 4, 5] (by decide) rfl) hS

set_option maxRecDepth 100000 in
set_option maxHeartbeats 4000000 in
theorem c_readPart_2 (l : Launch) (D : va_G) (cI cB : ClassId) (sz : Nat) (kk : KT) (h0 : Nat) (tx : Nat) (tp : Nat) (ed : Int32) (pl : Int32) (fa : Int32) (by_ : Nat) (T : Nat) (fb : Nat → Int32) (lw : Nat) (l1 : Nat) (l2 : Nat) (l3 : Nat) (l4 : Nat) (l5 : Nat) (l6 : Nat) (l7 : Nat) (z : Nat) (k : Nat) (q1 : Nat → Int32) (hT : T ≤ 260) (hz : z ≤ 240) (hk : k ≤ 16) : MVk (S := ((Int32) × (Int32) × (Nat) × (Nat → Int32))) l D cI cB kk yX2_readPart cX2_readPart 4 (rm 21 480) [.ref h0, .int 2] [(h0, .inr (2, [.ref tx, .ref lw])), (tx, .inr (6, [.ref tp, .int ed, .int pl, .int fa])), (tp, .inr (5, [.ref by_, .int (nI T)])), (by_, .inl (cI, 260, .inl fb)), (lw, .inr (1, [.ref l1, .ref l2, .ref l3, .ref l4, .ref l5, .ref l6, .ref l7, .int (nI z), .int (nI k)])), (l1, .inl (cI, 240, .inl q1))] sz (fun u => u.2.2.1 ≤ 240) (fun u : ((Int32) × (Int32) × (Nat) × (Nat → Int32)) => [(h0, .inr (2, [.ref tx, .ref lw])), (tx, .inr (6, [.ref tp, .int ed, .int u.1, .int u.2.1])), (tp, .inr (5, [.ref by_, .int (nI T)])), (by_, .inl (cI, 260, .inl fb)), (lw, .inr (1, [.ref l1, .ref l2, .ref l3, .ref l4, .ref l5, .ref l6, .ref l7, .int (nI u.2.2.1), .int (nI k)])), (l1, .inl (cI, 240, .inl u.2.2.2))]) := by
  refine MVk.of (by decide) (Nat.le_of_ble_eq_true rfl) ?_
  intro p e s m below meth c Q ls A X hin hN hKO hP hK hD hA hl ret
  have hS : va_S A s.heap s.heap [] := va_S.rf
  obtain ⟨hx, hb, hml, hown, htb⟩ := id X
  have hl : lv_has ls 4 [(0, .ref h0), (1, .int 2)] := hl
  refine lv_aload_n hx hb dX2_readPart_0 rfl (lv_at hl 0 rfl) ?_
  refine lv_iload_n hx hb dX2_readPart_1 rfl (lv_at hl 1 rfl) ?_
  refine cVVk (As := [.int 2]) (rest := []) (n := 1) (ci := 2) (q0 := 0) (wr := []) X hN hKO hK hP hD hS hA (c_readPiece_2 l D cI cB _ kk h0 tx tp ed pl fa by_ T fb lw l1 l2 l3 l4 l5 l6 l7 z k q1 hT hz hk) (gV k_636 k_638 k_9 k_99 k_639) (by decide +kernel) ⟨Nat.le_of_ble_eq_true rfl, Nat.le_of_ble_eq_true rfl⟩ ⟨rfl, rfl⟩ [0, 1, 2, 3, 4, 5] [] rfl rfl (by decide) (by decide) rfl rfl rfl rfl rfl hl.1 (Nat.le_of_ble_eq_true rfl) dX2_readPart_2 ⟨Nat.le_of_ble_eq_true rfl, Nat.le_of_ble_eq_true rfl⟩ (fun u H locs hw_6 hP hD hS => ?_)
  obtain ⟨plo_2, fao_3, zo_4, l1o_5⟩ := u
  try dsimp only at hw_6
  have hP : va_P D vwCl [(h0, .inr (2, [.ref tx, .ref lw])), (tx, .inr (6, [.ref tp, .int ed, .int plo_2, .int fao_3])), (tp, .inr (5, [.ref by_, .int (nI T)])), (by_, .inl (cI, 260, .inl fb)), (lw, .inr (1, [.ref l1, .ref l2, .ref l3, .ref l4, .ref l5, .ref l6, .ref l7, .int (nI zo_4), .int (nI k)])), (l1, .inl (cI, 240, .inl l1o_5))] H := hP
  have hD : va_D A [(h0, .inr (2, [.ref tx, .ref lw])), (tx, .inr (6, [.ref tp, .int ed, .int plo_2, .int fao_3])), (tp, .inr (5, [.ref by_, .int (nI T)])), (by_, .inl (cI, 260, .inl fb)), (lw, .inr (1, [.ref l1, .ref l2, .ref l3, .ref l4, .ref l5, .ref l6, .ref l7, .int (nI zo_4), .int (nI k)])), (l1, .inl (cI, 240, .inl l1o_5))] := hD
  refine lv_iconst (v := 0) hx hb dX2_readPart_5 (by decide) ?_
  refine lv_istore_n (lv' := [(2, .int 0), (0, .ref h0), (1, .int 2)]) hx hb dX2_readPart_6 rfl hl (by decide) rfl (fun ls hl => ?_)
  have loop_7 : ∀ (n i : Nat) (pa : Int32) (fb_ : Int32) (za : Nat) (qa : Nat → Int32), n + i = 240 → (za ≤ 240) → ∀ (H : Heap) (locs : List Loc), va_P D vwCl [(h0, .inr (2, [.ref tx, .ref lw])), (tx, .inr (6, [.ref tp, .int ed, .int pa, .int fb_])), (tp, .inr (5, [.ref by_, .int (nI T)])), (by_, .inl (cI, 260, .inl fb)), (lw, .inr (1, [.ref l1, .ref l2, .ref l3, .ref l4, .ref l5, .ref l6, .ref l7, .int (nI za), .int (nI k)])), (l1, .inl (cI, 240, .inl qa))] H → va_D A [(h0, .inr (2, [.ref tx, .ref lw])), (tx, .inr (6, [.ref tp, .int ed, .int pa, .int fb_])), (tp, .inr (5, [.ref by_, .int (nI T)])), (by_, .inl (cI, 260, .inl fb)), (lw, .inr (1, [.ref l1, .ref l2, .ref l3, .ref l4, .ref l5, .ref l6, .ref l7, .int (nI za), .int (nI k)])), (l1, .inl (cI, 240, .inl qa))] → va_S A s.heap H locs → ∀ (ls : Array Slot), lv_has ls 4 [(0, .ref h0), (1, .int 2), (2, .int (nI i))] → W p l e (rm 21 480) s m ([.ref h0, .int 2] : List Value).toArray below meth c H locs 0 0 Q (F0 m 7 ls []) := by
    intro n
    induction n with
    | zero =>
      intro i pa fb_ za qa hni hza H locs hP hD hS ls hl
      have hni_7 := hni
      have hi : i = 240 := by omega
      refine lv_iload_n hx hb dX2_readPart_7 rfl (lv_at hl 2 rfl) ?_
      refine lv_sipush (v := 240) hx hb dX2_readPart_8 (by decide) ?_
      refine lv_icmp_ge (tgt := 62) hx hb dX2_readPart_11 (by decide) (fun _ => ?_) (fun c_11 => absurd (by rw [hi]; decide) c_11)
      exact ret _ _ _ _ (pa, fb_, za, qa) dX2_readPart_62 hza (hP.sub [0, 1, 2, 3, 4, 5] rfl) (hD.sub [0, 1, 2, 3, 4, 5] (by decide) rfl) hS
    | succ n ih_7 =>
      intro i pa fb_ za qa hni hza H locs hP hD hS ls hl
      have hni_7 := hni
      have hi : i < 240 := by omega
      refine lv_iload_n hx hb dX2_readPart_7 rfl (lv_at hl 2 rfl) ?_
      refine lv_sipush (v := 240) hx hb dX2_readPart_8 (by decide) ?_
      refine lv_icmp_ge (tgt := 62) hx hb dX2_readPart_11 (by decide) (fun c_11 => absurd c_11 (nI_ge hi (by decide))) (fun _ => ?_)
      refine lv_aload_n hx hb dX2_readPart_14 rfl (lv_at hl 0 rfl) ?_
      refine va_get (D := D) (ci := 2) (v := .ref tx) (C := RX2) (T := TX2) (N := 2) hx hb htb itX2 hown hK hP 0 rfl rfl 0 (by decide) (htb _ k_288) (fun _ h9 => h9) rfl dX2_readPart_15 ?_
      refine lv_bipush (v := 38) hx hb dX2_readPart_18 (by decide) ?_
      refine cVI (As := [.int 38]) (rest := []) (n := 1) (ci := 6) (q0 := 0) (wr := [(h0, .inr (2, [.ref tx, .ref lw])), (lw, .inr (1, [.ref l1, .ref l2, .ref l3, .ref l4, .ref l5, .ref l6, .ref l7, .int (nI za), .int (nI k)])), (l1, .inl (cI, 240, .inl qa))]) X hN hK hP hD hS hA (c_X6_skip l D cI cB _ tx tp ed pa fb_ by_ T fb 38 hT) (gV k_644 k_607 k_608 k_98 k_609) (by decide +kernel) ⟨Nat.le_of_ble_eq_true rfl, Nat.le_of_ble_eq_true rfl⟩ ⟨rfl, rfl⟩ [1, 2, 3] [0, 4, 5] rfl rfl (by decide) (by decide) rfl rfl rfl rfl rfl hl.1 (Nat.le_of_ble_eq_true rfl) dX2_readPart_20 ⟨Nat.le_of_ble_eq_true rfl, Nat.le_of_ble_eq_true rfl⟩ (fun r_7 u H locs hw_9 hP hD hS => ?_)
      obtain ⟨h0_2o_8, rfl⟩ : ∃ z, z = u := ⟨_, rfl⟩
      try dsimp only at hw_9
      have hP : va_P D vwCl [(h0, .inr (2, [.ref tx, .ref lw])), (lw, .inr (1, [.ref l1, .ref l2, .ref l3, .ref l4, .ref l5, .ref l6, .ref l7, .int (nI za), .int (nI k)])), (l1, .inl (cI, 240, .inl qa)), (tx, .inr (6, [.ref tp, .int ed, .int h0_2o_8, .int fb_])), (tp, .inr (5, [.ref by_, .int (nI T)])), (by_, .inl (cI, 260, .inl fb))] H := hP
      have hD : va_D A [(h0, .inr (2, [.ref tx, .ref lw])), (lw, .inr (1, [.ref l1, .ref l2, .ref l3, .ref l4, .ref l5, .ref l6, .ref l7, .int (nI za), .int (nI k)])), (l1, .inl (cI, 240, .inl qa)), (tx, .inr (6, [.ref tp, .int ed, .int h0_2o_8, .int fb_])), (tp, .inr (5, [.ref by_, .int (nI T)])), (by_, .inl (cI, 260, .inl fb))] := hD
      refine lv_if_eq (tgt := 62) hx hb dX2_readPart_23 (by decide) (fun c_23 => ?_) (fun c_23 => ?_)
      · exact ret _ _ _ _ (h0_2o_8, fb_, za, qa) dX2_readPart_62 hza (hP.sub [0, 3, 4, 5, 1, 2] rfl) (hD.sub [0, 3, 4, 5, 1, 2] (by decide) rfl) hS
      · refine lv_aload_n hx hb dX2_readPart_26 rfl (lv_at hl 0 rfl) ?_
        refine va_get (D := D) (ci := 2) (v := .ref lw) (C := RX2) (T := TX2) (N := 2) hx hb htb itX2 hown hK hP 0 rfl rfl 1 (by decide) (htb _ k_289) (fun _ h9 => h9) rfl dX2_readPart_27 ?_
        refine va_getN (D := D) (ci := 1) (v := .int (nI za)) (C := RX1) (T := TX1) (N := 9) hx hb htb itX1 hown hK hP 1 rfl rfl 7 (by decide) (va_Nw.use rfl (hN _ n_232 rfl)) (fun _ h9 => h9) rfl dX2_readPart_30 ?_
        refine lv_istore_n (lv' := [(3, .int (nI za)), (0, .ref h0), (1, .int 2), (2, .int (nI i))]) hx hb dX2_readPart_33 rfl hl (by decide) rfl (fun ls hl => ?_)
        refine lv_aload_n hx hb dX2_readPart_34 rfl (lv_at hl 1 rfl) ?_
        refine va_get (D := D) (ci := 2) (v := .ref lw) (C := RX2) (T := TX2) (N := 2) hx hb htb itX2 hown hK hP 0 rfl rfl 1 (by decide) (htb _ k_289) (fun _ h9 => h9) rfl dX2_readPart_35 ?_
        refine lv_iconst (v := 4) hx hb dX2_readPart_38 (by decide) ?_
        refine lv_iconst (v := 0) hx hb dX2_readPart_39 (by decide) ?_
        refine cVV (As := [.int 4, .int 0]) (rest := []) (n := 2) (ci := 1) (q0 := 0) (wr := [(h0, .inr (2, [.ref tx, .ref lw])), (tx, .inr (6, [.ref tp, .int ed, .int h0_2o_8, .int fb_])), (tp, .inr (5, [.ref by_, .int (nI T)])), (by_, .inl (cI, 260, .inl fb))]) X hN hK hP hD hS hA (c_X1_addStep l D cI cB _ lw l1 l2 l3 l4 l5 l6 l7 za k 4 0 qa hza hk) (gV k_594 k_595 k_596 k_97 k_597) (by decide +kernel) ⟨Nat.le_of_ble_eq_true rfl, Nat.le_of_ble_eq_true rfl⟩ ⟨rfl, rfl⟩ [1, 2] [0, 3, 4, 5] rfl rfl (by decide) (by decide) rfl rfl rfl rfl rfl hl.1 (Nat.le_of_ble_eq_true rfl) dX2_readPart_40 ⟨Nat.le_of_ble_eq_true rfl, Nat.le_of_ble_eq_true rfl⟩ (fun u H locs hw_13 hP hD hS => ?_)
        obtain ⟨zo_11, l1_fo_12⟩ := u
        try dsimp only at hw_13
        have hP : va_P D vwCl [(h0, .inr (2, [.ref tx, .ref lw])), (tx, .inr (6, [.ref tp, .int ed, .int h0_2o_8, .int fb_])), (tp, .inr (5, [.ref by_, .int (nI T)])), (by_, .inl (cI, 260, .inl fb)), (lw, .inr (1, [.ref l1, .ref l2, .ref l3, .ref l4, .ref l5, .ref l6, .ref l7, .int (nI zo_11), .int (nI k)])), (l1, .inl (cI, 240, .inl l1_fo_12))] H := hP
        have hD : va_D A [(h0, .inr (2, [.ref tx, .ref lw])), (tx, .inr (6, [.ref tp, .int ed, .int h0_2o_8, .int fb_])), (tp, .inr (5, [.ref by_, .int (nI T)])), (by_, .inl (cI, 260, .inl fb)), (lw, .inr (1, [.ref l1, .ref l2, .ref l3, .ref l4, .ref l5, .ref l6, .ref l7, .int (nI zo_11), .int (nI k)])), (l1, .inl (cI, 240, .inl l1_fo_12))] := hD
        refine lv_aload_n hx hb dX2_readPart_43 rfl (lv_at hl 1 rfl) ?_
        refine lv_iload_n hx hb dX2_readPart_44 rfl (lv_at hl 2 rfl) ?_
        refine cVVk (As := [.int 2]) (rest := []) (n := 1) (ci := 2) (q0 := 0) (wr := []) X hN hKO hK hP hD hS hA (c_readPiece_2 l D cI cB _ kk h0 tx tp ed h0_2o_8 fb_ by_ T fb lw l1 l2 l3 l4 l5 l6 l7 zo_11 k l1_fo_12 hT hw_13 hk) (gV k_636 k_638 k_9 k_99 k_639) (by decide +kernel) ⟨Nat.le_of_ble_eq_true rfl, Nat.le_of_ble_eq_true rfl⟩ ⟨rfl, rfl⟩ [0, 1, 2, 3, 4, 5] [] rfl rfl (by decide) (by decide) rfl rfl rfl rfl rfl hl.1 (Nat.le_of_ble_eq_true rfl) dX2_readPart_45 ⟨Nat.le_of_ble_eq_true rfl, Nat.le_of_ble_eq_true rfl⟩ (fun u H locs hw_19 hP hD hS => ?_)
        obtain ⟨plo_15, fao_16, zo_17, l1o_18⟩ := u
        try dsimp only at hw_19
        have hP : va_P D vwCl [(h0, .inr (2, [.ref tx, .ref lw])), (tx, .inr (6, [.ref tp, .int ed, .int plo_15, .int fao_16])), (tp, .inr (5, [.ref by_, .int (nI T)])), (by_, .inl (cI, 260, .inl fb)), (lw, .inr (1, [.ref l1, .ref l2, .ref l3, .ref l4, .ref l5, .ref l6, .ref l7, .int (nI zo_17), .int (nI k)])), (l1, .inl (cI, 240, .inl l1o_18))] H := hP
        have hD : va_D A [(h0, .inr (2, [.ref tx, .ref lw])), (tx, .inr (6, [.ref tp, .int ed, .int plo_15, .int fao_16])), (tp, .inr (5, [.ref by_, .int (nI T)])), (by_, .inl (cI, 260, .inl fb)), (lw, .inr (1, [.ref l1, .ref l2, .ref l3, .ref l4, .ref l5, .ref l6, .ref l7, .int (nI zo_17), .int (nI k)])), (l1, .inl (cI, 240, .inl l1o_18))] := hD
        refine lv_aload_n hx hb dX2_readPart_48 rfl (lv_at hl 1 rfl) ?_
        refine va_get (D := D) (ci := 2) (v := .ref lw) (C := RX2) (T := TX2) (N := 2) hx hb htb itX2 hown hK hP 0 rfl rfl 1 (by decide) (htb _ k_289) (fun _ h9 => h9) rfl dX2_readPart_49 ?_
        refine lv_iload_n hx hb dX2_readPart_52 rfl (lv_at hl 0 rfl) ?_
        refine cVV (As := [.int (nI za)]) (rest := []) (n := 1) (ci := 1) (q0 := 0) (wr := [(h0, .inr (2, [.ref tx, .ref lw])), (tx, .inr (6, [.ref tp, .int ed, .int plo_15, .int fao_16])), (tp, .inr (5, [.ref by_, .int (nI T)])), (by_, .inl (cI, 260, .inl fb))]) X hN hK hP hD hS hA (c_X1_landSkip l D cI cB _ lw l1 l2 l3 l4 l5 l6 l7 zo_17 k (nI za) l1o_18 hw_19 hk) (gV k_645 k_646 k_647 k_97 k_648) (by decide +kernel) ⟨Nat.le_of_ble_eq_true rfl, Nat.le_of_ble_eq_true rfl⟩ ⟨rfl, rfl⟩ [4, 5] [0, 1, 2, 3] rfl rfl (by decide) (by decide) rfl rfl rfl rfl rfl hl.1 (Nat.le_of_ble_eq_true rfl) dX2_readPart_53 ⟨Nat.le_of_ble_eq_true rfl, Nat.le_of_ble_eq_true rfl⟩ (fun u H locs hw_22 hP hD hS => ?_)
        obtain ⟨l1_fo_21, rfl⟩ : ∃ z, z = u := ⟨_, rfl⟩
        try dsimp only at hw_22
        have hP : va_P D vwCl [(h0, .inr (2, [.ref tx, .ref lw])), (tx, .inr (6, [.ref tp, .int ed, .int plo_15, .int fao_16])), (tp, .inr (5, [.ref by_, .int (nI T)])), (by_, .inl (cI, 260, .inl fb)), (lw, .inr (1, [.ref l1, .ref l2, .ref l3, .ref l4, .ref l5, .ref l6, .ref l7, .int (nI zo_17), .int (nI k)])), (l1, .inl (cI, 240, .inl l1_fo_21))] H := hP
        have hD : va_D A [(h0, .inr (2, [.ref tx, .ref lw])), (tx, .inr (6, [.ref tp, .int ed, .int plo_15, .int fao_16])), (tp, .inr (5, [.ref by_, .int (nI T)])), (by_, .inl (cI, 260, .inl fb)), (lw, .inr (1, [.ref l1, .ref l2, .ref l3, .ref l4, .ref l5, .ref l6, .ref l7, .int (nI zo_17), .int (nI k)])), (l1, .inl (cI, 240, .inl l1_fo_21))] := hD
        refine lv_iinc (v := (nI (i + 1))) (lv' := [(2, .int (nI (i + 1))), (3, .int (nI za)), (0, .ref h0), (1, .int 2)]) hx hb dX2_readPart_56 hl (k := 3) rfl (nI_1 i) (by decide) rfl (fun ls hl => ?_)
        refine lv_goto (tgt := 7) hx hb dX2_readPart_59 (by decide) ?_
        exact ih_7 (i + 1) plo_15 fao_16 zo_17 l1_fo_21 (by omega) hw_19 _ _ (hP.sub [0, 1, 2, 3, 4, 5] rfl) (hD.sub [0, 1, 2, 3, 4, 5] (by decide) rfl) hS _ (lv_sub hl [2, 3, 0] rfl)
  exact loop_7 240 0 plo_2 fao_3 zo_4 l1o_5 (by omega) hw_6 _ _ (hP.sub [0, 1, 2, 3, 4, 5] rfl) (hD.sub [0, 1, 2, 3, 4, 5] (by decide) rfl) hS _ (lv_sub hl [1, 2, 0] rfl)

set_option maxRecDepth 100000 in
set_option maxHeartbeats 4000000 in
theorem c_readChoice_2 (l : Launch) (D : va_G) (cI cB : ClassId) (sz : Nat) (kk : KT) (h0 : Nat) (tx : Nat) (tp : Nat) (ed : Int32) (pl : Int32) (fa : Int32) (by_ : Nat) (T : Nat) (fb : Nat → Int32) (lw : Nat) (l1 : Nat) (l2 : Nat) (l3 : Nat) (l4 : Nat) (l5 : Nat) (l6 : Nat) (l7 : Nat) (z : Nat) (k : Nat) (q1 : Nat → Int32) (hT : T ≤ 260) (hz : z ≤ 240) (hk : k ≤ 16) : MVk (S := ((Int32) × (Int32) × (Nat) × (Nat → Int32))) l D cI cB kk yX2_readChoice cX2_readChoice 4 (rm 22 503) [.ref h0, .int 2] [(h0, .inr (2, [.ref tx, .ref lw])), (tx, .inr (6, [.ref tp, .int ed, .int pl, .int fa])), (tp, .inr (5, [.ref by_, .int (nI T)])), (by_, .inl (cI, 260, .inl fb)), (lw, .inr (1, [.ref l1, .ref l2, .ref l3, .ref l4, .ref l5, .ref l6, .ref l7, .int (nI z), .int (nI k)])), (l1, .inl (cI, 240, .inl q1))] sz (fun u => u.2.2.1 ≤ 240) (fun u : ((Int32) × (Int32) × (Nat) × (Nat → Int32)) => [(h0, .inr (2, [.ref tx, .ref lw])), (tx, .inr (6, [.ref tp, .int ed, .int u.1, .int u.2.1])), (tp, .inr (5, [.ref by_, .int (nI T)])), (by_, .inl (cI, 260, .inl fb)), (lw, .inr (1, [.ref l1, .ref l2, .ref l3, .ref l4, .ref l5, .ref l6, .ref l7, .int (nI u.2.2.1), .int (nI k)])), (l1, .inl (cI, 240, .inl u.2.2.2))]) := by
  refine MVk.of (by decide) (Nat.le_of_ble_eq_true rfl) ?_
  intro p e s m below meth c Q ls A X hin hN hKO hP hK hD hA hl ret
  have hS : va_S A s.heap s.heap [] := va_S.rf
  obtain ⟨hx, hb, hml, hown, htb⟩ := id X
  have hl : lv_has ls 4 [(0, .ref h0), (1, .int 2)] := hl
  refine lv_aload_n hx hb dX2_readChoice_0 rfl (lv_at hl 0 rfl) ?_
  refine lv_iload_n hx hb dX2_readChoice_1 rfl (lv_at hl 1 rfl) ?_
  refine cVVk (As := [.int 2]) (rest := []) (n := 1) (ci := 2) (q0 := 0) (wr := []) X hN hKO hK hP hD hS hA (c_readPart_2 l D cI cB _ kk h0 tx tp ed pl fa by_ T fb lw l1 l2 l3 l4 l5 l6 l7 z k q1 hT hz hk) (gV k_632 k_634 k_8 k_99 k_635) (by decide +kernel) ⟨Nat.le_of_ble_eq_true rfl, Nat.le_of_ble_eq_true rfl⟩ ⟨rfl, rfl⟩ [0, 1, 2, 3, 4, 5] [] rfl rfl (by decide) (by decide) rfl rfl rfl rfl rfl hl.1 (Nat.le_of_ble_eq_true rfl) dX2_readChoice_2 ⟨Nat.le_of_ble_eq_true rfl, Nat.le_of_ble_eq_true rfl⟩ (fun u H locs hw_6 hP hD hS => ?_)
  obtain ⟨plo_2, fao_3, zo_4, l1o_5⟩ := u
  try dsimp only at hw_6
  have hP : va_P D vwCl [(h0, .inr (2, [.ref tx, .ref lw])), (tx, .inr (6, [.ref tp, .int ed, .int plo_2, .int fao_3])), (tp, .inr (5, [.ref by_, .int (nI T)])), (by_, .inl (cI, 260, .inl fb)), (lw, .inr (1, [.ref l1, .ref l2, .ref l3, .ref l4, .ref l5, .ref l6, .ref l7, .int (nI zo_4), .int (nI k)])), (l1, .inl (cI, 240, .inl l1o_5))] H := hP
  have hD : va_D A [(h0, .inr (2, [.ref tx, .ref lw])), (tx, .inr (6, [.ref tp, .int ed, .int plo_2, .int fao_3])), (tp, .inr (5, [.ref by_, .int (nI T)])), (by_, .inl (cI, 260, .inl fb)), (lw, .inr (1, [.ref l1, .ref l2, .ref l3, .ref l4, .ref l5, .ref l6, .ref l7, .int (nI zo_4), .int (nI k)])), (l1, .inl (cI, 240, .inl l1o_5))] := hD
  refine lv_iconst (v := 0) hx hb dX2_readChoice_5 (by decide) ?_
  refine lv_istore_n (lv' := [(2, .int 0), (0, .ref h0), (1, .int 2)]) hx hb dX2_readChoice_6 rfl hl (by decide) rfl (fun ls hl => ?_)
  have loop_7 : ∀ (n i : Nat) (pa : Int32) (fb_ : Int32) (za : Nat) (qa : Nat → Int32), n + i = 240 → (za ≤ 240) → ∀ (H : Heap) (locs : List Loc), va_P D vwCl [(h0, .inr (2, [.ref tx, .ref lw])), (tx, .inr (6, [.ref tp, .int ed, .int pa, .int fb_])), (tp, .inr (5, [.ref by_, .int (nI T)])), (by_, .inl (cI, 260, .inl fb)), (lw, .inr (1, [.ref l1, .ref l2, .ref l3, .ref l4, .ref l5, .ref l6, .ref l7, .int (nI za), .int (nI k)])), (l1, .inl (cI, 240, .inl qa))] H → va_D A [(h0, .inr (2, [.ref tx, .ref lw])), (tx, .inr (6, [.ref tp, .int ed, .int pa, .int fb_])), (tp, .inr (5, [.ref by_, .int (nI T)])), (by_, .inl (cI, 260, .inl fb)), (lw, .inr (1, [.ref l1, .ref l2, .ref l3, .ref l4, .ref l5, .ref l6, .ref l7, .int (nI za), .int (nI k)])), (l1, .inl (cI, 240, .inl qa))] → va_S A s.heap H locs → ∀ (ls : Array Slot), lv_has ls 4 [(0, .ref h0), (1, .int 2), (2, .int (nI i))] → W p l e (rm 22 503) s m ([.ref h0, .int 2] : List Value).toArray below meth c H locs 0 0 Q (F0 m 7 ls []) := by
    intro n
    induction n with
    | zero =>
      intro i pa fb_ za qa hni hza H locs hP hD hS ls hl
      have hni_7 := hni
      have hi : i = 240 := by omega
      refine lv_iload_n hx hb dX2_readChoice_7 rfl (lv_at hl 2 rfl) ?_
      refine lv_sipush (v := 240) hx hb dX2_readChoice_8 (by decide) ?_
      refine lv_icmp_ge (tgt := 62) hx hb dX2_readChoice_11 (by decide) (fun _ => ?_) (fun c_11 => absurd (by rw [hi]; decide) c_11)
      exact ret _ _ _ _ (pa, fb_, za, qa) dX2_readChoice_62 hza (hP.sub [0, 1, 2, 3, 4, 5] rfl) (hD.sub [0, 1, 2, 3, 4, 5] (by decide) rfl) hS
    | succ n ih_7 =>
      intro i pa fb_ za qa hni hza H locs hP hD hS ls hl
      have hni_7 := hni
      have hi : i < 240 := by omega
      refine lv_iload_n hx hb dX2_readChoice_7 rfl (lv_at hl 2 rfl) ?_
      refine lv_sipush (v := 240) hx hb dX2_readChoice_8 (by decide) ?_
      refine lv_icmp_ge (tgt := 62) hx hb dX2_readChoice_11 (by decide) (fun c_11 => absurd c_11 (nI_ge hi (by decide))) (fun _ => ?_)
      refine lv_aload_n hx hb dX2_readChoice_14 rfl (lv_at hl 0 rfl) ?_
      refine va_get (D := D) (ci := 2) (v := .ref tx) (C := RX2) (T := TX2) (N := 2) hx hb htb itX2 hown hK hP 0 rfl rfl 0 (by decide) (htb _ k_288) (fun _ h9 => h9) rfl dX2_readChoice_15 ?_
      refine lv_bipush (v := 124) hx hb dX2_readChoice_18 (by decide) ?_
      refine cVI (As := [.int 124]) (rest := []) (n := 1) (ci := 6) (q0 := 0) (wr := [(h0, .inr (2, [.ref tx, .ref lw])), (lw, .inr (1, [.ref l1, .ref l2, .ref l3, .ref l4, .ref l5, .ref l6, .ref l7, .int (nI za), .int (nI k)])), (l1, .inl (cI, 240, .inl qa))]) X hN hK hP hD hS hA (c_X6_skip l D cI cB _ tx tp ed pa fb_ by_ T fb 124 hT) (gV k_644 k_607 k_608 k_98 k_609) (by decide +kernel) ⟨Nat.le_of_ble_eq_true rfl, Nat.le_of_ble_eq_true rfl⟩ ⟨rfl, rfl⟩ [1, 2, 3] [0, 4, 5] rfl rfl (by decide) (by decide) rfl rfl rfl rfl rfl hl.1 (Nat.le_of_ble_eq_true rfl) dX2_readChoice_20 ⟨Nat.le_of_ble_eq_true rfl, Nat.le_of_ble_eq_true rfl⟩ (fun r_7 u H locs hw_9 hP hD hS => ?_)
      obtain ⟨h0_2o_8, rfl⟩ : ∃ z, z = u := ⟨_, rfl⟩
      try dsimp only at hw_9
      have hP : va_P D vwCl [(h0, .inr (2, [.ref tx, .ref lw])), (lw, .inr (1, [.ref l1, .ref l2, .ref l3, .ref l4, .ref l5, .ref l6, .ref l7, .int (nI za), .int (nI k)])), (l1, .inl (cI, 240, .inl qa)), (tx, .inr (6, [.ref tp, .int ed, .int h0_2o_8, .int fb_])), (tp, .inr (5, [.ref by_, .int (nI T)])), (by_, .inl (cI, 260, .inl fb))] H := hP
      have hD : va_D A [(h0, .inr (2, [.ref tx, .ref lw])), (lw, .inr (1, [.ref l1, .ref l2, .ref l3, .ref l4, .ref l5, .ref l6, .ref l7, .int (nI za), .int (nI k)])), (l1, .inl (cI, 240, .inl qa)), (tx, .inr (6, [.ref tp, .int ed, .int h0_2o_8, .int fb_])), (tp, .inr (5, [.ref by_, .int (nI T)])), (by_, .inl (cI, 260, .inl fb))] := hD
      refine lv_if_eq (tgt := 62) hx hb dX2_readChoice_23 (by decide) (fun c_23 => ?_) (fun c_23 => ?_)
      · exact ret _ _ _ _ (h0_2o_8, fb_, za, qa) dX2_readChoice_62 hza (hP.sub [0, 3, 4, 5, 1, 2] rfl) (hD.sub [0, 3, 4, 5, 1, 2] (by decide) rfl) hS
      · refine lv_aload_n hx hb dX2_readChoice_26 rfl (lv_at hl 0 rfl) ?_
        refine va_get (D := D) (ci := 2) (v := .ref lw) (C := RX2) (T := TX2) (N := 2) hx hb htb itX2 hown hK hP 0 rfl rfl 1 (by decide) (htb _ k_289) (fun _ h9 => h9) rfl dX2_readChoice_27 ?_
        refine va_getN (D := D) (ci := 1) (v := .int (nI za)) (C := RX1) (T := TX1) (N := 9) hx hb htb itX1 hown hK hP 1 rfl rfl 7 (by decide) (va_Nw.use rfl (hN _ n_232 rfl)) (fun _ h9 => h9) rfl dX2_readChoice_30 ?_
        refine lv_istore_n (lv' := [(3, .int (nI za)), (0, .ref h0), (1, .int 2), (2, .int (nI i))]) hx hb dX2_readChoice_33 rfl hl (by decide) rfl (fun ls hl => ?_)
        refine lv_aload_n hx hb dX2_readChoice_34 rfl (lv_at hl 1 rfl) ?_
        refine va_get (D := D) (ci := 2) (v := .ref lw) (C := RX2) (T := TX2) (N := 2) hx hb htb itX2 hown hK hP 0 rfl rfl 1 (by decide) (htb _ k_289) (fun _ h9 => h9) rfl dX2_readChoice_35 ?_
        refine lv_iconst (v := 3) hx hb dX2_readChoice_38 (by decide) ?_
        refine lv_iconst (v := 0) hx hb dX2_readChoice_39 (by decide) ?_
        refine cVV (As := [.int 3, .int 0]) (rest := []) (n := 2) (ci := 1) (q0 := 0) (wr := [(h0, .inr (2, [.ref tx, .ref lw])), (tx, .inr (6, [.ref tp, .int ed, .int h0_2o_8, .int fb_])), (tp, .inr (5, [.ref by_, .int (nI T)])), (by_, .inl (cI, 260, .inl fb))]) X hN hK hP hD hS hA (c_X1_addStep l D cI cB _ lw l1 l2 l3 l4 l5 l6 l7 za k 3 0 qa hza hk) (gV k_594 k_595 k_596 k_97 k_597) (by decide +kernel) ⟨Nat.le_of_ble_eq_true rfl, Nat.le_of_ble_eq_true rfl⟩ ⟨rfl, rfl⟩ [1, 2] [0, 3, 4, 5] rfl rfl (by decide) (by decide) rfl rfl rfl rfl rfl hl.1 (Nat.le_of_ble_eq_true rfl) dX2_readChoice_40 ⟨Nat.le_of_ble_eq_true rfl, Nat.le_of_ble_eq_true rfl⟩ (fun u H locs hw_13 hP hD hS => ?_)
        obtain ⟨zo_11, l1_fo_12⟩ := u
        try dsimp only at hw_13
        have hP : va_P D vwCl [(h0, .inr (2, [.ref tx, .ref lw])), (tx, .inr (6, [.ref tp, .int ed, .int h0_2o_8, .int fb_])), (tp, .inr (5, [.ref by_, .int (nI T)])), (by_, .inl (cI, 260, .inl fb)), (lw, .inr (1, [.ref l1, .ref l2, .ref l3, .ref l4, .ref l5, .ref l6, .ref l7, .int (nI zo_11), .int (nI k)])), (l1, .inl (cI, 240, .inl l1_fo_12))] H := hP
        have hD : va_D A [(h0, .inr (2, [.ref tx, .ref lw])), (tx, .inr (6, [.ref tp, .int ed, .int h0_2o_8, .int fb_])), (tp, .inr (5, [.ref by_, .int (nI T)])), (by_, .inl (cI, 260, .inl fb)), (lw, .inr (1, [.ref l1, .ref l2, .ref l3, .ref l4, .ref l5, .ref l6, .ref l7, .int (nI zo_11), .int (nI k)])), (l1, .inl (cI, 240, .inl l1_fo_12))] := hD
        refine lv_aload_n hx hb dX2_readChoice_43 rfl (lv_at hl 1 rfl) ?_
        refine lv_iload_n hx hb dX2_readChoice_44 rfl (lv_at hl 2 rfl) ?_
        refine cVVk (As := [.int 2]) (rest := []) (n := 1) (ci := 2) (q0 := 0) (wr := []) X hN hKO hK hP hD hS hA (c_readPart_2 l D cI cB _ kk h0 tx tp ed h0_2o_8 fb_ by_ T fb lw l1 l2 l3 l4 l5 l6 l7 zo_11 k l1_fo_12 hT hw_13 hk) (gV k_632 k_634 k_8 k_99 k_635) (by decide +kernel) ⟨Nat.le_of_ble_eq_true rfl, Nat.le_of_ble_eq_true rfl⟩ ⟨rfl, rfl⟩ [0, 1, 2, 3, 4, 5] [] rfl rfl (by decide) (by decide) rfl rfl rfl rfl rfl hl.1 (Nat.le_of_ble_eq_true rfl) dX2_readChoice_45 ⟨Nat.le_of_ble_eq_true rfl, Nat.le_of_ble_eq_true rfl⟩ (fun u H locs hw_19 hP hD hS => ?_)
        obtain ⟨plo_15, fao_16, zo_17, l1o_18⟩ := u
        try dsimp only at hw_19
        have hP : va_P D vwCl [(h0, .inr (2, [.ref tx, .ref lw])), (tx, .inr (6, [.ref tp, .int ed, .int plo_15, .int fao_16])), (tp, .inr (5, [.ref by_, .int (nI T)])), (by_, .inl (cI, 260, .inl fb)), (lw, .inr (1, [.ref l1, .ref l2, .ref l3, .ref l4, .ref l5, .ref l6, .ref l7, .int (nI zo_17), .int (nI k)])), (l1, .inl (cI, 240, .inl l1o_18))] H := hP
        have hD : va_D A [(h0, .inr (2, [.ref tx, .ref lw])), (tx, .inr (6, [.ref tp, .int ed, .int plo_15, .int fao_16])), (tp, .inr (5, [.ref by_, .int (nI T)])), (by_, .inl (cI, 260, .inl fb)), (lw, .inr (1, [.ref l1, .ref l2, .ref l3, .ref l4, .ref l5, .ref l6, .ref l7, .int (nI zo_17), .int (nI k)])), (l1, .inl (cI, 240, .inl l1o_18))] := hD
        refine lv_aload_n hx hb dX2_readChoice_48 rfl (lv_at hl 1 rfl) ?_
        refine va_get (D := D) (ci := 2) (v := .ref lw) (C := RX2) (T := TX2) (N := 2) hx hb htb itX2 hown hK hP 0 rfl rfl 1 (by decide) (htb _ k_289) (fun _ h9 => h9) rfl dX2_readChoice_49 ?_
        refine lv_iload_n hx hb dX2_readChoice_52 rfl (lv_at hl 0 rfl) ?_
        refine cVV (As := [.int (nI za)]) (rest := []) (n := 1) (ci := 1) (q0 := 0) (wr := [(h0, .inr (2, [.ref tx, .ref lw])), (tx, .inr (6, [.ref tp, .int ed, .int plo_15, .int fao_16])), (tp, .inr (5, [.ref by_, .int (nI T)])), (by_, .inl (cI, 260, .inl fb))]) X hN hK hP hD hS hA (c_X1_landSkip l D cI cB _ lw l1 l2 l3 l4 l5 l6 l7 zo_17 k (nI za) l1o_18 hw_19 hk) (gV k_645 k_646 k_647 k_97 k_648) (by decide +kernel) ⟨Nat.le_of_ble_eq_true rfl, Nat.le_of_ble_eq_true rfl⟩ ⟨rfl, rfl⟩ [4, 5] [0, 1, 2, 3] rfl rfl (by decide) (by decide) rfl rfl rfl rfl rfl hl.1 (Nat.le_of_ble_eq_true rfl) dX2_readChoice_53 ⟨Nat.le_of_ble_eq_true rfl, Nat.le_of_ble_eq_true rfl⟩ (fun u H locs hw_22 hP hD hS => ?_)
        obtain ⟨l1_fo_21, rfl⟩ : ∃ z, z = u := ⟨_, rfl⟩
        try dsimp only at hw_22
        have hP : va_P D vwCl [(h0, .inr (2, [.ref tx, .ref lw])), (tx, .inr (6, [.ref tp, .int ed, .int plo_15, .int fao_16])), (tp, .inr (5, [.ref by_, .int (nI T)])), (by_, .inl (cI, 260, .inl fb)), (lw, .inr (1, [.ref l1, .ref l2, .ref l3, .ref l4, .ref l5, .ref l6, .ref l7, .int (nI zo_17), .int (nI k)])), (l1, .inl (cI, 240, .inl l1_fo_21))] H := hP
        have hD : va_D A [(h0, .inr (2, [.ref tx, .ref lw])), (tx, .inr (6, [.ref tp, .int ed, .int plo_15, .int fao_16])), (tp, .inr (5, [.ref by_, .int (nI T)])), (by_, .inl (cI, 260, .inl fb)), (lw, .inr (1, [.ref l1, .ref l2, .ref l3, .ref l4, .ref l5, .ref l6, .ref l7, .int (nI zo_17), .int (nI k)])), (l1, .inl (cI, 240, .inl l1_fo_21))] := hD
        refine lv_iinc (v := (nI (i + 1))) (lv' := [(2, .int (nI (i + 1))), (3, .int (nI za)), (0, .ref h0), (1, .int 2)]) hx hb dX2_readChoice_56 hl (k := 3) rfl (nI_1 i) (by decide) rfl (fun ls hl => ?_)
        refine lv_goto (tgt := 7) hx hb dX2_readChoice_59 (by decide) ?_
        exact ih_7 (i + 1) plo_15 fao_16 zo_17 l1_fo_21 (by omega) hw_19 _ _ (hP.sub [0, 1, 2, 3, 4, 5] rfl) (hD.sub [0, 1, 2, 3, 4, 5] (by decide) rfl) hS _ (lv_sub hl [2, 3, 0] rfl)
  exact loop_7 240 0 plo_2 fao_3 zo_4 l1o_5 (by omega) hw_6 _ _ (hP.sub [0, 1, 2, 3, 4, 5] rfl) (hD.sub [0, 1, 2, 3, 4, 5] (by decide) rfl) hS _ (lv_sub hl [1, 2, 0] rfl)

set_option maxRecDepth 100000 in
set_option maxHeartbeats 4000000 in
theorem c_readPiece_1 (l : Launch) (D : va_G) (cI cB : ClassId) (sz : Nat) (kk : KT) (h0 : Nat) (tx : Nat) (tp : Nat) (ed : Int32) (pl : Int32) (fa : Int32) (by_ : Nat) (T : Nat) (fb : Nat → Int32) (lw : Nat) (l1 : Nat) (l2 : Nat) (l3 : Nat) (l4 : Nat) (l5 : Nat) (l6 : Nat) (l7 : Nat) (z : Nat) (k : Nat) (q1 : Nat → Int32) (hT : T ≤ 260) (hz : z ≤ 240) (hk : k ≤ 16) : MVk (S := ((Int32) × (Int32) × (Nat) × (Nat → Int32))) l D cI cB kk yX2_readPiece cX2_readPiece 4 (rm 23 526) [.ref h0, .int 1] [(h0, .inr (2, [.ref tx, .ref lw])), (tx, .inr (6, [.ref tp, .int ed, .int pl, .int fa])), (tp, .inr (5, [.ref by_, .int (nI T)])), (by_, .inl (cI, 260, .inl fb)), (lw, .inr (1, [.ref l1, .ref l2, .ref l3, .ref l4, .ref l5, .ref l6, .ref l7, .int (nI z), .int (nI k)])), (l1, .inl (cI, 240, .inl q1))] sz (fun u => u.2.2.1 ≤ 240) (fun u : ((Int32) × (Int32) × (Nat) × (Nat → Int32)) => [(h0, .inr (2, [.ref tx, .ref lw])), (tx, .inr (6, [.ref tp, .int ed, .int u.1, .int u.2.1])), (tp, .inr (5, [.ref by_, .int (nI T)])), (by_, .inl (cI, 260, .inl fb)), (lw, .inr (1, [.ref l1, .ref l2, .ref l3, .ref l4, .ref l5, .ref l6, .ref l7, .int (nI u.2.2.1), .int (nI k)])), (l1, .inl (cI, 240, .inl u.2.2.2))]) := by
  refine MVk.of (by decide) (Nat.le_of_ble_eq_true rfl) ?_
  intro p e s m below meth c Q ls A X hin hN hKO hP hK hD hA hl ret
  have hS : va_S A s.heap s.heap [] := va_S.rf
  obtain ⟨hx, hb, hml, hown, htb⟩ := id X
  have hl : lv_has ls 4 [(0, .ref h0), (1, .int 1)] := hl
  refine lv_aload_n hx hb dX2_readPiece_0 rfl (lv_at hl 0 rfl) ?_
  refine va_get (D := D) (ci := 2) (v := .ref tx) (C := RX2) (T := TX2) (N := 2) hx hb htb itX2 hown hK hP 0 rfl rfl 0 (by decide) (htb _ k_288) (fun _ h9 => h9) rfl dX2_readPiece_1 ?_
  refine cVR (As := []) (rest := []) (n := 0) (ci := 6) (q0 := 0) X hN hK hP (c_X6_sign l D cI cB tx tp ed pl fa by_ T fb hT) (gV k_483 k_484 k_485 k_98 k_486) (by decide +kernel) ⟨Nat.le_of_ble_eq_true rfl, Nat.le_of_ble_eq_true rfl⟩ ⟨rfl, rfl⟩ [1, 2, 3] rfl rfl rfl rfl rfl rfl hl.1 (Nat.le_of_ble_eq_true rfl) dX2_readPiece_4 ⟨Nat.le_of_ble_eq_true rfl, Nat.le_of_ble_eq_true rfl⟩ (fun r_1 hr_1 => ?_)
  subst hr_1
  refine lv_topi (fun x_2 ex_2 => ?_)
  refine lv_istore_n (lv' := [(2, .int x_2), (0, .ref h0), (1, .int 1)]) hx hb dX2_readPiece_7 rfl hl (by decide) rfl (fun ls hl => ?_)
  refine lv_iload_n hx hb dX2_readPiece_8 rfl (lv_at hl 0 rfl) ?_
  refine lv_bipush (v := 33) hx hb dX2_readPiece_9 (by decide) ?_
  refine lv_icmp_ne (tgt := 41) hx hb dX2_readPiece_11 (by decide) (fun c_11 => ?_) (fun c_11 => ?_)
  · refine lv_iload_n hx hb dX2_readPiece_41 rfl (lv_at hl 0 rfl) ?_
    refine lv_bipush (v := 40) hx hb dX2_readPiece_42 (by decide) ?_
    refine lv_icmp_ne (tgt := 74) hx hb dX2_readPiece_44 (by decide) (fun c_44 => ?_) (fun c_44 => ?_)
    · refine lv_aload_n hx hb dX2_readPiece_74 rfl (lv_at hl 1 rfl) ?_
      refine lv_iload_n hx hb dX2_readPiece_75 rfl (lv_at hl 2 rfl) ?_
      refine cVVk (As := [.int 1]) (rest := []) (n := 1) (ci := 2) (q0 := 0) (wr := []) X hN hKO hK hP hD hS hA (c_readSum_1 l D cI cB _ kk h0 tx tp ed pl fa by_ T fb lw l1 l2 l3 l4 l5 l6 l7 z k q1 hT hz hk) (gV k_581 k_583 k_2 k_99 k_584) (by decide +kernel) ⟨Nat.le_of_ble_eq_true rfl, Nat.le_of_ble_eq_true rfl⟩ ⟨rfl, rfl⟩ [0, 1, 2, 3, 4, 5] [] rfl rfl (by decide) (by decide) rfl rfl rfl rfl rfl hl.1 (Nat.le_of_ble_eq_true rfl) dX2_readPiece_76 ⟨Nat.le_of_ble_eq_true rfl, Nat.le_of_ble_eq_true rfl⟩ (fun u H locs hw_8 hP hD hS => ?_)
      obtain ⟨plo_4, fao_5, zo_6, l1o_7⟩ := u
      try dsimp only at hw_8
      have hP : va_P D vwCl [(h0, .inr (2, [.ref tx, .ref lw])), (tx, .inr (6, [.ref tp, .int ed, .int plo_4, .int fao_5])), (tp, .inr (5, [.ref by_, .int (nI T)])), (by_, .inl (cI, 260, .inl fb)), (lw, .inr (1, [.ref l1, .ref l2, .ref l3, .ref l4, .ref l5, .ref l6, .ref l7, .int (nI zo_6), .int (nI k)])), (l1, .inl (cI, 240, .inl l1o_7))] H := hP
      have hD : va_D A [(h0, .inr (2, [.ref tx, .ref lw])), (tx, .inr (6, [.ref tp, .int ed, .int plo_4, .int fao_5])), (tp, .inr (5, [.ref by_, .int (nI T)])), (by_, .inl (cI, 260, .inl fb)), (lw, .inr (1, [.ref l1, .ref l2, .ref l3, .ref l4, .ref l5, .ref l6, .ref l7, .int (nI zo_6), .int (nI k)])), (l1, .inl (cI, 240, .inl l1o_7))] := hD
      refine lv_aload_n hx hb dX2_readPiece_79 rfl (lv_at hl 1 rfl) ?_
      refine cVI (As := []) (rest := []) (n := 0) (ci := 2) (q0 := 0) (wr := [(lw, .inr (1, [.ref l1, .ref l2, .ref l3, .ref l4, .ref l5, .ref l6, .ref l7, .int (nI zo_6), .int (nI k)])), (l1, .inl (cI, 240, .inl l1o_7))]) X hN hK hP hD hS hA (c_X2_comparison l D cI cB _ h0 lw tx tp ed plo_4 fao_5 by_ T fb hT) (gV k_640 k_642 k_10 k_99 k_643) (by decide +kernel) ⟨Nat.le_of_ble_eq_true rfl, Nat.le_of_ble_eq_true rfl⟩ ⟨rfl, rfl⟩ [0, 1, 2, 3] [4, 5] rfl rfl (by decide) (by decide) rfl rfl rfl rfl rfl hl.1 (Nat.le_of_ble_eq_true rfl) dX2_readPiece_80 ⟨Nat.le_of_ble_eq_true rfl, Nat.le_of_ble_eq_true rfl⟩ (fun r_9 u H locs hw_12 hP hD hS => ?_)
      obtain ⟨tx_2o_10, tx_3o_11⟩ := u
      try dsimp only at hw_12
      have hP : va_P D vwCl [(lw, .inr (1, [.ref l1, .ref l2, .ref l3, .ref l4, .ref l5, .ref l6, .ref l7, .int (nI zo_6), .int (nI k)])), (l1, .inl (cI, 240, .inl l1o_7)), (h0, .inr (2, [.ref tx, .ref lw])), (tx, .inr (6, [.ref tp, .int ed, .int tx_2o_10, .int tx_3o_11])), (tp, .inr (5, [.ref by_, .int (nI T)])), (by_, .inl (cI, 260, .inl fb))] H := hP
      have hD : va_D A [(lw, .inr (1, [.ref l1, .ref l2, .ref l3, .ref l4, .ref l5, .ref l6, .ref l7, .int (nI zo_6), .int (nI k)])), (l1, .inl (cI, 240, .inl l1o_7)), (h0, .inr (2, [.ref tx, .ref lw])), (tx, .inr (6, [.ref tp, .int ed, .int tx_2o_10, .int tx_3o_11])), (tp, .inr (5, [.ref by_, .int (nI T)])), (by_, .inl (cI, 260, .inl fb))] := hD
      refine lv_istore_n (lv' := [(3, .int r_9), (2, .int x_2), (0, .ref h0), (1, .int 1)]) hx hb dX2_readPiece_83 rfl hl (by decide) rfl (fun ls hl => ?_)
      refine lv_aload_n hx hb dX2_readPiece_84 rfl (lv_at hl 2 rfl) ?_
      refine lv_iload_n hx hb dX2_readPiece_85 rfl (lv_at hl 3 rfl) ?_
      refine cVVk (As := [.int 1]) (rest := []) (n := 1) (ci := 2) (q0 := 0) (wr := []) X hN hKO hK hP hD hS hA (c_readSum_1 l D cI cB _ kk h0 tx tp ed tx_2o_10 tx_3o_11 by_ T fb lw l1 l2 l3 l4 l5 l6 l7 zo_6 k l1o_7 hT hw_8 hk) (gV k_581 k_583 k_2 k_99 k_584) (by decide +kernel) ⟨Nat.le_of_ble_eq_true rfl, Nat.le_of_ble_eq_true rfl⟩ ⟨rfl, rfl⟩ [2, 3, 4, 5, 0, 1] [] rfl rfl (by decide) (by decide) rfl rfl rfl rfl rfl hl.1 (Nat.le_of_ble_eq_true rfl) dX2_readPiece_86 ⟨Nat.le_of_ble_eq_true rfl, Nat.le_of_ble_eq_true rfl⟩ (fun u H locs hw_18 hP hD hS => ?_)
      obtain ⟨plo_14, fao_15, zo_16, l1o_17⟩ := u
      try dsimp only at hw_18
      have hP : va_P D vwCl [(h0, .inr (2, [.ref tx, .ref lw])), (tx, .inr (6, [.ref tp, .int ed, .int plo_14, .int fao_15])), (tp, .inr (5, [.ref by_, .int (nI T)])), (by_, .inl (cI, 260, .inl fb)), (lw, .inr (1, [.ref l1, .ref l2, .ref l3, .ref l4, .ref l5, .ref l6, .ref l7, .int (nI zo_16), .int (nI k)])), (l1, .inl (cI, 240, .inl l1o_17))] H := hP
      have hD : va_D A [(h0, .inr (2, [.ref tx, .ref lw])), (tx, .inr (6, [.ref tp, .int ed, .int plo_14, .int fao_15])), (tp, .inr (5, [.ref by_, .int (nI T)])), (by_, .inl (cI, 260, .inl fb)), (lw, .inr (1, [.ref l1, .ref l2, .ref l3, .ref l4, .ref l5, .ref l6, .ref l7, .int (nI zo_16), .int (nI k)])), (l1, .inl (cI, 240, .inl l1o_17))] := hD
      refine lv_aload_n hx hb dX2_readPiece_89 rfl (lv_at hl 2 rfl) ?_
      refine va_get (D := D) (ci := 2) (v := .ref lw) (C := RX2) (T := TX2) (N := 2) hx hb htb itX2 hown hK hP 0 rfl rfl 1 (by decide) (htb _ k_289) (fun _ h9 => h9) rfl dX2_readPiece_90 ?_
      refine lv_iload_n hx hb dX2_readPiece_93 rfl (lv_at hl 0 rfl) ?_
      refine lv_iconst (v := 0) hx hb dX2_readPiece_94 (by decide) ?_
      refine cVV (As := [.int r_9, .int 0]) (rest := []) (n := 2) (ci := 1) (q0 := 0) (wr := [(h0, .inr (2, [.ref tx, .ref lw])), (tx, .inr (6, [.ref tp, .int ed, .int plo_14, .int fao_15])), (tp, .inr (5, [.ref by_, .int (nI T)])), (by_, .inl (cI, 260, .inl fb))]) X hN hK hP hD hS hA (c_X1_addStep l D cI cB _ lw l1 l2 l3 l4 l5 l6 l7 zo_16 k r_9 0 l1o_17 hw_18 hk) (gV k_594 k_595 k_596 k_97 k_597) (by decide +kernel) ⟨Nat.le_of_ble_eq_true rfl, Nat.le_of_ble_eq_true rfl⟩ ⟨rfl, rfl⟩ [4, 5] [0, 1, 2, 3] rfl rfl (by decide) (by decide) rfl rfl rfl rfl rfl hl.1 (Nat.le_of_ble_eq_true rfl) dX2_readPiece_95 ⟨Nat.le_of_ble_eq_true rfl, Nat.le_of_ble_eq_true rfl⟩ (fun u H locs hw_22 hP hD hS => ?_)
      obtain ⟨zo_20, l1_fo_21⟩ := u
      try dsimp only at hw_22
      have hP : va_P D vwCl [(h0, .inr (2, [.ref tx, .ref lw])), (tx, .inr (6, [.ref tp, .int ed, .int plo_14, .int fao_15])), (tp, .inr (5, [.ref by_, .int (nI T)])), (by_, .inl (cI, 260, .inl fb)), (lw, .inr (1, [.ref l1, .ref l2, .ref l3, .ref l4, .ref l5, .ref l6, .ref l7, .int (nI zo_20), .int (nI k)])), (l1, .inl (cI, 240, .inl l1_fo_21))] H := hP
      have hD : va_D A [(h0, .inr (2, [.ref tx, .ref lw])), (tx, .inr (6, [.ref tp, .int ed, .int plo_14, .int fao_15])), (tp, .inr (5, [.ref by_, .int (nI T)])), (by_, .inl (cI, 260, .inl fb)), (lw, .inr (1, [.ref l1, .ref l2, .ref l3, .ref l4, .ref l5, .ref l6, .ref l7, .int (nI zo_20), .int (nI k)])), (l1, .inl (cI, 240, .inl l1_fo_21))] := hD
      exact ret _ _ _ _ (plo_14, fao_15, zo_20, l1_fo_21) dX2_readPiece_98 hw_22 (hP.sub [0, 1, 2, 3, 4, 5] rfl) (hD.sub [0, 1, 2, 3, 4, 5] (by decide) rfl) hS
    · refine lv_aload_n hx hb dX2_readPiece_47 rfl (lv_at hl 1 rfl) ?_
      refine lv_iload_n hx hb dX2_readPiece_48 rfl (lv_at hl 2 rfl) ?_
      refine cVI (As := [.int 1]) (rest := []) (n := 1) (ci := 2) (q0 := 0) (wr := [(tp, .inr (5, [.ref by_, .int (nI T)])), (by_, .inl (cI, 260, .inl fb)), (lw, .inr (1, [.ref l1, .ref l2, .ref l3, .ref l4, .ref l5, .ref l6, .ref l7, .int (nI z), .int (nI k)])), (l1, .inl (cI, 240, .inl q1))]) X hN hK hP hD hS hA (c_X2_opens l D cI cB _ h0 lw tx tp ed pl fa 1) (gV k_598 k_600 k_5 k_99 k_601) (by decide +kernel) ⟨Nat.le_of_ble_eq_true rfl, Nat.le_of_ble_eq_true rfl⟩ ⟨rfl, rfl⟩ [0, 1] [2, 3, 4, 5] rfl rfl (by decide) (by decide) rfl rfl rfl rfl rfl hl.1 (Nat.le_of_ble_eq_true rfl) dX2_readPiece_49 ⟨Nat.le_of_ble_eq_true rfl, Nat.le_of_ble_eq_true rfl⟩ (fun r_23 u H locs hw_26 hP hD hS => ?_)
      obtain ⟨tx_2o_24, tx_3o_25⟩ := u
      try dsimp only at hw_26
      have hP : va_P D vwCl [(tp, .inr (5, [.ref by_, .int (nI T)])), (by_, .inl (cI, 260, .inl fb)), (lw, .inr (1, [.ref l1, .ref l2, .ref l3, .ref l4, .ref l5, .ref l6, .ref l7, .int (nI z), .int (nI k)])), (l1, .inl (cI, 240, .inl q1)), (h0, .inr (2, [.ref tx, .ref lw])), (tx, .inr (6, [.ref tp, .int ed, .int tx_2o_24, .int tx_3o_25]))] H := hP
      have hD : va_D A [(tp, .inr (5, [.ref by_, .int (nI T)])), (by_, .inl (cI, 260, .inl fb)), (lw, .inr (1, [.ref l1, .ref l2, .ref l3, .ref l4, .ref l5, .ref l6, .ref l7, .int (nI z), .int (nI k)])), (l1, .inl (cI, 240, .inl q1)), (h0, .inr (2, [.ref tx, .ref lw])), (tx, .inr (6, [.ref tp, .int ed, .int tx_2o_24, .int tx_3o_25]))] := hD
      obtain rfl : r_23 = 1 := hw_26.trans (by decide)
      refine lv_if_eq (tgt := 98) hx hb dX2_readPiece_52 (by decide) (fun c_52 => absurd c_52 (by decide)) (fun _ => ?_)
      refine lv_aload_n hx hb dX2_readPiece_55 rfl (lv_at hl 1 rfl) ?_
      refine lv_iload_n hx hb dX2_readPiece_56 rfl (lv_at hl 2 rfl) ?_
      refine lv_iconst (v := 1) hx hb dX2_readPiece_57 (by decide) ?_
      refine lv_iadd hx hb dX2_readPiece_58 ?_
      refine tv (z := 2) (by decide) ?_
      refine cVVk (As := [.int 2]) (rest := []) (n := 1) (ci := 2) (q0 := 0) (wr := []) X hN hKO hK hP hD hS hA (c_readChoice_2 l D cI cB _ kk h0 tx tp ed tx_2o_24 tx_3o_25 by_ T fb lw l1 l2 l3 l4 l5 l6 l7 z k q1 hT hz hk) (gV k_628 k_630 k_7 k_99 k_631) (by decide +kernel) ⟨Nat.le_of_ble_eq_true rfl, Nat.le_of_ble_eq_true rfl⟩ ⟨rfl, rfl⟩ [4, 5, 0, 1, 2, 3] [] rfl rfl (by decide) (by decide) rfl rfl rfl rfl rfl hl.1 (Nat.le_of_ble_eq_true rfl) dX2_readPiece_59 ⟨Nat.le_of_ble_eq_true rfl, Nat.le_of_ble_eq_true rfl⟩ (fun u H locs hw_32 hP hD hS => ?_)
      obtain ⟨plo_28, fao_29, zo_30, l1o_31⟩ := u
      try dsimp only at hw_32
      have hP : va_P D vwCl [(h0, .inr (2, [.ref tx, .ref lw])), (tx, .inr (6, [.ref tp, .int ed, .int plo_28, .int fao_29])), (tp, .inr (5, [.ref by_, .int (nI T)])), (by_, .inl (cI, 260, .inl fb)), (lw, .inr (1, [.ref l1, .ref l2, .ref l3, .ref l4, .ref l5, .ref l6, .ref l7, .int (nI zo_30), .int (nI k)])), (l1, .inl (cI, 240, .inl l1o_31))] H := hP
      have hD : va_D A [(h0, .inr (2, [.ref tx, .ref lw])), (tx, .inr (6, [.ref tp, .int ed, .int plo_28, .int fao_29])), (tp, .inr (5, [.ref by_, .int (nI T)])), (by_, .inl (cI, 260, .inl fb)), (lw, .inr (1, [.ref l1, .ref l2, .ref l3, .ref l4, .ref l5, .ref l6, .ref l7, .int (nI zo_30), .int (nI k)])), (l1, .inl (cI, 240, .inl l1o_31))] := hD
      refine lv_aload_n hx hb dX2_readPiece_62 rfl (lv_at hl 1 rfl) ?_
      refine va_get (D := D) (ci := 2) (v := .ref tx) (C := RX2) (T := TX2) (N := 2) hx hb htb itX2 hown hK hP 0 rfl rfl 0 (by decide) (htb _ k_288) (fun _ h9 => h9) rfl dX2_readPiece_63 ?_
      refine lv_bipush (v := 41) hx hb dX2_readPiece_66 (by decide) ?_
      refine cVV (As := [.int 41]) (rest := []) (n := 1) (ci := 6) (q0 := 0) (wr := [(h0, .inr (2, [.ref tx, .ref lw])), (lw, .inr (1, [.ref l1, .ref l2, .ref l3, .ref l4, .ref l5, .ref l6, .ref l7, .int (nI zo_30), .int (nI k)])), (l1, .inl (cI, 240, .inl l1o_31))]) X hN hK hP hD hS hA (c_X6_expect l D cI cB _ tx tp ed plo_28 fao_29 by_ T fb 41 hT) (gV k_602 k_603 k_604 k_98 k_605) (by decide +kernel) ⟨Nat.le_of_ble_eq_true rfl, Nat.le_of_ble_eq_true rfl⟩ ⟨rfl, rfl⟩ [1, 2, 3] [0, 4, 5] rfl rfl (by decide) (by decide) rfl rfl rfl rfl rfl hl.1 (Nat.le_of_ble_eq_true rfl) dX2_readPiece_68 ⟨Nat.le_of_ble_eq_true rfl, Nat.le_of_ble_eq_true rfl⟩ (fun u H locs hw_36 hP hD hS => ?_)
      obtain ⟨h0_2o_34, h0_3o_35⟩ := u
      try dsimp only at hw_36
      have hP : va_P D vwCl [(h0, .inr (2, [.ref tx, .ref lw])), (lw, .inr (1, [.ref l1, .ref l2, .ref l3, .ref l4, .ref l5, .ref l6, .ref l7, .int (nI zo_30), .int (nI k)])), (l1, .inl (cI, 240, .inl l1o_31)), (tx, .inr (6, [.ref tp, .int ed, .int h0_2o_34, .int h0_3o_35])), (tp, .inr (5, [.ref by_, .int (nI T)])), (by_, .inl (cI, 260, .inl fb))] H := hP
      have hD : va_D A [(h0, .inr (2, [.ref tx, .ref lw])), (lw, .inr (1, [.ref l1, .ref l2, .ref l3, .ref l4, .ref l5, .ref l6, .ref l7, .int (nI zo_30), .int (nI k)])), (l1, .inl (cI, 240, .inl l1o_31)), (tx, .inr (6, [.ref tp, .int ed, .int h0_2o_34, .int h0_3o_35])), (tp, .inr (5, [.ref by_, .int (nI T)])), (by_, .inl (cI, 260, .inl fb))] := hD
      refine lv_goto (tgt := 98) hx hb dX2_readPiece_71 (by decide) ?_
      exact ret _ _ _ _ (h0_2o_34, h0_3o_35, zo_30, l1o_31) dX2_readPiece_98 hw_32 (hP.sub [0, 3, 4, 5, 1, 2] rfl) (hD.sub [0, 3, 4, 5, 1, 2] (by decide) rfl) hS
  · refine lv_aload_n hx hb dX2_readPiece_14 rfl (lv_at hl 1 rfl) ?_
    refine lv_iload_n hx hb dX2_readPiece_15 rfl (lv_at hl 2 rfl) ?_
    refine cVI (As := [.int 1]) (rest := []) (n := 1) (ci := 2) (q0 := 0) (wr := [(tp, .inr (5, [.ref by_, .int (nI T)])), (by_, .inl (cI, 260, .inl fb)), (lw, .inr (1, [.ref l1, .ref l2, .ref l3, .ref l4, .ref l5, .ref l6, .ref l7, .int (nI z), .int (nI k)])), (l1, .inl (cI, 240, .inl q1))]) X hN hK hP hD hS hA (c_X2_opens l D cI cB _ h0 lw tx tp ed pl fa 1) (gV k_598 k_600 k_5 k_99 k_601) (by decide +kernel) ⟨Nat.le_of_ble_eq_true rfl, Nat.le_of_ble_eq_true rfl⟩ ⟨rfl, rfl⟩ [0, 1] [2, 3, 4, 5] rfl rfl (by decide) (by decide) rfl rfl rfl rfl rfl hl.1 (Nat.le_of_ble_eq_true rfl) dX2_readPiece_16 ⟨Nat.le_of_ble_eq_true rfl, Nat.le_of_ble_eq_true rfl⟩ (fun r_37 u H locs hw_40 hP hD hS => ?_)
    obtain ⟨tx_2o_38, tx_3o_39⟩ := u
    try dsimp only at hw_40
    have hP : va_P D vwCl [(tp, .inr (5, [.ref by_, .int (nI T)])), (by_, .inl (cI, 260, .inl fb)), (lw, .inr (1, [.ref l1, .ref l2, .ref l3, .ref l4, .ref l5, .ref l6, .ref l7, .int (nI z), .int (nI k)])), (l1, .inl (cI, 240, .inl q1)), (h0, .inr (2, [.ref tx, .ref lw])), (tx, .inr (6, [.ref tp, .int ed, .int tx_2o_38, .int tx_3o_39]))] H := hP
    have hD : va_D A [(tp, .inr (5, [.ref by_, .int (nI T)])), (by_, .inl (cI, 260, .inl fb)), (lw, .inr (1, [.ref l1, .ref l2, .ref l3, .ref l4, .ref l5, .ref l6, .ref l7, .int (nI z), .int (nI k)])), (l1, .inl (cI, 240, .inl q1)), (h0, .inr (2, [.ref tx, .ref lw])), (tx, .inr (6, [.ref tp, .int ed, .int tx_2o_38, .int tx_3o_39]))] := hD
    obtain rfl : r_37 = 1 := hw_40.trans (by decide)
    refine lv_if_eq (tgt := 98) hx hb dX2_readPiece_19 (by decide) (fun c_19 => absurd c_19 (by decide)) (fun _ => ?_)
    refine lv_aload_n hx hb dX2_readPiece_22 rfl (lv_at hl 1 rfl) ?_
    refine lv_iload_n hx hb dX2_readPiece_23 rfl (lv_at hl 2 rfl) ?_
    refine lv_iconst (v := 1) hx hb dX2_readPiece_24 (by decide) ?_
    refine lv_iadd hx hb dX2_readPiece_25 ?_
    refine tv (z := 2) (by decide) ?_
    refine cVVk (As := [.int 2]) (rest := []) (n := 1) (ci := 2) (q0 := 0) (wr := []) X hN hKO hK hP hD hS hA (c_readPiece_2 l D cI cB _ kk h0 tx tp ed tx_2o_38 tx_3o_39 by_ T fb lw l1 l2 l3 l4 l5 l6 l7 z k q1 hT hz hk) (gV k_636 k_638 k_9 k_99 k_639) (by decide +kernel) ⟨Nat.le_of_ble_eq_true rfl, Nat.le_of_ble_eq_true rfl⟩ ⟨rfl, rfl⟩ [4, 5, 0, 1, 2, 3] [] rfl rfl (by decide) (by decide) rfl rfl rfl rfl rfl hl.1 (Nat.le_of_ble_eq_true rfl) dX2_readPiece_26 ⟨Nat.le_of_ble_eq_true rfl, Nat.le_of_ble_eq_true rfl⟩ (fun u H locs hw_46 hP hD hS => ?_)
    obtain ⟨plo_42, fao_43, zo_44, l1o_45⟩ := u
    try dsimp only at hw_46
    have hP : va_P D vwCl [(h0, .inr (2, [.ref tx, .ref lw])), (tx, .inr (6, [.ref tp, .int ed, .int plo_42, .int fao_43])), (tp, .inr (5, [.ref by_, .int (nI T)])), (by_, .inl (cI, 260, .inl fb)), (lw, .inr (1, [.ref l1, .ref l2, .ref l3, .ref l4, .ref l5, .ref l6, .ref l7, .int (nI zo_44), .int (nI k)])), (l1, .inl (cI, 240, .inl l1o_45))] H := hP
    have hD : va_D A [(h0, .inr (2, [.ref tx, .ref lw])), (tx, .inr (6, [.ref tp, .int ed, .int plo_42, .int fao_43])), (tp, .inr (5, [.ref by_, .int (nI T)])), (by_, .inl (cI, 260, .inl fb)), (lw, .inr (1, [.ref l1, .ref l2, .ref l3, .ref l4, .ref l5, .ref l6, .ref l7, .int (nI zo_44), .int (nI k)])), (l1, .inl (cI, 240, .inl l1o_45))] := hD
    refine lv_aload_n hx hb dX2_readPiece_29 rfl (lv_at hl 1 rfl) ?_
    refine va_get (D := D) (ci := 2) (v := .ref lw) (C := RX2) (T := TX2) (N := 2) hx hb htb itX2 hown hK hP 0 rfl rfl 1 (by decide) (htb _ k_289) (fun _ h9 => h9) rfl dX2_readPiece_30 ?_
    refine lv_iconst (v := 2) hx hb dX2_readPiece_33 (by decide) ?_
    refine lv_iconst (v := 0) hx hb dX2_readPiece_34 (by decide) ?_
    refine cVV (As := [.int 2, .int 0]) (rest := []) (n := 2) (ci := 1) (q0 := 0) (wr := [(h0, .inr (2, [.ref tx, .ref lw])), (tx, .inr (6, [.ref tp, .int ed, .int plo_42, .int fao_43])), (tp, .inr (5, [.ref by_, .int (nI T)])), (by_, .inl (cI, 260, .inl fb))]) X hN hK hP hD hS hA (c_X1_addStep l D cI cB _ lw l1 l2 l3 l4 l5 l6 l7 zo_44 k 2 0 l1o_45 hw_46 hk) (gV k_594 k_595 k_596 k_97 k_597) (by decide +kernel) ⟨Nat.le_of_ble_eq_true rfl, Nat.le_of_ble_eq_true rfl⟩ ⟨rfl, rfl⟩ [4, 5] [0, 1, 2, 3] rfl rfl (by decide) (by decide) rfl rfl rfl rfl rfl hl.1 (Nat.le_of_ble_eq_true rfl) dX2_readPiece_35 ⟨Nat.le_of_ble_eq_true rfl, Nat.le_of_ble_eq_true rfl⟩ (fun u H locs hw_50 hP hD hS => ?_)
    obtain ⟨zo_48, l1_fo_49⟩ := u
    try dsimp only at hw_50
    have hP : va_P D vwCl [(h0, .inr (2, [.ref tx, .ref lw])), (tx, .inr (6, [.ref tp, .int ed, .int plo_42, .int fao_43])), (tp, .inr (5, [.ref by_, .int (nI T)])), (by_, .inl (cI, 260, .inl fb)), (lw, .inr (1, [.ref l1, .ref l2, .ref l3, .ref l4, .ref l5, .ref l6, .ref l7, .int (nI zo_48), .int (nI k)])), (l1, .inl (cI, 240, .inl l1_fo_49))] H := hP
    have hD : va_D A [(h0, .inr (2, [.ref tx, .ref lw])), (tx, .inr (6, [.ref tp, .int ed, .int plo_42, .int fao_43])), (tp, .inr (5, [.ref by_, .int (nI T)])), (by_, .inl (cI, 260, .inl fb)), (lw, .inr (1, [.ref l1, .ref l2, .ref l3, .ref l4, .ref l5, .ref l6, .ref l7, .int (nI zo_48), .int (nI k)])), (l1, .inl (cI, 240, .inl l1_fo_49))] := hD
    refine lv_goto (tgt := 98) hx hb dX2_readPiece_38 (by decide) ?_
    exact ret _ _ _ _ (plo_42, fao_43, zo_48, l1_fo_49) dX2_readPiece_98 hw_50 (hP.sub [0, 1, 2, 3, 4, 5] rfl) (hD.sub [0, 1, 2, 3, 4, 5] (by decide) rfl) hS

set_option maxRecDepth 100000 in
set_option maxHeartbeats 4000000 in
theorem c_readPart_1 (l : Launch) (D : va_G) (cI cB : ClassId) (sz : Nat) (kk : KT) (h0 : Nat) (tx : Nat) (tp : Nat) (ed : Int32) (pl : Int32) (fa : Int32) (by_ : Nat) (T : Nat) (fb : Nat → Int32) (lw : Nat) (l1 : Nat) (l2 : Nat) (l3 : Nat) (l4 : Nat) (l5 : Nat) (l6 : Nat) (l7 : Nat) (z : Nat) (k : Nat) (q1 : Nat → Int32) (hT : T ≤ 260) (hz : z ≤ 240) (hk : k ≤ 16) : MVk (S := ((Int32) × (Int32) × (Nat) × (Nat → Int32))) l D cI cB kk yX2_readPart cX2_readPart 4 (rm 24 549) [.ref h0, .int 1] [(h0, .inr (2, [.ref tx, .ref lw])), (tx, .inr (6, [.ref tp, .int ed, .int pl, .int fa])), (tp, .inr (5, [.ref by_, .int (nI T)])), (by_, .inl (cI, 260, .inl fb)), (lw, .inr (1, [.ref l1, .ref l2, .ref l3, .ref l4, .ref l5, .ref l6, .ref l7, .int (nI z), .int (nI k)])), (l1, .inl (cI, 240, .inl q1))] sz (fun u => u.2.2.1 ≤ 240) (fun u : ((Int32) × (Int32) × (Nat) × (Nat → Int32)) => [(h0, .inr (2, [.ref tx, .ref lw])), (tx, .inr (6, [.ref tp, .int ed, .int u.1, .int u.2.1])), (tp, .inr (5, [.ref by_, .int (nI T)])), (by_, .inl (cI, 260, .inl fb)), (lw, .inr (1, [.ref l1, .ref l2, .ref l3, .ref l4, .ref l5, .ref l6, .ref l7, .int (nI u.2.2.1), .int (nI k)])), (l1, .inl (cI, 240, .inl u.2.2.2))]) := by
  refine MVk.of (by decide) (Nat.le_of_ble_eq_true rfl) ?_
  intro p e s m below meth c Q ls A X hin hN hKO hP hK hD hA hl ret
  have hS : va_S A s.heap s.heap [] := va_S.rf
  obtain ⟨hx, hb, hml, hown, htb⟩ := id X
  have hl : lv_has ls 4 [(0, .ref h0), (1, .int 1)] := hl
  refine lv_aload_n hx hb dX2_readPart_0 rfl (lv_at hl 0 rfl) ?_
  refine lv_iload_n hx hb dX2_readPart_1 rfl (lv_at hl 1 rfl) ?_
  refine cVVk (As := [.int 1]) (rest := []) (n := 1) (ci := 2) (q0 := 0) (wr := []) X hN hKO hK hP hD hS hA (c_readPiece_1 l D cI cB _ kk h0 tx tp ed pl fa by_ T fb lw l1 l2 l3 l4 l5 l6 l7 z k q1 hT hz hk) (gV k_636 k_638 k_9 k_99 k_639) (by decide +kernel) ⟨Nat.le_of_ble_eq_true rfl, Nat.le_of_ble_eq_true rfl⟩ ⟨rfl, rfl⟩ [0, 1, 2, 3, 4, 5] [] rfl rfl (by decide) (by decide) rfl rfl rfl rfl rfl hl.1 (Nat.le_of_ble_eq_true rfl) dX2_readPart_2 ⟨Nat.le_of_ble_eq_true rfl, Nat.le_of_ble_eq_true rfl⟩ (fun u H locs hw_6 hP hD hS => ?_)
  obtain ⟨plo_2, fao_3, zo_4, l1o_5⟩ := u
  try dsimp only at hw_6
  have hP : va_P D vwCl [(h0, .inr (2, [.ref tx, .ref lw])), (tx, .inr (6, [.ref tp, .int ed, .int plo_2, .int fao_3])), (tp, .inr (5, [.ref by_, .int (nI T)])), (by_, .inl (cI, 260, .inl fb)), (lw, .inr (1, [.ref l1, .ref l2, .ref l3, .ref l4, .ref l5, .ref l6, .ref l7, .int (nI zo_4), .int (nI k)])), (l1, .inl (cI, 240, .inl l1o_5))] H := hP
  have hD : va_D A [(h0, .inr (2, [.ref tx, .ref lw])), (tx, .inr (6, [.ref tp, .int ed, .int plo_2, .int fao_3])), (tp, .inr (5, [.ref by_, .int (nI T)])), (by_, .inl (cI, 260, .inl fb)), (lw, .inr (1, [.ref l1, .ref l2, .ref l3, .ref l4, .ref l5, .ref l6, .ref l7, .int (nI zo_4), .int (nI k)])), (l1, .inl (cI, 240, .inl l1o_5))] := hD
  refine lv_iconst (v := 0) hx hb dX2_readPart_5 (by decide) ?_
  refine lv_istore_n (lv' := [(2, .int 0), (0, .ref h0), (1, .int 1)]) hx hb dX2_readPart_6 rfl hl (by decide) rfl (fun ls hl => ?_)
  have loop_7 : ∀ (n i : Nat) (pa : Int32) (fb_ : Int32) (za : Nat) (qa : Nat → Int32), n + i = 240 → (za ≤ 240) → ∀ (H : Heap) (locs : List Loc), va_P D vwCl [(h0, .inr (2, [.ref tx, .ref lw])), (tx, .inr (6, [.ref tp, .int ed, .int pa, .int fb_])), (tp, .inr (5, [.ref by_, .int (nI T)])), (by_, .inl (cI, 260, .inl fb)), (lw, .inr (1, [.ref l1, .ref l2, .ref l3, .ref l4, .ref l5, .ref l6, .ref l7, .int (nI za), .int (nI k)])), (l1, .inl (cI, 240, .inl qa))] H → va_D A [(h0, .inr (2, [.ref tx, .ref lw])), (tx, .inr (6, [.ref tp, .int ed, .int pa, .int fb_])), (tp, .inr (5, [.ref by_, .int (nI T)])), (by_, .inl (cI, 260, .inl fb)), (lw, .inr (1, [.ref l1, .ref l2, .ref l3, .ref l4, .ref l5, .ref l6, .ref l7, .int (nI za), .int (nI k)])), (l1, .inl (cI, 240, .inl qa))] → va_S A s.heap H locs → ∀ (ls : Array Slot), lv_has ls 4 [(0, .ref h0), (1, .int 1), (2, .int (nI i))] → W p l e (rm 24 549) s m ([.ref h0, .int 1] : List Value).toArray below meth c H locs 0 0 Q (F0 m 7 ls []) := by
    intro n
    induction n with
    | zero =>
      intro i pa fb_ za qa hni hza H locs hP hD hS ls hl
      have hni_7 := hni
      have hi : i = 240 := by omega
      refine lv_iload_n hx hb dX2_readPart_7 rfl (lv_at hl 2 rfl) ?_
      refine lv_sipush (v := 240) hx hb dX2_readPart_8 (by decide) ?_
      refine lv_icmp_ge (tgt := 62) hx hb dX2_readPart_11 (by decide) (fun _ => ?_) (fun c_11 => absurd (by rw [hi]; decide) c_11)
      exact ret _ _ _ _ (pa, fb_, za, qa) dX2_readPart_62 hza (hP.sub [0, 1, 2, 3, 4, 5] rfl) (hD.sub [0, 1, 2, 3, 4, 5] (by decide) rfl) hS
    | succ n ih_7 =>
      intro i pa fb_ za qa hni hza H locs hP hD hS ls hl
      have hni_7 := hni
      have hi : i < 240 := by omega
      refine lv_iload_n hx hb dX2_readPart_7 rfl (lv_at hl 2 rfl) ?_
      refine lv_sipush (v := 240) hx hb dX2_readPart_8 (by decide) ?_
      refine lv_icmp_ge (tgt := 62) hx hb dX2_readPart_11 (by decide) (fun c_11 => absurd c_11 (nI_ge hi (by decide))) (fun _ => ?_)
      refine lv_aload_n hx hb dX2_readPart_14 rfl (lv_at hl 0 rfl) ?_
      refine va_get (D := D) (ci := 2) (v := .ref tx) (C := RX2) (T := TX2) (N := 2) hx hb htb itX2 hown hK hP 0 rfl rfl 0 (by decide) (htb _ k_288) (fun _ h9 => h9) rfl dX2_readPart_15 ?_
      refine lv_bipush (v := 38) hx hb dX2_readPart_18 (by decide) ?_
      refine cVI (As := [.int 38]) (rest := []) (n := 1) (ci := 6) (q0 := 0) (wr := [(h0, .inr (2, [.ref tx, .ref lw])), (lw, .inr (1, [.ref l1, .ref l2, .ref l3, .ref l4, .ref l5, .ref l6, .ref l7, .int (nI za), .int (nI k)])), (l1, .inl (cI, 240, .inl qa))]) X hN hK hP hD hS hA (c_X6_skip l D cI cB _ tx tp ed pa fb_ by_ T fb 38 hT) (gV k_644 k_607 k_608 k_98 k_609) (by decide +kernel) ⟨Nat.le_of_ble_eq_true rfl, Nat.le_of_ble_eq_true rfl⟩ ⟨rfl, rfl⟩ [1, 2, 3] [0, 4, 5] rfl rfl (by decide) (by decide) rfl rfl rfl rfl rfl hl.1 (Nat.le_of_ble_eq_true rfl) dX2_readPart_20 ⟨Nat.le_of_ble_eq_true rfl, Nat.le_of_ble_eq_true rfl⟩ (fun r_7 u H locs hw_9 hP hD hS => ?_)
      obtain ⟨h0_2o_8, rfl⟩ : ∃ z, z = u := ⟨_, rfl⟩
      try dsimp only at hw_9
      have hP : va_P D vwCl [(h0, .inr (2, [.ref tx, .ref lw])), (lw, .inr (1, [.ref l1, .ref l2, .ref l3, .ref l4, .ref l5, .ref l6, .ref l7, .int (nI za), .int (nI k)])), (l1, .inl (cI, 240, .inl qa)), (tx, .inr (6, [.ref tp, .int ed, .int h0_2o_8, .int fb_])), (tp, .inr (5, [.ref by_, .int (nI T)])), (by_, .inl (cI, 260, .inl fb))] H := hP
      have hD : va_D A [(h0, .inr (2, [.ref tx, .ref lw])), (lw, .inr (1, [.ref l1, .ref l2, .ref l3, .ref l4, .ref l5, .ref l6, .ref l7, .int (nI za), .int (nI k)])), (l1, .inl (cI, 240, .inl qa)), (tx, .inr (6, [.ref tp, .int ed, .int h0_2o_8, .int fb_])), (tp, .inr (5, [.ref by_, .int (nI T)])), (by_, .inl (cI, 260, .inl fb))] := hD
      refine lv_if_eq (tgt := 62) hx hb dX2_readPart_23 (by decide) (fun c_23 => ?_) (fun c_23 => ?_)
      · exact ret _ _ _ _ (h0_2o_8, fb_, za, qa) dX2_readPart_62 hza (hP.sub [0, 3, 4, 5, 1, 2] rfl) (hD.sub [0, 3, 4, 5, 1, 2] (by decide) rfl) hS
      · refine lv_aload_n hx hb dX2_readPart_26 rfl (lv_at hl 0 rfl) ?_
        refine va_get (D := D) (ci := 2) (v := .ref lw) (C := RX2) (T := TX2) (N := 2) hx hb htb itX2 hown hK hP 0 rfl rfl 1 (by decide) (htb _ k_289) (fun _ h9 => h9) rfl dX2_readPart_27 ?_
        refine va_getN (D := D) (ci := 1) (v := .int (nI za)) (C := RX1) (T := TX1) (N := 9) hx hb htb itX1 hown hK hP 1 rfl rfl 7 (by decide) (va_Nw.use rfl (hN _ n_232 rfl)) (fun _ h9 => h9) rfl dX2_readPart_30 ?_
        refine lv_istore_n (lv' := [(3, .int (nI za)), (0, .ref h0), (1, .int 1), (2, .int (nI i))]) hx hb dX2_readPart_33 rfl hl (by decide) rfl (fun ls hl => ?_)
        refine lv_aload_n hx hb dX2_readPart_34 rfl (lv_at hl 1 rfl) ?_
        refine va_get (D := D) (ci := 2) (v := .ref lw) (C := RX2) (T := TX2) (N := 2) hx hb htb itX2 hown hK hP 0 rfl rfl 1 (by decide) (htb _ k_289) (fun _ h9 => h9) rfl dX2_readPart_35 ?_
        refine lv_iconst (v := 4) hx hb dX2_readPart_38 (by decide) ?_
        refine lv_iconst (v := 0) hx hb dX2_readPart_39 (by decide) ?_
        refine cVV (As := [.int 4, .int 0]) (rest := []) (n := 2) (ci := 1) (q0 := 0) (wr := [(h0, .inr (2, [.ref tx, .ref lw])), (tx, .inr (6, [.ref tp, .int ed, .int h0_2o_8, .int fb_])), (tp, .inr (5, [.ref by_, .int (nI T)])), (by_, .inl (cI, 260, .inl fb))]) X hN hK hP hD hS hA (c_X1_addStep l D cI cB _ lw l1 l2 l3 l4 l5 l6 l7 za k 4 0 qa hza hk) (gV k_594 k_595 k_596 k_97 k_597) (by decide +kernel) ⟨Nat.le_of_ble_eq_true rfl, Nat.le_of_ble_eq_true rfl⟩ ⟨rfl, rfl⟩ [1, 2] [0, 3, 4, 5] rfl rfl (by decide) (by decide) rfl rfl rfl rfl rfl hl.1 (Nat.le_of_ble_eq_true rfl) dX2_readPart_40 ⟨Nat.le_of_ble_eq_true rfl, Nat.le_of_ble_eq_true rfl⟩ (fun u H locs hw_13 hP hD hS => ?_)
        obtain ⟨zo_11, l1_fo_12⟩ := u
        try dsimp only at hw_13
        have hP : va_P D vwCl [(h0, .inr (2, [.ref tx, .ref lw])), (tx, .inr (6, [.ref tp, .int ed, .int h0_2o_8, .int fb_])), (tp, .inr (5, [.ref by_, .int (nI T)])), (by_, .inl (cI, 260, .inl fb)), (lw, .inr (1, [.ref l1, .ref l2, .ref l3, .ref l4, .ref l5, .ref l6, .ref l7, .int (nI zo_11), .int (nI k)])), (l1, .inl (cI, 240, .inl l1_fo_12))] H := hP
        have hD : va_D A [(h0, .inr (2, [.ref tx, .ref lw])), (tx, .inr (6, [.ref tp, .int ed, .int h0_2o_8, .int fb_])), (tp, .inr (5, [.ref by_, .int (nI T)])), (by_, .inl (cI, 260, .inl fb)), (lw, .inr (1, [.ref l1, .ref l2, .ref l3, .ref l4, .ref l5, .ref l6, .ref l7, .int (nI zo_11), .int (nI k)])), (l1, .inl (cI, 240, .inl l1_fo_12))] := hD
        refine lv_aload_n hx hb dX2_readPart_43 rfl (lv_at hl 1 rfl) ?_
        refine lv_iload_n hx hb dX2_readPart_44 rfl (lv_at hl 2 rfl) ?_
        refine cVVk (As := [.int 1]) (rest := []) (n := 1) (ci := 2) (q0 := 0) (wr := []) X hN hKO hK hP hD hS hA (c_readPiece_1 l D cI cB _ kk h0 tx tp ed h0_2o_8 fb_ by_ T fb lw l1 l2 l3 l4 l5 l6 l7 zo_11 k l1_fo_12 hT hw_13 hk) (gV k_636 k_638 k_9 k_99 k_639) (by decide +kernel) ⟨Nat.le_of_ble_eq_true rfl, Nat.le_of_ble_eq_true rfl⟩ ⟨rfl, rfl⟩ [0, 1, 2, 3, 4, 5] [] rfl rfl (by decide) (by decide) rfl rfl rfl rfl rfl hl.1 (Nat.le_of_ble_eq_true rfl) dX2_readPart_45 ⟨Nat.le_of_ble_eq_true rfl, Nat.le_of_ble_eq_true rfl⟩ (fun u H locs hw_19 hP hD hS => ?_)
        obtain ⟨plo_15, fao_16, zo_17, l1o_18⟩ := u
        try dsimp only at hw_19
        have hP : va_P D vwCl [(h0, .inr (2, [.ref tx, .ref lw])), (tx, .inr (6, [.ref tp, .int ed, .int plo_15, .int fao_16])), (tp, .inr (5, [.ref by_, .int (nI T)])), (by_, .inl (cI, 260, .inl fb)), (lw, .inr (1, [.ref l1, .ref l2, .ref l3, .ref l4, .ref l5, .ref l6, .ref l7, .int (nI zo_17), .int (nI k)])), (l1, .inl (cI, 240, .inl l1o_18))] H := hP
        have hD : va_D A [(h0, .inr (2, [.ref tx, .ref lw])), (tx, .inr (6, [.ref tp, .int ed, .int plo_15, .int fao_16])), (tp, .inr (5, [.ref by_, .int (nI T)])), (by_, .inl (cI, 260, .inl fb)), (lw, .inr (1, [.ref l1, .ref l2, .ref l3, .ref l4, .ref l5, .ref l6, .ref l7, .int (nI zo_17), .int (nI k)])), (l1, .inl (cI, 240, .inl l1o_18))] := hD
        refine lv_aload_n hx hb dX2_readPart_48 rfl (lv_at hl 1 rfl) ?_
        refine va_get (D := D) (ci := 2) (v := .ref lw) (C := RX2) (T := TX2) (N := 2) hx hb htb itX2 hown hK hP 0 rfl rfl 1 (by decide) (htb _ k_289) (fun _ h9 => h9) rfl dX2_readPart_49 ?_
        refine lv_iload_n hx hb dX2_readPart_52 rfl (lv_at hl 0 rfl) ?_
        refine cVV (As := [.int (nI za)]) (rest := []) (n := 1) (ci := 1) (q0 := 0) (wr := [(h0, .inr (2, [.ref tx, .ref lw])), (tx, .inr (6, [.ref tp, .int ed, .int plo_15, .int fao_16])), (tp, .inr (5, [.ref by_, .int (nI T)])), (by_, .inl (cI, 260, .inl fb))]) X hN hK hP hD hS hA (c_X1_landSkip l D cI cB _ lw l1 l2 l3 l4 l5 l6 l7 zo_17 k (nI za) l1o_18 hw_19 hk) (gV k_645 k_646 k_647 k_97 k_648) (by decide +kernel) ⟨Nat.le_of_ble_eq_true rfl, Nat.le_of_ble_eq_true rfl⟩ ⟨rfl, rfl⟩ [4, 5] [0, 1, 2, 3] rfl rfl (by decide) (by decide) rfl rfl rfl rfl rfl hl.1 (Nat.le_of_ble_eq_true rfl) dX2_readPart_53 ⟨Nat.le_of_ble_eq_true rfl, Nat.le_of_ble_eq_true rfl⟩ (fun u H locs hw_22 hP hD hS => ?_)
        obtain ⟨l1_fo_21, rfl⟩ : ∃ z, z = u := ⟨_, rfl⟩
        try dsimp only at hw_22
        have hP : va_P D vwCl [(h0, .inr (2, [.ref tx, .ref lw])), (tx, .inr (6, [.ref tp, .int ed, .int plo_15, .int fao_16])), (tp, .inr (5, [.ref by_, .int (nI T)])), (by_, .inl (cI, 260, .inl fb)), (lw, .inr (1, [.ref l1, .ref l2, .ref l3, .ref l4, .ref l5, .ref l6, .ref l7, .int (nI zo_17), .int (nI k)])), (l1, .inl (cI, 240, .inl l1_fo_21))] H := hP
        have hD : va_D A [(h0, .inr (2, [.ref tx, .ref lw])), (tx, .inr (6, [.ref tp, .int ed, .int plo_15, .int fao_16])), (tp, .inr (5, [.ref by_, .int (nI T)])), (by_, .inl (cI, 260, .inl fb)), (lw, .inr (1, [.ref l1, .ref l2, .ref l3, .ref l4, .ref l5, .ref l6, .ref l7, .int (nI zo_17), .int (nI k)])), (l1, .inl (cI, 240, .inl l1_fo_21))] := hD
        refine lv_iinc (v := (nI (i + 1))) (lv' := [(2, .int (nI (i + 1))), (3, .int (nI za)), (0, .ref h0), (1, .int 1)]) hx hb dX2_readPart_56 hl (k := 3) rfl (nI_1 i) (by decide) rfl (fun ls hl => ?_)
        refine lv_goto (tgt := 7) hx hb dX2_readPart_59 (by decide) ?_
        exact ih_7 (i + 1) plo_15 fao_16 zo_17 l1_fo_21 (by omega) hw_19 _ _ (hP.sub [0, 1, 2, 3, 4, 5] rfl) (hD.sub [0, 1, 2, 3, 4, 5] (by decide) rfl) hS _ (lv_sub hl [2, 3, 0] rfl)
  exact loop_7 240 0 plo_2 fao_3 zo_4 l1o_5 (by omega) hw_6 _ _ (hP.sub [0, 1, 2, 3, 4, 5] rfl) (hD.sub [0, 1, 2, 3, 4, 5] (by decide) rfl) hS _ (lv_sub hl [1, 2, 0] rfl)

set_option maxRecDepth 100000 in
set_option maxHeartbeats 4000000 in
theorem c_readChoice_1 (l : Launch) (D : va_G) (cI cB : ClassId) (sz : Nat) (kk : KT) (h0 : Nat) (tx : Nat) (tp : Nat) (ed : Int32) (pl : Int32) (fa : Int32) (by_ : Nat) (T : Nat) (fb : Nat → Int32) (lw : Nat) (l1 : Nat) (l2 : Nat) (l3 : Nat) (l4 : Nat) (l5 : Nat) (l6 : Nat) (l7 : Nat) (z : Nat) (k : Nat) (q1 : Nat → Int32) (hT : T ≤ 260) (hz : z ≤ 240) (hk : k ≤ 16) : MVk (S := ((Int32) × (Int32) × (Nat) × (Nat → Int32))) l D cI cB kk yX2_readChoice cX2_readChoice 4 (rm 25 572) [.ref h0, .int 1] [(h0, .inr (2, [.ref tx, .ref lw])), (tx, .inr (6, [.ref tp, .int ed, .int pl, .int fa])), (tp, .inr (5, [.ref by_, .int (nI T)])), (by_, .inl (cI, 260, .inl fb)), (lw, .inr (1, [.ref l1, .ref l2, .ref l3, .ref l4, .ref l5, .ref l6, .ref l7, .int (nI z), .int (nI k)])), (l1, .inl (cI, 240, .inl q1))] sz (fun u => u.2.2.1 ≤ 240) (fun u : ((Int32) × (Int32) × (Nat) × (Nat → Int32)) => [(h0, .inr (2, [.ref tx, .ref lw])), (tx, .inr (6, [.ref tp, .int ed, .int u.1, .int u.2.1])), (tp, .inr (5, [.ref by_, .int (nI T)])), (by_, .inl (cI, 260, .inl fb)), (lw, .inr (1, [.ref l1, .ref l2, .ref l3, .ref l4, .ref l5, .ref l6, .ref l7, .int (nI u.2.2.1), .int (nI k)])), (l1, .inl (cI, 240, .inl u.2.2.2))]) := by
  refine MVk.of (by decide) (Nat.le_of_ble_eq_true rfl) ?_
  intro p e s m below meth c Q ls A X hin hN hKO hP hK hD hA hl ret
  have hS : va_S A s.heap s.heap [] := va_S.rf
  obtain ⟨hx, hb, hml, hown, htb⟩ := id X
  have hl : lv_has ls 4 [(0, .ref h0), (1, .int 1)] := hl
  refine lv_aload_n hx hb dX2_readChoice_0 rfl (lv_at hl 0 rfl) ?_
  refine lv_iload_n hx hb dX2_readChoice_1 rfl (lv_at hl 1 rfl) ?_
  refine cVVk (As := [.int 1]) (rest := []) (n := 1) (ci := 2) (q0 := 0) (wr := []) X hN hKO hK hP hD hS hA (c_readPart_1 l D cI cB _ kk h0 tx tp ed pl fa by_ T fb lw l1 l2 l3 l4 l5 l6 l7 z k q1 hT hz hk) (gV k_632 k_634 k_8 k_99 k_635) (by decide +kernel) ⟨Nat.le_of_ble_eq_true rfl, Nat.le_of_ble_eq_true rfl⟩ ⟨rfl, rfl⟩ [0, 1, 2, 3, 4, 5] [] rfl rfl (by decide) (by decide) rfl rfl rfl rfl rfl hl.1 (Nat.le_of_ble_eq_true rfl) dX2_readChoice_2 ⟨Nat.le_of_ble_eq_true rfl, Nat.le_of_ble_eq_true rfl⟩ (fun u H locs hw_6 hP hD hS => ?_)
  obtain ⟨plo_2, fao_3, zo_4, l1o_5⟩ := u
  try dsimp only at hw_6
  have hP : va_P D vwCl [(h0, .inr (2, [.ref tx, .ref lw])), (tx, .inr (6, [.ref tp, .int ed, .int plo_2, .int fao_3])), (tp, .inr (5, [.ref by_, .int (nI T)])), (by_, .inl (cI, 260, .inl fb)), (lw, .inr (1, [.ref l1, .ref l2, .ref l3, .ref l4, .ref l5, .ref l6, .ref l7, .int (nI zo_4), .int (nI k)])), (l1, .inl (cI, 240, .inl l1o_5))] H := hP
  have hD : va_D A [(h0, .inr (2, [.ref tx, .ref lw])), (tx, .inr (6, [.ref tp, .int ed, .int plo_2, .int fao_3])), (tp, .inr (5, [.ref by_, .int (nI T)])), (by_, .inl (cI, 260, .inl fb)), (lw, .inr (1, [.ref l1, .ref l2, .ref l3, .ref l4, .ref l5, .ref l6, .ref l7, .int (nI zo_4), .int (nI k)])), (l1, .inl (cI, 240, .inl l1o_5))] := hD
  refine lv_iconst (v := 0) hx hb dX2_readChoice_5 (by decide) ?_
  refine lv_istore_n (lv' := [(2, .int 0), (0, .ref h0), (1, .int 1)]) hx hb dX2_readChoice_6 rfl hl (by decide) rfl (fun ls hl => ?_)
  have loop_7 : ∀ (n i : Nat) (pa : Int32) (fb_ : Int32) (za : Nat) (qa : Nat → Int32), n + i = 240 → (za ≤ 240) → ∀ (H : Heap) (locs : List Loc), va_P D vwCl [(h0, .inr (2, [.ref tx, .ref lw])), (tx, .inr (6, [.ref tp, .int ed, .int pa, .int fb_])), (tp, .inr (5, [.ref by_, .int (nI T)])), (by_, .inl (cI, 260, .inl fb)), (lw, .inr (1, [.ref l1, .ref l2, .ref l3, .ref l4, .ref l5, .ref l6, .ref l7, .int (nI za), .int (nI k)])), (l1, .inl (cI, 240, .inl qa))] H → va_D A [(h0, .inr (2, [.ref tx, .ref lw])), (tx, .inr (6, [.ref tp, .int ed, .int pa, .int fb_])), (tp, .inr (5, [.ref by_, .int (nI T)])), (by_, .inl (cI, 260, .inl fb)), (lw, .inr (1, [.ref l1, .ref l2, .ref l3, .ref l4, .ref l5, .ref l6, .ref l7, .int (nI za), .int (nI k)])), (l1, .inl (cI, 240, .inl qa))] → va_S A s.heap H locs → ∀ (ls : Array Slot), lv_has ls 4 [(0, .ref h0), (1, .int 1), (2, .int (nI i))] → W p l e (rm 25 572) s m ([.ref h0, .int 1] : List Value).toArray below meth c H locs 0 0 Q (F0 m 7 ls []) := by
    intro n
    induction n with
    | zero =>
      intro i pa fb_ za qa hni hza H locs hP hD hS ls hl
      have hni_7 := hni
      have hi : i = 240 := by omega
      refine lv_iload_n hx hb dX2_readChoice_7 rfl (lv_at hl 2 rfl) ?_
      refine lv_sipush (v := 240) hx hb dX2_readChoice_8 (by decide) ?_
      refine lv_icmp_ge (tgt := 62) hx hb dX2_readChoice_11 (by decide) (fun _ => ?_) (fun c_11 => absurd (by rw [hi]; decide) c_11)
      exact ret _ _ _ _ (pa, fb_, za, qa) dX2_readChoice_62 hza (hP.sub [0, 1, 2, 3, 4, 5] rfl) (hD.sub [0, 1, 2, 3, 4, 5] (by decide) rfl) hS
    | succ n ih_7 =>
      intro i pa fb_ za qa hni hza H locs hP hD hS ls hl
      have hni_7 := hni
      have hi : i < 240 := by omega
      refine lv_iload_n hx hb dX2_readChoice_7 rfl (lv_at hl 2 rfl) ?_
      refine lv_sipush (v := 240) hx hb dX2_readChoice_8 (by decide) ?_
      refine lv_icmp_ge (tgt := 62) hx hb dX2_readChoice_11 (by decide) (fun c_11 => absurd c_11 (nI_ge hi (by decide))) (fun _ => ?_)
      refine lv_aload_n hx hb dX2_readChoice_14 rfl (lv_at hl 0 rfl) ?_
      refine va_get (D := D) (ci := 2) (v := .ref tx) (C := RX2) (T := TX2) (N := 2) hx hb htb itX2 hown hK hP 0 rfl rfl 0 (by decide) (htb _ k_288) (fun _ h9 => h9) rfl dX2_readChoice_15 ?_
      refine lv_bipush (v := 124) hx hb dX2_readChoice_18 (by decide) ?_
      refine cVI (As := [.int 124]) (rest := []) (n := 1) (ci := 6) (q0 := 0) (wr := [(h0, .inr (2, [.ref tx, .ref lw])), (lw, .inr (1, [.ref l1, .ref l2, .ref l3, .ref l4, .ref l5, .ref l6, .ref l7, .int (nI za), .int (nI k)])), (l1, .inl (cI, 240, .inl qa))]) X hN hK hP hD hS hA (c_X6_skip l D cI cB _ tx tp ed pa fb_ by_ T fb 124 hT) (gV k_644 k_607 k_608 k_98 k_609) (by decide +kernel) ⟨Nat.le_of_ble_eq_true rfl, Nat.le_of_ble_eq_true rfl⟩ ⟨rfl, rfl⟩ [1, 2, 3] [0, 4, 5] rfl rfl (by decide) (by decide) rfl rfl rfl rfl rfl hl.1 (Nat.le_of_ble_eq_true rfl) dX2_readChoice_20 ⟨Nat.le_of_ble_eq_true rfl, Nat.le_of_ble_eq_true rfl⟩ (fun r_7 u H locs hw_9 hP hD hS => ?_)
      obtain ⟨h0_2o_8, rfl⟩ : ∃ z, z = u := ⟨_, rfl⟩
      try dsimp only at hw_9
      have hP : va_P D vwCl [(h0, .inr (2, [.ref tx, .ref lw])), (lw, .inr (1, [.ref l1, .ref l2, .ref l3, .ref l4, .ref l5, .ref l6, .ref l7, .int (nI za), .int (nI k)])), (l1, .inl (cI, 240, .inl qa)), (tx, .inr (6, [.ref tp, .int ed, .int h0_2o_8, .int fb_])), (tp, .inr (5, [.ref by_, .int (nI T)])), (by_, .inl (cI, 260, .inl fb))] H := hP
      have hD : va_D A [(h0, .inr (2, [.ref tx, .ref lw])), (lw, .inr (1, [.ref l1, .ref l2, .ref l3, .ref l4, .ref l5, .ref l6, .ref l7, .int (nI za), .int (nI k)])), (l1, .inl (cI, 240, .inl qa)), (tx, .inr (6, [.ref tp, .int ed, .int h0_2o_8, .int fb_])), (tp, .inr (5, [.ref by_, .int (nI T)])), (by_, .inl (cI, 260, .inl fb))] := hD
      refine lv_if_eq (tgt := 62) hx hb dX2_readChoice_23 (by decide) (fun c_23 => ?_) (fun c_23 => ?_)
      · exact ret _ _ _ _ (h0_2o_8, fb_, za, qa) dX2_readChoice_62 hza (hP.sub [0, 3, 4, 5, 1, 2] rfl) (hD.sub [0, 3, 4, 5, 1, 2] (by decide) rfl) hS
      · refine lv_aload_n hx hb dX2_readChoice_26 rfl (lv_at hl 0 rfl) ?_
        refine va_get (D := D) (ci := 2) (v := .ref lw) (C := RX2) (T := TX2) (N := 2) hx hb htb itX2 hown hK hP 0 rfl rfl 1 (by decide) (htb _ k_289) (fun _ h9 => h9) rfl dX2_readChoice_27 ?_
        refine va_getN (D := D) (ci := 1) (v := .int (nI za)) (C := RX1) (T := TX1) (N := 9) hx hb htb itX1 hown hK hP 1 rfl rfl 7 (by decide) (va_Nw.use rfl (hN _ n_232 rfl)) (fun _ h9 => h9) rfl dX2_readChoice_30 ?_
        refine lv_istore_n (lv' := [(3, .int (nI za)), (0, .ref h0), (1, .int 1), (2, .int (nI i))]) hx hb dX2_readChoice_33 rfl hl (by decide) rfl (fun ls hl => ?_)
        refine lv_aload_n hx hb dX2_readChoice_34 rfl (lv_at hl 1 rfl) ?_
        refine va_get (D := D) (ci := 2) (v := .ref lw) (C := RX2) (T := TX2) (N := 2) hx hb htb itX2 hown hK hP 0 rfl rfl 1 (by decide) (htb _ k_289) (fun _ h9 => h9) rfl dX2_readChoice_35 ?_
        refine lv_iconst (v := 3) hx hb dX2_readChoice_38 (by decide) ?_
        refine lv_iconst (v := 0) hx hb dX2_readChoice_39 (by decide) ?_
        refine cVV (As := [.int 3, .int 0]) (rest := []) (n := 2) (ci := 1) (q0 := 0) (wr := [(h0, .inr (2, [.ref tx, .ref lw])), (tx, .inr (6, [.ref tp, .int ed, .int h0_2o_8, .int fb_])), (tp, .inr (5, [.ref by_, .int (nI T)])), (by_, .inl (cI, 260, .inl fb))]) X hN hK hP hD hS hA (c_X1_addStep l D cI cB _ lw l1 l2 l3 l4 l5 l6 l7 za k 3 0 qa hza hk) (gV k_594 k_595 k_596 k_97 k_597) (by decide +kernel) ⟨Nat.le_of_ble_eq_true rfl, Nat.le_of_ble_eq_true rfl⟩ ⟨rfl, rfl⟩ [1, 2] [0, 3, 4, 5] rfl rfl (by decide) (by decide) rfl rfl rfl rfl rfl hl.1 (Nat.le_of_ble_eq_true rfl) dX2_readChoice_40 ⟨Nat.le_of_ble_eq_true rfl, Nat.le_of_ble_eq_true rfl⟩ (fun u H locs hw_13 hP hD hS => ?_)
        obtain ⟨zo_11, l1_fo_12⟩ := u
        try dsimp only at hw_13
        have hP : va_P D vwCl [(h0, .inr (2, [.ref tx, .ref lw])), (tx, .inr (6, [.ref tp, .int ed, .int h0_2o_8, .int fb_])), (tp, .inr (5, [.ref by_, .int (nI T)])), (by_, .inl (cI, 260, .inl fb)), (lw, .inr (1, [.ref l1, .ref l2, .ref l3, .ref l4, .ref l5, .ref l6, .ref l7, .int (nI zo_11), .int (nI k)])), (l1, .inl (cI, 240, .inl l1_fo_12))] H := hP
        have hD : va_D A [(h0, .inr (2, [.ref tx, .ref lw])), (tx, .inr (6, [.ref tp, .int ed, .int h0_2o_8, .int fb_])), (tp, .inr (5, [.ref by_, .int (nI T)])), (by_, .inl (cI, 260, .inl fb)), (lw, .inr (1, [.ref l1, .ref l2, .ref l3, .ref l4, .ref l5, .ref l6, .ref l7, .int (nI zo_11), .int (nI k)])), (l1, .inl (cI, 240, .inl l1_fo_12))] := hD
        refine lv_aload_n hx hb dX2_readChoice_43 rfl (lv_at hl 1 rfl) ?_
        refine lv_iload_n hx hb dX2_readChoice_44 rfl (lv_at hl 2 rfl) ?_
        refine cVVk (As := [.int 1]) (rest := []) (n := 1) (ci := 2) (q0 := 0) (wr := []) X hN hKO hK hP hD hS hA (c_readPart_1 l D cI cB _ kk h0 tx tp ed h0_2o_8 fb_ by_ T fb lw l1 l2 l3 l4 l5 l6 l7 zo_11 k l1_fo_12 hT hw_13 hk) (gV k_632 k_634 k_8 k_99 k_635) (by decide +kernel) ⟨Nat.le_of_ble_eq_true rfl, Nat.le_of_ble_eq_true rfl⟩ ⟨rfl, rfl⟩ [0, 1, 2, 3, 4, 5] [] rfl rfl (by decide) (by decide) rfl rfl rfl rfl rfl hl.1 (Nat.le_of_ble_eq_true rfl) dX2_readChoice_45 ⟨Nat.le_of_ble_eq_true rfl, Nat.le_of_ble_eq_true rfl⟩ (fun u H locs hw_19 hP hD hS => ?_)
        obtain ⟨plo_15, fao_16, zo_17, l1o_18⟩ := u
        try dsimp only at hw_19
        have hP : va_P D vwCl [(h0, .inr (2, [.ref tx, .ref lw])), (tx, .inr (6, [.ref tp, .int ed, .int plo_15, .int fao_16])), (tp, .inr (5, [.ref by_, .int (nI T)])), (by_, .inl (cI, 260, .inl fb)), (lw, .inr (1, [.ref l1, .ref l2, .ref l3, .ref l4, .ref l5, .ref l6, .ref l7, .int (nI zo_17), .int (nI k)])), (l1, .inl (cI, 240, .inl l1o_18))] H := hP
        have hD : va_D A [(h0, .inr (2, [.ref tx, .ref lw])), (tx, .inr (6, [.ref tp, .int ed, .int plo_15, .int fao_16])), (tp, .inr (5, [.ref by_, .int (nI T)])), (by_, .inl (cI, 260, .inl fb)), (lw, .inr (1, [.ref l1, .ref l2, .ref l3, .ref l4, .ref l5, .ref l6, .ref l7, .int (nI zo_17), .int (nI k)])), (l1, .inl (cI, 240, .inl l1o_18))] := hD
        refine lv_aload_n hx hb dX2_readChoice_48 rfl (lv_at hl 1 rfl) ?_
        refine va_get (D := D) (ci := 2) (v := .ref lw) (C := RX2) (T := TX2) (N := 2) hx hb htb itX2 hown hK hP 0 rfl rfl 1 (by decide) (htb _ k_289) (fun _ h9 => h9) rfl dX2_readChoice_49 ?_
        refine lv_iload_n hx hb dX2_readChoice_52 rfl (lv_at hl 0 rfl) ?_
        refine cVV (As := [.int (nI za)]) (rest := []) (n := 1) (ci := 1) (q0 := 0) (wr := [(h0, .inr (2, [.ref tx, .ref lw])), (tx, .inr (6, [.ref tp, .int ed, .int plo_15, .int fao_16])), (tp, .inr (5, [.ref by_, .int (nI T)])), (by_, .inl (cI, 260, .inl fb))]) X hN hK hP hD hS hA (c_X1_landSkip l D cI cB _ lw l1 l2 l3 l4 l5 l6 l7 zo_17 k (nI za) l1o_18 hw_19 hk) (gV k_645 k_646 k_647 k_97 k_648) (by decide +kernel) ⟨Nat.le_of_ble_eq_true rfl, Nat.le_of_ble_eq_true rfl⟩ ⟨rfl, rfl⟩ [4, 5] [0, 1, 2, 3] rfl rfl (by decide) (by decide) rfl rfl rfl rfl rfl hl.1 (Nat.le_of_ble_eq_true rfl) dX2_readChoice_53 ⟨Nat.le_of_ble_eq_true rfl, Nat.le_of_ble_eq_true rfl⟩ (fun u H locs hw_22 hP hD hS => ?_)
        obtain ⟨l1_fo_21, rfl⟩ : ∃ z, z = u := ⟨_, rfl⟩
        try dsimp only at hw_22
        have hP : va_P D vwCl [(h0, .inr (2, [.ref tx, .ref lw])), (tx, .inr (6, [.ref tp, .int ed, .int plo_15, .int fao_16])), (tp, .inr (5, [.ref by_, .int (nI T)])), (by_, .inl (cI, 260, .inl fb)), (lw, .inr (1, [.ref l1, .ref l2, .ref l3, .ref l4, .ref l5, .ref l6, .ref l7, .int (nI zo_17), .int (nI k)])), (l1, .inl (cI, 240, .inl l1_fo_21))] H := hP
        have hD : va_D A [(h0, .inr (2, [.ref tx, .ref lw])), (tx, .inr (6, [.ref tp, .int ed, .int plo_15, .int fao_16])), (tp, .inr (5, [.ref by_, .int (nI T)])), (by_, .inl (cI, 260, .inl fb)), (lw, .inr (1, [.ref l1, .ref l2, .ref l3, .ref l4, .ref l5, .ref l6, .ref l7, .int (nI zo_17), .int (nI k)])), (l1, .inl (cI, 240, .inl l1_fo_21))] := hD
        refine lv_iinc (v := (nI (i + 1))) (lv' := [(2, .int (nI (i + 1))), (3, .int (nI za)), (0, .ref h0), (1, .int 1)]) hx hb dX2_readChoice_56 hl (k := 3) rfl (nI_1 i) (by decide) rfl (fun ls hl => ?_)
        refine lv_goto (tgt := 7) hx hb dX2_readChoice_59 (by decide) ?_
        exact ih_7 (i + 1) plo_15 fao_16 zo_17 l1_fo_21 (by omega) hw_19 _ _ (hP.sub [0, 1, 2, 3, 4, 5] rfl) (hD.sub [0, 1, 2, 3, 4, 5] (by decide) rfl) hS _ (lv_sub hl [2, 3, 0] rfl)
  exact loop_7 240 0 plo_2 fao_3 zo_4 l1o_5 (by omega) hw_6 _ _ (hP.sub [0, 1, 2, 3, 4, 5] rfl) (hD.sub [0, 1, 2, 3, 4, 5] (by decide) rfl) hS _ (lv_sub hl [1, 2, 0] rfl)
