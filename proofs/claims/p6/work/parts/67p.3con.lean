set_option maxRecDepth 100000 in
set_option maxHeartbeats 4000000 in
theorem c_placeInP0 (l : Launch) (D : va_G) (cI cB : ClassId) (kk : KT) (h0 : Nat) (lw : Nat) (tx : Nat) (tp : Nat) (N : Nat) (P : Nat) (fa : Int32) (by_ : Nat) (T : Nat) (fb : Nat → Int32) (hT : T ≤ 260) (hNT : N ≤ T) (hPN : P ≤ N) (hbr : BR N fb) : MRk l D cI cB kk yX2_placeIn cX2_placeIn 3 .int (rm 4 91) [.ref h0, .ref (kk.2.1 0)] [(h0, .inr (2, [.ref tx, .ref lw])), (tx, .inr (6, [.ref tp, .int (nI N), .int (nI P), .int fa])), (tp, .inr (5, [.ref by_, .int (nI T)])), (by_, .inl (cI, 260, .inl fb))] (fun r : Int32 => r = kp0 (sQ fb N fa P)) := by
  refine MRk.of (by decide) (Nat.le_of_ble_eq_true rfl) ?_
  intro p e s m below meth c Q ls X hN hKO hP hK hl ret
  have hS : va_S (fun _ => False) s.heap s.heap [] := va_S.rf
  obtain ⟨hx, hb, hml, hown, htb⟩ := id X
  have hl : lv_has ls 3 [(0, .ref h0), (1, .ref (kk.2.1 0))] := hl
  refine lv_aload_n hx hb dX2_placeIn_0 rfl (lv_at hl 0 rfl) ?_
  refine va_get (D := D) (ci := 2) (v := .ref tx) (C := RX2) (T := TX2) (N := 2) hx hb htb itX2 hown hK hP 0 rfl rfl 0 (by decide) (htb _ k_288) (fun _ h9 => h9) rfl dX2_placeIn_1 ?_
  refine cVR (As := []) (rest := []) (n := 0) (ci := 6) (q0 := 0) X hN hK hP (c_signP l D cI cB tx tp N P fa by_ T fb hT hNT hPN) (gV k_483 k_484 k_485 k_98 k_486) (by decide +kernel) ⟨Nat.le_of_ble_eq_true rfl, Nat.le_of_ble_eq_true rfl⟩ ⟨rfl, rfl⟩ [1, 2, 3] rfl rfl rfl rfl rfl rfl hl.1 (Nat.le_of_ble_eq_true rfl) dX2_placeIn_4 ⟨Nat.le_of_ble_eq_true rfl, Nat.le_of_ble_eq_true rfl⟩ (fun r_1 hr_1 => ?_)
  subst hr_1
  refine lv_topi (fun x_2 ex_2 => ?_)
  refine lv_istore_n (lv' := [(2, .int x_2), (0, .ref h0), (1, .ref (kk.2.1 0))]) hx hb dX2_placeIn_7 rfl hl (by decide) rfl (fun ls hl => ?_)
  refine lv_iload_n hx hb dX2_placeIn_8 rfl (lv_at hl 0 rfl) ?_
  refine lv_if_ge (tgt := 16) hx hb dX2_placeIn_9 (by decide) (fun c_9 => ?_) (fun c_9 => ?_)
  · refine lv_aload_n hx hb dX2_placeIn_16 rfl (lv_at hl 2 rfl) ?_
    refine lv_iload_n hx hb dX2_placeIn_17 rfl (lv_at hl 0 rfl) ?_
    refine lv_i2c hx hb dX2_placeIn_18 rfl ?_
    refine cKR (i := 0) (As := [.int ((x_2 : Int32).toUInt32 % 65536).toInt32]) (rest := []) (n := 1) X hN hKO hS hK hP (c_idx0 l D cI cB kk (((x_2 : Int32).toUInt32 % 65536).toInt32)) (gV k_487 k_488 k_489 k_104 k_490) (by decide +kernel) ⟨Nat.le_of_ble_eq_true rfl, Nat.le_of_ble_eq_true rfl⟩ ⟨rfl, rfl⟩ [] rfl (by decide) rfl rfl hl.1 (Nat.le_of_ble_eq_true rfl) dX2_placeIn_19 ⟨Nat.le_of_ble_eq_true rfl, Nat.le_of_ble_eq_true rfl⟩ (fun r_3 hr_3 => ?_)
    subst hr_3
    exact ret _ _ (iI (0 ≤ ((x_2 : Int32).toUInt32 % 65536).toInt32 ∧ ((x_2 : Int32).toUInt32 % 65536).toInt32 ≤ 255) (kp0 (((x_2 : Int32).toUInt32 % 65536).toInt32.toInt8.toInt32)) (-1)) dX2_placeIn_22 rfl (by obtain ⟨nq, hnq, enq⟩ := kp_pos hbr ex_2 (Int32.not_lt.mpr c_9); rw [← ex_2, enq]; exact kpT0 nq hnq)
  · refine lv_iconst (v := (-1)) hx hb dX2_placeIn_12 (by decide) ?_
    refine lv_goto (tgt := 22) hx hb dX2_placeIn_13 (by decide) ?_
    exact ret _ _ (-1) dX2_placeIn_22 rfl (by rw [← ex_2, kp_neg hbr ex_2 (Int32.not_le.mp c_9), kp0_m])

set_option maxRecDepth 100000 in
set_option maxHeartbeats 4000000 in
theorem c_placeInP1 (l : Launch) (D : va_G) (cI cB : ClassId) (kk : KT) (h0 : Nat) (lw : Nat) (tx : Nat) (tp : Nat) (N : Nat) (P : Nat) (fa : Int32) (by_ : Nat) (T : Nat) (fb : Nat → Int32) (hT : T ≤ 260) (hNT : N ≤ T) (hPN : P ≤ N) (hbr : BR N fb) : MRk l D cI cB kk yX2_placeIn cX2_placeIn 3 .int (rm 4 91) [.ref h0, .ref (kk.2.1 1)] [(h0, .inr (2, [.ref tx, .ref lw])), (tx, .inr (6, [.ref tp, .int (nI N), .int (nI P), .int fa])), (tp, .inr (5, [.ref by_, .int (nI T)])), (by_, .inl (cI, 260, .inl fb))] (fun r : Int32 => r = kp1 (sQ fb N fa P)) := by
  refine MRk.of (by decide) (Nat.le_of_ble_eq_true rfl) ?_
  intro p e s m below meth c Q ls X hN hKO hP hK hl ret
  have hS : va_S (fun _ => False) s.heap s.heap [] := va_S.rf
  obtain ⟨hx, hb, hml, hown, htb⟩ := id X
  have hl : lv_has ls 3 [(0, .ref h0), (1, .ref (kk.2.1 1))] := hl
  refine lv_aload_n hx hb dX2_placeIn_0 rfl (lv_at hl 0 rfl) ?_
  refine va_get (D := D) (ci := 2) (v := .ref tx) (C := RX2) (T := TX2) (N := 2) hx hb htb itX2 hown hK hP 0 rfl rfl 0 (by decide) (htb _ k_288) (fun _ h9 => h9) rfl dX2_placeIn_1 ?_
  refine cVR (As := []) (rest := []) (n := 0) (ci := 6) (q0 := 0) X hN hK hP (c_signP l D cI cB tx tp N P fa by_ T fb hT hNT hPN) (gV k_483 k_484 k_485 k_98 k_486) (by decide +kernel) ⟨Nat.le_of_ble_eq_true rfl, Nat.le_of_ble_eq_true rfl⟩ ⟨rfl, rfl⟩ [1, 2, 3] rfl rfl rfl rfl rfl rfl hl.1 (Nat.le_of_ble_eq_true rfl) dX2_placeIn_4 ⟨Nat.le_of_ble_eq_true rfl, Nat.le_of_ble_eq_true rfl⟩ (fun r_1 hr_1 => ?_)
  subst hr_1
  refine lv_topi (fun x_2 ex_2 => ?_)
  refine lv_istore_n (lv' := [(2, .int x_2), (0, .ref h0), (1, .ref (kk.2.1 1))]) hx hb dX2_placeIn_7 rfl hl (by decide) rfl (fun ls hl => ?_)
  refine lv_iload_n hx hb dX2_placeIn_8 rfl (lv_at hl 0 rfl) ?_
  refine lv_if_ge (tgt := 16) hx hb dX2_placeIn_9 (by decide) (fun c_9 => ?_) (fun c_9 => ?_)
  · refine lv_aload_n hx hb dX2_placeIn_16 rfl (lv_at hl 2 rfl) ?_
    refine lv_iload_n hx hb dX2_placeIn_17 rfl (lv_at hl 0 rfl) ?_
    refine lv_i2c hx hb dX2_placeIn_18 rfl ?_
    refine cKR (i := 1) (As := [.int ((x_2 : Int32).toUInt32 % 65536).toInt32]) (rest := []) (n := 1) X hN hKO hS hK hP (c_idx1 l D cI cB kk (((x_2 : Int32).toUInt32 % 65536).toInt32)) (gV k_487 k_488 k_489 k_104 k_490) (by decide +kernel) ⟨Nat.le_of_ble_eq_true rfl, Nat.le_of_ble_eq_true rfl⟩ ⟨rfl, rfl⟩ [] rfl (by decide) rfl rfl hl.1 (Nat.le_of_ble_eq_true rfl) dX2_placeIn_19 ⟨Nat.le_of_ble_eq_true rfl, Nat.le_of_ble_eq_true rfl⟩ (fun r_3 hr_3 => ?_)
    subst hr_3
    exact ret _ _ (iI (0 ≤ ((x_2 : Int32).toUInt32 % 65536).toInt32 ∧ ((x_2 : Int32).toUInt32 % 65536).toInt32 ≤ 255) (kp1 (((x_2 : Int32).toUInt32 % 65536).toInt32.toInt8.toInt32)) (-1)) dX2_placeIn_22 rfl (by obtain ⟨nq, hnq, enq⟩ := kp_pos hbr ex_2 (Int32.not_lt.mpr c_9); rw [← ex_2, enq]; exact kpT1 nq hnq)
  · refine lv_iconst (v := (-1)) hx hb dX2_placeIn_12 (by decide) ?_
    refine lv_goto (tgt := 22) hx hb dX2_placeIn_13 (by decide) ?_
    exact ret _ _ (-1) dX2_placeIn_22 rfl (by rw [← ex_2, kp_neg hbr ex_2 (Int32.not_le.mp c_9), kp1_m])

set_option maxRecDepth 100000 in
set_option maxHeartbeats 4000000 in
theorem c_opensP (l : Launch) (D : va_G) (cI cB : ClassId) (sz : Nat) (h0 : Nat) (lw : Nat) (tx : Nat) (tp : Nat) (N : Nat) (P : Nat) (fa : Int32) (a : Int32) (hlt : P < N) : MI (S := ((Nat) × (Int32))) l D cI cB yX2_opens cX2_opens 2 .boolean (rm 1 22) [.ref h0, .int a] [(h0, .inr (2, [.ref tx, .ref lw])), (tx, .inr (6, [.ref tp, .int (nI N), .int (nI P), .int fa]))] sz (fun r u => r = bI (a < 6) ∧ (a < 6 → u.1 = P + 1 ∧ u.2 = fa) ∧ (¬ a < 6 → u.1 = P ∧ u.2 = flF fa 5 (nI P))) (fun u : ((Nat) × (Int32)) => [(h0, .inr (2, [.ref tx, .ref lw])), (tx, .inr (6, [.ref tp, .int (nI N), .int (nI u.1), .int u.2]))]) := by
  refine MI.of (by decide) (Nat.le_of_ble_eq_true rfl) ?_
  intro p e s m below meth c Q ls A X hin hN hP hK hD hA hl ret
  have hS : va_S A s.heap s.heap [] := va_S.rf
  obtain ⟨hx, hb, hml, hown, htb⟩ := id X
  have hl : lv_has ls 2 [(0, .ref h0), (1, .int a)] := hl
  refine lv_iload_n hx hb dX2_opens_0 rfl (lv_at hl 1 rfl) ?_
  refine lv_bipush (v := 6) hx hb dX2_opens_1 (by decide) ?_
  refine lv_icmp_lt (tgt := 23) hx hb dX2_opens_3 (by decide) (fun c_3 => ?_) (fun c_3 => ?_)
  · refine lv_aload_n hx hb dX2_opens_23 rfl (lv_at hl 0 rfl) ?_
    refine va_get (D := D) (ci := 2) (v := .ref tx) (C := RX2) (T := TX2) (N := 2) hx hb htb itX2 hown hK hP 0 rfl rfl 0 (by decide) (htb _ k_288) (fun _ h9 => h9) rfl dX2_opens_24 ?_
    refine lv_dup hx hb dX2_opens_27 rfl ?_
    refine va_getN (D := D) (ci := 6) (v := .int (nI P)) (C := RX6) (T := TX6) (N := 4) hx hb htb itX6 hown hK hP 1 rfl rfl 2 (by decide) (va_Nw.use rfl (hN _ n_264 rfl)) (fun _ h9 => h9) rfl dX2_opens_28 ?_
    refine lv_iconst (v := 1) hx hb dX2_opens_31 (by decide) ?_
    refine lv_iadd hx hb dX2_opens_32 ?_
    refine tv (z := (nI (P + 1))) (nI_1 P) ?_
    refine va_putN (D := D) (ci := 6) (v := .int (nI (P + 1))) (ty := .int) (C := RX6) (T := TX6) (N := 4) hx hb htb itX6 tyX6 tyX6_ok nmX6 hown hK hP hD hS 1 rfl rfl 2 (by decide) (va_Nw.use rfl (hN _ n_264 rfl)) (fun _ h9 => h9) rfl (tyX6_ok 2 (by decide)) rfl rfl (Nat.le_of_ble_eq_true rfl) dX2_opens_33 (fun H locs hP hD hS => ?_)
    have hP : va_P D vwCl [(h0, .inr (2, [.ref tx, .ref lw])), (tx, .inr (6, [.ref tp, .int (nI N), .int (nI (P + 1)), .int fa]))] H := hP
    have hD : va_D A [(h0, .inr (2, [.ref tx, .ref lw])), (tx, .inr (6, [.ref tp, .int (nI N), .int (nI (P + 1)), .int fa]))] := hD
    refine lv_iconst (v := 1) hx hb dX2_opens_36 (by decide) ?_
    exact ret _ _ _ _ 1 ((P + 1), fa) dX2_opens_37 rfl (⟨bI1 c_3, fun _ => ⟨rfl, rfl⟩, fun h => absurd c_3 h⟩) (hP.sub [0, 1] rfl) (hD.sub [0, 1] (by decide) rfl) hS
  · refine lv_aload_n hx hb dX2_opens_6 rfl (lv_at hl 0 rfl) ?_
    refine va_get (D := D) (ci := 2) (v := .ref tx) (C := RX2) (T := TX2) (N := 2) hx hb htb itX2 hown hK hP 0 rfl rfl 0 (by decide) (htb _ k_288) (fun _ h9 => h9) rfl dX2_opens_7 ?_
    refine lv_iconst (v := 5) hx hb dX2_opens_10 (by decide) ?_
    refine lv_aload_n hx hb dX2_opens_11 rfl (lv_at hl 0 rfl) ?_
    refine va_get (D := D) (ci := 2) (v := .ref tx) (C := RX2) (T := TX2) (N := 2) hx hb htb itX2 hown hK hP 0 rfl rfl 0 (by decide) (htb _ k_288) (fun _ h9 => h9) rfl dX2_opens_12 ?_
    refine va_getN (D := D) (ci := 6) (v := .int (nI P)) (C := RX6) (T := TX6) (N := 4) hx hb htb itX6 hown hK hP 1 rfl rfl 2 (by decide) (va_Nw.use rfl (hN _ n_264 rfl)) (fun _ h9 => h9) rfl dX2_opens_15 ?_
    refine cVV (As := [.int 5, .int (nI P)]) (rest := []) (n := 2) (ci := 6) (q0 := 0) (wr := [(h0, .inr (2, [.ref tx, .ref lw]))]) X hN hK hP hD hS hA (c_failP l D cI cB _ tx tp (nI N) (nI P) fa 5 (nI P)) (gV k_573 k_574 k_575 k_98 k_576) (by decide +kernel) ⟨Nat.le_of_ble_eq_true rfl, Nat.le_of_ble_eq_true rfl⟩ ⟨rfl, rfl⟩ [1] [0] rfl rfl (by decide) (by decide) rfl rfl rfl rfl rfl hl.1 (Nat.le_of_ble_eq_true rfl) dX2_opens_18 ⟨Nat.le_of_ble_eq_true rfl, Nat.le_of_ble_eq_true rfl⟩ (fun u H locs hw_3 hP hD hS => ?_)
    obtain ⟨h0_3o_2, rfl⟩ : ∃ z, z = u := ⟨_, rfl⟩
    try dsimp only at hw_3
    have hP : va_P D vwCl [(h0, .inr (2, [.ref tx, .ref lw])), (tx, .inr (6, [.ref tp, .int (nI N), .int (nI P), .int h0_3o_2]))] H := hP
    have hD : va_D A [(h0, .inr (2, [.ref tx, .ref lw])), (tx, .inr (6, [.ref tp, .int (nI N), .int (nI P), .int h0_3o_2]))] := hD
    refine lv_iconst (v := 0) hx hb dX2_opens_21 (by decide) ?_
    exact ret _ _ _ _ 0 (P, h0_3o_2) dX2_opens_22 rfl (⟨bI0 c_3, fun h => absurd h c_3, fun _ => ⟨rfl, hw_3⟩⟩) (hP.sub [0, 1] rfl) (hD.sub [0, 1] (by decide) rfl) hS

set_option maxRecDepth 100000 in
set_option maxHeartbeats 4000000 in
theorem c_comparisonP (l : Launch) (D : va_G) (cI cB : ClassId) (sz : Nat) (h0 : Nat) (lw : Nat) (tx : Nat) (tp : Nat) (N : Nat) (P : Nat) (fa : Int32) (by_ : Nat) (T : Nat) (fb : Nat → Int32) (hT : T ≤ 260) (hNT : N ≤ T) (hPN : P ≤ N) : MI (S := ((Nat) × (Int32))) l D cI cB yX2_comparison cX2_comparison 1 .int (rm 3 64) [.ref h0] [(h0, .inr (2, [.ref tx, .ref lw])), (tx, .inr (6, [.ref tp, .int (nI N), .int (nI P), .int fa])), (tp, .inr (5, [.ref by_, .int (nI T)])), (by_, .inl (cI, 260, .inl fb))] sz (fun r u => (CM3 (sQ fb N fa P) → u.1 = P + 1 ∧ u.2 = fa) ∧ (¬ CM3 (sQ fb N fa P) → u.1 = P ∧ u.2 = flF fa 1 (nI P)) ∧ P ≤ u.1 ∧ u.1 ≤ N) (fun u : ((Nat) × (Int32)) => [(h0, .inr (2, [.ref tx, .ref lw])), (tx, .inr (6, [.ref tp, .int (nI N), .int (nI u.1), .int u.2])), (tp, .inr (5, [.ref by_, .int (nI T)])), (by_, .inl (cI, 260, .inl fb))]) := by
  refine MI.of (by decide) (Nat.le_of_ble_eq_true rfl) ?_
  intro p e s m below meth c Q ls A X hin hN hP hK hD hA hl ret
  have hS : va_S A s.heap s.heap [] := va_S.rf
  obtain ⟨hx, hb, hml, hown, htb⟩ := id X
  have hl : lv_has ls 1 [(0, .ref h0)] := hl
  refine lv_aload_n hx hb dX2_comparison_0 rfl (lv_at hl 0 rfl) ?_
  refine va_get (D := D) (ci := 2) (v := .ref tx) (C := RX2) (T := TX2) (N := 2) hx hb htb itX2 hown hK hP 0 rfl rfl 0 (by decide) (htb _ k_288) (fun _ h9 => h9) rfl dX2_comparison_1 ?_
  refine lv_bipush (v := 60) hx hb dX2_comparison_4 (by decide) ?_
  refine cVI (As := [.int 60]) (rest := []) (n := 1) (ci := 6) (q0 := 0) (wr := [(h0, .inr (2, [.ref tx, .ref lw]))]) X hN hK hP hD hS hA (c_skipP l D cI cB _ tx tp N P fa by_ T fb 60 hT hNT hPN (by decide)) (gV k_644 k_607 k_608 k_98 k_609) (by decide +kernel) ⟨Nat.le_of_ble_eq_true rfl, Nat.le_of_ble_eq_true rfl⟩ ⟨rfl, rfl⟩ [1, 2, 3] [0] rfl rfl (by decide) (by decide) rfl rfl rfl rfl rfl hl.1 (Nat.le_of_ble_eq_true rfl) dX2_comparison_6 ⟨Nat.le_of_ble_eq_true rfl, Nat.le_of_ble_eq_true rfl⟩ (fun r_1 u H locs hw_3 hP hD hS => ?_)
  obtain ⟨Po_2, rfl⟩ : ∃ z, z = u := ⟨_, rfl⟩
  try dsimp only at hw_3
  have hP : va_P D vwCl [(h0, .inr (2, [.ref tx, .ref lw])), (tx, .inr (6, [.ref tp, .int (nI N), .int (nI Po_2), .int fa])), (tp, .inr (5, [.ref by_, .int (nI T)])), (by_, .inl (cI, 260, .inl fb))] H := hP
  have hD : va_D A [(h0, .inr (2, [.ref tx, .ref lw])), (tx, .inr (6, [.ref tp, .int (nI N), .int (nI Po_2), .int fa])), (tp, .inr (5, [.ref by_, .int (nI T)])), (by_, .inl (cI, 260, .inl fb))] := hD
  refine lv_if_eq (tgt := 15) hx hb dX2_comparison_9 (by decide) (fun c_9 => ?_) (fun c_9 => ?_)
  · refine lv_aload_n hx hb dX2_comparison_15 rfl (lv_at hl 0 rfl) ?_
    refine va_get (D := D) (ci := 2) (v := .ref tx) (C := RX2) (T := TX2) (N := 2) hx hb htb itX2 hown hK hP 0 rfl rfl 0 (by decide) (htb _ k_288) (fun _ h9 => h9) rfl dX2_comparison_16 ?_
    refine lv_bipush (v := 62) hx hb dX2_comparison_19 (by decide) ?_
    refine cVI (As := [.int 62]) (rest := []) (n := 1) (ci := 6) (q0 := 0) (wr := [(h0, .inr (2, [.ref tx, .ref lw]))]) X hN hK hP hD hS hA (c_skipP l D cI cB _ tx tp N Po_2 fa by_ T fb 62 hT hNT hw_3.2.2.2.2 (by decide)) (gV k_644 k_607 k_608 k_98 k_609) (by decide +kernel) ⟨Nat.le_of_ble_eq_true rfl, Nat.le_of_ble_eq_true rfl⟩ ⟨rfl, rfl⟩ [1, 2, 3] [0] rfl rfl (by decide) (by decide) rfl rfl rfl rfl rfl hl.1 (Nat.le_of_ble_eq_true rfl) dX2_comparison_21 ⟨Nat.le_of_ble_eq_true rfl, Nat.le_of_ble_eq_true rfl⟩ (fun r_4 u H locs hw_6 hP hD hS => ?_)
    obtain ⟨Po_5, rfl⟩ : ∃ z, z = u := ⟨_, rfl⟩
    try dsimp only at hw_6
    have hP : va_P D vwCl [(h0, .inr (2, [.ref tx, .ref lw])), (tx, .inr (6, [.ref tp, .int (nI N), .int (nI Po_5), .int fa])), (tp, .inr (5, [.ref by_, .int (nI T)])), (by_, .inl (cI, 260, .inl fb))] H := hP
    have hD : va_D A [(h0, .inr (2, [.ref tx, .ref lw])), (tx, .inr (6, [.ref tp, .int (nI N), .int (nI Po_5), .int fa])), (tp, .inr (5, [.ref by_, .int (nI T)])), (by_, .inl (cI, 260, .inl fb))] := hD
    refine lv_if_eq (tgt := 30) hx hb dX2_comparison_24 (by decide) (fun c_24 => ?_) (fun c_24 => ?_)
    · refine lv_aload_n hx hb dX2_comparison_30 rfl (lv_at hl 0 rfl) ?_
      refine va_get (D := D) (ci := 2) (v := .ref tx) (C := RX2) (T := TX2) (N := 2) hx hb htb itX2 hown hK hP 0 rfl rfl 0 (by decide) (htb _ k_288) (fun _ h9 => h9) rfl dX2_comparison_31 ?_
      refine lv_bipush (v := 61) hx hb dX2_comparison_34 (by decide) ?_
      refine cVV (As := [.int 61]) (rest := []) (n := 1) (ci := 6) (q0 := 0) (wr := [(h0, .inr (2, [.ref tx, .ref lw]))]) X hN hK hP hD hS hA (c_expectP l D cI cB _ tx tp N Po_5 fa by_ T fb 61 hT hNT hw_6.2.2.2.2 (by decide)) (gV k_602 k_603 k_604 k_98 k_605) (by decide +kernel) ⟨Nat.le_of_ble_eq_true rfl, Nat.le_of_ble_eq_true rfl⟩ ⟨rfl, rfl⟩ [1, 2, 3] [0] rfl rfl (by decide) (by decide) rfl rfl rfl rfl rfl hl.1 (Nat.le_of_ble_eq_true rfl) dX2_comparison_36 ⟨Nat.le_of_ble_eq_true rfl, Nat.le_of_ble_eq_true rfl⟩ (fun u H locs hw_10 hP hD hS => ?_)
      obtain ⟨Po_8, fo_9⟩ := u
      try dsimp only at hw_10
      have hP : va_P D vwCl [(h0, .inr (2, [.ref tx, .ref lw])), (tx, .inr (6, [.ref tp, .int (nI N), .int (nI Po_8), .int fo_9])), (tp, .inr (5, [.ref by_, .int (nI T)])), (by_, .inl (cI, 260, .inl fb))] H := hP
      have hD : va_D A [(h0, .inr (2, [.ref tx, .ref lw])), (tx, .inr (6, [.ref tp, .int (nI N), .int (nI Po_8), .int fo_9])), (tp, .inr (5, [.ref by_, .int (nI T)])), (by_, .inl (cI, 260, .inl fb))] := hD
      refine lv_bipush (v := 12) hx hb dX2_comparison_39 (by decide) ?_
      exact ret _ _ _ _ 12 (Po_8, fo_9) dX2_comparison_41 rfl (by have n1 := bIf (hw_3.1.symm.trans c_9); have e1 := hw_3.2.2.1 n1; have B := hw_6; rw [e1] at B; have n2 := bIf (B.1.symm.trans c_24); have e2 := B.2.2.1 n2; have E := hw_10; rw [e2] at E; exact ⟨fun z => E.1 (z.elim (fun w => absurd w n1) (fun w => w.elim (fun y => absurd y n2) id)), fun z => E.2.1 (fun w => z (Or.inr (Or.inr w))), E.2.2⟩) (hP.sub [0, 1, 2, 3] rfl) (hD.sub [0, 1, 2, 3] (by decide) rfl) hS
    · refine lv_bipush (v := 11) hx hb dX2_comparison_27 (by decide) ?_
      exact ret _ _ _ _ 11 (Po_5, fa) dX2_comparison_29 rfl (by have e1 := hw_3.2.2.1 (bIf (hw_3.1.symm.trans c_9)); have B := hw_6; rw [e1] at B; have q := bIt (fun z => c_24 (B.1.trans z)); exact ⟨fun _ => ⟨B.2.1 q, rfl⟩, fun z => absurd (Or.inr (Or.inl q)) z, B.2.2.2⟩) (hP.sub [0, 1, 2, 3] rfl) (hD.sub [0, 1, 2, 3] (by decide) rfl) hS
  · refine lv_bipush (v := 10) hx hb dX2_comparison_12 (by decide) ?_
    exact ret _ _ _ _ 10 (Po_2, fa) dX2_comparison_14 rfl (by have q := bIt (fun z => c_9 (hw_3.1.trans z)); exact ⟨fun _ => ⟨hw_3.2.1 q, rfl⟩, fun z => absurd (Or.inl q) z, hw_3.2.2.2⟩) (hP.sub [0, 1, 2, 3] rfl) (hD.sub [0, 1, 2, 3] (by decide) rfl) hS

set_option maxRecDepth 100000 in
set_option maxHeartbeats 4000000 in
theorem c_factorStepP (l : Launch) (D : va_G) (cI cB : ClassId) (h0 : Nat) (lw : Nat) (tx : Nat) (tp : Nat) (N : Nat) (P : Nat) (fa : Int32) (by_ : Nat) (T : Nat) (fb : Nat → Int32) (hT : T ≤ 260) (hNT : N ≤ T) (hPN : P ≤ N) : MR l D cI cB yX2_factorStep cX2_factorStep 1 .int (rm 1 21) [.ref h0] [(h0, .inr (2, [.ref tx, .ref lw])), (tx, .inr (6, [.ref tp, .int (nI N), .int (nI P), .int fa])), (tp, .inr (5, [.ref by_, .int (nI T)])), (by_, .inl (cI, 260, .inl fb))] (fun r : Int32 => (r = -1 → ¬ MU3 (sQ fb N fa P)) ∧ (¬ r = -1 → MU3 (sQ fb N fa P))) := by
  refine MR.of (by decide) (Nat.le_of_ble_eq_true rfl) ?_
  intro p e s m below meth c Q ls X hN hP hK hl ret
  obtain ⟨hx, hb, hml, hown, htb⟩ := id X
  have hl : lv_has ls 1 [(0, .ref h0)] := hl
  refine lv_aload_n hx hb dX2_factorStep_0 rfl (lv_at hl 0 rfl) ?_
  refine va_get (D := D) (ci := 2) (v := .ref tx) (C := RX2) (T := TX2) (N := 2) hx hb htb itX2 hown hK hP 0 rfl rfl 0 (by decide) (htb _ k_288) (fun _ h9 => h9) rfl dX2_factorStep_1 ?_
  refine cVR (As := []) (rest := []) (n := 0) (ci := 6) (q0 := 0) X hN hK hP (c_signP l D cI cB tx tp N P fa by_ T fb hT hNT hPN) (gV k_483 k_484 k_485 k_98 k_486) (by decide +kernel) ⟨Nat.le_of_ble_eq_true rfl, Nat.le_of_ble_eq_true rfl⟩ ⟨rfl, rfl⟩ [1, 2, 3] rfl rfl rfl rfl rfl rfl hl.1 (Nat.le_of_ble_eq_true rfl) dX2_factorStep_4 ⟨Nat.le_of_ble_eq_true rfl, Nat.le_of_ble_eq_true rfl⟩ (fun r_1 hr_1 => ?_)
  subst hr_1
  refine lv_topi (fun gs egs => ?_)
  by_cases e7_0 : gs = 37
  · subst e7_0
    refine lv_lookup (off := 39) (tgt := 46) hx hb dX2_factorStep_7 (by decide) (by decide) (by decide) ?_
    refine lv_bipush (v := 9) hx hb dX2_factorStep_46 (by decide) ?_
    exact ret _ _ 9 dX2_factorStep_48 rfl (⟨fun z => absurd z (by decide), fun _ => by rw [← egs]; exact Or.inr (Or.inr rfl)⟩)
  by_cases e7_1 : gs = 42
  · subst e7_1
    refine lv_lookup (off := 33) (tgt := 40) hx hb dX2_factorStep_7 (by decide) (by decide) (by decide) ?_
    refine lv_bipush (v := 7) hx hb dX2_factorStep_40 (by decide) ?_
    exact ret _ _ 7 dX2_factorStep_42 rfl (⟨fun z => absurd z (by decide), fun _ => by rw [← egs]; exact Or.inl rfl⟩)
  by_cases e7_2 : gs = 47
  · subst e7_2
    refine lv_lookup (off := 36) (tgt := 43) hx hb dX2_factorStep_7 (by decide) (by decide) (by decide) ?_
    refine lv_bipush (v := 8) hx hb dX2_factorStep_43 (by decide) ?_
    exact ret _ _ 8 dX2_factorStep_45 rfl (⟨fun z => absurd z (by decide), fun _ => by rw [← egs]; exact Or.inr (Or.inl rfl)⟩)
  refine lv_lookup (off := 42) (tgt := 49) hx hb dX2_factorStep_7 (by decide) ((lv_osw e7_0 (by decide)).trans ((lv_osw e7_1 (by decide)).trans ((lv_osw e7_2 (by decide)).trans (rfl)))) (by decide) ?_
  refine lv_iconst (v := (-1)) hx hb dX2_factorStep_49 (by decide) ?_
  exact ret _ _ (-1) dX2_factorStep_50 rfl (⟨fun _ => by rw [← egs]; exact fun z => z.elim e7_1 (fun w => w.elim e7_2 e7_0), fun z => absurd rfl z⟩)

set_option maxRecDepth 100000 in
set_option maxHeartbeats 4000000 in
theorem c_rfP_6 (l : Launch) (D : va_G) (cI cB : ClassId) (sz : Nat) (kk : KT) (h0 : Nat) (tx : Nat) (tp : Nat) (N : Nat) (P : Nat) (fa : Int32) (by_ : Nat) (T : Nat) (fb : Nat → Int32) (lw : Nat) (l1 : Nat) (l2 : Nat) (l3 : Nat) (l4 : Nat) (l5 : Nat) (l6 : Nat) (l7 : Nat) (z : Nat) (k : Nat) (q1 : Nat → Int32) (hT : T ≤ 260) (hNT : N ≤ T) (hPN : P ≤ N) (hN2 : N ≤ 240) (hfa : fa = 0 ∨ fa < 0) (hbr : BR N fb) (hz : z ≤ 240) (hk : k ≤ 16) : MVk (S := ((Nat) × (Int32) × (Nat) × (Nat → Int32))) l D cI cB kk yX2_readFactor cX2_readFactor 3 (rm 5 113) [.ref h0, .int 6] [(h0, .inr (2, [.ref tx, .ref lw])), (tx, .inr (6, [.ref tp, .int (nI N), .int (nI P), .int fa])), (tp, .inr (5, [.ref by_, .int (nI T)])), (by_, .inl (cI, 260, .inl fb)), (lw, .inr (1, [.ref l1, .ref l2, .ref l3, .ref l4, .ref l5, .ref l6, .ref l7, .int (nI z), .int (nI k)])), (l1, .inl (cI, 240, .inl q1))] sz (fun u => u.2.2.1 ≤ 240 ∧ FCQ fb N 0 P u.1 fa u.2.1) (fun u : ((Nat) × (Int32) × (Nat) × (Nat → Int32)) => [(h0, .inr (2, [.ref tx, .ref lw])), (tx, .inr (6, [.ref tp, .int (nI N), .int (nI u.1), .int u.2.1])), (tp, .inr (5, [.ref by_, .int (nI T)])), (by_, .inl (cI, 260, .inl fb)), (lw, .inr (1, [.ref l1, .ref l2, .ref l3, .ref l4, .ref l5, .ref l6, .ref l7, .int (nI u.2.2.1), .int (nI k)])), (l1, .inl (cI, 240, .inl u.2.2.2))]) := by
  refine MVk.of (by decide) (Nat.le_of_ble_eq_true rfl) ?_
  intro p e s m below meth c Q ls A X hin hN hKO hP hK hD hA hl ret
  have hS : va_S A s.heap s.heap [] := va_S.rf
  obtain ⟨hx, hb, hml, hown, htb⟩ := id X
  have hl : lv_has ls 3 [(0, .ref h0), (1, .int 6)] := hl
  refine lv_aload_n hx hb dX2_readFactor_0 rfl (lv_at hl 0 rfl) ?_
  refine va_ldcS hx hb hown hKO.2.2.2.2.2 dX2_readFactor_1 ?_
  refine cVRk (As := [.ref (kk.2.1 1)]) (rest := []) (n := 1) (ci := 2) (q0 := 0) X hN hKO hS hK hP (c_placeInP1 l D cI cB kk h0 lw tx tp N P fa by_ T fb hT hNT hPN hbr) (gV k_479 k_481 k_1 k_99 k_482) (by decide +kernel) ⟨Nat.le_of_ble_eq_true rfl, Nat.le_of_ble_eq_true rfl⟩ ⟨rfl, rfl⟩ [0, 1, 2, 3] rfl rfl rfl rfl rfl rfl hl.1 (Nat.le_of_ble_eq_true rfl) dX2_readFactor_3 ⟨Nat.le_of_ble_eq_true rfl, Nat.le_of_ble_eq_true rfl⟩ (fun r_1 hr_1 => ?_)
  subst hr_1
  refine lv_topi (fun x_2 ex_2 => ?_)
  refine lv_istore_n (lv' := [(2, .int x_2), (0, .ref h0), (1, .int 6)]) hx hb dX2_readFactor_6 rfl hl (by decide) rfl (fun ls hl => ?_)
  refine lv_iload_n hx hb dX2_readFactor_7 rfl (lv_at hl 0 rfl) ?_
  refine lv_if_lt (tgt := 36) hx hb dX2_readFactor_8 (by decide) (fun c_8 => ?_) (fun c_8 => ?_)
  · refine lv_aload_n hx hb dX2_readFactor_36 rfl (lv_at hl 1 rfl) ?_
    refine va_get (D := D) (ci := 2) (v := .ref tx) (C := RX2) (T := TX2) (N := 2) hx hb htb itX2 hown hK hP 0 rfl rfl 0 (by decide) (htb _ k_288) (fun _ h9 => h9) rfl dX2_readFactor_37 ?_
    refine cVR (As := []) (rest := []) (n := 0) (ci := 6) (q0 := 0) X hN hK hP (c_signP l D cI cB tx tp N P fa by_ T fb hT hNT hPN) (gV k_483 k_484 k_485 k_98 k_486) (by decide +kernel) ⟨Nat.le_of_ble_eq_true rfl, Nat.le_of_ble_eq_true rfl⟩ ⟨rfl, rfl⟩ [1, 2, 3] rfl rfl rfl rfl rfl rfl hl.1 (Nat.le_of_ble_eq_true rfl) dX2_readFactor_40 ⟨Nat.le_of_ble_eq_true rfl, Nat.le_of_ble_eq_true rfl⟩ (fun r_3 hr_3 => ?_)
    subst hr_3
    refine lv_bipush (v := 91) hx hb dX2_readFactor_43 (by decide) ?_
    refine lv_icmp_ne (tgt := 75) hx hb dX2_readFactor_45 (by decide) (fun c_45 => ?_) (fun c_45 => ?_)
    · refine lv_aload_n hx hb dX2_readFactor_75 rfl (lv_at hl 1 rfl) ?_
      refine va_get (D := D) (ci := 2) (v := .ref lw) (C := RX2) (T := TX2) (N := 2) hx hb htb itX2 hown hK hP 0 rfl rfl 1 (by decide) (htb _ k_289) (fun _ h9 => h9) rfl dX2_readFactor_76 ?_
      refine lv_iconst (v := 0) hx hb dX2_readFactor_79 (by decide) ?_
      refine lv_aload_n hx hb dX2_readFactor_80 rfl (lv_at hl 1 rfl) ?_
      refine va_get (D := D) (ci := 2) (v := .ref tx) (C := RX2) (T := TX2) (N := 2) hx hb htb itX2 hown hK hP 0 rfl rfl 0 (by decide) (htb _ k_288) (fun _ h9 => h9) rfl dX2_readFactor_81 ?_
      refine lv_iconst (v := 5) hx hb dX2_readFactor_84 (by decide) ?_
      refine lv_iconst (v := 2) hx hb dX2_readFactor_85 (by decide) ?_
      refine cVI (As := [.int 5, .int 2]) (rest := [.int 0, .ref lw]) (n := 2) (ci := 6) (q0 := 0) (wr := [(h0, .inr (2, [.ref tx, .ref lw])), (lw, .inr (1, [.ref l1, .ref l2, .ref l3, .ref l4, .ref l5, .ref l6, .ref l7, .int (nI z), .int (nI k)])), (l1, .inl (cI, 240, .inl q1))]) X hN hK hP hD hS hA (c_numberP l D cI cB _ tx tp N P fa by_ T fb 5 2 hT hNT hPN (by decide)) (gV k_612 k_613 k_614 k_98 k_615) (by decide +kernel) ⟨Nat.le_of_ble_eq_true rfl, Nat.le_of_ble_eq_true rfl⟩ ⟨rfl, rfl⟩ [1, 2, 3] [0, 4, 5] rfl rfl (by decide) (by decide) rfl rfl rfl rfl rfl hl.1 (Nat.le_of_ble_eq_true rfl) dX2_readFactor_86 ⟨Nat.le_of_ble_eq_true rfl, Nat.le_of_ble_eq_true rfl⟩ (fun r_4 u H locs hw_7 hP hD hS => ?_)
      obtain ⟨Po_5, fo_6⟩ := u
      try dsimp only at hw_7
      have hP : va_P D vwCl [(h0, .inr (2, [.ref tx, .ref lw])), (lw, .inr (1, [.ref l1, .ref l2, .ref l3, .ref l4, .ref l5, .ref l6, .ref l7, .int (nI z), .int (nI k)])), (l1, .inl (cI, 240, .inl q1)), (tx, .inr (6, [.ref tp, .int (nI N), .int (nI Po_5), .int fo_6])), (tp, .inr (5, [.ref by_, .int (nI T)])), (by_, .inl (cI, 260, .inl fb))] H := hP
      have hD : va_D A [(h0, .inr (2, [.ref tx, .ref lw])), (lw, .inr (1, [.ref l1, .ref l2, .ref l3, .ref l4, .ref l5, .ref l6, .ref l7, .int (nI z), .int (nI k)])), (l1, .inl (cI, 240, .inl q1)), (tx, .inr (6, [.ref tp, .int (nI N), .int (nI Po_5), .int fo_6])), (tp, .inr (5, [.ref by_, .int (nI T)])), (by_, .inl (cI, 260, .inl fb))] := hD
      refine cVV (As := [.int 0, .int r_4]) (rest := []) (n := 2) (ci := 1) (q0 := 0) (wr := [(h0, .inr (2, [.ref tx, .ref lw])), (tx, .inr (6, [.ref tp, .int (nI N), .int (nI Po_5), .int fo_6])), (tp, .inr (5, [.ref by_, .int (nI T)])), (by_, .inl (cI, 260, .inl fb))]) X hN hK hP hD hS hA (c_X1_addStep l D cI cB _ lw l1 l2 l3 l4 l5 l6 l7 z k 0 r_4 q1 hz hk) (gV k_594 k_595 k_596 k_97 k_597) (by decide +kernel) ⟨Nat.le_of_ble_eq_true rfl, Nat.le_of_ble_eq_true rfl⟩ ⟨rfl, rfl⟩ [1, 2] [0, 3, 4, 5] rfl rfl (by decide) (by decide) rfl rfl rfl rfl rfl hl.1 (Nat.le_of_ble_eq_true rfl) dX2_readFactor_89 ⟨Nat.le_of_ble_eq_true rfl, Nat.le_of_ble_eq_true rfl⟩ (fun u H locs hw_11 hP hD hS => ?_)
      obtain ⟨zo_9, l1_fo_10⟩ := u
      try dsimp only at hw_11
      have hP : va_P D vwCl [(h0, .inr (2, [.ref tx, .ref lw])), (tx, .inr (6, [.ref tp, .int (nI N), .int (nI Po_5), .int fo_6])), (tp, .inr (5, [.ref by_, .int (nI T)])), (by_, .inl (cI, 260, .inl fb)), (lw, .inr (1, [.ref l1, .ref l2, .ref l3, .ref l4, .ref l5, .ref l6, .ref l7, .int (nI zo_9), .int (nI k)])), (l1, .inl (cI, 240, .inl l1_fo_10))] H := hP
      have hD : va_D A [(h0, .inr (2, [.ref tx, .ref lw])), (tx, .inr (6, [.ref tp, .int (nI N), .int (nI Po_5), .int fo_6])), (tp, .inr (5, [.ref by_, .int (nI T)])), (by_, .inl (cI, 260, .inl fb)), (lw, .inr (1, [.ref l1, .ref l2, .ref l3, .ref l4, .ref l5, .ref l6, .ref l7, .int (nI zo_9), .int (nI k)])), (l1, .inl (cI, 240, .inl l1_fo_10))] := hD
      exact ret _ _ _ _ (Po_5, fo_6, zo_9, l1_fo_10) dX2_readFactor_92 (⟨hw_11, by have q := FCQ.num (k := 0) (f := fb) (N := N) (p := P) (fa := fa) (by omega) hPN hfa (kp1_lt (by rw [← ex_2]; exact c_8)) c_45 (by rw [← hw_7.1]; exact hw_7.2.2.2); rw [← hw_7.1, ← hw_7.2.2.1] at q; exact q⟩) (hP.sub [0, 1, 2, 3, 4, 5] rfl) (hD.sub [0, 1, 2, 3, 4, 5] (by decide) rfl) hS
    · have h91 := c_45
      obtain ⟨hf0, hlt⟩ := sQz (fun z => absurd (z.symm.trans h91) (by decide))
      subst hf0
      rw [sQ0] at h91
      refine lv_aload_n hx hb dX2_readFactor_48 rfl (lv_at hl 1 rfl) ?_
      refine lv_iload_n hx hb dX2_readFactor_49 rfl (lv_at hl 2 rfl) ?_
      refine cVI (As := [.int 6]) (rest := []) (n := 1) (ci := 2) (q0 := 0) (wr := [(tp, .inr (5, [.ref by_, .int (nI T)])), (by_, .inl (cI, 260, .inl fb)), (lw, .inr (1, [.ref l1, .ref l2, .ref l3, .ref l4, .ref l5, .ref l6, .ref l7, .int (nI z), .int (nI k)])), (l1, .inl (cI, 240, .inl q1))]) X hN hK hP hD hS hA (c_opensP l D cI cB _ h0 lw tx tp N P 0 6 hlt) (gV k_598 k_600 k_5 k_99 k_601) (by decide +kernel) ⟨Nat.le_of_ble_eq_true rfl, Nat.le_of_ble_eq_true rfl⟩ ⟨rfl, rfl⟩ [0, 1] [2, 3, 4, 5] rfl rfl (by decide) (by decide) rfl rfl rfl rfl rfl hl.1 (Nat.le_of_ble_eq_true rfl) dX2_readFactor_50 ⟨Nat.le_of_ble_eq_true rfl, Nat.le_of_ble_eq_true rfl⟩ (fun r_12 u H locs hw_15 hP hD hS => ?_)
      obtain ⟨Po_13, fo_14⟩ := u
      try dsimp only at hw_15
      have hP : va_P D vwCl [(tp, .inr (5, [.ref by_, .int (nI T)])), (by_, .inl (cI, 260, .inl fb)), (lw, .inr (1, [.ref l1, .ref l2, .ref l3, .ref l4, .ref l5, .ref l6, .ref l7, .int (nI z), .int (nI k)])), (l1, .inl (cI, 240, .inl q1)), (h0, .inr (2, [.ref tx, .ref lw])), (tx, .inr (6, [.ref tp, .int (nI N), .int (nI Po_13), .int fo_14]))] H := hP
      have hD : va_D A [(tp, .inr (5, [.ref by_, .int (nI T)])), (by_, .inl (cI, 260, .inl fb)), (lw, .inr (1, [.ref l1, .ref l2, .ref l3, .ref l4, .ref l5, .ref l6, .ref l7, .int (nI z), .int (nI k)])), (l1, .inl (cI, 240, .inl q1)), (h0, .inr (2, [.ref tx, .ref lw])), (tx, .inr (6, [.ref tp, .int (nI N), .int (nI Po_13), .int fo_14]))] := hD
      obtain rfl : r_12 = 0 := hw_15.1.trans (by decide)
      obtain ⟨eo1, eo2⟩ := hw_15.2.2 (by decide)
      refine lv_if_eq (tgt := 92) hx hb dX2_readFactor_53 (by decide) (fun _ => ?_) (fun c_53 => absurd (by decide) c_53)
      exact ret _ _ _ _ (Po_13, fo_14, z, q1) dX2_readFactor_92 (⟨hz, by show FCQ fb N 0 P Po_13 0 fo_14; rw [eo1]; exact FCQ.five (by omega) hlt h91 eo2⟩) (hP.sub [4, 5, 0, 1, 2, 3] rfl) (hD.sub [4, 5, 0, 1, 2, 3] (by decide) rfl) hS
  · obtain ⟨hf0, hlt, hfq⟩ := FCQ.letter (k := 0) (fun z => c_8 (by rw [ex_2, z]; decide))
    refine lv_aload_n hx hb dX2_readFactor_11 rfl (lv_at hl 1 rfl) ?_
    refine va_get (D := D) (ci := 2) (v := .ref tx) (C := RX2) (T := TX2) (N := 2) hx hb htb itX2 hown hK hP 0 rfl rfl 0 (by decide) (htb _ k_288) (fun _ h9 => h9) rfl dX2_readFactor_12 ?_
    refine lv_dup hx hb dX2_readFactor_15 rfl ?_
    refine va_getN (D := D) (ci := 6) (v := .int (nI P)) (C := RX6) (T := TX6) (N := 4) hx hb htb itX6 hown hK hP 1 rfl rfl 2 (by decide) (va_Nw.use rfl (hN _ n_264 rfl)) (fun _ h9 => h9) rfl dX2_readFactor_16 ?_
    refine lv_iconst (v := 1) hx hb dX2_readFactor_19 (by decide) ?_
    refine lv_iadd hx hb dX2_readFactor_20 ?_
    refine tv (z := (nI (P + 1))) (nI_1 P) ?_
    refine va_putN (D := D) (ci := 6) (v := .int (nI (P + 1))) (ty := .int) (C := RX6) (T := TX6) (N := 4) hx hb htb itX6 tyX6 tyX6_ok nmX6 hown hK hP hD hS 1 rfl rfl 2 (by decide) (va_Nw.use rfl (hN _ n_264 rfl)) (fun _ h9 => h9) rfl (tyX6_ok 2 (by decide)) rfl rfl (Nat.le_of_ble_eq_true rfl) dX2_readFactor_21 (fun H locs hP hD hS => ?_)
    have hP : va_P D vwCl [(h0, .inr (2, [.ref tx, .ref lw])), (tx, .inr (6, [.ref tp, .int (nI N), .int (nI (P + 1)), .int fa])), (tp, .inr (5, [.ref by_, .int (nI T)])), (by_, .inl (cI, 260, .inl fb)), (lw, .inr (1, [.ref l1, .ref l2, .ref l3, .ref l4, .ref l5, .ref l6, .ref l7, .int (nI z), .int (nI k)])), (l1, .inl (cI, 240, .inl q1))] H := hP
    have hD : va_D A [(h0, .inr (2, [.ref tx, .ref lw])), (tx, .inr (6, [.ref tp, .int (nI N), .int (nI (P + 1)), .int fa])), (tp, .inr (5, [.ref by_, .int (nI T)])), (by_, .inl (cI, 260, .inl fb)), (lw, .inr (1, [.ref l1, .ref l2, .ref l3, .ref l4, .ref l5, .ref l6, .ref l7, .int (nI z), .int (nI k)])), (l1, .inl (cI, 240, .inl q1))] := hD
    refine lv_aload_n hx hb dX2_readFactor_24 rfl (lv_at hl 1 rfl) ?_
    refine va_get (D := D) (ci := 2) (v := .ref lw) (C := RX2) (T := TX2) (N := 2) hx hb htb itX2 hown hK hP 0 rfl rfl 1 (by decide) (htb _ k_289) (fun _ h9 => h9) rfl dX2_readFactor_25 ?_
    refine lv_iconst (v := 1) hx hb dX2_readFactor_28 (by decide) ?_
    refine lv_iload_n hx hb dX2_readFactor_29 rfl (lv_at hl 0 rfl) ?_
    refine cVV (As := [.int 1, .int x_2]) (rest := []) (n := 2) (ci := 1) (q0 := 0) (wr := [(h0, .inr (2, [.ref tx, .ref lw])), (tx, .inr (6, [.ref tp, .int (nI N), .int (nI (P + 1)), .int fa])), (tp, .inr (5, [.ref by_, .int (nI T)])), (by_, .inl (cI, 260, .inl fb))]) X hN hK hP hD hS hA (c_X1_addStep l D cI cB _ lw l1 l2 l3 l4 l5 l6 l7 z k 1 x_2 q1 hz hk) (gV k_594 k_595 k_596 k_97 k_597) (by decide +kernel) ⟨Nat.le_of_ble_eq_true rfl, Nat.le_of_ble_eq_true rfl⟩ ⟨rfl, rfl⟩ [4, 5] [0, 1, 2, 3] rfl rfl (by decide) (by decide) rfl rfl rfl rfl rfl hl.1 (Nat.le_of_ble_eq_true rfl) dX2_readFactor_30 ⟨Nat.le_of_ble_eq_true rfl, Nat.le_of_ble_eq_true rfl⟩ (fun u H locs hw_19 hP hD hS => ?_)
    obtain ⟨zo_17, l1_fo_18⟩ := u
    try dsimp only at hw_19
    have hP : va_P D vwCl [(h0, .inr (2, [.ref tx, .ref lw])), (tx, .inr (6, [.ref tp, .int (nI N), .int (nI (P + 1)), .int fa])), (tp, .inr (5, [.ref by_, .int (nI T)])), (by_, .inl (cI, 260, .inl fb)), (lw, .inr (1, [.ref l1, .ref l2, .ref l3, .ref l4, .ref l5, .ref l6, .ref l7, .int (nI zo_17), .int (nI k)])), (l1, .inl (cI, 240, .inl l1_fo_18))] H := hP
    have hD : va_D A [(h0, .inr (2, [.ref tx, .ref lw])), (tx, .inr (6, [.ref tp, .int (nI N), .int (nI (P + 1)), .int fa])), (tp, .inr (5, [.ref by_, .int (nI T)])), (by_, .inl (cI, 260, .inl fb)), (lw, .inr (1, [.ref l1, .ref l2, .ref l3, .ref l4, .ref l5, .ref l6, .ref l7, .int (nI zo_17), .int (nI k)])), (l1, .inl (cI, 240, .inl l1_fo_18))] := hD
    refine lv_goto (tgt := 92) hx hb dX2_readFactor_33 (by decide) ?_
    exact ret _ _ _ _ ((P + 1), fa, zo_17, l1_fo_18) dX2_readFactor_92 (⟨hw_19, hfq⟩) (hP.sub [0, 1, 2, 3, 4, 5] rfl) (hD.sub [0, 1, 2, 3, 4, 5] (by decide) rfl) hS

set_option maxRecDepth 100000 in
set_option maxHeartbeats 4000000 in
theorem c_rtP_6 (l : Launch) (D : va_G) (cI cB : ClassId) (sz : Nat) (kk : KT) (h0 : Nat) (tx : Nat) (tp : Nat) (N : Nat) (P : Nat) (fa : Int32) (by_ : Nat) (T : Nat) (fb : Nat → Int32) (lw : Nat) (l1 : Nat) (l2 : Nat) (l3 : Nat) (l4 : Nat) (l5 : Nat) (l6 : Nat) (l7 : Nat) (z : Nat) (k : Nat) (q1 : Nat → Int32) (hT : T ≤ 260) (hNT : N ≤ T) (hPN : P ≤ N) (hN2 : N ≤ 240) (hfa : fa = 0 ∨ fa < 0) (hbr : BR N fb) (hz : z ≤ 240) (hk : k ≤ 16) : MVk (S := ((Nat) × (Int32) × (Nat) × (Nat → Int32))) l D cI cB kk yX2_readTerm cX2_readTerm 4 (rm 6 135) [.ref h0, .int 6] [(h0, .inr (2, [.ref tx, .ref lw])), (tx, .inr (6, [.ref tp, .int (nI N), .int (nI P), .int fa])), (tp, .inr (5, [.ref by_, .int (nI T)])), (by_, .inl (cI, 260, .inl fb)), (lw, .inr (1, [.ref l1, .ref l2, .ref l3, .ref l4, .ref l5, .ref l6, .ref l7, .int (nI z), .int (nI k)])), (l1, .inl (cI, 240, .inl q1))] sz (fun u => u.2.2.1 ≤ 240 ∧ FCQ fb N 0 P u.1 fa u.2.1 ∧ (u.2.1 = 0 → ¬ MU3 (chF fb N u.1))) (fun u : ((Nat) × (Int32) × (Nat) × (Nat → Int32)) => [(h0, .inr (2, [.ref tx, .ref lw])), (tx, .inr (6, [.ref tp, .int (nI N), .int (nI u.1), .int u.2.1])), (tp, .inr (5, [.ref by_, .int (nI T)])), (by_, .inl (cI, 260, .inl fb)), (lw, .inr (1, [.ref l1, .ref l2, .ref l3, .ref l4, .ref l5, .ref l6, .ref l7, .int (nI u.2.2.1), .int (nI k)])), (l1, .inl (cI, 240, .inl u.2.2.2))]) := by
  refine MVk.of (by decide) (Nat.le_of_ble_eq_true rfl) ?_
  intro p e s m below meth c Q ls A X hin hN hKO hP hK hD hA hl ret
  have hS : va_S A s.heap s.heap [] := va_S.rf
  obtain ⟨hx, hb, hml, hown, htb⟩ := id X
  have hl : lv_has ls 4 [(0, .ref h0), (1, .int 6)] := hl
  refine lv_aload_n hx hb dX2_readTerm_0 rfl (lv_at hl 0 rfl) ?_
  refine lv_iload_n hx hb dX2_readTerm_1 rfl (lv_at hl 1 rfl) ?_
  refine cVVk (As := [.int 6]) (rest := []) (n := 1) (ci := 2) (q0 := 0) (wr := []) X hN hKO hK hP hD hS hA (c_rfP_6 l D cI cB _ kk h0 tx tp N P fa by_ T fb lw l1 l2 l3 l4 l5 l6 l7 z k q1 hT hNT hPN hN2 hfa hbr hz hk) (gV k_589 k_591 k_4 k_99 k_592) (by decide +kernel) ⟨Nat.le_of_ble_eq_true rfl, Nat.le_of_ble_eq_true rfl⟩ ⟨rfl, rfl⟩ [0, 1, 2, 3, 4, 5] [] rfl rfl (by decide) (by decide) rfl rfl rfl rfl rfl hl.1 (Nat.le_of_ble_eq_true rfl) dX2_readTerm_2 ⟨Nat.le_of_ble_eq_true rfl, Nat.le_of_ble_eq_true rfl⟩ (fun u H locs hw_6 hP hD hS => ?_)
  obtain ⟨Po_2, fo_3, zo_4, l1o_5⟩ := u
  try dsimp only at hw_6
  have hP : va_P D vwCl [(h0, .inr (2, [.ref tx, .ref lw])), (tx, .inr (6, [.ref tp, .int (nI N), .int (nI Po_2), .int fo_3])), (tp, .inr (5, [.ref by_, .int (nI T)])), (by_, .inl (cI, 260, .inl fb)), (lw, .inr (1, [.ref l1, .ref l2, .ref l3, .ref l4, .ref l5, .ref l6, .ref l7, .int (nI zo_4), .int (nI k)])), (l1, .inl (cI, 240, .inl l1o_5))] H := hP
  have hD : va_D A [(h0, .inr (2, [.ref tx, .ref lw])), (tx, .inr (6, [.ref tp, .int (nI N), .int (nI Po_2), .int fo_3])), (tp, .inr (5, [.ref by_, .int (nI T)])), (by_, .inl (cI, 260, .inl fb)), (lw, .inr (1, [.ref l1, .ref l2, .ref l3, .ref l4, .ref l5, .ref l6, .ref l7, .int (nI zo_4), .int (nI k)])), (l1, .inl (cI, 240, .inl l1o_5))] := hD
  refine lv_iconst (v := 0) hx hb dX2_readTerm_5 (by decide) ?_
  refine lv_istore_n (lv' := [(2, .int 0), (0, .ref h0), (1, .int 6)]) hx hb dX2_readTerm_6 rfl hl (by decide) rfl (fun ls hl => ?_)
  have loop_7 : ∀ (n i : Nat) (Pa : Nat) (fv : Int32) (za : Nat) (qa : Nat → Int32), n + i = 240 → (za ≤ 240) → (FCQ fb N 0 P Pa fa fv) → (fv = 0 → fa = 0 → i < Pa) → ∀ (H : Heap) (locs : List Loc), va_P D vwCl [(h0, .inr (2, [.ref tx, .ref lw])), (tx, .inr (6, [.ref tp, .int (nI N), .int (nI Pa), .int fv])), (tp, .inr (5, [.ref by_, .int (nI T)])), (by_, .inl (cI, 260, .inl fb)), (lw, .inr (1, [.ref l1, .ref l2, .ref l3, .ref l4, .ref l5, .ref l6, .ref l7, .int (nI za), .int (nI k)])), (l1, .inl (cI, 240, .inl qa))] H → va_D A [(h0, .inr (2, [.ref tx, .ref lw])), (tx, .inr (6, [.ref tp, .int (nI N), .int (nI Pa), .int fv])), (tp, .inr (5, [.ref by_, .int (nI T)])), (by_, .inl (cI, 260, .inl fb)), (lw, .inr (1, [.ref l1, .ref l2, .ref l3, .ref l4, .ref l5, .ref l6, .ref l7, .int (nI za), .int (nI k)])), (l1, .inl (cI, 240, .inl qa))] → va_S A s.heap H locs → ∀ (ls : Array Slot), lv_has ls 4 [(0, .ref h0), (1, .int 6), (2, .int (nI i))] → W p l e (rm 6 135) s m ([.ref h0, .int 6] : List Value).toArray below meth c H locs 0 0 Q (F0 m 7 ls []) := by
    intro n
    induction n with
    | zero =>
      intro i Pa fv za qa hni hza hq hiP H locs hP hD hS ls hl
      have hni_7 := hni
      have hi : i = 240 := by omega
      refine lv_iload_n hx hb dX2_readTerm_7 rfl (lv_at hl 2 rfl) ?_
      refine lv_sipush (v := 240) hx hb dX2_readTerm_8 (by decide) ?_
      refine lv_icmp_ge (tgt := 60) hx hb dX2_readTerm_11 (by decide) (fun _ => ?_) (fun c_11 => absurd (by rw [hi]; decide) c_11)
      exact ret _ _ _ _ (Pa, fv, za, qa) dX2_readTerm_60 (⟨hza, ⟨hq, fun z => absurd z (fun z => by have h2 := hq.2.1; have h4 := hq.2.2.2.1; exact (Classical.em (fa = 0)).elim (fun w => by have := hiP z w; omega) (fun w => w ((h2 w).symm.trans z)))⟩⟩) (hP.sub [0, 1, 2, 3, 4, 5] rfl) (hD.sub [0, 1, 2, 3, 4, 5] (by decide) rfl) hS
    | succ n ih_7 =>
      intro i Pa fv za qa hni hza hq hiP H locs hP hD hS ls hl
      have hni_7 := hni
      have hi : i < 240 := by omega
      refine lv_iload_n hx hb dX2_readTerm_7 rfl (lv_at hl 2 rfl) ?_
      refine lv_sipush (v := 240) hx hb dX2_readTerm_8 (by decide) ?_
      refine lv_icmp_ge (tgt := 60) hx hb dX2_readTerm_11 (by decide) (fun c_11 => absurd c_11 (nI_ge hi (by decide))) (fun _ => ?_)
      refine lv_aload_n hx hb dX2_readTerm_14 rfl (lv_at hl 0 rfl) ?_
      refine cVR (As := []) (rest := []) (n := 0) (ci := 2) (q0 := 0) X hN hK hP (c_factorStepP l D cI cB h0 lw tx tp N Pa fv by_ T fb hT hNT hq.2.2.2.1) (gV k_620 k_622 k_6 k_99 k_623) (by decide +kernel) ⟨Nat.le_of_ble_eq_true rfl, Nat.le_of_ble_eq_true rfl⟩ ⟨rfl, rfl⟩ [0, 1, 2, 3] rfl rfl rfl rfl rfl rfl hl.1 (Nat.le_of_ble_eq_true rfl) dX2_readTerm_15 ⟨Nat.le_of_ble_eq_true rfl, Nat.le_of_ble_eq_true rfl⟩ (fun rfs hrfs => ?_)
      refine lv_iconst (v := (-1)) hx hb dX2_readTerm_18 (by decide) ?_
      refine lv_icmp_eq (tgt := 60) hx hb dX2_readTerm_19 (by decide) (fun c_19 => ?_) (fun c_19 => ?_)
      · exact ret _ _ _ _ (Pa, fv, za, qa) dX2_readTerm_60 (⟨hza, ⟨hq, fun (z : fv = 0) => by have w := hrfs.1 c_19; rw [z, sQ0] at w; exact w⟩⟩) (hP.sub [0, 1, 2, 3, 4, 5] rfl) (hD.sub [0, 1, 2, 3, 4, 5] (by decide) rfl) hS
      · obtain ⟨hf0, hlt, hs5⟩ := sQs (sgM (hrfs.2 c_19))
        subst hf0
        refine lv_aload_n hx hb dX2_readTerm_22 rfl (lv_at hl 0 rfl) ?_
        refine cVR (As := []) (rest := []) (n := 0) (ci := 2) (q0 := 0) X hN hK hP (c_factorStepP l D cI cB h0 lw tx tp N Pa 0 by_ T fb hT hNT hq.2.2.2.1) (gV k_620 k_622 k_6 k_99 k_623) (by decide +kernel) ⟨Nat.le_of_ble_eq_true rfl, Nat.le_of_ble_eq_true rfl⟩ ⟨rfl, rfl⟩ [0, 1, 2, 3] rfl rfl rfl rfl rfl rfl hl.1 (Nat.le_of_ble_eq_true rfl) dX2_readTerm_23 ⟨Nat.le_of_ble_eq_true rfl, Nat.le_of_ble_eq_true rfl⟩ (fun r_7 hr_7 => ?_)
        refine lv_istore_n (lv' := [(3, .int r_7), (0, .ref h0), (1, .int 6), (2, .int (nI i))]) hx hb dX2_readTerm_26 rfl hl (by decide) rfl (fun ls hl => ?_)
        refine lv_aload_n hx hb dX2_readTerm_27 rfl (lv_at hl 1 rfl) ?_
        refine va_get (D := D) (ci := 2) (v := .ref tx) (C := RX2) (T := TX2) (N := 2) hx hb htb itX2 hown hK hP 0 rfl rfl 0 (by decide) (htb _ k_288) (fun _ h9 => h9) rfl dX2_readTerm_28 ?_
        refine lv_dup hx hb dX2_readTerm_31 rfl ?_
        refine va_getN (D := D) (ci := 6) (v := .int (nI Pa)) (C := RX6) (T := TX6) (N := 4) hx hb htb itX6 hown hK hP 1 rfl rfl 2 (by decide) (va_Nw.use rfl (hN _ n_264 rfl)) (fun _ h9 => h9) rfl dX2_readTerm_32 ?_
        refine lv_iconst (v := 1) hx hb dX2_readTerm_35 (by decide) ?_
        refine lv_iadd hx hb dX2_readTerm_36 ?_
        refine tv (z := (nI (Pa + 1))) (nI_1 Pa) ?_
        refine va_putN (D := D) (ci := 6) (v := .int (nI (Pa + 1))) (ty := .int) (C := RX6) (T := TX6) (N := 4) hx hb htb itX6 tyX6 tyX6_ok nmX6 hown hK hP hD hS 1 rfl rfl 2 (by decide) (va_Nw.use rfl (hN _ n_264 rfl)) (fun _ h9 => h9) rfl (tyX6_ok 2 (by decide)) rfl rfl (Nat.le_of_ble_eq_true rfl) dX2_readTerm_37 (fun H locs hP hD hS => ?_)
        have hP : va_P D vwCl [(h0, .inr (2, [.ref tx, .ref lw])), (tx, .inr (6, [.ref tp, .int (nI N), .int (nI (Pa + 1)), .int 0])), (tp, .inr (5, [.ref by_, .int (nI T)])), (by_, .inl (cI, 260, .inl fb)), (lw, .inr (1, [.ref l1, .ref l2, .ref l3, .ref l4, .ref l5, .ref l6, .ref l7, .int (nI za), .int (nI k)])), (l1, .inl (cI, 240, .inl qa))] H := hP
        have hD : va_D A [(h0, .inr (2, [.ref tx, .ref lw])), (tx, .inr (6, [.ref tp, .int (nI N), .int (nI (Pa + 1)), .int 0])), (tp, .inr (5, [.ref by_, .int (nI T)])), (by_, .inl (cI, 260, .inl fb)), (lw, .inr (1, [.ref l1, .ref l2, .ref l3, .ref l4, .ref l5, .ref l6, .ref l7, .int (nI za), .int (nI k)])), (l1, .inl (cI, 240, .inl qa))] := hD
        refine lv_aload_n hx hb dX2_readTerm_40 rfl (lv_at hl 1 rfl) ?_
        refine lv_iload_n hx hb dX2_readTerm_41 rfl (lv_at hl 2 rfl) ?_
        refine cVVk (As := [.int 6]) (rest := []) (n := 1) (ci := 2) (q0 := 0) (wr := []) X hN hKO hK hP hD hS hA (c_rfP_6 l D cI cB _ kk h0 tx tp N (Pa + 1) 0 by_ T fb lw l1 l2 l3 l4 l5 l6 l7 za k qa hT hNT (by omega) hN2 (Or.inl rfl) hbr hza hk) (gV k_589 k_591 k_4 k_99 k_592) (by decide +kernel) ⟨Nat.le_of_ble_eq_true rfl, Nat.le_of_ble_eq_true rfl⟩ ⟨rfl, rfl⟩ [0, 1, 2, 3, 4, 5] [] rfl rfl (by decide) (by decide) rfl rfl rfl rfl rfl hl.1 (Nat.le_of_ble_eq_true rfl) dX2_readTerm_42 ⟨Nat.le_of_ble_eq_true rfl, Nat.le_of_ble_eq_true rfl⟩ (fun u H locs hw_13 hP hD hS => ?_)
        obtain ⟨Po_9, fo_10, zo_11, l1o_12⟩ := u
        try dsimp only at hw_13
        have hP : va_P D vwCl [(h0, .inr (2, [.ref tx, .ref lw])), (tx, .inr (6, [.ref tp, .int (nI N), .int (nI Po_9), .int fo_10])), (tp, .inr (5, [.ref by_, .int (nI T)])), (by_, .inl (cI, 260, .inl fb)), (lw, .inr (1, [.ref l1, .ref l2, .ref l3, .ref l4, .ref l5, .ref l6, .ref l7, .int (nI zo_11), .int (nI k)])), (l1, .inl (cI, 240, .inl l1o_12))] H := hP
        have hD : va_D A [(h0, .inr (2, [.ref tx, .ref lw])), (tx, .inr (6, [.ref tp, .int (nI N), .int (nI Po_9), .int fo_10])), (tp, .inr (5, [.ref by_, .int (nI T)])), (by_, .inl (cI, 260, .inl fb)), (lw, .inr (1, [.ref l1, .ref l2, .ref l3, .ref l4, .ref l5, .ref l6, .ref l7, .int (nI zo_11), .int (nI k)])), (l1, .inl (cI, 240, .inl l1o_12))] := hD
        refine lv_aload_n hx hb dX2_readTerm_45 rfl (lv_at hl 1 rfl) ?_
        refine va_get (D := D) (ci := 2) (v := .ref lw) (C := RX2) (T := TX2) (N := 2) hx hb htb itX2 hown hK hP 0 rfl rfl 1 (by decide) (htb _ k_289) (fun _ h9 => h9) rfl dX2_readTerm_46 ?_
        refine lv_iload_n hx hb dX2_readTerm_49 rfl (lv_at hl 0 rfl) ?_
        refine lv_iconst (v := 0) hx hb dX2_readTerm_50 (by decide) ?_
        refine cVV (As := [.int r_7, .int 0]) (rest := []) (n := 2) (ci := 1) (q0 := 0) (wr := [(h0, .inr (2, [.ref tx, .ref lw])), (tx, .inr (6, [.ref tp, .int (nI N), .int (nI Po_9), .int fo_10])), (tp, .inr (5, [.ref by_, .int (nI T)])), (by_, .inl (cI, 260, .inl fb))]) X hN hK hP hD hS hA (c_X1_addStep l D cI cB _ lw l1 l2 l3 l4 l5 l6 l7 zo_11 k r_7 0 l1o_12 hw_13.1 hk) (gV k_594 k_595 k_596 k_97 k_597) (by decide +kernel) ⟨Nat.le_of_ble_eq_true rfl, Nat.le_of_ble_eq_true rfl⟩ ⟨rfl, rfl⟩ [4, 5] [0, 1, 2, 3] rfl rfl (by decide) (by decide) rfl rfl rfl rfl rfl hl.1 (Nat.le_of_ble_eq_true rfl) dX2_readTerm_51 ⟨Nat.le_of_ble_eq_true rfl, Nat.le_of_ble_eq_true rfl⟩ (fun u H locs hw_17 hP hD hS => ?_)
        obtain ⟨zo_15, l1_fo_16⟩ := u
        try dsimp only at hw_17
        have hP : va_P D vwCl [(h0, .inr (2, [.ref tx, .ref lw])), (tx, .inr (6, [.ref tp, .int (nI N), .int (nI Po_9), .int fo_10])), (tp, .inr (5, [.ref by_, .int (nI T)])), (by_, .inl (cI, 260, .inl fb)), (lw, .inr (1, [.ref l1, .ref l2, .ref l3, .ref l4, .ref l5, .ref l6, .ref l7, .int (nI zo_15), .int (nI k)])), (l1, .inl (cI, 240, .inl l1_fo_16))] H := hP
        have hD : va_D A [(h0, .inr (2, [.ref tx, .ref lw])), (tx, .inr (6, [.ref tp, .int (nI N), .int (nI Po_9), .int fo_10])), (tp, .inr (5, [.ref by_, .int (nI T)])), (by_, .inl (cI, 260, .inl fb)), (lw, .inr (1, [.ref l1, .ref l2, .ref l3, .ref l4, .ref l5, .ref l6, .ref l7, .int (nI zo_15), .int (nI k)])), (l1, .inl (cI, 240, .inl l1_fo_16))] := hD
        refine lv_iinc (v := (nI (i + 1))) (lv' := [(2, .int (nI (i + 1))), (3, .int r_7), (0, .ref h0), (1, .int 6)]) hx hb dX2_readTerm_54 hl (k := 3) rfl (nI_1 i) (by decide) rfl (fun ls hl => ?_)
        refine lv_goto (tgt := 7) hx hb dX2_readTerm_57 (by decide) ?_
        exact ih_7 (i + 1) Po_9 fo_10 zo_15 l1_fo_16 (by omega) hw_17 (hq.more hs5 hw_13.2) (fun z w => by have := (((hw_13.2.2.2.2.2 rfl).1 z).1); have := hiP rfl w; omega) _ _ (hP.sub [0, 1, 2, 3, 4, 5] rfl) (hD.sub [0, 1, 2, 3, 4, 5] (by decide) rfl) hS _ (lv_sub hl [2, 3, 0] rfl)
  exact loop_7 240 0 Po_2 fo_3 zo_4 l1o_5 (by omega) hw_6.1 hw_6.2 (fun z w => (((hw_6.2.2.2.2.2 w).1 z).1 |> fun y => by omega)) _ _ (hP.sub [0, 1, 2, 3, 4, 5] rfl) (hD.sub [0, 1, 2, 3, 4, 5] (by decide) rfl) hS _ (lv_sub hl [1, 2, 0] rfl)

set_option maxRecDepth 100000 in
set_option maxHeartbeats 4000000 in
theorem c_rsP_6 (l : Launch) (D : va_G) (cI cB : ClassId) (sz : Nat) (kk : KT) (h0 : Nat) (tx : Nat) (tp : Nat) (N : Nat) (P : Nat) (fa : Int32) (by_ : Nat) (T : Nat) (fb : Nat → Int32) (lw : Nat) (l1 : Nat) (l2 : Nat) (l3 : Nat) (l4 : Nat) (l5 : Nat) (l6 : Nat) (l7 : Nat) (z : Nat) (k : Nat) (q1 : Nat → Int32) (hT : T ≤ 260) (hNT : N ≤ T) (hPN : P ≤ N) (hN2 : N ≤ 240) (hfa : fa = 0 ∨ fa < 0) (hbr : BR N fb) (hz : z ≤ 240) (hk : k ≤ 16) : MVk (S := ((Nat) × (Int32) × (Nat) × (Nat → Int32))) l D cI cB kk yX2_readSum cX2_readSum 4 (rm 7 158) [.ref h0, .int 6] [(h0, .inr (2, [.ref tx, .ref lw])), (tx, .inr (6, [.ref tp, .int (nI N), .int (nI P), .int fa])), (tp, .inr (5, [.ref by_, .int (nI T)])), (by_, .inl (cI, 260, .inl fb)), (lw, .inr (1, [.ref l1, .ref l2, .ref l3, .ref l4, .ref l5, .ref l6, .ref l7, .int (nI z), .int (nI k)])), (l1, .inl (cI, 240, .inl q1))] sz (fun u => u.2.2.1 ≤ 240 ∧ FCQ fb N 0 P u.1 fa u.2.1 ∧ (u.2.1 = 0 → ¬ SG5 (chF fb N u.1))) (fun u : ((Nat) × (Int32) × (Nat) × (Nat → Int32)) => [(h0, .inr (2, [.ref tx, .ref lw])), (tx, .inr (6, [.ref tp, .int (nI N), .int (nI u.1), .int u.2.1])), (tp, .inr (5, [.ref by_, .int (nI T)])), (by_, .inl (cI, 260, .inl fb)), (lw, .inr (1, [.ref l1, .ref l2, .ref l3, .ref l4, .ref l5, .ref l6, .ref l7, .int (nI u.2.2.1), .int (nI k)])), (l1, .inl (cI, 240, .inl u.2.2.2))]) := by
  refine MVk.of (by decide) (Nat.le_of_ble_eq_true rfl) ?_
  intro p e s m below meth c Q ls A X hin hN hKO hP hK hD hA hl ret
  have hS : va_S A s.heap s.heap [] := va_S.rf
  obtain ⟨hx, hb, hml, hown, htb⟩ := id X
  have hl : lv_has ls 4 [(0, .ref h0), (1, .int 6)] := hl
  refine lv_aload_n hx hb dX2_readSum_0 rfl (lv_at hl 0 rfl) ?_
  refine lv_iload_n hx hb dX2_readSum_1 rfl (lv_at hl 1 rfl) ?_
  refine cVVk (As := [.int 6]) (rest := []) (n := 1) (ci := 2) (q0 := 0) (wr := []) X hN hKO hK hP hD hS hA (c_rtP_6 l D cI cB _ kk h0 tx tp N P fa by_ T fb lw l1 l2 l3 l4 l5 l6 l7 z k q1 hT hNT hPN hN2 hfa hbr hz hk) (gV k_585 k_587 k_3 k_99 k_588) (by decide +kernel) ⟨Nat.le_of_ble_eq_true rfl, Nat.le_of_ble_eq_true rfl⟩ ⟨rfl, rfl⟩ [0, 1, 2, 3, 4, 5] [] rfl rfl (by decide) (by decide) rfl rfl rfl rfl rfl hl.1 (Nat.le_of_ble_eq_true rfl) dX2_readSum_2 ⟨Nat.le_of_ble_eq_true rfl, Nat.le_of_ble_eq_true rfl⟩ (fun u H locs hw_6 hP hD hS => ?_)
  obtain ⟨Po_2, fo_3, zo_4, l1o_5⟩ := u
  try dsimp only at hw_6
  have hP : va_P D vwCl [(h0, .inr (2, [.ref tx, .ref lw])), (tx, .inr (6, [.ref tp, .int (nI N), .int (nI Po_2), .int fo_3])), (tp, .inr (5, [.ref by_, .int (nI T)])), (by_, .inl (cI, 260, .inl fb)), (lw, .inr (1, [.ref l1, .ref l2, .ref l3, .ref l4, .ref l5, .ref l6, .ref l7, .int (nI zo_4), .int (nI k)])), (l1, .inl (cI, 240, .inl l1o_5))] H := hP
  have hD : va_D A [(h0, .inr (2, [.ref tx, .ref lw])), (tx, .inr (6, [.ref tp, .int (nI N), .int (nI Po_2), .int fo_3])), (tp, .inr (5, [.ref by_, .int (nI T)])), (by_, .inl (cI, 260, .inl fb)), (lw, .inr (1, [.ref l1, .ref l2, .ref l3, .ref l4, .ref l5, .ref l6, .ref l7, .int (nI zo_4), .int (nI k)])), (l1, .inl (cI, 240, .inl l1o_5))] := hD
  refine lv_iconst (v := 0) hx hb dX2_readSum_5 (by decide) ?_
  refine lv_istore_n (lv' := [(2, .int 0), (0, .ref h0), (1, .int 6)]) hx hb dX2_readSum_6 rfl hl (by decide) rfl (fun ls hl => ?_)
  have loop_7 : ∀ (n i : Nat) (Pa : Nat) (fv : Int32) (za : Nat) (qa : Nat → Int32), n + i = 240 → (za ≤ 240) → (FCQ fb N 0 P Pa fa fv) → (fv = 0 → fa = 0 → i < Pa) → (fv = 0 → ¬ MU3 (chF fb N Pa)) → ∀ (H : Heap) (locs : List Loc), va_P D vwCl [(h0, .inr (2, [.ref tx, .ref lw])), (tx, .inr (6, [.ref tp, .int (nI N), .int (nI Pa), .int fv])), (tp, .inr (5, [.ref by_, .int (nI T)])), (by_, .inl (cI, 260, .inl fb)), (lw, .inr (1, [.ref l1, .ref l2, .ref l3, .ref l4, .ref l5, .ref l6, .ref l7, .int (nI za), .int (nI k)])), (l1, .inl (cI, 240, .inl qa))] H → va_D A [(h0, .inr (2, [.ref tx, .ref lw])), (tx, .inr (6, [.ref tp, .int (nI N), .int (nI Pa), .int fv])), (tp, .inr (5, [.ref by_, .int (nI T)])), (by_, .inl (cI, 260, .inl fb)), (lw, .inr (1, [.ref l1, .ref l2, .ref l3, .ref l4, .ref l5, .ref l6, .ref l7, .int (nI za), .int (nI k)])), (l1, .inl (cI, 240, .inl qa))] → va_S A s.heap H locs → ∀ (ls : Array Slot), lv_has ls 4 [(0, .ref h0), (1, .int 6), (2, .int (nI i))] → W p l e (rm 7 158) s m ([.ref h0, .int 6] : List Value).toArray below meth c H locs 0 0 Q (F0 m 7 ls []) := by
    intro n
    induction n with
    | zero =>
      intro i Pa fv za qa hni hza hq hiP hmu H locs hP hD hS ls hl
      have hni_7 := hni
      have hi : i = 240 := by omega
      refine lv_iload_n hx hb dX2_readSum_7 rfl (lv_at hl 2 rfl) ?_
      refine lv_sipush (v := 240) hx hb dX2_readSum_8 (by decide) ?_
      refine lv_icmp_ge (tgt := 90) hx hb dX2_readSum_11 (by decide) (fun _ => ?_) (fun c_11 => absurd (by rw [hi]; decide) c_11)
      exact ret _ _ _ _ (Pa, fv, za, qa) dX2_readSum_90 (⟨hza, ⟨hq, fun z => absurd z (fun z => by have h2 := hq.2.1; have h4 := hq.2.2.2.1; exact (Classical.em (fa = 0)).elim (fun w => by have := hiP z w; omega) (fun w => w ((h2 w).symm.trans z)))⟩⟩) (hP.sub [0, 1, 2, 3, 4, 5] rfl) (hD.sub [0, 1, 2, 3, 4, 5] (by decide) rfl) hS
    | succ n ih_7 =>
      intro i Pa fv za qa hni hza hq hiP hmu H locs hP hD hS ls hl
      have hni_7 := hni
      have hi : i < 240 := by omega
      refine lv_iload_n hx hb dX2_readSum_7 rfl (lv_at hl 2 rfl) ?_
      refine lv_sipush (v := 240) hx hb dX2_readSum_8 (by decide) ?_
      refine lv_icmp_ge (tgt := 90) hx hb dX2_readSum_11 (by decide) (fun c_11 => absurd c_11 (nI_ge hi (by decide))) (fun _ => ?_)
      refine lv_aload_n hx hb dX2_readSum_14 rfl (lv_at hl 0 rfl) ?_
      refine va_get (D := D) (ci := 2) (v := .ref tx) (C := RX2) (T := TX2) (N := 2) hx hb htb itX2 hown hK hP 0 rfl rfl 0 (by decide) (htb _ k_288) (fun _ h9 => h9) rfl dX2_readSum_15 ?_
      refine cVR (As := []) (rest := []) (n := 0) (ci := 6) (q0 := 0) X hN hK hP (c_signP l D cI cB tx tp N Pa fv by_ T fb hT hNT hq.2.2.2.1) (gV k_483 k_484 k_485 k_98 k_486) (by decide +kernel) ⟨Nat.le_of_ble_eq_true rfl, Nat.le_of_ble_eq_true rfl⟩ ⟨rfl, rfl⟩ [1, 2, 3] rfl rfl rfl rfl rfl rfl hl.1 (Nat.le_of_ble_eq_true rfl) dX2_readSum_18 ⟨Nat.le_of_ble_eq_true rfl, Nat.le_of_ble_eq_true rfl⟩ (fun r_7 hr_7 => ?_)
      subst hr_7
      refine lv_bipush (v := 43) hx hb dX2_readSum_21 (by decide) ?_
      refine lv_icmp_eq (tgt := 38) hx hb dX2_readSum_23 (by decide) (fun c_23 => ?_) (fun c_23 => ?_)
      · obtain ⟨hf0, hlt, hs5⟩ := sQs (sgA (Or.inl c_23))
        subst hf0
        refine lv_aload_n hx hb dX2_readSum_38 rfl (lv_at hl 0 rfl) ?_
        refine va_get (D := D) (ci := 2) (v := .ref tx) (C := RX2) (T := TX2) (N := 2) hx hb htb itX2 hown hK hP 0 rfl rfl 0 (by decide) (htb _ k_288) (fun _ h9 => h9) rfl dX2_readSum_39 ?_
        refine cVR (As := []) (rest := []) (n := 0) (ci := 6) (q0 := 0) X hN hK hP (c_signP l D cI cB tx tp N Pa 0 by_ T fb hT hNT hq.2.2.2.1) (gV k_483 k_484 k_485 k_98 k_486) (by decide +kernel) ⟨Nat.le_of_ble_eq_true rfl, Nat.le_of_ble_eq_true rfl⟩ ⟨rfl, rfl⟩ [1, 2, 3] rfl rfl rfl rfl rfl rfl hl.1 (Nat.le_of_ble_eq_true rfl) dX2_readSum_42 ⟨Nat.le_of_ble_eq_true rfl, Nat.le_of_ble_eq_true rfl⟩ (fun r_8 hr_8 => ?_)
        subst hr_8
        refine lv_bipush (v := 43) hx hb dX2_readSum_45 (by decide) ?_
        refine lv_icmp_ne (tgt := 54) hx hb dX2_readSum_47 (by decide) (fun c_47 => ?_) (fun c_47 => ?_)
        · refine lv_bipush (v := 6) hx hb dX2_readSum_54 (by decide) ?_
          refine lv_istore_n (lv' := [(3, .int 6), (0, .ref h0), (1, .int 6), (2, .int (nI i))]) hx hb dX2_readSum_56 rfl hl (by decide) rfl (fun ls hl => ?_)
          refine lv_aload_n hx hb dX2_readSum_57 rfl (lv_at hl 1 rfl) ?_
          refine va_get (D := D) (ci := 2) (v := .ref tx) (C := RX2) (T := TX2) (N := 2) hx hb htb itX2 hown hK hP 0 rfl rfl 0 (by decide) (htb _ k_288) (fun _ h9 => h9) rfl dX2_readSum_58 ?_
          refine lv_dup hx hb dX2_readSum_61 rfl ?_
          refine va_getN (D := D) (ci := 6) (v := .int (nI Pa)) (C := RX6) (T := TX6) (N := 4) hx hb htb itX6 hown hK hP 1 rfl rfl 2 (by decide) (va_Nw.use rfl (hN _ n_264 rfl)) (fun _ h9 => h9) rfl dX2_readSum_62 ?_
          refine lv_iconst (v := 1) hx hb dX2_readSum_65 (by decide) ?_
          refine lv_iadd hx hb dX2_readSum_66 ?_
          refine tv (z := (nI (Pa + 1))) (nI_1 Pa) ?_
          refine va_putN (D := D) (ci := 6) (v := .int (nI (Pa + 1))) (ty := .int) (C := RX6) (T := TX6) (N := 4) hx hb htb itX6 tyX6 tyX6_ok nmX6 hown hK hP hD hS 1 rfl rfl 2 (by decide) (va_Nw.use rfl (hN _ n_264 rfl)) (fun _ h9 => h9) rfl (tyX6_ok 2 (by decide)) rfl rfl (Nat.le_of_ble_eq_true rfl) dX2_readSum_67 (fun H locs hP hD hS => ?_)
          have hP : va_P D vwCl [(h0, .inr (2, [.ref tx, .ref lw])), (tx, .inr (6, [.ref tp, .int (nI N), .int (nI (Pa + 1)), .int 0])), (tp, .inr (5, [.ref by_, .int (nI T)])), (by_, .inl (cI, 260, .inl fb)), (lw, .inr (1, [.ref l1, .ref l2, .ref l3, .ref l4, .ref l5, .ref l6, .ref l7, .int (nI za), .int (nI k)])), (l1, .inl (cI, 240, .inl qa))] H := hP
          have hD : va_D A [(h0, .inr (2, [.ref tx, .ref lw])), (tx, .inr (6, [.ref tp, .int (nI N), .int (nI (Pa + 1)), .int 0])), (tp, .inr (5, [.ref by_, .int (nI T)])), (by_, .inl (cI, 260, .inl fb)), (lw, .inr (1, [.ref l1, .ref l2, .ref l3, .ref l4, .ref l5, .ref l6, .ref l7, .int (nI za), .int (nI k)])), (l1, .inl (cI, 240, .inl qa))] := hD
          refine lv_aload_n hx hb dX2_readSum_70 rfl (lv_at hl 1 rfl) ?_
          refine lv_iload_n hx hb dX2_readSum_71 rfl (lv_at hl 2 rfl) ?_
          refine cVVk (As := [.int 6]) (rest := []) (n := 1) (ci := 2) (q0 := 0) (wr := []) X hN hKO hK hP hD hS hA (c_rtP_6 l D cI cB _ kk h0 tx tp N (Pa + 1) 0 by_ T fb lw l1 l2 l3 l4 l5 l6 l7 za k qa hT hNT (by omega) hN2 (Or.inl rfl) hbr hza hk) (gV k_585 k_587 k_3 k_99 k_588) (by decide +kernel) ⟨Nat.le_of_ble_eq_true rfl, Nat.le_of_ble_eq_true rfl⟩ ⟨rfl, rfl⟩ [0, 1, 2, 3, 4, 5] [] rfl rfl (by decide) (by decide) rfl rfl rfl rfl rfl hl.1 (Nat.le_of_ble_eq_true rfl) dX2_readSum_72 ⟨Nat.le_of_ble_eq_true rfl, Nat.le_of_ble_eq_true rfl⟩ (fun u H locs hw_14 hP hD hS => ?_)
          obtain ⟨Po_10, fo_11, zo_12, l1o_13⟩ := u
          try dsimp only at hw_14
          have hP : va_P D vwCl [(h0, .inr (2, [.ref tx, .ref lw])), (tx, .inr (6, [.ref tp, .int (nI N), .int (nI Po_10), .int fo_11])), (tp, .inr (5, [.ref by_, .int (nI T)])), (by_, .inl (cI, 260, .inl fb)), (lw, .inr (1, [.ref l1, .ref l2, .ref l3, .ref l4, .ref l5, .ref l6, .ref l7, .int (nI zo_12), .int (nI k)])), (l1, .inl (cI, 240, .inl l1o_13))] H := hP
          have hD : va_D A [(h0, .inr (2, [.ref tx, .ref lw])), (tx, .inr (6, [.ref tp, .int (nI N), .int (nI Po_10), .int fo_11])), (tp, .inr (5, [.ref by_, .int (nI T)])), (by_, .inl (cI, 260, .inl fb)), (lw, .inr (1, [.ref l1, .ref l2, .ref l3, .ref l4, .ref l5, .ref l6, .ref l7, .int (nI zo_12), .int (nI k)])), (l1, .inl (cI, 240, .inl l1o_13))] := hD
          refine lv_aload_n hx hb dX2_readSum_75 rfl (lv_at hl 1 rfl) ?_
          refine va_get (D := D) (ci := 2) (v := .ref lw) (C := RX2) (T := TX2) (N := 2) hx hb htb itX2 hown hK hP 0 rfl rfl 1 (by decide) (htb _ k_289) (fun _ h9 => h9) rfl dX2_readSum_76 ?_
          refine lv_iload_n hx hb dX2_readSum_79 rfl (lv_at hl 0 rfl) ?_
          refine lv_iconst (v := 0) hx hb dX2_readSum_80 (by decide) ?_
          refine cVV (As := [.int 6, .int 0]) (rest := []) (n := 2) (ci := 1) (q0 := 0) (wr := [(h0, .inr (2, [.ref tx, .ref lw])), (tx, .inr (6, [.ref tp, .int (nI N), .int (nI Po_10), .int fo_11])), (tp, .inr (5, [.ref by_, .int (nI T)])), (by_, .inl (cI, 260, .inl fb))]) X hN hK hP hD hS hA (c_X1_addStep l D cI cB _ lw l1 l2 l3 l4 l5 l6 l7 zo_12 k 6 0 l1o_13 hw_14.1 hk) (gV k_594 k_595 k_596 k_97 k_597) (by decide +kernel) ⟨Nat.le_of_ble_eq_true rfl, Nat.le_of_ble_eq_true rfl⟩ ⟨rfl, rfl⟩ [4, 5] [0, 1, 2, 3] rfl rfl (by decide) (by decide) rfl rfl rfl rfl rfl hl.1 (Nat.le_of_ble_eq_true rfl) dX2_readSum_81 ⟨Nat.le_of_ble_eq_true rfl, Nat.le_of_ble_eq_true rfl⟩ (fun u H locs hw_18 hP hD hS => ?_)
          obtain ⟨zo_16, l1_fo_17⟩ := u
          try dsimp only at hw_18
          have hP : va_P D vwCl [(h0, .inr (2, [.ref tx, .ref lw])), (tx, .inr (6, [.ref tp, .int (nI N), .int (nI Po_10), .int fo_11])), (tp, .inr (5, [.ref by_, .int (nI T)])), (by_, .inl (cI, 260, .inl fb)), (lw, .inr (1, [.ref l1, .ref l2, .ref l3, .ref l4, .ref l5, .ref l6, .ref l7, .int (nI zo_16), .int (nI k)])), (l1, .inl (cI, 240, .inl l1_fo_17))] H := hP
          have hD : va_D A [(h0, .inr (2, [.ref tx, .ref lw])), (tx, .inr (6, [.ref tp, .int (nI N), .int (nI Po_10), .int fo_11])), (tp, .inr (5, [.ref by_, .int (nI T)])), (by_, .inl (cI, 260, .inl fb)), (lw, .inr (1, [.ref l1, .ref l2, .ref l3, .ref l4, .ref l5, .ref l6, .ref l7, .int (nI zo_16), .int (nI k)])), (l1, .inl (cI, 240, .inl l1_fo_17))] := hD
          refine lv_iinc (v := (nI (i + 1))) (lv' := [(2, .int (nI (i + 1))), (3, .int 6), (0, .ref h0), (1, .int 6)]) hx hb dX2_readSum_84 hl (k := 3) rfl (nI_1 i) (by decide) rfl (fun ls hl => ?_)
          refine lv_goto (tgt := 7) hx hb dX2_readSum_87 (by decide) ?_
          exact ih_7 (i + 1) Po_10 fo_11 zo_16 l1_fo_17 (by omega) hw_18 (hq.more hs5 hw_14.2.1) (fun z w => by have := (((hw_14.2.1.2.2.2.2 rfl).1 z).1); have := hiP rfl w; omega) hw_14.2.2 _ _ (hP.sub [0, 1, 2, 3, 4, 5] rfl) (hD.sub [0, 1, 2, 3, 4, 5] (by decide) rfl) hS _ (lv_sub hl [2, 3, 0] rfl)
        · refine lv_iconst (v := 5) hx hb dX2_readSum_50 (by decide) ?_
          refine lv_goto (tgt := 56) hx hb dX2_readSum_51 (by decide) ?_
          refine lv_istore_n (lv' := [(3, .int 5), (0, .ref h0), (1, .int 6), (2, .int (nI i))]) hx hb dX2_readSum_56 rfl hl (by decide) rfl (fun ls hl => ?_)
          refine lv_aload_n hx hb dX2_readSum_57 rfl (lv_at hl 1 rfl) ?_
          refine va_get (D := D) (ci := 2) (v := .ref tx) (C := RX2) (T := TX2) (N := 2) hx hb htb itX2 hown hK hP 0 rfl rfl 0 (by decide) (htb _ k_288) (fun _ h9 => h9) rfl dX2_readSum_58 ?_
          refine lv_dup hx hb dX2_readSum_61 rfl ?_
          refine va_getN (D := D) (ci := 6) (v := .int (nI Pa)) (C := RX6) (T := TX6) (N := 4) hx hb htb itX6 hown hK hP 1 rfl rfl 2 (by decide) (va_Nw.use rfl (hN _ n_264 rfl)) (fun _ h9 => h9) rfl dX2_readSum_62 ?_
          refine lv_iconst (v := 1) hx hb dX2_readSum_65 (by decide) ?_
          refine lv_iadd hx hb dX2_readSum_66 ?_
          refine tv (z := (nI (Pa + 1))) (nI_1 Pa) ?_
          refine va_putN (D := D) (ci := 6) (v := .int (nI (Pa + 1))) (ty := .int) (C := RX6) (T := TX6) (N := 4) hx hb htb itX6 tyX6 tyX6_ok nmX6 hown hK hP hD hS 1 rfl rfl 2 (by decide) (va_Nw.use rfl (hN _ n_264 rfl)) (fun _ h9 => h9) rfl (tyX6_ok 2 (by decide)) rfl rfl (Nat.le_of_ble_eq_true rfl) dX2_readSum_67 (fun H locs hP hD hS => ?_)
          have hP : va_P D vwCl [(h0, .inr (2, [.ref tx, .ref lw])), (tx, .inr (6, [.ref tp, .int (nI N), .int (nI (Pa + 1)), .int 0])), (tp, .inr (5, [.ref by_, .int (nI T)])), (by_, .inl (cI, 260, .inl fb)), (lw, .inr (1, [.ref l1, .ref l2, .ref l3, .ref l4, .ref l5, .ref l6, .ref l7, .int (nI za), .int (nI k)])), (l1, .inl (cI, 240, .inl qa))] H := hP
          have hD : va_D A [(h0, .inr (2, [.ref tx, .ref lw])), (tx, .inr (6, [.ref tp, .int (nI N), .int (nI (Pa + 1)), .int 0])), (tp, .inr (5, [.ref by_, .int (nI T)])), (by_, .inl (cI, 260, .inl fb)), (lw, .inr (1, [.ref l1, .ref l2, .ref l3, .ref l4, .ref l5, .ref l6, .ref l7, .int (nI za), .int (nI k)])), (l1, .inl (cI, 240, .inl qa))] := hD
          refine lv_aload_n hx hb dX2_readSum_70 rfl (lv_at hl 1 rfl) ?_
          refine lv_iload_n hx hb dX2_readSum_71 rfl (lv_at hl 2 rfl) ?_
          refine cVVk (As := [.int 6]) (rest := []) (n := 1) (ci := 2) (q0 := 0) (wr := []) X hN hKO hK hP hD hS hA (c_rtP_6 l D cI cB _ kk h0 tx tp N (Pa + 1) 0 by_ T fb lw l1 l2 l3 l4 l5 l6 l7 za k qa hT hNT (by omega) hN2 (Or.inl rfl) hbr hza hk) (gV k_585 k_587 k_3 k_99 k_588) (by decide +kernel) ⟨Nat.le_of_ble_eq_true rfl, Nat.le_of_ble_eq_true rfl⟩ ⟨rfl, rfl⟩ [0, 1, 2, 3, 4, 5] [] rfl rfl (by decide) (by decide) rfl rfl rfl rfl rfl hl.1 (Nat.le_of_ble_eq_true rfl) dX2_readSum_72 ⟨Nat.le_of_ble_eq_true rfl, Nat.le_of_ble_eq_true rfl⟩ (fun u H locs hw_24 hP hD hS => ?_)
          obtain ⟨Po_20, fo_21, zo_22, l1o_23⟩ := u
          try dsimp only at hw_24
          have hP : va_P D vwCl [(h0, .inr (2, [.ref tx, .ref lw])), (tx, .inr (6, [.ref tp, .int (nI N), .int (nI Po_20), .int fo_21])), (tp, .inr (5, [.ref by_, .int (nI T)])), (by_, .inl (cI, 260, .inl fb)), (lw, .inr (1, [.ref l1, .ref l2, .ref l3, .ref l4, .ref l5, .ref l6, .ref l7, .int (nI zo_22), .int (nI k)])), (l1, .inl (cI, 240, .inl l1o_23))] H := hP
          have hD : va_D A [(h0, .inr (2, [.ref tx, .ref lw])), (tx, .inr (6, [.ref tp, .int (nI N), .int (nI Po_20), .int fo_21])), (tp, .inr (5, [.ref by_, .int (nI T)])), (by_, .inl (cI, 260, .inl fb)), (lw, .inr (1, [.ref l1, .ref l2, .ref l3, .ref l4, .ref l5, .ref l6, .ref l7, .int (nI zo_22), .int (nI k)])), (l1, .inl (cI, 240, .inl l1o_23))] := hD
          refine lv_aload_n hx hb dX2_readSum_75 rfl (lv_at hl 1 rfl) ?_
          refine va_get (D := D) (ci := 2) (v := .ref lw) (C := RX2) (T := TX2) (N := 2) hx hb htb itX2 hown hK hP 0 rfl rfl 1 (by decide) (htb _ k_289) (fun _ h9 => h9) rfl dX2_readSum_76 ?_
          refine lv_iload_n hx hb dX2_readSum_79 rfl (lv_at hl 0 rfl) ?_
          refine lv_iconst (v := 0) hx hb dX2_readSum_80 (by decide) ?_
          refine cVV (As := [.int 5, .int 0]) (rest := []) (n := 2) (ci := 1) (q0 := 0) (wr := [(h0, .inr (2, [.ref tx, .ref lw])), (tx, .inr (6, [.ref tp, .int (nI N), .int (nI Po_20), .int fo_21])), (tp, .inr (5, [.ref by_, .int (nI T)])), (by_, .inl (cI, 260, .inl fb))]) X hN hK hP hD hS hA (c_X1_addStep l D cI cB _ lw l1 l2 l3 l4 l5 l6 l7 zo_22 k 5 0 l1o_23 hw_24.1 hk) (gV k_594 k_595 k_596 k_97 k_597) (by decide +kernel) ⟨Nat.le_of_ble_eq_true rfl, Nat.le_of_ble_eq_true rfl⟩ ⟨rfl, rfl⟩ [4, 5] [0, 1, 2, 3] rfl rfl (by decide) (by decide) rfl rfl rfl rfl rfl hl.1 (Nat.le_of_ble_eq_true rfl) dX2_readSum_81 ⟨Nat.le_of_ble_eq_true rfl, Nat.le_of_ble_eq_true rfl⟩ (fun u H locs hw_28 hP hD hS => ?_)
          obtain ⟨zo_26, l1_fo_27⟩ := u
          try dsimp only at hw_28
          have hP : va_P D vwCl [(h0, .inr (2, [.ref tx, .ref lw])), (tx, .inr (6, [.ref tp, .int (nI N), .int (nI Po_20), .int fo_21])), (tp, .inr (5, [.ref by_, .int (nI T)])), (by_, .inl (cI, 260, .inl fb)), (lw, .inr (1, [.ref l1, .ref l2, .ref l3, .ref l4, .ref l5, .ref l6, .ref l7, .int (nI zo_26), .int (nI k)])), (l1, .inl (cI, 240, .inl l1_fo_27))] H := hP
          have hD : va_D A [(h0, .inr (2, [.ref tx, .ref lw])), (tx, .inr (6, [.ref tp, .int (nI N), .int (nI Po_20), .int fo_21])), (tp, .inr (5, [.ref by_, .int (nI T)])), (by_, .inl (cI, 260, .inl fb)), (lw, .inr (1, [.ref l1, .ref l2, .ref l3, .ref l4, .ref l5, .ref l6, .ref l7, .int (nI zo_26), .int (nI k)])), (l1, .inl (cI, 240, .inl l1_fo_27))] := hD
          refine lv_iinc (v := (nI (i + 1))) (lv' := [(2, .int (nI (i + 1))), (3, .int 5), (0, .ref h0), (1, .int 6)]) hx hb dX2_readSum_84 hl (k := 3) rfl (nI_1 i) (by decide) rfl (fun ls hl => ?_)
          refine lv_goto (tgt := 7) hx hb dX2_readSum_87 (by decide) ?_
          exact ih_7 (i + 1) Po_20 fo_21 zo_26 l1_fo_27 (by omega) hw_28 (hq.more hs5 hw_24.2.1) (fun z w => by have := (((hw_24.2.1.2.2.2.2 rfl).1 z).1); have := hiP rfl w; omega) hw_24.2.2 _ _ (hP.sub [0, 1, 2, 3, 4, 5] rfl) (hD.sub [0, 1, 2, 3, 4, 5] (by decide) rfl) hS _ (lv_sub hl [2, 3, 0] rfl)
      · refine lv_aload_n hx hb dX2_readSum_26 rfl (lv_at hl 0 rfl) ?_
        refine va_get (D := D) (ci := 2) (v := .ref tx) (C := RX2) (T := TX2) (N := 2) hx hb htb itX2 hown hK hP 0 rfl rfl 0 (by decide) (htb _ k_288) (fun _ h9 => h9) rfl dX2_readSum_27 ?_
        refine cVR (As := []) (rest := []) (n := 0) (ci := 6) (q0 := 0) X hN hK hP (c_signP l D cI cB tx tp N Pa fv by_ T fb hT hNT hq.2.2.2.1) (gV k_483 k_484 k_485 k_98 k_486) (by decide +kernel) ⟨Nat.le_of_ble_eq_true rfl, Nat.le_of_ble_eq_true rfl⟩ ⟨rfl, rfl⟩ [1, 2, 3] rfl rfl rfl rfl rfl rfl hl.1 (Nat.le_of_ble_eq_true rfl) dX2_readSum_30 ⟨Nat.le_of_ble_eq_true rfl, Nat.le_of_ble_eq_true rfl⟩ (fun r_29 hr_29 => ?_)
        subst hr_29
        refine lv_bipush (v := 45) hx hb dX2_readSum_33 (by decide) ?_
        refine lv_icmp_ne (tgt := 90) hx hb dX2_readSum_35 (by decide) (fun c_35 => ?_) (fun c_35 => ?_)
        · exact ret _ _ _ _ (Pa, fv, za, qa) dX2_readSum_90 (⟨hza, ⟨hq, fun (z : fv = 0) => by have w1 := c_23; have w2 := c_35; rw [z, sQ0] at w1 w2; exact fun y => y.elim (fun a => a.elim w1 w2) (hmu z)⟩⟩) (hP.sub [0, 1, 2, 3, 4, 5] rfl) (hD.sub [0, 1, 2, 3, 4, 5] (by decide) rfl) hS
        · obtain ⟨hf0, hlt, hs5⟩ := sQs (sgA (Or.inr c_35))
          subst hf0
          refine lv_aload_n hx hb dX2_readSum_38 rfl (lv_at hl 0 rfl) ?_
          refine va_get (D := D) (ci := 2) (v := .ref tx) (C := RX2) (T := TX2) (N := 2) hx hb htb itX2 hown hK hP 0 rfl rfl 0 (by decide) (htb _ k_288) (fun _ h9 => h9) rfl dX2_readSum_39 ?_
          refine cVR (As := []) (rest := []) (n := 0) (ci := 6) (q0 := 0) X hN hK hP (c_signP l D cI cB tx tp N Pa 0 by_ T fb hT hNT hq.2.2.2.1) (gV k_483 k_484 k_485 k_98 k_486) (by decide +kernel) ⟨Nat.le_of_ble_eq_true rfl, Nat.le_of_ble_eq_true rfl⟩ ⟨rfl, rfl⟩ [1, 2, 3] rfl rfl rfl rfl rfl rfl hl.1 (Nat.le_of_ble_eq_true rfl) dX2_readSum_42 ⟨Nat.le_of_ble_eq_true rfl, Nat.le_of_ble_eq_true rfl⟩ (fun r_30 hr_30 => ?_)
          subst hr_30
          refine lv_bipush (v := 43) hx hb dX2_readSum_45 (by decide) ?_
          refine lv_icmp_ne (tgt := 54) hx hb dX2_readSum_47 (by decide) (fun c_47 => ?_) (fun c_47 => ?_)
          · refine lv_bipush (v := 6) hx hb dX2_readSum_54 (by decide) ?_
            refine lv_istore_n (lv' := [(3, .int 6), (0, .ref h0), (1, .int 6), (2, .int (nI i))]) hx hb dX2_readSum_56 rfl hl (by decide) rfl (fun ls hl => ?_)
            refine lv_aload_n hx hb dX2_readSum_57 rfl (lv_at hl 1 rfl) ?_
            refine va_get (D := D) (ci := 2) (v := .ref tx) (C := RX2) (T := TX2) (N := 2) hx hb htb itX2 hown hK hP 0 rfl rfl 0 (by decide) (htb _ k_288) (fun _ h9 => h9) rfl dX2_readSum_58 ?_
            refine lv_dup hx hb dX2_readSum_61 rfl ?_
            refine va_getN (D := D) (ci := 6) (v := .int (nI Pa)) (C := RX6) (T := TX6) (N := 4) hx hb htb itX6 hown hK hP 1 rfl rfl 2 (by decide) (va_Nw.use rfl (hN _ n_264 rfl)) (fun _ h9 => h9) rfl dX2_readSum_62 ?_
            refine lv_iconst (v := 1) hx hb dX2_readSum_65 (by decide) ?_
            refine lv_iadd hx hb dX2_readSum_66 ?_
            refine tv (z := (nI (Pa + 1))) (nI_1 Pa) ?_
            refine va_putN (D := D) (ci := 6) (v := .int (nI (Pa + 1))) (ty := .int) (C := RX6) (T := TX6) (N := 4) hx hb htb itX6 tyX6 tyX6_ok nmX6 hown hK hP hD hS 1 rfl rfl 2 (by decide) (va_Nw.use rfl (hN _ n_264 rfl)) (fun _ h9 => h9) rfl (tyX6_ok 2 (by decide)) rfl rfl (Nat.le_of_ble_eq_true rfl) dX2_readSum_67 (fun H locs hP hD hS => ?_)
            have hP : va_P D vwCl [(h0, .inr (2, [.ref tx, .ref lw])), (tx, .inr (6, [.ref tp, .int (nI N), .int (nI (Pa + 1)), .int 0])), (tp, .inr (5, [.ref by_, .int (nI T)])), (by_, .inl (cI, 260, .inl fb)), (lw, .inr (1, [.ref l1, .ref l2, .ref l3, .ref l4, .ref l5, .ref l6, .ref l7, .int (nI za), .int (nI k)])), (l1, .inl (cI, 240, .inl qa))] H := hP
            have hD : va_D A [(h0, .inr (2, [.ref tx, .ref lw])), (tx, .inr (6, [.ref tp, .int (nI N), .int (nI (Pa + 1)), .int 0])), (tp, .inr (5, [.ref by_, .int (nI T)])), (by_, .inl (cI, 260, .inl fb)), (lw, .inr (1, [.ref l1, .ref l2, .ref l3, .ref l4, .ref l5, .ref l6, .ref l7, .int (nI za), .int (nI k)])), (l1, .inl (cI, 240, .inl qa))] := hD
            refine lv_aload_n hx hb dX2_readSum_70 rfl (lv_at hl 1 rfl) ?_
            refine lv_iload_n hx hb dX2_readSum_71 rfl (lv_at hl 2 rfl) ?_
            refine cVVk (As := [.int 6]) (rest := []) (n := 1) (ci := 2) (q0 := 0) (wr := []) X hN hKO hK hP hD hS hA (c_rtP_6 l D cI cB _ kk h0 tx tp N (Pa + 1) 0 by_ T fb lw l1 l2 l3 l4 l5 l6 l7 za k qa hT hNT (by omega) hN2 (Or.inl rfl) hbr hza hk) (gV k_585 k_587 k_3 k_99 k_588) (by decide +kernel) ⟨Nat.le_of_ble_eq_true rfl, Nat.le_of_ble_eq_true rfl⟩ ⟨rfl, rfl⟩ [0, 1, 2, 3, 4, 5] [] rfl rfl (by decide) (by decide) rfl rfl rfl rfl rfl hl.1 (Nat.le_of_ble_eq_true rfl) dX2_readSum_72 ⟨Nat.le_of_ble_eq_true rfl, Nat.le_of_ble_eq_true rfl⟩ (fun u H locs hw_36 hP hD hS => ?_)
            obtain ⟨Po_32, fo_33, zo_34, l1o_35⟩ := u
            try dsimp only at hw_36
            have hP : va_P D vwCl [(h0, .inr (2, [.ref tx, .ref lw])), (tx, .inr (6, [.ref tp, .int (nI N), .int (nI Po_32), .int fo_33])), (tp, .inr (5, [.ref by_, .int (nI T)])), (by_, .inl (cI, 260, .inl fb)), (lw, .inr (1, [.ref l1, .ref l2, .ref l3, .ref l4, .ref l5, .ref l6, .ref l7, .int (nI zo_34), .int (nI k)])), (l1, .inl (cI, 240, .inl l1o_35))] H := hP
            have hD : va_D A [(h0, .inr (2, [.ref tx, .ref lw])), (tx, .inr (6, [.ref tp, .int (nI N), .int (nI Po_32), .int fo_33])), (tp, .inr (5, [.ref by_, .int (nI T)])), (by_, .inl (cI, 260, .inl fb)), (lw, .inr (1, [.ref l1, .ref l2, .ref l3, .ref l4, .ref l5, .ref l6, .ref l7, .int (nI zo_34), .int (nI k)])), (l1, .inl (cI, 240, .inl l1o_35))] := hD
            refine lv_aload_n hx hb dX2_readSum_75 rfl (lv_at hl 1 rfl) ?_
            refine va_get (D := D) (ci := 2) (v := .ref lw) (C := RX2) (T := TX2) (N := 2) hx hb htb itX2 hown hK hP 0 rfl rfl 1 (by decide) (htb _ k_289) (fun _ h9 => h9) rfl dX2_readSum_76 ?_
            refine lv_iload_n hx hb dX2_readSum_79 rfl (lv_at hl 0 rfl) ?_
            refine lv_iconst (v := 0) hx hb dX2_readSum_80 (by decide) ?_
            refine cVV (As := [.int 6, .int 0]) (rest := []) (n := 2) (ci := 1) (q0 := 0) (wr := [(h0, .inr (2, [.ref tx, .ref lw])), (tx, .inr (6, [.ref tp, .int (nI N), .int (nI Po_32), .int fo_33])), (tp, .inr (5, [.ref by_, .int (nI T)])), (by_, .inl (cI, 260, .inl fb))]) X hN hK hP hD hS hA (c_X1_addStep l D cI cB _ lw l1 l2 l3 l4 l5 l6 l7 zo_34 k 6 0 l1o_35 hw_36.1 hk) (gV k_594 k_595 k_596 k_97 k_597) (by decide +kernel) ⟨Nat.le_of_ble_eq_true rfl, Nat.le_of_ble_eq_true rfl⟩ ⟨rfl, rfl⟩ [4, 5] [0, 1, 2, 3] rfl rfl (by decide) (by decide) rfl rfl rfl rfl rfl hl.1 (Nat.le_of_ble_eq_true rfl) dX2_readSum_81 ⟨Nat.le_of_ble_eq_true rfl, Nat.le_of_ble_eq_true rfl⟩ (fun u H locs hw_40 hP hD hS => ?_)
            obtain ⟨zo_38, l1_fo_39⟩ := u
            try dsimp only at hw_40
            have hP : va_P D vwCl [(h0, .inr (2, [.ref tx, .ref lw])), (tx, .inr (6, [.ref tp, .int (nI N), .int (nI Po_32), .int fo_33])), (tp, .inr (5, [.ref by_, .int (nI T)])), (by_, .inl (cI, 260, .inl fb)), (lw, .inr (1, [.ref l1, .ref l2, .ref l3, .ref l4, .ref l5, .ref l6, .ref l7, .int (nI zo_38), .int (nI k)])), (l1, .inl (cI, 240, .inl l1_fo_39))] H := hP
            have hD : va_D A [(h0, .inr (2, [.ref tx, .ref lw])), (tx, .inr (6, [.ref tp, .int (nI N), .int (nI Po_32), .int fo_33])), (tp, .inr (5, [.ref by_, .int (nI T)])), (by_, .inl (cI, 260, .inl fb)), (lw, .inr (1, [.ref l1, .ref l2, .ref l3, .ref l4, .ref l5, .ref l6, .ref l7, .int (nI zo_38), .int (nI k)])), (l1, .inl (cI, 240, .inl l1_fo_39))] := hD
            refine lv_iinc (v := (nI (i + 1))) (lv' := [(2, .int (nI (i + 1))), (3, .int 6), (0, .ref h0), (1, .int 6)]) hx hb dX2_readSum_84 hl (k := 3) rfl (nI_1 i) (by decide) rfl (fun ls hl => ?_)
            refine lv_goto (tgt := 7) hx hb dX2_readSum_87 (by decide) ?_
            exact ih_7 (i + 1) Po_32 fo_33 zo_38 l1_fo_39 (by omega) hw_40 (hq.more hs5 hw_36.2.1) (fun z w => by have := (((hw_36.2.1.2.2.2.2 rfl).1 z).1); have := hiP rfl w; omega) hw_36.2.2 _ _ (hP.sub [0, 1, 2, 3, 4, 5] rfl) (hD.sub [0, 1, 2, 3, 4, 5] (by decide) rfl) hS _ (lv_sub hl [2, 3, 0] rfl)
          · refine lv_iconst (v := 5) hx hb dX2_readSum_50 (by decide) ?_
            refine lv_goto (tgt := 56) hx hb dX2_readSum_51 (by decide) ?_
            refine lv_istore_n (lv' := [(3, .int 5), (0, .ref h0), (1, .int 6), (2, .int (nI i))]) hx hb dX2_readSum_56 rfl hl (by decide) rfl (fun ls hl => ?_)
            refine lv_aload_n hx hb dX2_readSum_57 rfl (lv_at hl 1 rfl) ?_
            refine va_get (D := D) (ci := 2) (v := .ref tx) (C := RX2) (T := TX2) (N := 2) hx hb htb itX2 hown hK hP 0 rfl rfl 0 (by decide) (htb _ k_288) (fun _ h9 => h9) rfl dX2_readSum_58 ?_
            refine lv_dup hx hb dX2_readSum_61 rfl ?_
            refine va_getN (D := D) (ci := 6) (v := .int (nI Pa)) (C := RX6) (T := TX6) (N := 4) hx hb htb itX6 hown hK hP 1 rfl rfl 2 (by decide) (va_Nw.use rfl (hN _ n_264 rfl)) (fun _ h9 => h9) rfl dX2_readSum_62 ?_
            refine lv_iconst (v := 1) hx hb dX2_readSum_65 (by decide) ?_
            refine lv_iadd hx hb dX2_readSum_66 ?_
            refine tv (z := (nI (Pa + 1))) (nI_1 Pa) ?_
            refine va_putN (D := D) (ci := 6) (v := .int (nI (Pa + 1))) (ty := .int) (C := RX6) (T := TX6) (N := 4) hx hb htb itX6 tyX6 tyX6_ok nmX6 hown hK hP hD hS 1 rfl rfl 2 (by decide) (va_Nw.use rfl (hN _ n_264 rfl)) (fun _ h9 => h9) rfl (tyX6_ok 2 (by decide)) rfl rfl (Nat.le_of_ble_eq_true rfl) dX2_readSum_67 (fun H locs hP hD hS => ?_)
            have hP : va_P D vwCl [(h0, .inr (2, [.ref tx, .ref lw])), (tx, .inr (6, [.ref tp, .int (nI N), .int (nI (Pa + 1)), .int 0])), (tp, .inr (5, [.ref by_, .int (nI T)])), (by_, .inl (cI, 260, .inl fb)), (lw, .inr (1, [.ref l1, .ref l2, .ref l3, .ref l4, .ref l5, .ref l6, .ref l7, .int (nI za), .int (nI k)])), (l1, .inl (cI, 240, .inl qa))] H := hP
            have hD : va_D A [(h0, .inr (2, [.ref tx, .ref lw])), (tx, .inr (6, [.ref tp, .int (nI N), .int (nI (Pa + 1)), .int 0])), (tp, .inr (5, [.ref by_, .int (nI T)])), (by_, .inl (cI, 260, .inl fb)), (lw, .inr (1, [.ref l1, .ref l2, .ref l3, .ref l4, .ref l5, .ref l6, .ref l7, .int (nI za), .int (nI k)])), (l1, .inl (cI, 240, .inl qa))] := hD
            refine lv_aload_n hx hb dX2_readSum_70 rfl (lv_at hl 1 rfl) ?_
            refine lv_iload_n hx hb dX2_readSum_71 rfl (lv_at hl 2 rfl) ?_
            refine cVVk (As := [.int 6]) (rest := []) (n := 1) (ci := 2) (q0 := 0) (wr := []) X hN hKO hK hP hD hS hA (c_rtP_6 l D cI cB _ kk h0 tx tp N (Pa + 1) 0 by_ T fb lw l1 l2 l3 l4 l5 l6 l7 za k qa hT hNT (by omega) hN2 (Or.inl rfl) hbr hza hk) (gV k_585 k_587 k_3 k_99 k_588) (by decide +kernel) ⟨Nat.le_of_ble_eq_true rfl, Nat.le_of_ble_eq_true rfl⟩ ⟨rfl, rfl⟩ [0, 1, 2, 3, 4, 5] [] rfl rfl (by decide) (by decide) rfl rfl rfl rfl rfl hl.1 (Nat.le_of_ble_eq_true rfl) dX2_readSum_72 ⟨Nat.le_of_ble_eq_true rfl, Nat.le_of_ble_eq_true rfl⟩ (fun u H locs hw_46 hP hD hS => ?_)
            obtain ⟨Po_42, fo_43, zo_44, l1o_45⟩ := u
            try dsimp only at hw_46
            have hP : va_P D vwCl [(h0, .inr (2, [.ref tx, .ref lw])), (tx, .inr (6, [.ref tp, .int (nI N), .int (nI Po_42), .int fo_43])), (tp, .inr (5, [.ref by_, .int (nI T)])), (by_, .inl (cI, 260, .inl fb)), (lw, .inr (1, [.ref l1, .ref l2, .ref l3, .ref l4, .ref l5, .ref l6, .ref l7, .int (nI zo_44), .int (nI k)])), (l1, .inl (cI, 240, .inl l1o_45))] H := hP
            have hD : va_D A [(h0, .inr (2, [.ref tx, .ref lw])), (tx, .inr (6, [.ref tp, .int (nI N), .int (nI Po_42), .int fo_43])), (tp, .inr (5, [.ref by_, .int (nI T)])), (by_, .inl (cI, 260, .inl fb)), (lw, .inr (1, [.ref l1, .ref l2, .ref l3, .ref l4, .ref l5, .ref l6, .ref l7, .int (nI zo_44), .int (nI k)])), (l1, .inl (cI, 240, .inl l1o_45))] := hD
            refine lv_aload_n hx hb dX2_readSum_75 rfl (lv_at hl 1 rfl) ?_
            refine va_get (D := D) (ci := 2) (v := .ref lw) (C := RX2) (T := TX2) (N := 2) hx hb htb itX2 hown hK hP 0 rfl rfl 1 (by decide) (htb _ k_289) (fun _ h9 => h9) rfl dX2_readSum_76 ?_
            refine lv_iload_n hx hb dX2_readSum_79 rfl (lv_at hl 0 rfl) ?_
            refine lv_iconst (v := 0) hx hb dX2_readSum_80 (by decide) ?_
            refine cVV (As := [.int 5, .int 0]) (rest := []) (n := 2) (ci := 1) (q0 := 0) (wr := [(h0, .inr (2, [.ref tx, .ref lw])), (tx, .inr (6, [.ref tp, .int (nI N), .int (nI Po_42), .int fo_43])), (tp, .inr (5, [.ref by_, .int (nI T)])), (by_, .inl (cI, 260, .inl fb))]) X hN hK hP hD hS hA (c_X1_addStep l D cI cB _ lw l1 l2 l3 l4 l5 l6 l7 zo_44 k 5 0 l1o_45 hw_46.1 hk) (gV k_594 k_595 k_596 k_97 k_597) (by decide +kernel) ⟨Nat.le_of_ble_eq_true rfl, Nat.le_of_ble_eq_true rfl⟩ ⟨rfl, rfl⟩ [4, 5] [0, 1, 2, 3] rfl rfl (by decide) (by decide) rfl rfl rfl rfl rfl hl.1 (Nat.le_of_ble_eq_true rfl) dX2_readSum_81 ⟨Nat.le_of_ble_eq_true rfl, Nat.le_of_ble_eq_true rfl⟩ (fun u H locs hw_50 hP hD hS => ?_)
            obtain ⟨zo_48, l1_fo_49⟩ := u
            try dsimp only at hw_50
            have hP : va_P D vwCl [(h0, .inr (2, [.ref tx, .ref lw])), (tx, .inr (6, [.ref tp, .int (nI N), .int (nI Po_42), .int fo_43])), (tp, .inr (5, [.ref by_, .int (nI T)])), (by_, .inl (cI, 260, .inl fb)), (lw, .inr (1, [.ref l1, .ref l2, .ref l3, .ref l4, .ref l5, .ref l6, .ref l7, .int (nI zo_48), .int (nI k)])), (l1, .inl (cI, 240, .inl l1_fo_49))] H := hP
            have hD : va_D A [(h0, .inr (2, [.ref tx, .ref lw])), (tx, .inr (6, [.ref tp, .int (nI N), .int (nI Po_42), .int fo_43])), (tp, .inr (5, [.ref by_, .int (nI T)])), (by_, .inl (cI, 260, .inl fb)), (lw, .inr (1, [.ref l1, .ref l2, .ref l3, .ref l4, .ref l5, .ref l6, .ref l7, .int (nI zo_48), .int (nI k)])), (l1, .inl (cI, 240, .inl l1_fo_49))] := hD
            refine lv_iinc (v := (nI (i + 1))) (lv' := [(2, .int (nI (i + 1))), (3, .int 5), (0, .ref h0), (1, .int 6)]) hx hb dX2_readSum_84 hl (k := 3) rfl (nI_1 i) (by decide) rfl (fun ls hl => ?_)
            refine lv_goto (tgt := 7) hx hb dX2_readSum_87 (by decide) ?_
            exact ih_7 (i + 1) Po_42 fo_43 zo_48 l1_fo_49 (by omega) hw_50 (hq.more hs5 hw_46.2.1) (fun z w => by have := (((hw_46.2.1.2.2.2.2 rfl).1 z).1); have := hiP rfl w; omega) hw_46.2.2 _ _ (hP.sub [0, 1, 2, 3, 4, 5] rfl) (hD.sub [0, 1, 2, 3, 4, 5] (by decide) rfl) hS _ (lv_sub hl [2, 3, 0] rfl)
  exact loop_7 240 0 Po_2 fo_3 zo_4 l1o_5 (by omega) hw_6.1 hw_6.2.1 (fun z w => (((hw_6.2.1.2.2.2.2 w).1 z).1 |> fun y => by omega)) hw_6.2.2 _ _ (hP.sub [0, 1, 2, 3, 4, 5] rfl) (hD.sub [0, 1, 2, 3, 4, 5] (by decide) rfl) hS _ (lv_sub hl [1, 2, 0] rfl)

set_option maxRecDepth 100000 in
set_option maxHeartbeats 4000000 in
theorem c_rfP_5 (l : Launch) (D : va_G) (cI cB : ClassId) (sz : Nat) (kk : KT) (h0 : Nat) (tx : Nat) (tp : Nat) (N : Nat) (P : Nat) (fa : Int32) (by_ : Nat) (T : Nat) (fb : Nat → Int32) (lw : Nat) (l1 : Nat) (l2 : Nat) (l3 : Nat) (l4 : Nat) (l5 : Nat) (l6 : Nat) (l7 : Nat) (z : Nat) (k : Nat) (q1 : Nat → Int32) (hT : T ≤ 260) (hNT : N ≤ T) (hPN : P ≤ N) (hN2 : N ≤ 240) (hfa : fa = 0 ∨ fa < 0) (hbr : BR N fb) (hz : z ≤ 240) (hk : k ≤ 16) : MVk (S := ((Nat) × (Int32) × (Nat) × (Nat → Int32))) l D cI cB kk yX2_readFactor cX2_readFactor 3 (rm 8 181) [.ref h0, .int 5] [(h0, .inr (2, [.ref tx, .ref lw])), (tx, .inr (6, [.ref tp, .int (nI N), .int (nI P), .int fa])), (tp, .inr (5, [.ref by_, .int (nI T)])), (by_, .inl (cI, 260, .inl fb)), (lw, .inr (1, [.ref l1, .ref l2, .ref l3, .ref l4, .ref l5, .ref l6, .ref l7, .int (nI z), .int (nI k)])), (l1, .inl (cI, 240, .inl q1))] sz (fun u => u.2.2.1 ≤ 240 ∧ FCQ fb N 1 P u.1 fa u.2.1) (fun u : ((Nat) × (Int32) × (Nat) × (Nat → Int32)) => [(h0, .inr (2, [.ref tx, .ref lw])), (tx, .inr (6, [.ref tp, .int (nI N), .int (nI u.1), .int u.2.1])), (tp, .inr (5, [.ref by_, .int (nI T)])), (by_, .inl (cI, 260, .inl fb)), (lw, .inr (1, [.ref l1, .ref l2, .ref l3, .ref l4, .ref l5, .ref l6, .ref l7, .int (nI u.2.2.1), .int (nI k)])), (l1, .inl (cI, 240, .inl u.2.2.2))]) := by
  refine MVk.of (by decide) (Nat.le_of_ble_eq_true rfl) ?_
  intro p e s m below meth c Q ls A X hin hN hKO hP hK hD hA hl ret
  have hS : va_S A s.heap s.heap [] := va_S.rf
  obtain ⟨hx, hb, hml, hown, htb⟩ := id X
  have hl : lv_has ls 3 [(0, .ref h0), (1, .int 5)] := hl
  refine lv_aload_n hx hb dX2_readFactor_0 rfl (lv_at hl 0 rfl) ?_
  refine va_ldcS hx hb hown hKO.2.2.2.2.2 dX2_readFactor_1 ?_
  refine cVRk (As := [.ref (kk.2.1 1)]) (rest := []) (n := 1) (ci := 2) (q0 := 0) X hN hKO hS hK hP (c_placeInP1 l D cI cB kk h0 lw tx tp N P fa by_ T fb hT hNT hPN hbr) (gV k_479 k_481 k_1 k_99 k_482) (by decide +kernel) ⟨Nat.le_of_ble_eq_true rfl, Nat.le_of_ble_eq_true rfl⟩ ⟨rfl, rfl⟩ [0, 1, 2, 3] rfl rfl rfl rfl rfl rfl hl.1 (Nat.le_of_ble_eq_true rfl) dX2_readFactor_3 ⟨Nat.le_of_ble_eq_true rfl, Nat.le_of_ble_eq_true rfl⟩ (fun r_1 hr_1 => ?_)
  subst hr_1
  refine lv_topi (fun x_2 ex_2 => ?_)
  refine lv_istore_n (lv' := [(2, .int x_2), (0, .ref h0), (1, .int 5)]) hx hb dX2_readFactor_6 rfl hl (by decide) rfl (fun ls hl => ?_)
  refine lv_iload_n hx hb dX2_readFactor_7 rfl (lv_at hl 0 rfl) ?_
  refine lv_if_lt (tgt := 36) hx hb dX2_readFactor_8 (by decide) (fun c_8 => ?_) (fun c_8 => ?_)
  · refine lv_aload_n hx hb dX2_readFactor_36 rfl (lv_at hl 1 rfl) ?_
    refine va_get (D := D) (ci := 2) (v := .ref tx) (C := RX2) (T := TX2) (N := 2) hx hb htb itX2 hown hK hP 0 rfl rfl 0 (by decide) (htb _ k_288) (fun _ h9 => h9) rfl dX2_readFactor_37 ?_
    refine cVR (As := []) (rest := []) (n := 0) (ci := 6) (q0 := 0) X hN hK hP (c_signP l D cI cB tx tp N P fa by_ T fb hT hNT hPN) (gV k_483 k_484 k_485 k_98 k_486) (by decide +kernel) ⟨Nat.le_of_ble_eq_true rfl, Nat.le_of_ble_eq_true rfl⟩ ⟨rfl, rfl⟩ [1, 2, 3] rfl rfl rfl rfl rfl rfl hl.1 (Nat.le_of_ble_eq_true rfl) dX2_readFactor_40 ⟨Nat.le_of_ble_eq_true rfl, Nat.le_of_ble_eq_true rfl⟩ (fun r_3 hr_3 => ?_)
    subst hr_3
    refine lv_bipush (v := 91) hx hb dX2_readFactor_43 (by decide) ?_
    refine lv_icmp_ne (tgt := 75) hx hb dX2_readFactor_45 (by decide) (fun c_45 => ?_) (fun c_45 => ?_)
    · refine lv_aload_n hx hb dX2_readFactor_75 rfl (lv_at hl 1 rfl) ?_
      refine va_get (D := D) (ci := 2) (v := .ref lw) (C := RX2) (T := TX2) (N := 2) hx hb htb itX2 hown hK hP 0 rfl rfl 1 (by decide) (htb _ k_289) (fun _ h9 => h9) rfl dX2_readFactor_76 ?_
      refine lv_iconst (v := 0) hx hb dX2_readFactor_79 (by decide) ?_
      refine lv_aload_n hx hb dX2_readFactor_80 rfl (lv_at hl 1 rfl) ?_
      refine va_get (D := D) (ci := 2) (v := .ref tx) (C := RX2) (T := TX2) (N := 2) hx hb htb itX2 hown hK hP 0 rfl rfl 0 (by decide) (htb _ k_288) (fun _ h9 => h9) rfl dX2_readFactor_81 ?_
      refine lv_iconst (v := 5) hx hb dX2_readFactor_84 (by decide) ?_
      refine lv_iconst (v := 2) hx hb dX2_readFactor_85 (by decide) ?_
      refine cVI (As := [.int 5, .int 2]) (rest := [.int 0, .ref lw]) (n := 2) (ci := 6) (q0 := 0) (wr := [(h0, .inr (2, [.ref tx, .ref lw])), (lw, .inr (1, [.ref l1, .ref l2, .ref l3, .ref l4, .ref l5, .ref l6, .ref l7, .int (nI z), .int (nI k)])), (l1, .inl (cI, 240, .inl q1))]) X hN hK hP hD hS hA (c_numberP l D cI cB _ tx tp N P fa by_ T fb 5 2 hT hNT hPN (by decide)) (gV k_612 k_613 k_614 k_98 k_615) (by decide +kernel) ⟨Nat.le_of_ble_eq_true rfl, Nat.le_of_ble_eq_true rfl⟩ ⟨rfl, rfl⟩ [1, 2, 3] [0, 4, 5] rfl rfl (by decide) (by decide) rfl rfl rfl rfl rfl hl.1 (Nat.le_of_ble_eq_true rfl) dX2_readFactor_86 ⟨Nat.le_of_ble_eq_true rfl, Nat.le_of_ble_eq_true rfl⟩ (fun r_4 u H locs hw_7 hP hD hS => ?_)
      obtain ⟨Po_5, fo_6⟩ := u
      try dsimp only at hw_7
      have hP : va_P D vwCl [(h0, .inr (2, [.ref tx, .ref lw])), (lw, .inr (1, [.ref l1, .ref l2, .ref l3, .ref l4, .ref l5, .ref l6, .ref l7, .int (nI z), .int (nI k)])), (l1, .inl (cI, 240, .inl q1)), (tx, .inr (6, [.ref tp, .int (nI N), .int (nI Po_5), .int fo_6])), (tp, .inr (5, [.ref by_, .int (nI T)])), (by_, .inl (cI, 260, .inl fb))] H := hP
      have hD : va_D A [(h0, .inr (2, [.ref tx, .ref lw])), (lw, .inr (1, [.ref l1, .ref l2, .ref l3, .ref l4, .ref l5, .ref l6, .ref l7, .int (nI z), .int (nI k)])), (l1, .inl (cI, 240, .inl q1)), (tx, .inr (6, [.ref tp, .int (nI N), .int (nI Po_5), .int fo_6])), (tp, .inr (5, [.ref by_, .int (nI T)])), (by_, .inl (cI, 260, .inl fb))] := hD
      refine cVV (As := [.int 0, .int r_4]) (rest := []) (n := 2) (ci := 1) (q0 := 0) (wr := [(h0, .inr (2, [.ref tx, .ref lw])), (tx, .inr (6, [.ref tp, .int (nI N), .int (nI Po_5), .int fo_6])), (tp, .inr (5, [.ref by_, .int (nI T)])), (by_, .inl (cI, 260, .inl fb))]) X hN hK hP hD hS hA (c_X1_addStep l D cI cB _ lw l1 l2 l3 l4 l5 l6 l7 z k 0 r_4 q1 hz hk) (gV k_594 k_595 k_596 k_97 k_597) (by decide +kernel) ⟨Nat.le_of_ble_eq_true rfl, Nat.le_of_ble_eq_true rfl⟩ ⟨rfl, rfl⟩ [1, 2] [0, 3, 4, 5] rfl rfl (by decide) (by decide) rfl rfl rfl rfl rfl hl.1 (Nat.le_of_ble_eq_true rfl) dX2_readFactor_89 ⟨Nat.le_of_ble_eq_true rfl, Nat.le_of_ble_eq_true rfl⟩ (fun u H locs hw_11 hP hD hS => ?_)
      obtain ⟨zo_9, l1_fo_10⟩ := u
      try dsimp only at hw_11
      have hP : va_P D vwCl [(h0, .inr (2, [.ref tx, .ref lw])), (tx, .inr (6, [.ref tp, .int (nI N), .int (nI Po_5), .int fo_6])), (tp, .inr (5, [.ref by_, .int (nI T)])), (by_, .inl (cI, 260, .inl fb)), (lw, .inr (1, [.ref l1, .ref l2, .ref l3, .ref l4, .ref l5, .ref l6, .ref l7, .int (nI zo_9), .int (nI k)])), (l1, .inl (cI, 240, .inl l1_fo_10))] H := hP
      have hD : va_D A [(h0, .inr (2, [.ref tx, .ref lw])), (tx, .inr (6, [.ref tp, .int (nI N), .int (nI Po_5), .int fo_6])), (tp, .inr (5, [.ref by_, .int (nI T)])), (by_, .inl (cI, 260, .inl fb)), (lw, .inr (1, [.ref l1, .ref l2, .ref l3, .ref l4, .ref l5, .ref l6, .ref l7, .int (nI zo_9), .int (nI k)])), (l1, .inl (cI, 240, .inl l1_fo_10))] := hD
      exact ret _ _ _ _ (Po_5, fo_6, zo_9, l1_fo_10) dX2_readFactor_92 (⟨hw_11, by have q := FCQ.num (k := 1) (f := fb) (N := N) (p := P) (fa := fa) (by omega) hPN hfa (kp1_lt (by rw [← ex_2]; exact c_8)) c_45 (by rw [← hw_7.1]; exact hw_7.2.2.2); rw [← hw_7.1, ← hw_7.2.2.1] at q; exact q⟩) (hP.sub [0, 1, 2, 3, 4, 5] rfl) (hD.sub [0, 1, 2, 3, 4, 5] (by decide) rfl) hS
    · have h91 := c_45
      obtain ⟨hf0, hlt⟩ := sQz (fun z => absurd (z.symm.trans h91) (by decide))
      subst hf0
      rw [sQ0] at h91
      refine lv_aload_n hx hb dX2_readFactor_48 rfl (lv_at hl 1 rfl) ?_
      refine lv_iload_n hx hb dX2_readFactor_49 rfl (lv_at hl 2 rfl) ?_
      refine cVI (As := [.int 5]) (rest := []) (n := 1) (ci := 2) (q0 := 0) (wr := [(tp, .inr (5, [.ref by_, .int (nI T)])), (by_, .inl (cI, 260, .inl fb)), (lw, .inr (1, [.ref l1, .ref l2, .ref l3, .ref l4, .ref l5, .ref l6, .ref l7, .int (nI z), .int (nI k)])), (l1, .inl (cI, 240, .inl q1))]) X hN hK hP hD hS hA (c_opensP l D cI cB _ h0 lw tx tp N P 0 5 hlt) (gV k_598 k_600 k_5 k_99 k_601) (by decide +kernel) ⟨Nat.le_of_ble_eq_true rfl, Nat.le_of_ble_eq_true rfl⟩ ⟨rfl, rfl⟩ [0, 1] [2, 3, 4, 5] rfl rfl (by decide) (by decide) rfl rfl rfl rfl rfl hl.1 (Nat.le_of_ble_eq_true rfl) dX2_readFactor_50 ⟨Nat.le_of_ble_eq_true rfl, Nat.le_of_ble_eq_true rfl⟩ (fun r_12 u H locs hw_15 hP hD hS => ?_)
      obtain ⟨Po_13, fo_14⟩ := u
      try dsimp only at hw_15
      have hP : va_P D vwCl [(tp, .inr (5, [.ref by_, .int (nI T)])), (by_, .inl (cI, 260, .inl fb)), (lw, .inr (1, [.ref l1, .ref l2, .ref l3, .ref l4, .ref l5, .ref l6, .ref l7, .int (nI z), .int (nI k)])), (l1, .inl (cI, 240, .inl q1)), (h0, .inr (2, [.ref tx, .ref lw])), (tx, .inr (6, [.ref tp, .int (nI N), .int (nI Po_13), .int fo_14]))] H := hP
      have hD : va_D A [(tp, .inr (5, [.ref by_, .int (nI T)])), (by_, .inl (cI, 260, .inl fb)), (lw, .inr (1, [.ref l1, .ref l2, .ref l3, .ref l4, .ref l5, .ref l6, .ref l7, .int (nI z), .int (nI k)])), (l1, .inl (cI, 240, .inl q1)), (h0, .inr (2, [.ref tx, .ref lw])), (tx, .inr (6, [.ref tp, .int (nI N), .int (nI Po_13), .int fo_14]))] := hD
      obtain rfl : r_12 = 1 := hw_15.1.trans (by decide)
      obtain ⟨eo1, eo2⟩ := hw_15.2.1 (by decide)
      rw [eo1, eo2] at hP hD
      have hP : va_P D vwCl [(tp, .inr (5, [.ref by_, .int (nI T)])), (by_, .inl (cI, 260, .inl fb)), (lw, .inr (1, [.ref l1, .ref l2, .ref l3, .ref l4, .ref l5, .ref l6, .ref l7, .int (nI z), .int (nI k)])), (l1, .inl (cI, 240, .inl q1)), (h0, .inr (2, [.ref tx, .ref lw])), (tx, .inr (6, [.ref tp, .int (nI N), .int (nI (P + 1)), .int 0]))] H := hP
      have hD : va_D A [(tp, .inr (5, [.ref by_, .int (nI T)])), (by_, .inl (cI, 260, .inl fb)), (lw, .inr (1, [.ref l1, .ref l2, .ref l3, .ref l4, .ref l5, .ref l6, .ref l7, .int (nI z), .int (nI k)])), (l1, .inl (cI, 240, .inl q1)), (h0, .inr (2, [.ref tx, .ref lw])), (tx, .inr (6, [.ref tp, .int (nI N), .int (nI (P + 1)), .int 0]))] := hD
      refine lv_if_eq (tgt := 92) hx hb dX2_readFactor_53 (by decide) (fun c_53 => absurd c_53 (by decide)) (fun _ => ?_)
      refine lv_aload_n hx hb dX2_readFactor_56 rfl (lv_at hl 1 rfl) ?_
      refine lv_iload_n hx hb dX2_readFactor_57 rfl (lv_at hl 2 rfl) ?_
      refine lv_iconst (v := 1) hx hb dX2_readFactor_58 (by decide) ?_
      refine lv_iadd hx hb dX2_readFactor_59 ?_
      refine tv (z := 6) (by decide) ?_
      refine cVVk (As := [.int 6]) (rest := []) (n := 1) (ci := 2) (q0 := 0) (wr := []) X hN hKO hK hP hD hS hA (c_rsP_6 l D cI cB _ kk h0 tx tp N (P + 1) 0 by_ T fb lw l1 l2 l3 l4 l5 l6 l7 z k q1 hT hNT (by omega) hN2 (Or.inl rfl) hbr hz hk) (gV k_581 k_583 k_2 k_99 k_584) (by decide +kernel) ⟨Nat.le_of_ble_eq_true rfl, Nat.le_of_ble_eq_true rfl⟩ ⟨rfl, rfl⟩ [4, 5, 0, 1, 2, 3] [] rfl rfl (by decide) (by decide) rfl rfl rfl rfl rfl hl.1 (Nat.le_of_ble_eq_true rfl) dX2_readFactor_60 ⟨Nat.le_of_ble_eq_true rfl, Nat.le_of_ble_eq_true rfl⟩ (fun u H locs hw_21 hP hD hS => ?_)
      obtain ⟨Po_17, fo_18, zo_19, l1o_20⟩ := u
      try dsimp only at hw_21
      have hP : va_P D vwCl [(h0, .inr (2, [.ref tx, .ref lw])), (tx, .inr (6, [.ref tp, .int (nI N), .int (nI Po_17), .int fo_18])), (tp, .inr (5, [.ref by_, .int (nI T)])), (by_, .inl (cI, 260, .inl fb)), (lw, .inr (1, [.ref l1, .ref l2, .ref l3, .ref l4, .ref l5, .ref l6, .ref l7, .int (nI zo_19), .int (nI k)])), (l1, .inl (cI, 240, .inl l1o_20))] H := hP
      have hD : va_D A [(h0, .inr (2, [.ref tx, .ref lw])), (tx, .inr (6, [.ref tp, .int (nI N), .int (nI Po_17), .int fo_18])), (tp, .inr (5, [.ref by_, .int (nI T)])), (by_, .inl (cI, 260, .inl fb)), (lw, .inr (1, [.ref l1, .ref l2, .ref l3, .ref l4, .ref l5, .ref l6, .ref l7, .int (nI zo_19), .int (nI k)])), (l1, .inl (cI, 240, .inl l1o_20))] := hD
      refine lv_aload_n hx hb dX2_readFactor_63 rfl (lv_at hl 1 rfl) ?_
      refine va_get (D := D) (ci := 2) (v := .ref tx) (C := RX2) (T := TX2) (N := 2) hx hb htb itX2 hown hK hP 0 rfl rfl 0 (by decide) (htb _ k_288) (fun _ h9 => h9) rfl dX2_readFactor_64 ?_
      refine lv_bipush (v := 93) hx hb dX2_readFactor_67 (by decide) ?_
      refine cVV (As := [.int 93]) (rest := []) (n := 1) (ci := 6) (q0 := 0) (wr := [(h0, .inr (2, [.ref tx, .ref lw])), (lw, .inr (1, [.ref l1, .ref l2, .ref l3, .ref l4, .ref l5, .ref l6, .ref l7, .int (nI zo_19), .int (nI k)])), (l1, .inl (cI, 240, .inl l1o_20))]) X hN hK hP hD hS hA (c_expectP l D cI cB _ tx tp N Po_17 fo_18 by_ T fb 93 hT hNT hw_21.2.1.2.2.2.1 (by decide)) (gV k_602 k_603 k_604 k_98 k_605) (by decide +kernel) ⟨Nat.le_of_ble_eq_true rfl, Nat.le_of_ble_eq_true rfl⟩ ⟨rfl, rfl⟩ [1, 2, 3] [0, 4, 5] rfl rfl (by decide) (by decide) rfl rfl rfl rfl rfl hl.1 (Nat.le_of_ble_eq_true rfl) dX2_readFactor_69 ⟨Nat.le_of_ble_eq_true rfl, Nat.le_of_ble_eq_true rfl⟩ (fun u H locs hw_25 hP hD hS => ?_)
      obtain ⟨Po_23, fo_24⟩ := u
      try dsimp only at hw_25
      have hP : va_P D vwCl [(h0, .inr (2, [.ref tx, .ref lw])), (lw, .inr (1, [.ref l1, .ref l2, .ref l3, .ref l4, .ref l5, .ref l6, .ref l7, .int (nI zo_19), .int (nI k)])), (l1, .inl (cI, 240, .inl l1o_20)), (tx, .inr (6, [.ref tp, .int (nI N), .int (nI Po_23), .int fo_24])), (tp, .inr (5, [.ref by_, .int (nI T)])), (by_, .inl (cI, 260, .inl fb))] H := hP
      have hD : va_D A [(h0, .inr (2, [.ref tx, .ref lw])), (lw, .inr (1, [.ref l1, .ref l2, .ref l3, .ref l4, .ref l5, .ref l6, .ref l7, .int (nI zo_19), .int (nI k)])), (l1, .inl (cI, 240, .inl l1o_20)), (tx, .inr (6, [.ref tp, .int (nI N), .int (nI Po_23), .int fo_24])), (tp, .inr (5, [.ref by_, .int (nI T)])), (by_, .inl (cI, 260, .inl fb))] := hD
      refine lv_goto (tgt := 92) hx hb dX2_readFactor_72 (by decide) ?_
      exact ret _ _ _ _ (Po_23, fo_24, zo_19, l1o_20) dX2_readFactor_92 (⟨hw_21.1, FCQ.brk (by omega) h91 hw_21.2.1 hw_21.2.2 hw_25.1 hw_25.2.1 hw_25.2.2.2⟩) (hP.sub [0, 3, 4, 5, 1, 2] rfl) (hD.sub [0, 3, 4, 5, 1, 2] (by decide) rfl) hS
  · obtain ⟨hf0, hlt, hfq⟩ := FCQ.letter (k := 1) (fun z => c_8 (by rw [ex_2, z]; decide))
    refine lv_aload_n hx hb dX2_readFactor_11 rfl (lv_at hl 1 rfl) ?_
    refine va_get (D := D) (ci := 2) (v := .ref tx) (C := RX2) (T := TX2) (N := 2) hx hb htb itX2 hown hK hP 0 rfl rfl 0 (by decide) (htb _ k_288) (fun _ h9 => h9) rfl dX2_readFactor_12 ?_
    refine lv_dup hx hb dX2_readFactor_15 rfl ?_
    refine va_getN (D := D) (ci := 6) (v := .int (nI P)) (C := RX6) (T := TX6) (N := 4) hx hb htb itX6 hown hK hP 1 rfl rfl 2 (by decide) (va_Nw.use rfl (hN _ n_264 rfl)) (fun _ h9 => h9) rfl dX2_readFactor_16 ?_
    refine lv_iconst (v := 1) hx hb dX2_readFactor_19 (by decide) ?_
    refine lv_iadd hx hb dX2_readFactor_20 ?_
    refine tv (z := (nI (P + 1))) (nI_1 P) ?_
    refine va_putN (D := D) (ci := 6) (v := .int (nI (P + 1))) (ty := .int) (C := RX6) (T := TX6) (N := 4) hx hb htb itX6 tyX6 tyX6_ok nmX6 hown hK hP hD hS 1 rfl rfl 2 (by decide) (va_Nw.use rfl (hN _ n_264 rfl)) (fun _ h9 => h9) rfl (tyX6_ok 2 (by decide)) rfl rfl (Nat.le_of_ble_eq_true rfl) dX2_readFactor_21 (fun H locs hP hD hS => ?_)
    have hP : va_P D vwCl [(h0, .inr (2, [.ref tx, .ref lw])), (tx, .inr (6, [.ref tp, .int (nI N), .int (nI (P + 1)), .int fa])), (tp, .inr (5, [.ref by_, .int (nI T)])), (by_, .inl (cI, 260, .inl fb)), (lw, .inr (1, [.ref l1, .ref l2, .ref l3, .ref l4, .ref l5, .ref l6, .ref l7, .int (nI z), .int (nI k)])), (l1, .inl (cI, 240, .inl q1))] H := hP
    have hD : va_D A [(h0, .inr (2, [.ref tx, .ref lw])), (tx, .inr (6, [.ref tp, .int (nI N), .int (nI (P + 1)), .int fa])), (tp, .inr (5, [.ref by_, .int (nI T)])), (by_, .inl (cI, 260, .inl fb)), (lw, .inr (1, [.ref l1, .ref l2, .ref l3, .ref l4, .ref l5, .ref l6, .ref l7, .int (nI z), .int (nI k)])), (l1, .inl (cI, 240, .inl q1))] := hD
    refine lv_aload_n hx hb dX2_readFactor_24 rfl (lv_at hl 1 rfl) ?_
    refine va_get (D := D) (ci := 2) (v := .ref lw) (C := RX2) (T := TX2) (N := 2) hx hb htb itX2 hown hK hP 0 rfl rfl 1 (by decide) (htb _ k_289) (fun _ h9 => h9) rfl dX2_readFactor_25 ?_
    refine lv_iconst (v := 1) hx hb dX2_readFactor_28 (by decide) ?_
    refine lv_iload_n hx hb dX2_readFactor_29 rfl (lv_at hl 0 rfl) ?_
    refine cVV (As := [.int 1, .int x_2]) (rest := []) (n := 2) (ci := 1) (q0 := 0) (wr := [(h0, .inr (2, [.ref tx, .ref lw])), (tx, .inr (6, [.ref tp, .int (nI N), .int (nI (P + 1)), .int fa])), (tp, .inr (5, [.ref by_, .int (nI T)])), (by_, .inl (cI, 260, .inl fb))]) X hN hK hP hD hS hA (c_X1_addStep l D cI cB _ lw l1 l2 l3 l4 l5 l6 l7 z k 1 x_2 q1 hz hk) (gV k_594 k_595 k_596 k_97 k_597) (by decide +kernel) ⟨Nat.le_of_ble_eq_true rfl, Nat.le_of_ble_eq_true rfl⟩ ⟨rfl, rfl⟩ [4, 5] [0, 1, 2, 3] rfl rfl (by decide) (by decide) rfl rfl rfl rfl rfl hl.1 (Nat.le_of_ble_eq_true rfl) dX2_readFactor_30 ⟨Nat.le_of_ble_eq_true rfl, Nat.le_of_ble_eq_true rfl⟩ (fun u H locs hw_29 hP hD hS => ?_)
    obtain ⟨zo_27, l1_fo_28⟩ := u
    try dsimp only at hw_29
    have hP : va_P D vwCl [(h0, .inr (2, [.ref tx, .ref lw])), (tx, .inr (6, [.ref tp, .int (nI N), .int (nI (P + 1)), .int fa])), (tp, .inr (5, [.ref by_, .int (nI T)])), (by_, .inl (cI, 260, .inl fb)), (lw, .inr (1, [.ref l1, .ref l2, .ref l3, .ref l4, .ref l5, .ref l6, .ref l7, .int (nI zo_27), .int (nI k)])), (l1, .inl (cI, 240, .inl l1_fo_28))] H := hP
    have hD : va_D A [(h0, .inr (2, [.ref tx, .ref lw])), (tx, .inr (6, [.ref tp, .int (nI N), .int (nI (P + 1)), .int fa])), (tp, .inr (5, [.ref by_, .int (nI T)])), (by_, .inl (cI, 260, .inl fb)), (lw, .inr (1, [.ref l1, .ref l2, .ref l3, .ref l4, .ref l5, .ref l6, .ref l7, .int (nI zo_27), .int (nI k)])), (l1, .inl (cI, 240, .inl l1_fo_28))] := hD
    refine lv_goto (tgt := 92) hx hb dX2_readFactor_33 (by decide) ?_
    exact ret _ _ _ _ ((P + 1), fa, zo_27, l1_fo_28) dX2_readFactor_92 (⟨hw_29, hfq⟩) (hP.sub [0, 1, 2, 3, 4, 5] rfl) (hD.sub [0, 1, 2, 3, 4, 5] (by decide) rfl) hS

set_option maxRecDepth 100000 in
set_option maxHeartbeats 4000000 in
theorem c_rtP_5 (l : Launch) (D : va_G) (cI cB : ClassId) (sz : Nat) (kk : KT) (h0 : Nat) (tx : Nat) (tp : Nat) (N : Nat) (P : Nat) (fa : Int32) (by_ : Nat) (T : Nat) (fb : Nat → Int32) (lw : Nat) (l1 : Nat) (l2 : Nat) (l3 : Nat) (l4 : Nat) (l5 : Nat) (l6 : Nat) (l7 : Nat) (z : Nat) (k : Nat) (q1 : Nat → Int32) (hT : T ≤ 260) (hNT : N ≤ T) (hPN : P ≤ N) (hN2 : N ≤ 240) (hfa : fa = 0 ∨ fa < 0) (hbr : BR N fb) (hz : z ≤ 240) (hk : k ≤ 16) : MVk (S := ((Nat) × (Int32) × (Nat) × (Nat → Int32))) l D cI cB kk yX2_readTerm cX2_readTerm 4 (rm 9 203) [.ref h0, .int 5] [(h0, .inr (2, [.ref tx, .ref lw])), (tx, .inr (6, [.ref tp, .int (nI N), .int (nI P), .int fa])), (tp, .inr (5, [.ref by_, .int (nI T)])), (by_, .inl (cI, 260, .inl fb)), (lw, .inr (1, [.ref l1, .ref l2, .ref l3, .ref l4, .ref l5, .ref l6, .ref l7, .int (nI z), .int (nI k)])), (l1, .inl (cI, 240, .inl q1))] sz (fun u => u.2.2.1 ≤ 240 ∧ FCQ fb N 1 P u.1 fa u.2.1 ∧ (u.2.1 = 0 → ¬ MU3 (chF fb N u.1))) (fun u : ((Nat) × (Int32) × (Nat) × (Nat → Int32)) => [(h0, .inr (2, [.ref tx, .ref lw])), (tx, .inr (6, [.ref tp, .int (nI N), .int (nI u.1), .int u.2.1])), (tp, .inr (5, [.ref by_, .int (nI T)])), (by_, .inl (cI, 260, .inl fb)), (lw, .inr (1, [.ref l1, .ref l2, .ref l3, .ref l4, .ref l5, .ref l6, .ref l7, .int (nI u.2.2.1), .int (nI k)])), (l1, .inl (cI, 240, .inl u.2.2.2))]) := by
  refine MVk.of (by decide) (Nat.le_of_ble_eq_true rfl) ?_
  intro p e s m below meth c Q ls A X hin hN hKO hP hK hD hA hl ret
  have hS : va_S A s.heap s.heap [] := va_S.rf
  obtain ⟨hx, hb, hml, hown, htb⟩ := id X
  have hl : lv_has ls 4 [(0, .ref h0), (1, .int 5)] := hl
  refine lv_aload_n hx hb dX2_readTerm_0 rfl (lv_at hl 0 rfl) ?_
  refine lv_iload_n hx hb dX2_readTerm_1 rfl (lv_at hl 1 rfl) ?_
  refine cVVk (As := [.int 5]) (rest := []) (n := 1) (ci := 2) (q0 := 0) (wr := []) X hN hKO hK hP hD hS hA (c_rfP_5 l D cI cB _ kk h0 tx tp N P fa by_ T fb lw l1 l2 l3 l4 l5 l6 l7 z k q1 hT hNT hPN hN2 hfa hbr hz hk) (gV k_589 k_591 k_4 k_99 k_592) (by decide +kernel) ⟨Nat.le_of_ble_eq_true rfl, Nat.le_of_ble_eq_true rfl⟩ ⟨rfl, rfl⟩ [0, 1, 2, 3, 4, 5] [] rfl rfl (by decide) (by decide) rfl rfl rfl rfl rfl hl.1 (Nat.le_of_ble_eq_true rfl) dX2_readTerm_2 ⟨Nat.le_of_ble_eq_true rfl, Nat.le_of_ble_eq_true rfl⟩ (fun u H locs hw_6 hP hD hS => ?_)
  obtain ⟨Po_2, fo_3, zo_4, l1o_5⟩ := u
  try dsimp only at hw_6
  have hP : va_P D vwCl [(h0, .inr (2, [.ref tx, .ref lw])), (tx, .inr (6, [.ref tp, .int (nI N), .int (nI Po_2), .int fo_3])), (tp, .inr (5, [.ref by_, .int (nI T)])), (by_, .inl (cI, 260, .inl fb)), (lw, .inr (1, [.ref l1, .ref l2, .ref l3, .ref l4, .ref l5, .ref l6, .ref l7, .int (nI zo_4), .int (nI k)])), (l1, .inl (cI, 240, .inl l1o_5))] H := hP
  have hD : va_D A [(h0, .inr (2, [.ref tx, .ref lw])), (tx, .inr (6, [.ref tp, .int (nI N), .int (nI Po_2), .int fo_3])), (tp, .inr (5, [.ref by_, .int (nI T)])), (by_, .inl (cI, 260, .inl fb)), (lw, .inr (1, [.ref l1, .ref l2, .ref l3, .ref l4, .ref l5, .ref l6, .ref l7, .int (nI zo_4), .int (nI k)])), (l1, .inl (cI, 240, .inl l1o_5))] := hD
  refine lv_iconst (v := 0) hx hb dX2_readTerm_5 (by decide) ?_
  refine lv_istore_n (lv' := [(2, .int 0), (0, .ref h0), (1, .int 5)]) hx hb dX2_readTerm_6 rfl hl (by decide) rfl (fun ls hl => ?_)
  have loop_7 : ∀ (n i : Nat) (Pa : Nat) (fv : Int32) (za : Nat) (qa : Nat → Int32), n + i = 240 → (za ≤ 240) → (FCQ fb N 1 P Pa fa fv) → (fv = 0 → fa = 0 → i < Pa) → ∀ (H : Heap) (locs : List Loc), va_P D vwCl [(h0, .inr (2, [.ref tx, .ref lw])), (tx, .inr (6, [.ref tp, .int (nI N), .int (nI Pa), .int fv])), (tp, .inr (5, [.ref by_, .int (nI T)])), (by_, .inl (cI, 260, .inl fb)), (lw, .inr (1, [.ref l1, .ref l2, .ref l3, .ref l4, .ref l5, .ref l6, .ref l7, .int (nI za), .int (nI k)])), (l1, .inl (cI, 240, .inl qa))] H → va_D A [(h0, .inr (2, [.ref tx, .ref lw])), (tx, .inr (6, [.ref tp, .int (nI N), .int (nI Pa), .int fv])), (tp, .inr (5, [.ref by_, .int (nI T)])), (by_, .inl (cI, 260, .inl fb)), (lw, .inr (1, [.ref l1, .ref l2, .ref l3, .ref l4, .ref l5, .ref l6, .ref l7, .int (nI za), .int (nI k)])), (l1, .inl (cI, 240, .inl qa))] → va_S A s.heap H locs → ∀ (ls : Array Slot), lv_has ls 4 [(0, .ref h0), (1, .int 5), (2, .int (nI i))] → W p l e (rm 9 203) s m ([.ref h0, .int 5] : List Value).toArray below meth c H locs 0 0 Q (F0 m 7 ls []) := by
    intro n
    induction n with
    | zero =>
      intro i Pa fv za qa hni hza hq hiP H locs hP hD hS ls hl
      have hni_7 := hni
      have hi : i = 240 := by omega
      refine lv_iload_n hx hb dX2_readTerm_7 rfl (lv_at hl 2 rfl) ?_
      refine lv_sipush (v := 240) hx hb dX2_readTerm_8 (by decide) ?_
      refine lv_icmp_ge (tgt := 60) hx hb dX2_readTerm_11 (by decide) (fun _ => ?_) (fun c_11 => absurd (by rw [hi]; decide) c_11)
      exact ret _ _ _ _ (Pa, fv, za, qa) dX2_readTerm_60 (⟨hza, ⟨hq, fun z => absurd z (fun z => by have h2 := hq.2.1; have h4 := hq.2.2.2.1; exact (Classical.em (fa = 0)).elim (fun w => by have := hiP z w; omega) (fun w => w ((h2 w).symm.trans z)))⟩⟩) (hP.sub [0, 1, 2, 3, 4, 5] rfl) (hD.sub [0, 1, 2, 3, 4, 5] (by decide) rfl) hS
    | succ n ih_7 =>
      intro i Pa fv za qa hni hza hq hiP H locs hP hD hS ls hl
      have hni_7 := hni
      have hi : i < 240 := by omega
      refine lv_iload_n hx hb dX2_readTerm_7 rfl (lv_at hl 2 rfl) ?_
      refine lv_sipush (v := 240) hx hb dX2_readTerm_8 (by decide) ?_
      refine lv_icmp_ge (tgt := 60) hx hb dX2_readTerm_11 (by decide) (fun c_11 => absurd c_11 (nI_ge hi (by decide))) (fun _ => ?_)
      refine lv_aload_n hx hb dX2_readTerm_14 rfl (lv_at hl 0 rfl) ?_
      refine cVR (As := []) (rest := []) (n := 0) (ci := 2) (q0 := 0) X hN hK hP (c_factorStepP l D cI cB h0 lw tx tp N Pa fv by_ T fb hT hNT hq.2.2.2.1) (gV k_620 k_622 k_6 k_99 k_623) (by decide +kernel) ⟨Nat.le_of_ble_eq_true rfl, Nat.le_of_ble_eq_true rfl⟩ ⟨rfl, rfl⟩ [0, 1, 2, 3] rfl rfl rfl rfl rfl rfl hl.1 (Nat.le_of_ble_eq_true rfl) dX2_readTerm_15 ⟨Nat.le_of_ble_eq_true rfl, Nat.le_of_ble_eq_true rfl⟩ (fun rfs hrfs => ?_)
      refine lv_iconst (v := (-1)) hx hb dX2_readTerm_18 (by decide) ?_
      refine lv_icmp_eq (tgt := 60) hx hb dX2_readTerm_19 (by decide) (fun c_19 => ?_) (fun c_19 => ?_)
      · exact ret _ _ _ _ (Pa, fv, za, qa) dX2_readTerm_60 (⟨hza, ⟨hq, fun (z : fv = 0) => by have w := hrfs.1 c_19; rw [z, sQ0] at w; exact w⟩⟩) (hP.sub [0, 1, 2, 3, 4, 5] rfl) (hD.sub [0, 1, 2, 3, 4, 5] (by decide) rfl) hS
      · obtain ⟨hf0, hlt, hs5⟩ := sQs (sgM (hrfs.2 c_19))
        subst hf0
        refine lv_aload_n hx hb dX2_readTerm_22 rfl (lv_at hl 0 rfl) ?_
        refine cVR (As := []) (rest := []) (n := 0) (ci := 2) (q0 := 0) X hN hK hP (c_factorStepP l D cI cB h0 lw tx tp N Pa 0 by_ T fb hT hNT hq.2.2.2.1) (gV k_620 k_622 k_6 k_99 k_623) (by decide +kernel) ⟨Nat.le_of_ble_eq_true rfl, Nat.le_of_ble_eq_true rfl⟩ ⟨rfl, rfl⟩ [0, 1, 2, 3] rfl rfl rfl rfl rfl rfl hl.1 (Nat.le_of_ble_eq_true rfl) dX2_readTerm_23 ⟨Nat.le_of_ble_eq_true rfl, Nat.le_of_ble_eq_true rfl⟩ (fun r_7 hr_7 => ?_)
        refine lv_istore_n (lv' := [(3, .int r_7), (0, .ref h0), (1, .int 5), (2, .int (nI i))]) hx hb dX2_readTerm_26 rfl hl (by decide) rfl (fun ls hl => ?_)
        refine lv_aload_n hx hb dX2_readTerm_27 rfl (lv_at hl 1 rfl) ?_
        refine va_get (D := D) (ci := 2) (v := .ref tx) (C := RX2) (T := TX2) (N := 2) hx hb htb itX2 hown hK hP 0 rfl rfl 0 (by decide) (htb _ k_288) (fun _ h9 => h9) rfl dX2_readTerm_28 ?_
        refine lv_dup hx hb dX2_readTerm_31 rfl ?_
        refine va_getN (D := D) (ci := 6) (v := .int (nI Pa)) (C := RX6) (T := TX6) (N := 4) hx hb htb itX6 hown hK hP 1 rfl rfl 2 (by decide) (va_Nw.use rfl (hN _ n_264 rfl)) (fun _ h9 => h9) rfl dX2_readTerm_32 ?_
        refine lv_iconst (v := 1) hx hb dX2_readTerm_35 (by decide) ?_
        refine lv_iadd hx hb dX2_readTerm_36 ?_
        refine tv (z := (nI (Pa + 1))) (nI_1 Pa) ?_
        refine va_putN (D := D) (ci := 6) (v := .int (nI (Pa + 1))) (ty := .int) (C := RX6) (T := TX6) (N := 4) hx hb htb itX6 tyX6 tyX6_ok nmX6 hown hK hP hD hS 1 rfl rfl 2 (by decide) (va_Nw.use rfl (hN _ n_264 rfl)) (fun _ h9 => h9) rfl (tyX6_ok 2 (by decide)) rfl rfl (Nat.le_of_ble_eq_true rfl) dX2_readTerm_37 (fun H locs hP hD hS => ?_)
        have hP : va_P D vwCl [(h0, .inr (2, [.ref tx, .ref lw])), (tx, .inr (6, [.ref tp, .int (nI N), .int (nI (Pa + 1)), .int 0])), (tp, .inr (5, [.ref by_, .int (nI T)])), (by_, .inl (cI, 260, .inl fb)), (lw, .inr (1, [.ref l1, .ref l2, .ref l3, .ref l4, .ref l5, .ref l6, .ref l7, .int (nI za), .int (nI k)])), (l1, .inl (cI, 240, .inl qa))] H := hP
        have hD : va_D A [(h0, .inr (2, [.ref tx, .ref lw])), (tx, .inr (6, [.ref tp, .int (nI N), .int (nI (Pa + 1)), .int 0])), (tp, .inr (5, [.ref by_, .int (nI T)])), (by_, .inl (cI, 260, .inl fb)), (lw, .inr (1, [.ref l1, .ref l2, .ref l3, .ref l4, .ref l5, .ref l6, .ref l7, .int (nI za), .int (nI k)])), (l1, .inl (cI, 240, .inl qa))] := hD
        refine lv_aload_n hx hb dX2_readTerm_40 rfl (lv_at hl 1 rfl) ?_
        refine lv_iload_n hx hb dX2_readTerm_41 rfl (lv_at hl 2 rfl) ?_
        refine cVVk (As := [.int 5]) (rest := []) (n := 1) (ci := 2) (q0 := 0) (wr := []) X hN hKO hK hP hD hS hA (c_rfP_5 l D cI cB _ kk h0 tx tp N (Pa + 1) 0 by_ T fb lw l1 l2 l3 l4 l5 l6 l7 za k qa hT hNT (by omega) hN2 (Or.inl rfl) hbr hza hk) (gV k_589 k_591 k_4 k_99 k_592) (by decide +kernel) ⟨Nat.le_of_ble_eq_true rfl, Nat.le_of_ble_eq_true rfl⟩ ⟨rfl, rfl⟩ [0, 1, 2, 3, 4, 5] [] rfl rfl (by decide) (by decide) rfl rfl rfl rfl rfl hl.1 (Nat.le_of_ble_eq_true rfl) dX2_readTerm_42 ⟨Nat.le_of_ble_eq_true rfl, Nat.le_of_ble_eq_true rfl⟩ (fun u H locs hw_13 hP hD hS => ?_)
        obtain ⟨Po_9, fo_10, zo_11, l1o_12⟩ := u
        try dsimp only at hw_13
        have hP : va_P D vwCl [(h0, .inr (2, [.ref tx, .ref lw])), (tx, .inr (6, [.ref tp, .int (nI N), .int (nI Po_9), .int fo_10])), (tp, .inr (5, [.ref by_, .int (nI T)])), (by_, .inl (cI, 260, .inl fb)), (lw, .inr (1, [.ref l1, .ref l2, .ref l3, .ref l4, .ref l5, .ref l6, .ref l7, .int (nI zo_11), .int (nI k)])), (l1, .inl (cI, 240, .inl l1o_12))] H := hP
        have hD : va_D A [(h0, .inr (2, [.ref tx, .ref lw])), (tx, .inr (6, [.ref tp, .int (nI N), .int (nI Po_9), .int fo_10])), (tp, .inr (5, [.ref by_, .int (nI T)])), (by_, .inl (cI, 260, .inl fb)), (lw, .inr (1, [.ref l1, .ref l2, .ref l3, .ref l4, .ref l5, .ref l6, .ref l7, .int (nI zo_11), .int (nI k)])), (l1, .inl (cI, 240, .inl l1o_12))] := hD
        refine lv_aload_n hx hb dX2_readTerm_45 rfl (lv_at hl 1 rfl) ?_
        refine va_get (D := D) (ci := 2) (v := .ref lw) (C := RX2) (T := TX2) (N := 2) hx hb htb itX2 hown hK hP 0 rfl rfl 1 (by decide) (htb _ k_289) (fun _ h9 => h9) rfl dX2_readTerm_46 ?_
        refine lv_iload_n hx hb dX2_readTerm_49 rfl (lv_at hl 0 rfl) ?_
        refine lv_iconst (v := 0) hx hb dX2_readTerm_50 (by decide) ?_
        refine cVV (As := [.int r_7, .int 0]) (rest := []) (n := 2) (ci := 1) (q0 := 0) (wr := [(h0, .inr (2, [.ref tx, .ref lw])), (tx, .inr (6, [.ref tp, .int (nI N), .int (nI Po_9), .int fo_10])), (tp, .inr (5, [.ref by_, .int (nI T)])), (by_, .inl (cI, 260, .inl fb))]) X hN hK hP hD hS hA (c_X1_addStep l D cI cB _ lw l1 l2 l3 l4 l5 l6 l7 zo_11 k r_7 0 l1o_12 hw_13.1 hk) (gV k_594 k_595 k_596 k_97 k_597) (by decide +kernel) ⟨Nat.le_of_ble_eq_true rfl, Nat.le_of_ble_eq_true rfl⟩ ⟨rfl, rfl⟩ [4, 5] [0, 1, 2, 3] rfl rfl (by decide) (by decide) rfl rfl rfl rfl rfl hl.1 (Nat.le_of_ble_eq_true rfl) dX2_readTerm_51 ⟨Nat.le_of_ble_eq_true rfl, Nat.le_of_ble_eq_true rfl⟩ (fun u H locs hw_17 hP hD hS => ?_)
        obtain ⟨zo_15, l1_fo_16⟩ := u
        try dsimp only at hw_17
        have hP : va_P D vwCl [(h0, .inr (2, [.ref tx, .ref lw])), (tx, .inr (6, [.ref tp, .int (nI N), .int (nI Po_9), .int fo_10])), (tp, .inr (5, [.ref by_, .int (nI T)])), (by_, .inl (cI, 260, .inl fb)), (lw, .inr (1, [.ref l1, .ref l2, .ref l3, .ref l4, .ref l5, .ref l6, .ref l7, .int (nI zo_15), .int (nI k)])), (l1, .inl (cI, 240, .inl l1_fo_16))] H := hP
        have hD : va_D A [(h0, .inr (2, [.ref tx, .ref lw])), (tx, .inr (6, [.ref tp, .int (nI N), .int (nI Po_9), .int fo_10])), (tp, .inr (5, [.ref by_, .int (nI T)])), (by_, .inl (cI, 260, .inl fb)), (lw, .inr (1, [.ref l1, .ref l2, .ref l3, .ref l4, .ref l5, .ref l6, .ref l7, .int (nI zo_15), .int (nI k)])), (l1, .inl (cI, 240, .inl l1_fo_16))] := hD
        refine lv_iinc (v := (nI (i + 1))) (lv' := [(2, .int (nI (i + 1))), (3, .int r_7), (0, .ref h0), (1, .int 5)]) hx hb dX2_readTerm_54 hl (k := 3) rfl (nI_1 i) (by decide) rfl (fun ls hl => ?_)
        refine lv_goto (tgt := 7) hx hb dX2_readTerm_57 (by decide) ?_
        exact ih_7 (i + 1) Po_9 fo_10 zo_15 l1_fo_16 (by omega) hw_17 (hq.more hs5 hw_13.2) (fun z w => by have := (((hw_13.2.2.2.2.2 rfl).1 z).1); have := hiP rfl w; omega) _ _ (hP.sub [0, 1, 2, 3, 4, 5] rfl) (hD.sub [0, 1, 2, 3, 4, 5] (by decide) rfl) hS _ (lv_sub hl [2, 3, 0] rfl)
  exact loop_7 240 0 Po_2 fo_3 zo_4 l1o_5 (by omega) hw_6.1 hw_6.2 (fun z w => (((hw_6.2.2.2.2.2 w).1 z).1 |> fun y => by omega)) _ _ (hP.sub [0, 1, 2, 3, 4, 5] rfl) (hD.sub [0, 1, 2, 3, 4, 5] (by decide) rfl) hS _ (lv_sub hl [1, 2, 0] rfl)

set_option maxRecDepth 100000 in
set_option maxHeartbeats 4000000 in
theorem c_rsP_5 (l : Launch) (D : va_G) (cI cB : ClassId) (sz : Nat) (kk : KT) (h0 : Nat) (tx : Nat) (tp : Nat) (N : Nat) (P : Nat) (fa : Int32) (by_ : Nat) (T : Nat) (fb : Nat → Int32) (lw : Nat) (l1 : Nat) (l2 : Nat) (l3 : Nat) (l4 : Nat) (l5 : Nat) (l6 : Nat) (l7 : Nat) (z : Nat) (k : Nat) (q1 : Nat → Int32) (hT : T ≤ 260) (hNT : N ≤ T) (hPN : P ≤ N) (hN2 : N ≤ 240) (hfa : fa = 0 ∨ fa < 0) (hbr : BR N fb) (hz : z ≤ 240) (hk : k ≤ 16) : MVk (S := ((Nat) × (Int32) × (Nat) × (Nat → Int32))) l D cI cB kk yX2_readSum cX2_readSum 4 (rm 10 226) [.ref h0, .int 5] [(h0, .inr (2, [.ref tx, .ref lw])), (tx, .inr (6, [.ref tp, .int (nI N), .int (nI P), .int fa])), (tp, .inr (5, [.ref by_, .int (nI T)])), (by_, .inl (cI, 260, .inl fb)), (lw, .inr (1, [.ref l1, .ref l2, .ref l3, .ref l4, .ref l5, .ref l6, .ref l7, .int (nI z), .int (nI k)])), (l1, .inl (cI, 240, .inl q1))] sz (fun u => u.2.2.1 ≤ 240 ∧ FCQ fb N 1 P u.1 fa u.2.1 ∧ (u.2.1 = 0 → ¬ SG5 (chF fb N u.1))) (fun u : ((Nat) × (Int32) × (Nat) × (Nat → Int32)) => [(h0, .inr (2, [.ref tx, .ref lw])), (tx, .inr (6, [.ref tp, .int (nI N), .int (nI u.1), .int u.2.1])), (tp, .inr (5, [.ref by_, .int (nI T)])), (by_, .inl (cI, 260, .inl fb)), (lw, .inr (1, [.ref l1, .ref l2, .ref l3, .ref l4, .ref l5, .ref l6, .ref l7, .int (nI u.2.2.1), .int (nI k)])), (l1, .inl (cI, 240, .inl u.2.2.2))]) := by
  refine MVk.of (by decide) (Nat.le_of_ble_eq_true rfl) ?_
  intro p e s m below meth c Q ls A X hin hN hKO hP hK hD hA hl ret
  have hS : va_S A s.heap s.heap [] := va_S.rf
  obtain ⟨hx, hb, hml, hown, htb⟩ := id X
  have hl : lv_has ls 4 [(0, .ref h0), (1, .int 5)] := hl
  refine lv_aload_n hx hb dX2_readSum_0 rfl (lv_at hl 0 rfl) ?_
  refine lv_iload_n hx hb dX2_readSum_1 rfl (lv_at hl 1 rfl) ?_
  refine cVVk (As := [.int 5]) (rest := []) (n := 1) (ci := 2) (q0 := 0) (wr := []) X hN hKO hK hP hD hS hA (c_rtP_5 l D cI cB _ kk h0 tx tp N P fa by_ T fb lw l1 l2 l3 l4 l5 l6 l7 z k q1 hT hNT hPN hN2 hfa hbr hz hk) (gV k_585 k_587 k_3 k_99 k_588) (by decide +kernel) ⟨Nat.le_of_ble_eq_true rfl, Nat.le_of_ble_eq_true rfl⟩ ⟨rfl, rfl⟩ [0, 1, 2, 3, 4, 5] [] rfl rfl (by decide) (by decide) rfl rfl rfl rfl rfl hl.1 (Nat.le_of_ble_eq_true rfl) dX2_readSum_2 ⟨Nat.le_of_ble_eq_true rfl, Nat.le_of_ble_eq_true rfl⟩ (fun u H locs hw_6 hP hD hS => ?_)
  obtain ⟨Po_2, fo_3, zo_4, l1o_5⟩ := u
  try dsimp only at hw_6
  have hP : va_P D vwCl [(h0, .inr (2, [.ref tx, .ref lw])), (tx, .inr (6, [.ref tp, .int (nI N), .int (nI Po_2), .int fo_3])), (tp, .inr (5, [.ref by_, .int (nI T)])), (by_, .inl (cI, 260, .inl fb)), (lw, .inr (1, [.ref l1, .ref l2, .ref l3, .ref l4, .ref l5, .ref l6, .ref l7, .int (nI zo_4), .int (nI k)])), (l1, .inl (cI, 240, .inl l1o_5))] H := hP
  have hD : va_D A [(h0, .inr (2, [.ref tx, .ref lw])), (tx, .inr (6, [.ref tp, .int (nI N), .int (nI Po_2), .int fo_3])), (tp, .inr (5, [.ref by_, .int (nI T)])), (by_, .inl (cI, 260, .inl fb)), (lw, .inr (1, [.ref l1, .ref l2, .ref l3, .ref l4, .ref l5, .ref l6, .ref l7, .int (nI zo_4), .int (nI k)])), (l1, .inl (cI, 240, .inl l1o_5))] := hD
  refine lv_iconst (v := 0) hx hb dX2_readSum_5 (by decide) ?_
  refine lv_istore_n (lv' := [(2, .int 0), (0, .ref h0), (1, .int 5)]) hx hb dX2_readSum_6 rfl hl (by decide) rfl (fun ls hl => ?_)
  have loop_7 : ∀ (n i : Nat) (Pa : Nat) (fv : Int32) (za : Nat) (qa : Nat → Int32), n + i = 240 → (za ≤ 240) → (FCQ fb N 1 P Pa fa fv) → (fv = 0 → fa = 0 → i < Pa) → (fv = 0 → ¬ MU3 (chF fb N Pa)) → ∀ (H : Heap) (locs : List Loc), va_P D vwCl [(h0, .inr (2, [.ref tx, .ref lw])), (tx, .inr (6, [.ref tp, .int (nI N), .int (nI Pa), .int fv])), (tp, .inr (5, [.ref by_, .int (nI T)])), (by_, .inl (cI, 260, .inl fb)), (lw, .inr (1, [.ref l1, .ref l2, .ref l3, .ref l4, .ref l5, .ref l6, .ref l7, .int (nI za), .int (nI k)])), (l1, .inl (cI, 240, .inl qa))] H → va_D A [(h0, .inr (2, [.ref tx, .ref lw])), (tx, .inr (6, [.ref tp, .int (nI N), .int (nI Pa), .int fv])), (tp, .inr (5, [.ref by_, .int (nI T)])), (by_, .inl (cI, 260, .inl fb)), (lw, .inr (1, [.ref l1, .ref l2, .ref l3, .ref l4, .ref l5, .ref l6, .ref l7, .int (nI za), .int (nI k)])), (l1, .inl (cI, 240, .inl qa))] → va_S A s.heap H locs → ∀ (ls : Array Slot), lv_has ls 4 [(0, .ref h0), (1, .int 5), (2, .int (nI i))] → W p l e (rm 10 226) s m ([.ref h0, .int 5] : List Value).toArray below meth c H locs 0 0 Q (F0 m 7 ls []) := by
    intro n
    induction n with
    | zero =>
      intro i Pa fv za qa hni hza hq hiP hmu H locs hP hD hS ls hl
      have hni_7 := hni
      have hi : i = 240 := by omega
      refine lv_iload_n hx hb dX2_readSum_7 rfl (lv_at hl 2 rfl) ?_
      refine lv_sipush (v := 240) hx hb dX2_readSum_8 (by decide) ?_
      refine lv_icmp_ge (tgt := 90) hx hb dX2_readSum_11 (by decide) (fun _ => ?_) (fun c_11 => absurd (by rw [hi]; decide) c_11)
      exact ret _ _ _ _ (Pa, fv, za, qa) dX2_readSum_90 (⟨hza, ⟨hq, fun z => absurd z (fun z => by have h2 := hq.2.1; have h4 := hq.2.2.2.1; exact (Classical.em (fa = 0)).elim (fun w => by have := hiP z w; omega) (fun w => w ((h2 w).symm.trans z)))⟩⟩) (hP.sub [0, 1, 2, 3, 4, 5] rfl) (hD.sub [0, 1, 2, 3, 4, 5] (by decide) rfl) hS
    | succ n ih_7 =>
      intro i Pa fv za qa hni hza hq hiP hmu H locs hP hD hS ls hl
      have hni_7 := hni
      have hi : i < 240 := by omega
      refine lv_iload_n hx hb dX2_readSum_7 rfl (lv_at hl 2 rfl) ?_
      refine lv_sipush (v := 240) hx hb dX2_readSum_8 (by decide) ?_
      refine lv_icmp_ge (tgt := 90) hx hb dX2_readSum_11 (by decide) (fun c_11 => absurd c_11 (nI_ge hi (by decide))) (fun _ => ?_)
      refine lv_aload_n hx hb dX2_readSum_14 rfl (lv_at hl 0 rfl) ?_
      refine va_get (D := D) (ci := 2) (v := .ref tx) (C := RX2) (T := TX2) (N := 2) hx hb htb itX2 hown hK hP 0 rfl rfl 0 (by decide) (htb _ k_288) (fun _ h9 => h9) rfl dX2_readSum_15 ?_
      refine cVR (As := []) (rest := []) (n := 0) (ci := 6) (q0 := 0) X hN hK hP (c_signP l D cI cB tx tp N Pa fv by_ T fb hT hNT hq.2.2.2.1) (gV k_483 k_484 k_485 k_98 k_486) (by decide +kernel) ⟨Nat.le_of_ble_eq_true rfl, Nat.le_of_ble_eq_true rfl⟩ ⟨rfl, rfl⟩ [1, 2, 3] rfl rfl rfl rfl rfl rfl hl.1 (Nat.le_of_ble_eq_true rfl) dX2_readSum_18 ⟨Nat.le_of_ble_eq_true rfl, Nat.le_of_ble_eq_true rfl⟩ (fun r_7 hr_7 => ?_)
      subst hr_7
      refine lv_bipush (v := 43) hx hb dX2_readSum_21 (by decide) ?_
      refine lv_icmp_eq (tgt := 38) hx hb dX2_readSum_23 (by decide) (fun c_23 => ?_) (fun c_23 => ?_)
      · obtain ⟨hf0, hlt, hs5⟩ := sQs (sgA (Or.inl c_23))
        subst hf0
        refine lv_aload_n hx hb dX2_readSum_38 rfl (lv_at hl 0 rfl) ?_
        refine va_get (D := D) (ci := 2) (v := .ref tx) (C := RX2) (T := TX2) (N := 2) hx hb htb itX2 hown hK hP 0 rfl rfl 0 (by decide) (htb _ k_288) (fun _ h9 => h9) rfl dX2_readSum_39 ?_
        refine cVR (As := []) (rest := []) (n := 0) (ci := 6) (q0 := 0) X hN hK hP (c_signP l D cI cB tx tp N Pa 0 by_ T fb hT hNT hq.2.2.2.1) (gV k_483 k_484 k_485 k_98 k_486) (by decide +kernel) ⟨Nat.le_of_ble_eq_true rfl, Nat.le_of_ble_eq_true rfl⟩ ⟨rfl, rfl⟩ [1, 2, 3] rfl rfl rfl rfl rfl rfl hl.1 (Nat.le_of_ble_eq_true rfl) dX2_readSum_42 ⟨Nat.le_of_ble_eq_true rfl, Nat.le_of_ble_eq_true rfl⟩ (fun r_8 hr_8 => ?_)
        subst hr_8
        refine lv_bipush (v := 43) hx hb dX2_readSum_45 (by decide) ?_
        refine lv_icmp_ne (tgt := 54) hx hb dX2_readSum_47 (by decide) (fun c_47 => ?_) (fun c_47 => ?_)
        · refine lv_bipush (v := 6) hx hb dX2_readSum_54 (by decide) ?_
          refine lv_istore_n (lv' := [(3, .int 6), (0, .ref h0), (1, .int 5), (2, .int (nI i))]) hx hb dX2_readSum_56 rfl hl (by decide) rfl (fun ls hl => ?_)
          refine lv_aload_n hx hb dX2_readSum_57 rfl (lv_at hl 1 rfl) ?_
          refine va_get (D := D) (ci := 2) (v := .ref tx) (C := RX2) (T := TX2) (N := 2) hx hb htb itX2 hown hK hP 0 rfl rfl 0 (by decide) (htb _ k_288) (fun _ h9 => h9) rfl dX2_readSum_58 ?_
          refine lv_dup hx hb dX2_readSum_61 rfl ?_
          refine va_getN (D := D) (ci := 6) (v := .int (nI Pa)) (C := RX6) (T := TX6) (N := 4) hx hb htb itX6 hown hK hP 1 rfl rfl 2 (by decide) (va_Nw.use rfl (hN _ n_264 rfl)) (fun _ h9 => h9) rfl dX2_readSum_62 ?_
          refine lv_iconst (v := 1) hx hb dX2_readSum_65 (by decide) ?_
          refine lv_iadd hx hb dX2_readSum_66 ?_
          refine tv (z := (nI (Pa + 1))) (nI_1 Pa) ?_
          refine va_putN (D := D) (ci := 6) (v := .int (nI (Pa + 1))) (ty := .int) (C := RX6) (T := TX6) (N := 4) hx hb htb itX6 tyX6 tyX6_ok nmX6 hown hK hP hD hS 1 rfl rfl 2 (by decide) (va_Nw.use rfl (hN _ n_264 rfl)) (fun _ h9 => h9) rfl (tyX6_ok 2 (by decide)) rfl rfl (Nat.le_of_ble_eq_true rfl) dX2_readSum_67 (fun H locs hP hD hS => ?_)
          have hP : va_P D vwCl [(h0, .inr (2, [.ref tx, .ref lw])), (tx, .inr (6, [.ref tp, .int (nI N), .int (nI (Pa + 1)), .int 0])), (tp, .inr (5, [.ref by_, .int (nI T)])), (by_, .inl (cI, 260, .inl fb)), (lw, .inr (1, [.ref l1, .ref l2, .ref l3, .ref l4, .ref l5, .ref l6, .ref l7, .int (nI za), .int (nI k)])), (l1, .inl (cI, 240, .inl qa))] H := hP
          have hD : va_D A [(h0, .inr (2, [.ref tx, .ref lw])), (tx, .inr (6, [.ref tp, .int (nI N), .int (nI (Pa + 1)), .int 0])), (tp, .inr (5, [.ref by_, .int (nI T)])), (by_, .inl (cI, 260, .inl fb)), (lw, .inr (1, [.ref l1, .ref l2, .ref l3, .ref l4, .ref l5, .ref l6, .ref l7, .int (nI za), .int (nI k)])), (l1, .inl (cI, 240, .inl qa))] := hD
          refine lv_aload_n hx hb dX2_readSum_70 rfl (lv_at hl 1 rfl) ?_
          refine lv_iload_n hx hb dX2_readSum_71 rfl (lv_at hl 2 rfl) ?_
          refine cVVk (As := [.int 5]) (rest := []) (n := 1) (ci := 2) (q0 := 0) (wr := []) X hN hKO hK hP hD hS hA (c_rtP_5 l D cI cB _ kk h0 tx tp N (Pa + 1) 0 by_ T fb lw l1 l2 l3 l4 l5 l6 l7 za k qa hT hNT (by omega) hN2 (Or.inl rfl) hbr hza hk) (gV k_585 k_587 k_3 k_99 k_588) (by decide +kernel) ⟨Nat.le_of_ble_eq_true rfl, Nat.le_of_ble_eq_true rfl⟩ ⟨rfl, rfl⟩ [0, 1, 2, 3, 4, 5] [] rfl rfl (by decide) (by decide) rfl rfl rfl rfl rfl hl.1 (Nat.le_of_ble_eq_true rfl) dX2_readSum_72 ⟨Nat.le_of_ble_eq_true rfl, Nat.le_of_ble_eq_true rfl⟩ (fun u H locs hw_14 hP hD hS => ?_)
          obtain ⟨Po_10, fo_11, zo_12, l1o_13⟩ := u
          try dsimp only at hw_14
          have hP : va_P D vwCl [(h0, .inr (2, [.ref tx, .ref lw])), (tx, .inr (6, [.ref tp, .int (nI N), .int (nI Po_10), .int fo_11])), (tp, .inr (5, [.ref by_, .int (nI T)])), (by_, .inl (cI, 260, .inl fb)), (lw, .inr (1, [.ref l1, .ref l2, .ref l3, .ref l4, .ref l5, .ref l6, .ref l7, .int (nI zo_12), .int (nI k)])), (l1, .inl (cI, 240, .inl l1o_13))] H := hP
          have hD : va_D A [(h0, .inr (2, [.ref tx, .ref lw])), (tx, .inr (6, [.ref tp, .int (nI N), .int (nI Po_10), .int fo_11])), (tp, .inr (5, [.ref by_, .int (nI T)])), (by_, .inl (cI, 260, .inl fb)), (lw, .inr (1, [.ref l1, .ref l2, .ref l3, .ref l4, .ref l5, .ref l6, .ref l7, .int (nI zo_12), .int (nI k)])), (l1, .inl (cI, 240, .inl l1o_13))] := hD
          refine lv_aload_n hx hb dX2_readSum_75 rfl (lv_at hl 1 rfl) ?_
          refine va_get (D := D) (ci := 2) (v := .ref lw) (C := RX2) (T := TX2) (N := 2) hx hb htb itX2 hown hK hP 0 rfl rfl 1 (by decide) (htb _ k_289) (fun _ h9 => h9) rfl dX2_readSum_76 ?_
          refine lv_iload_n hx hb dX2_readSum_79 rfl (lv_at hl 0 rfl) ?_
          refine lv_iconst (v := 0) hx hb dX2_readSum_80 (by decide) ?_
          refine cVV (As := [.int 6, .int 0]) (rest := []) (n := 2) (ci := 1) (q0 := 0) (wr := [(h0, .inr (2, [.ref tx, .ref lw])), (tx, .inr (6, [.ref tp, .int (nI N), .int (nI Po_10), .int fo_11])), (tp, .inr (5, [.ref by_, .int (nI T)])), (by_, .inl (cI, 260, .inl fb))]) X hN hK hP hD hS hA (c_X1_addStep l D cI cB _ lw l1 l2 l3 l4 l5 l6 l7 zo_12 k 6 0 l1o_13 hw_14.1 hk) (gV k_594 k_595 k_596 k_97 k_597) (by decide +kernel) ⟨Nat.le_of_ble_eq_true rfl, Nat.le_of_ble_eq_true rfl⟩ ⟨rfl, rfl⟩ [4, 5] [0, 1, 2, 3] rfl rfl (by decide) (by decide) rfl rfl rfl rfl rfl hl.1 (Nat.le_of_ble_eq_true rfl) dX2_readSum_81 ⟨Nat.le_of_ble_eq_true rfl, Nat.le_of_ble_eq_true rfl⟩ (fun u H locs hw_18 hP hD hS => ?_)
          obtain ⟨zo_16, l1_fo_17⟩ := u
          try dsimp only at hw_18
          have hP : va_P D vwCl [(h0, .inr (2, [.ref tx, .ref lw])), (tx, .inr (6, [.ref tp, .int (nI N), .int (nI Po_10), .int fo_11])), (tp, .inr (5, [.ref by_, .int (nI T)])), (by_, .inl (cI, 260, .inl fb)), (lw, .inr (1, [.ref l1, .ref l2, .ref l3, .ref l4, .ref l5, .ref l6, .ref l7, .int (nI zo_16), .int (nI k)])), (l1, .inl (cI, 240, .inl l1_fo_17))] H := hP
          have hD : va_D A [(h0, .inr (2, [.ref tx, .ref lw])), (tx, .inr (6, [.ref tp, .int (nI N), .int (nI Po_10), .int fo_11])), (tp, .inr (5, [.ref by_, .int (nI T)])), (by_, .inl (cI, 260, .inl fb)), (lw, .inr (1, [.ref l1, .ref l2, .ref l3, .ref l4, .ref l5, .ref l6, .ref l7, .int (nI zo_16), .int (nI k)])), (l1, .inl (cI, 240, .inl l1_fo_17))] := hD
          refine lv_iinc (v := (nI (i + 1))) (lv' := [(2, .int (nI (i + 1))), (3, .int 6), (0, .ref h0), (1, .int 5)]) hx hb dX2_readSum_84 hl (k := 3) rfl (nI_1 i) (by decide) rfl (fun ls hl => ?_)
          refine lv_goto (tgt := 7) hx hb dX2_readSum_87 (by decide) ?_
          exact ih_7 (i + 1) Po_10 fo_11 zo_16 l1_fo_17 (by omega) hw_18 (hq.more hs5 hw_14.2.1) (fun z w => by have := (((hw_14.2.1.2.2.2.2 rfl).1 z).1); have := hiP rfl w; omega) hw_14.2.2 _ _ (hP.sub [0, 1, 2, 3, 4, 5] rfl) (hD.sub [0, 1, 2, 3, 4, 5] (by decide) rfl) hS _ (lv_sub hl [2, 3, 0] rfl)
        · refine lv_iconst (v := 5) hx hb dX2_readSum_50 (by decide) ?_
          refine lv_goto (tgt := 56) hx hb dX2_readSum_51 (by decide) ?_
          refine lv_istore_n (lv' := [(3, .int 5), (0, .ref h0), (1, .int 5), (2, .int (nI i))]) hx hb dX2_readSum_56 rfl hl (by decide) rfl (fun ls hl => ?_)
          refine lv_aload_n hx hb dX2_readSum_57 rfl (lv_at hl 1 rfl) ?_
          refine va_get (D := D) (ci := 2) (v := .ref tx) (C := RX2) (T := TX2) (N := 2) hx hb htb itX2 hown hK hP 0 rfl rfl 0 (by decide) (htb _ k_288) (fun _ h9 => h9) rfl dX2_readSum_58 ?_
          refine lv_dup hx hb dX2_readSum_61 rfl ?_
          refine va_getN (D := D) (ci := 6) (v := .int (nI Pa)) (C := RX6) (T := TX6) (N := 4) hx hb htb itX6 hown hK hP 1 rfl rfl 2 (by decide) (va_Nw.use rfl (hN _ n_264 rfl)) (fun _ h9 => h9) rfl dX2_readSum_62 ?_
          refine lv_iconst (v := 1) hx hb dX2_readSum_65 (by decide) ?_
          refine lv_iadd hx hb dX2_readSum_66 ?_
          refine tv (z := (nI (Pa + 1))) (nI_1 Pa) ?_
          refine va_putN (D := D) (ci := 6) (v := .int (nI (Pa + 1))) (ty := .int) (C := RX6) (T := TX6) (N := 4) hx hb htb itX6 tyX6 tyX6_ok nmX6 hown hK hP hD hS 1 rfl rfl 2 (by decide) (va_Nw.use rfl (hN _ n_264 rfl)) (fun _ h9 => h9) rfl (tyX6_ok 2 (by decide)) rfl rfl (Nat.le_of_ble_eq_true rfl) dX2_readSum_67 (fun H locs hP hD hS => ?_)
          have hP : va_P D vwCl [(h0, .inr (2, [.ref tx, .ref lw])), (tx, .inr (6, [.ref tp, .int (nI N), .int (nI (Pa + 1)), .int 0])), (tp, .inr (5, [.ref by_, .int (nI T)])), (by_, .inl (cI, 260, .inl fb)), (lw, .inr (1, [.ref l1, .ref l2, .ref l3, .ref l4, .ref l5, .ref l6, .ref l7, .int (nI za), .int (nI k)])), (l1, .inl (cI, 240, .inl qa))] H := hP
          have hD : va_D A [(h0, .inr (2, [.ref tx, .ref lw])), (tx, .inr (6, [.ref tp, .int (nI N), .int (nI (Pa + 1)), .int 0])), (tp, .inr (5, [.ref by_, .int (nI T)])), (by_, .inl (cI, 260, .inl fb)), (lw, .inr (1, [.ref l1, .ref l2, .ref l3, .ref l4, .ref l5, .ref l6, .ref l7, .int (nI za), .int (nI k)])), (l1, .inl (cI, 240, .inl qa))] := hD
          refine lv_aload_n hx hb dX2_readSum_70 rfl (lv_at hl 1 rfl) ?_
          refine lv_iload_n hx hb dX2_readSum_71 rfl (lv_at hl 2 rfl) ?_
          refine cVVk (As := [.int 5]) (rest := []) (n := 1) (ci := 2) (q0 := 0) (wr := []) X hN hKO hK hP hD hS hA (c_rtP_5 l D cI cB _ kk h0 tx tp N (Pa + 1) 0 by_ T fb lw l1 l2 l3 l4 l5 l6 l7 za k qa hT hNT (by omega) hN2 (Or.inl rfl) hbr hza hk) (gV k_585 k_587 k_3 k_99 k_588) (by decide +kernel) ⟨Nat.le_of_ble_eq_true rfl, Nat.le_of_ble_eq_true rfl⟩ ⟨rfl, rfl⟩ [0, 1, 2, 3, 4, 5] [] rfl rfl (by decide) (by decide) rfl rfl rfl rfl rfl hl.1 (Nat.le_of_ble_eq_true rfl) dX2_readSum_72 ⟨Nat.le_of_ble_eq_true rfl, Nat.le_of_ble_eq_true rfl⟩ (fun u H locs hw_24 hP hD hS => ?_)
          obtain ⟨Po_20, fo_21, zo_22, l1o_23⟩ := u
          try dsimp only at hw_24
          have hP : va_P D vwCl [(h0, .inr (2, [.ref tx, .ref lw])), (tx, .inr (6, [.ref tp, .int (nI N), .int (nI Po_20), .int fo_21])), (tp, .inr (5, [.ref by_, .int (nI T)])), (by_, .inl (cI, 260, .inl fb)), (lw, .inr (1, [.ref l1, .ref l2, .ref l3, .ref l4, .ref l5, .ref l6, .ref l7, .int (nI zo_22), .int (nI k)])), (l1, .inl (cI, 240, .inl l1o_23))] H := hP
          have hD : va_D A [(h0, .inr (2, [.ref tx, .ref lw])), (tx, .inr (6, [.ref tp, .int (nI N), .int (nI Po_20), .int fo_21])), (tp, .inr (5, [.ref by_, .int (nI T)])), (by_, .inl (cI, 260, .inl fb)), (lw, .inr (1, [.ref l1, .ref l2, .ref l3, .ref l4, .ref l5, .ref l6, .ref l7, .int (nI zo_22), .int (nI k)])), (l1, .inl (cI, 240, .inl l1o_23))] := hD
          refine lv_aload_n hx hb dX2_readSum_75 rfl (lv_at hl 1 rfl) ?_
          refine va_get (D := D) (ci := 2) (v := .ref lw) (C := RX2) (T := TX2) (N := 2) hx hb htb itX2 hown hK hP 0 rfl rfl 1 (by decide) (htb _ k_289) (fun _ h9 => h9) rfl dX2_readSum_76 ?_
          refine lv_iload_n hx hb dX2_readSum_79 rfl (lv_at hl 0 rfl) ?_
          refine lv_iconst (v := 0) hx hb dX2_readSum_80 (by decide) ?_
          refine cVV (As := [.int 5, .int 0]) (rest := []) (n := 2) (ci := 1) (q0 := 0) (wr := [(h0, .inr (2, [.ref tx, .ref lw])), (tx, .inr (6, [.ref tp, .int (nI N), .int (nI Po_20), .int fo_21])), (tp, .inr (5, [.ref by_, .int (nI T)])), (by_, .inl (cI, 260, .inl fb))]) X hN hK hP hD hS hA (c_X1_addStep l D cI cB _ lw l1 l2 l3 l4 l5 l6 l7 zo_22 k 5 0 l1o_23 hw_24.1 hk) (gV k_594 k_595 k_596 k_97 k_597) (by decide +kernel) ⟨Nat.le_of_ble_eq_true rfl, Nat.le_of_ble_eq_true rfl⟩ ⟨rfl, rfl⟩ [4, 5] [0, 1, 2, 3] rfl rfl (by decide) (by decide) rfl rfl rfl rfl rfl hl.1 (Nat.le_of_ble_eq_true rfl) dX2_readSum_81 ⟨Nat.le_of_ble_eq_true rfl, Nat.le_of_ble_eq_true rfl⟩ (fun u H locs hw_28 hP hD hS => ?_)
          obtain ⟨zo_26, l1_fo_27⟩ := u
          try dsimp only at hw_28
          have hP : va_P D vwCl [(h0, .inr (2, [.ref tx, .ref lw])), (tx, .inr (6, [.ref tp, .int (nI N), .int (nI Po_20), .int fo_21])), (tp, .inr (5, [.ref by_, .int (nI T)])), (by_, .inl (cI, 260, .inl fb)), (lw, .inr (1, [.ref l1, .ref l2, .ref l3, .ref l4, .ref l5, .ref l6, .ref l7, .int (nI zo_26), .int (nI k)])), (l1, .inl (cI, 240, .inl l1_fo_27))] H := hP
          have hD : va_D A [(h0, .inr (2, [.ref tx, .ref lw])), (tx, .inr (6, [.ref tp, .int (nI N), .int (nI Po_20), .int fo_21])), (tp, .inr (5, [.ref by_, .int (nI T)])), (by_, .inl (cI, 260, .inl fb)), (lw, .inr (1, [.ref l1, .ref l2, .ref l3, .ref l4, .ref l5, .ref l6, .ref l7, .int (nI zo_26), .int (nI k)])), (l1, .inl (cI, 240, .inl l1_fo_27))] := hD
          refine lv_iinc (v := (nI (i + 1))) (lv' := [(2, .int (nI (i + 1))), (3, .int 5), (0, .ref h0), (1, .int 5)]) hx hb dX2_readSum_84 hl (k := 3) rfl (nI_1 i) (by decide) rfl (fun ls hl => ?_)
          refine lv_goto (tgt := 7) hx hb dX2_readSum_87 (by decide) ?_
          exact ih_7 (i + 1) Po_20 fo_21 zo_26 l1_fo_27 (by omega) hw_28 (hq.more hs5 hw_24.2.1) (fun z w => by have := (((hw_24.2.1.2.2.2.2 rfl).1 z).1); have := hiP rfl w; omega) hw_24.2.2 _ _ (hP.sub [0, 1, 2, 3, 4, 5] rfl) (hD.sub [0, 1, 2, 3, 4, 5] (by decide) rfl) hS _ (lv_sub hl [2, 3, 0] rfl)
      · refine lv_aload_n hx hb dX2_readSum_26 rfl (lv_at hl 0 rfl) ?_
        refine va_get (D := D) (ci := 2) (v := .ref tx) (C := RX2) (T := TX2) (N := 2) hx hb htb itX2 hown hK hP 0 rfl rfl 0 (by decide) (htb _ k_288) (fun _ h9 => h9) rfl dX2_readSum_27 ?_
        refine cVR (As := []) (rest := []) (n := 0) (ci := 6) (q0 := 0) X hN hK hP (c_signP l D cI cB tx tp N Pa fv by_ T fb hT hNT hq.2.2.2.1) (gV k_483 k_484 k_485 k_98 k_486) (by decide +kernel) ⟨Nat.le_of_ble_eq_true rfl, Nat.le_of_ble_eq_true rfl⟩ ⟨rfl, rfl⟩ [1, 2, 3] rfl rfl rfl rfl rfl rfl hl.1 (Nat.le_of_ble_eq_true rfl) dX2_readSum_30 ⟨Nat.le_of_ble_eq_true rfl, Nat.le_of_ble_eq_true rfl⟩ (fun r_29 hr_29 => ?_)
        subst hr_29
        refine lv_bipush (v := 45) hx hb dX2_readSum_33 (by decide) ?_
        refine lv_icmp_ne (tgt := 90) hx hb dX2_readSum_35 (by decide) (fun c_35 => ?_) (fun c_35 => ?_)
        · exact ret _ _ _ _ (Pa, fv, za, qa) dX2_readSum_90 (⟨hza, ⟨hq, fun (z : fv = 0) => by have w1 := c_23; have w2 := c_35; rw [z, sQ0] at w1 w2; exact fun y => y.elim (fun a => a.elim w1 w2) (hmu z)⟩⟩) (hP.sub [0, 1, 2, 3, 4, 5] rfl) (hD.sub [0, 1, 2, 3, 4, 5] (by decide) rfl) hS
        · obtain ⟨hf0, hlt, hs5⟩ := sQs (sgA (Or.inr c_35))
          subst hf0
          refine lv_aload_n hx hb dX2_readSum_38 rfl (lv_at hl 0 rfl) ?_
          refine va_get (D := D) (ci := 2) (v := .ref tx) (C := RX2) (T := TX2) (N := 2) hx hb htb itX2 hown hK hP 0 rfl rfl 0 (by decide) (htb _ k_288) (fun _ h9 => h9) rfl dX2_readSum_39 ?_
          refine cVR (As := []) (rest := []) (n := 0) (ci := 6) (q0 := 0) X hN hK hP (c_signP l D cI cB tx tp N Pa 0 by_ T fb hT hNT hq.2.2.2.1) (gV k_483 k_484 k_485 k_98 k_486) (by decide +kernel) ⟨Nat.le_of_ble_eq_true rfl, Nat.le_of_ble_eq_true rfl⟩ ⟨rfl, rfl⟩ [1, 2, 3] rfl rfl rfl rfl rfl rfl hl.1 (Nat.le_of_ble_eq_true rfl) dX2_readSum_42 ⟨Nat.le_of_ble_eq_true rfl, Nat.le_of_ble_eq_true rfl⟩ (fun r_30 hr_30 => ?_)
          subst hr_30
          refine lv_bipush (v := 43) hx hb dX2_readSum_45 (by decide) ?_
          refine lv_icmp_ne (tgt := 54) hx hb dX2_readSum_47 (by decide) (fun c_47 => ?_) (fun c_47 => ?_)
          · refine lv_bipush (v := 6) hx hb dX2_readSum_54 (by decide) ?_
            refine lv_istore_n (lv' := [(3, .int 6), (0, .ref h0), (1, .int 5), (2, .int (nI i))]) hx hb dX2_readSum_56 rfl hl (by decide) rfl (fun ls hl => ?_)
            refine lv_aload_n hx hb dX2_readSum_57 rfl (lv_at hl 1 rfl) ?_
            refine va_get (D := D) (ci := 2) (v := .ref tx) (C := RX2) (T := TX2) (N := 2) hx hb htb itX2 hown hK hP 0 rfl rfl 0 (by decide) (htb _ k_288) (fun _ h9 => h9) rfl dX2_readSum_58 ?_
            refine lv_dup hx hb dX2_readSum_61 rfl ?_
            refine va_getN (D := D) (ci := 6) (v := .int (nI Pa)) (C := RX6) (T := TX6) (N := 4) hx hb htb itX6 hown hK hP 1 rfl rfl 2 (by decide) (va_Nw.use rfl (hN _ n_264 rfl)) (fun _ h9 => h9) rfl dX2_readSum_62 ?_
            refine lv_iconst (v := 1) hx hb dX2_readSum_65 (by decide) ?_
            refine lv_iadd hx hb dX2_readSum_66 ?_
            refine tv (z := (nI (Pa + 1))) (nI_1 Pa) ?_
            refine va_putN (D := D) (ci := 6) (v := .int (nI (Pa + 1))) (ty := .int) (C := RX6) (T := TX6) (N := 4) hx hb htb itX6 tyX6 tyX6_ok nmX6 hown hK hP hD hS 1 rfl rfl 2 (by decide) (va_Nw.use rfl (hN _ n_264 rfl)) (fun _ h9 => h9) rfl (tyX6_ok 2 (by decide)) rfl rfl (Nat.le_of_ble_eq_true rfl) dX2_readSum_67 (fun H locs hP hD hS => ?_)
            have hP : va_P D vwCl [(h0, .inr (2, [.ref tx, .ref lw])), (tx, .inr (6, [.ref tp, .int (nI N), .int (nI (Pa + 1)), .int 0])), (tp, .inr (5, [.ref by_, .int (nI T)])), (by_, .inl (cI, 260, .inl fb)), (lw, .inr (1, [.ref l1, .ref l2, .ref l3, .ref l4, .ref l5, .ref l6, .ref l7, .int (nI za), .int (nI k)])), (l1, .inl (cI, 240, .inl qa))] H := hP
            have hD : va_D A [(h0, .inr (2, [.ref tx, .ref lw])), (tx, .inr (6, [.ref tp, .int (nI N), .int (nI (Pa + 1)), .int 0])), (tp, .inr (5, [.ref by_, .int (nI T)])), (by_, .inl (cI, 260, .inl fb)), (lw, .inr (1, [.ref l1, .ref l2, .ref l3, .ref l4, .ref l5, .ref l6, .ref l7, .int (nI za), .int (nI k)])), (l1, .inl (cI, 240, .inl qa))] := hD
            refine lv_aload_n hx hb dX2_readSum_70 rfl (lv_at hl 1 rfl) ?_
            refine lv_iload_n hx hb dX2_readSum_71 rfl (lv_at hl 2 rfl) ?_
            refine cVVk (As := [.int 5]) (rest := []) (n := 1) (ci := 2) (q0 := 0) (wr := []) X hN hKO hK hP hD hS hA (c_rtP_5 l D cI cB _ kk h0 tx tp N (Pa + 1) 0 by_ T fb lw l1 l2 l3 l4 l5 l6 l7 za k qa hT hNT (by omega) hN2 (Or.inl rfl) hbr hza hk) (gV k_585 k_587 k_3 k_99 k_588) (by decide +kernel) ⟨Nat.le_of_ble_eq_true rfl, Nat.le_of_ble_eq_true rfl⟩ ⟨rfl, rfl⟩ [0, 1, 2, 3, 4, 5] [] rfl rfl (by decide) (by decide) rfl rfl rfl rfl rfl hl.1 (Nat.le_of_ble_eq_true rfl) dX2_readSum_72 ⟨Nat.le_of_ble_eq_true rfl, Nat.le_of_ble_eq_true rfl⟩ (fun u H locs hw_36 hP hD hS => ?_)
            obtain ⟨Po_32, fo_33, zo_34, l1o_35⟩ := u
            try dsimp only at hw_36
            have hP : va_P D vwCl [(h0, .inr (2, [.ref tx, .ref lw])), (tx, .inr (6, [.ref tp, .int (nI N), .int (nI Po_32), .int fo_33])), (tp, .inr (5, [.ref by_, .int (nI T)])), (by_, .inl (cI, 260, .inl fb)), (lw, .inr (1, [.ref l1, .ref l2, .ref l3, .ref l4, .ref l5, .ref l6, .ref l7, .int (nI zo_34), .int (nI k)])), (l1, .inl (cI, 240, .inl l1o_35))] H := hP
            have hD : va_D A [(h0, .inr (2, [.ref tx, .ref lw])), (tx, .inr (6, [.ref tp, .int (nI N), .int (nI Po_32), .int fo_33])), (tp, .inr (5, [.ref by_, .int (nI T)])), (by_, .inl (cI, 260, .inl fb)), (lw, .inr (1, [.ref l1, .ref l2, .ref l3, .ref l4, .ref l5, .ref l6, .ref l7, .int (nI zo_34), .int (nI k)])), (l1, .inl (cI, 240, .inl l1o_35))] := hD
            refine lv_aload_n hx hb dX2_readSum_75 rfl (lv_at hl 1 rfl) ?_
            refine va_get (D := D) (ci := 2) (v := .ref lw) (C := RX2) (T := TX2) (N := 2) hx hb htb itX2 hown hK hP 0 rfl rfl 1 (by decide) (htb _ k_289) (fun _ h9 => h9) rfl dX2_readSum_76 ?_
            refine lv_iload_n hx hb dX2_readSum_79 rfl (lv_at hl 0 rfl) ?_
            refine lv_iconst (v := 0) hx hb dX2_readSum_80 (by decide) ?_
            refine cVV (As := [.int 6, .int 0]) (rest := []) (n := 2) (ci := 1) (q0 := 0) (wr := [(h0, .inr (2, [.ref tx, .ref lw])), (tx, .inr (6, [.ref tp, .int (nI N), .int (nI Po_32), .int fo_33])), (tp, .inr (5, [.ref by_, .int (nI T)])), (by_, .inl (cI, 260, .inl fb))]) X hN hK hP hD hS hA (c_X1_addStep l D cI cB _ lw l1 l2 l3 l4 l5 l6 l7 zo_34 k 6 0 l1o_35 hw_36.1 hk) (gV k_594 k_595 k_596 k_97 k_597) (by decide +kernel) ⟨Nat.le_of_ble_eq_true rfl, Nat.le_of_ble_eq_true rfl⟩ ⟨rfl, rfl⟩ [4, 5] [0, 1, 2, 3] rfl rfl (by decide) (by decide) rfl rfl rfl rfl rfl hl.1 (Nat.le_of_ble_eq_true rfl) dX2_readSum_81 ⟨Nat.le_of_ble_eq_true rfl, Nat.le_of_ble_eq_true rfl⟩ (fun u H locs hw_40 hP hD hS => ?_)
            obtain ⟨zo_38, l1_fo_39⟩ := u
            try dsimp only at hw_40
            have hP : va_P D vwCl [(h0, .inr (2, [.ref tx, .ref lw])), (tx, .inr (6, [.ref tp, .int (nI N), .int (nI Po_32), .int fo_33])), (tp, .inr (5, [.ref by_, .int (nI T)])), (by_, .inl (cI, 260, .inl fb)), (lw, .inr (1, [.ref l1, .ref l2, .ref l3, .ref l4, .ref l5, .ref l6, .ref l7, .int (nI zo_38), .int (nI k)])), (l1, .inl (cI, 240, .inl l1_fo_39))] H := hP
            have hD : va_D A [(h0, .inr (2, [.ref tx, .ref lw])), (tx, .inr (6, [.ref tp, .int (nI N), .int (nI Po_32), .int fo_33])), (tp, .inr (5, [.ref by_, .int (nI T)])), (by_, .inl (cI, 260, .inl fb)), (lw, .inr (1, [.ref l1, .ref l2, .ref l3, .ref l4, .ref l5, .ref l6, .ref l7, .int (nI zo_38), .int (nI k)])), (l1, .inl (cI, 240, .inl l1_fo_39))] := hD
            refine lv_iinc (v := (nI (i + 1))) (lv' := [(2, .int (nI (i + 1))), (3, .int 6), (0, .ref h0), (1, .int 5)]) hx hb dX2_readSum_84 hl (k := 3) rfl (nI_1 i) (by decide) rfl (fun ls hl => ?_)
            refine lv_goto (tgt := 7) hx hb dX2_readSum_87 (by decide) ?_
            exact ih_7 (i + 1) Po_32 fo_33 zo_38 l1_fo_39 (by omega) hw_40 (hq.more hs5 hw_36.2.1) (fun z w => by have := (((hw_36.2.1.2.2.2.2 rfl).1 z).1); have := hiP rfl w; omega) hw_36.2.2 _ _ (hP.sub [0, 1, 2, 3, 4, 5] rfl) (hD.sub [0, 1, 2, 3, 4, 5] (by decide) rfl) hS _ (lv_sub hl [2, 3, 0] rfl)
          · refine lv_iconst (v := 5) hx hb dX2_readSum_50 (by decide) ?_
            refine lv_goto (tgt := 56) hx hb dX2_readSum_51 (by decide) ?_
            refine lv_istore_n (lv' := [(3, .int 5), (0, .ref h0), (1, .int 5), (2, .int (nI i))]) hx hb dX2_readSum_56 rfl hl (by decide) rfl (fun ls hl => ?_)
            refine lv_aload_n hx hb dX2_readSum_57 rfl (lv_at hl 1 rfl) ?_
            refine va_get (D := D) (ci := 2) (v := .ref tx) (C := RX2) (T := TX2) (N := 2) hx hb htb itX2 hown hK hP 0 rfl rfl 0 (by decide) (htb _ k_288) (fun _ h9 => h9) rfl dX2_readSum_58 ?_
            refine lv_dup hx hb dX2_readSum_61 rfl ?_
            refine va_getN (D := D) (ci := 6) (v := .int (nI Pa)) (C := RX6) (T := TX6) (N := 4) hx hb htb itX6 hown hK hP 1 rfl rfl 2 (by decide) (va_Nw.use rfl (hN _ n_264 rfl)) (fun _ h9 => h9) rfl dX2_readSum_62 ?_
            refine lv_iconst (v := 1) hx hb dX2_readSum_65 (by decide) ?_
            refine lv_iadd hx hb dX2_readSum_66 ?_
            refine tv (z := (nI (Pa + 1))) (nI_1 Pa) ?_
            refine va_putN (D := D) (ci := 6) (v := .int (nI (Pa + 1))) (ty := .int) (C := RX6) (T := TX6) (N := 4) hx hb htb itX6 tyX6 tyX6_ok nmX6 hown hK hP hD hS 1 rfl rfl 2 (by decide) (va_Nw.use rfl (hN _ n_264 rfl)) (fun _ h9 => h9) rfl (tyX6_ok 2 (by decide)) rfl rfl (Nat.le_of_ble_eq_true rfl) dX2_readSum_67 (fun H locs hP hD hS => ?_)
            have hP : va_P D vwCl [(h0, .inr (2, [.ref tx, .ref lw])), (tx, .inr (6, [.ref tp, .int (nI N), .int (nI (Pa + 1)), .int 0])), (tp, .inr (5, [.ref by_, .int (nI T)])), (by_, .inl (cI, 260, .inl fb)), (lw, .inr (1, [.ref l1, .ref l2, .ref l3, .ref l4, .ref l5, .ref l6, .ref l7, .int (nI za), .int (nI k)])), (l1, .inl (cI, 240, .inl qa))] H := hP
            have hD : va_D A [(h0, .inr (2, [.ref tx, .ref lw])), (tx, .inr (6, [.ref tp, .int (nI N), .int (nI (Pa + 1)), .int 0])), (tp, .inr (5, [.ref by_, .int (nI T)])), (by_, .inl (cI, 260, .inl fb)), (lw, .inr (1, [.ref l1, .ref l2, .ref l3, .ref l4, .ref l5, .ref l6, .ref l7, .int (nI za), .int (nI k)])), (l1, .inl (cI, 240, .inl qa))] := hD
            refine lv_aload_n hx hb dX2_readSum_70 rfl (lv_at hl 1 rfl) ?_
            refine lv_iload_n hx hb dX2_readSum_71 rfl (lv_at hl 2 rfl) ?_
            refine cVVk (As := [.int 5]) (rest := []) (n := 1) (ci := 2) (q0 := 0) (wr := []) X hN hKO hK hP hD hS hA (c_rtP_5 l D cI cB _ kk h0 tx tp N (Pa + 1) 0 by_ T fb lw l1 l2 l3 l4 l5 l6 l7 za k qa hT hNT (by omega) hN2 (Or.inl rfl) hbr hza hk) (gV k_585 k_587 k_3 k_99 k_588) (by decide +kernel) ⟨Nat.le_of_ble_eq_true rfl, Nat.le_of_ble_eq_true rfl⟩ ⟨rfl, rfl⟩ [0, 1, 2, 3, 4, 5] [] rfl rfl (by decide) (by decide) rfl rfl rfl rfl rfl hl.1 (Nat.le_of_ble_eq_true rfl) dX2_readSum_72 ⟨Nat.le_of_ble_eq_true rfl, Nat.le_of_ble_eq_true rfl⟩ (fun u H locs hw_46 hP hD hS => ?_)
            obtain ⟨Po_42, fo_43, zo_44, l1o_45⟩ := u
            try dsimp only at hw_46
            have hP : va_P D vwCl [(h0, .inr (2, [.ref tx, .ref lw])), (tx, .inr (6, [.ref tp, .int (nI N), .int (nI Po_42), .int fo_43])), (tp, .inr (5, [.ref by_, .int (nI T)])), (by_, .inl (cI, 260, .inl fb)), (lw, .inr (1, [.ref l1, .ref l2, .ref l3, .ref l4, .ref l5, .ref l6, .ref l7, .int (nI zo_44), .int (nI k)])), (l1, .inl (cI, 240, .inl l1o_45))] H := hP
            have hD : va_D A [(h0, .inr (2, [.ref tx, .ref lw])), (tx, .inr (6, [.ref tp, .int (nI N), .int (nI Po_42), .int fo_43])), (tp, .inr (5, [.ref by_, .int (nI T)])), (by_, .inl (cI, 260, .inl fb)), (lw, .inr (1, [.ref l1, .ref l2, .ref l3, .ref l4, .ref l5, .ref l6, .ref l7, .int (nI zo_44), .int (nI k)])), (l1, .inl (cI, 240, .inl l1o_45))] := hD
            refine lv_aload_n hx hb dX2_readSum_75 rfl (lv_at hl 1 rfl) ?_
            refine va_get (D := D) (ci := 2) (v := .ref lw) (C := RX2) (T := TX2) (N := 2) hx hb htb itX2 hown hK hP 0 rfl rfl 1 (by decide) (htb _ k_289) (fun _ h9 => h9) rfl dX2_readSum_76 ?_
            refine lv_iload_n hx hb dX2_readSum_79 rfl (lv_at hl 0 rfl) ?_
            refine lv_iconst (v := 0) hx hb dX2_readSum_80 (by decide) ?_
            refine cVV (As := [.int 5, .int 0]) (rest := []) (n := 2) (ci := 1) (q0 := 0) (wr := [(h0, .inr (2, [.ref tx, .ref lw])), (tx, .inr (6, [.ref tp, .int (nI N), .int (nI Po_42), .int fo_43])), (tp, .inr (5, [.ref by_, .int (nI T)])), (by_, .inl (cI, 260, .inl fb))]) X hN hK hP hD hS hA (c_X1_addStep l D cI cB _ lw l1 l2 l3 l4 l5 l6 l7 zo_44 k 5 0 l1o_45 hw_46.1 hk) (gV k_594 k_595 k_596 k_97 k_597) (by decide +kernel) ⟨Nat.le_of_ble_eq_true rfl, Nat.le_of_ble_eq_true rfl⟩ ⟨rfl, rfl⟩ [4, 5] [0, 1, 2, 3] rfl rfl (by decide) (by decide) rfl rfl rfl rfl rfl hl.1 (Nat.le_of_ble_eq_true rfl) dX2_readSum_81 ⟨Nat.le_of_ble_eq_true rfl, Nat.le_of_ble_eq_true rfl⟩ (fun u H locs hw_50 hP hD hS => ?_)
            obtain ⟨zo_48, l1_fo_49⟩ := u
            try dsimp only at hw_50
            have hP : va_P D vwCl [(h0, .inr (2, [.ref tx, .ref lw])), (tx, .inr (6, [.ref tp, .int (nI N), .int (nI Po_42), .int fo_43])), (tp, .inr (5, [.ref by_, .int (nI T)])), (by_, .inl (cI, 260, .inl fb)), (lw, .inr (1, [.ref l1, .ref l2, .ref l3, .ref l4, .ref l5, .ref l6, .ref l7, .int (nI zo_48), .int (nI k)])), (l1, .inl (cI, 240, .inl l1_fo_49))] H := hP
            have hD : va_D A [(h0, .inr (2, [.ref tx, .ref lw])), (tx, .inr (6, [.ref tp, .int (nI N), .int (nI Po_42), .int fo_43])), (tp, .inr (5, [.ref by_, .int (nI T)])), (by_, .inl (cI, 260, .inl fb)), (lw, .inr (1, [.ref l1, .ref l2, .ref l3, .ref l4, .ref l5, .ref l6, .ref l7, .int (nI zo_48), .int (nI k)])), (l1, .inl (cI, 240, .inl l1_fo_49))] := hD
            refine lv_iinc (v := (nI (i + 1))) (lv' := [(2, .int (nI (i + 1))), (3, .int 5), (0, .ref h0), (1, .int 5)]) hx hb dX2_readSum_84 hl (k := 3) rfl (nI_1 i) (by decide) rfl (fun ls hl => ?_)
            refine lv_goto (tgt := 7) hx hb dX2_readSum_87 (by decide) ?_
            exact ih_7 (i + 1) Po_42 fo_43 zo_48 l1_fo_49 (by omega) hw_50 (hq.more hs5 hw_46.2.1) (fun z w => by have := (((hw_46.2.1.2.2.2.2 rfl).1 z).1); have := hiP rfl w; omega) hw_46.2.2 _ _ (hP.sub [0, 1, 2, 3, 4, 5] rfl) (hD.sub [0, 1, 2, 3, 4, 5] (by decide) rfl) hS _ (lv_sub hl [2, 3, 0] rfl)
  exact loop_7 240 0 Po_2 fo_3 zo_4 l1o_5 (by omega) hw_6.1 hw_6.2.1 (fun z w => (((hw_6.2.1.2.2.2.2 w).1 z).1 |> fun y => by omega)) hw_6.2.2 _ _ (hP.sub [0, 1, 2, 3, 4, 5] rfl) (hD.sub [0, 1, 2, 3, 4, 5] (by decide) rfl) hS _ (lv_sub hl [1, 2, 0] rfl)

set_option maxRecDepth 100000 in
set_option maxHeartbeats 4000000 in
theorem c_rfP_4 (l : Launch) (D : va_G) (cI cB : ClassId) (sz : Nat) (kk : KT) (h0 : Nat) (tx : Nat) (tp : Nat) (N : Nat) (P : Nat) (fa : Int32) (by_ : Nat) (T : Nat) (fb : Nat → Int32) (lw : Nat) (l1 : Nat) (l2 : Nat) (l3 : Nat) (l4 : Nat) (l5 : Nat) (l6 : Nat) (l7 : Nat) (z : Nat) (k : Nat) (q1 : Nat → Int32) (hT : T ≤ 260) (hNT : N ≤ T) (hPN : P ≤ N) (hN2 : N ≤ 240) (hfa : fa = 0 ∨ fa < 0) (hbr : BR N fb) (hz : z ≤ 240) (hk : k ≤ 16) : MVk (S := ((Nat) × (Int32) × (Nat) × (Nat → Int32))) l D cI cB kk yX2_readFactor cX2_readFactor 3 (rm 11 249) [.ref h0, .int 4] [(h0, .inr (2, [.ref tx, .ref lw])), (tx, .inr (6, [.ref tp, .int (nI N), .int (nI P), .int fa])), (tp, .inr (5, [.ref by_, .int (nI T)])), (by_, .inl (cI, 260, .inl fb)), (lw, .inr (1, [.ref l1, .ref l2, .ref l3, .ref l4, .ref l5, .ref l6, .ref l7, .int (nI z), .int (nI k)])), (l1, .inl (cI, 240, .inl q1))] sz (fun u => u.2.2.1 ≤ 240 ∧ FCQ fb N 2 P u.1 fa u.2.1) (fun u : ((Nat) × (Int32) × (Nat) × (Nat → Int32)) => [(h0, .inr (2, [.ref tx, .ref lw])), (tx, .inr (6, [.ref tp, .int (nI N), .int (nI u.1), .int u.2.1])), (tp, .inr (5, [.ref by_, .int (nI T)])), (by_, .inl (cI, 260, .inl fb)), (lw, .inr (1, [.ref l1, .ref l2, .ref l3, .ref l4, .ref l5, .ref l6, .ref l7, .int (nI u.2.2.1), .int (nI k)])), (l1, .inl (cI, 240, .inl u.2.2.2))]) := by
  refine MVk.of (by decide) (Nat.le_of_ble_eq_true rfl) ?_
  intro p e s m below meth c Q ls A X hin hN hKO hP hK hD hA hl ret
  have hS : va_S A s.heap s.heap [] := va_S.rf
  obtain ⟨hx, hb, hml, hown, htb⟩ := id X
  have hl : lv_has ls 3 [(0, .ref h0), (1, .int 4)] := hl
  refine lv_aload_n hx hb dX2_readFactor_0 rfl (lv_at hl 0 rfl) ?_
  refine va_ldcS hx hb hown hKO.2.2.2.2.2 dX2_readFactor_1 ?_
  refine cVRk (As := [.ref (kk.2.1 1)]) (rest := []) (n := 1) (ci := 2) (q0 := 0) X hN hKO hS hK hP (c_placeInP1 l D cI cB kk h0 lw tx tp N P fa by_ T fb hT hNT hPN hbr) (gV k_479 k_481 k_1 k_99 k_482) (by decide +kernel) ⟨Nat.le_of_ble_eq_true rfl, Nat.le_of_ble_eq_true rfl⟩ ⟨rfl, rfl⟩ [0, 1, 2, 3] rfl rfl rfl rfl rfl rfl hl.1 (Nat.le_of_ble_eq_true rfl) dX2_readFactor_3 ⟨Nat.le_of_ble_eq_true rfl, Nat.le_of_ble_eq_true rfl⟩ (fun r_1 hr_1 => ?_)
  subst hr_1
  refine lv_topi (fun x_2 ex_2 => ?_)
  refine lv_istore_n (lv' := [(2, .int x_2), (0, .ref h0), (1, .int 4)]) hx hb dX2_readFactor_6 rfl hl (by decide) rfl (fun ls hl => ?_)
  refine lv_iload_n hx hb dX2_readFactor_7 rfl (lv_at hl 0 rfl) ?_
  refine lv_if_lt (tgt := 36) hx hb dX2_readFactor_8 (by decide) (fun c_8 => ?_) (fun c_8 => ?_)
  · refine lv_aload_n hx hb dX2_readFactor_36 rfl (lv_at hl 1 rfl) ?_
    refine va_get (D := D) (ci := 2) (v := .ref tx) (C := RX2) (T := TX2) (N := 2) hx hb htb itX2 hown hK hP 0 rfl rfl 0 (by decide) (htb _ k_288) (fun _ h9 => h9) rfl dX2_readFactor_37 ?_
    refine cVR (As := []) (rest := []) (n := 0) (ci := 6) (q0 := 0) X hN hK hP (c_signP l D cI cB tx tp N P fa by_ T fb hT hNT hPN) (gV k_483 k_484 k_485 k_98 k_486) (by decide +kernel) ⟨Nat.le_of_ble_eq_true rfl, Nat.le_of_ble_eq_true rfl⟩ ⟨rfl, rfl⟩ [1, 2, 3] rfl rfl rfl rfl rfl rfl hl.1 (Nat.le_of_ble_eq_true rfl) dX2_readFactor_40 ⟨Nat.le_of_ble_eq_true rfl, Nat.le_of_ble_eq_true rfl⟩ (fun r_3 hr_3 => ?_)
    subst hr_3
    refine lv_bipush (v := 91) hx hb dX2_readFactor_43 (by decide) ?_
    refine lv_icmp_ne (tgt := 75) hx hb dX2_readFactor_45 (by decide) (fun c_45 => ?_) (fun c_45 => ?_)
    · refine lv_aload_n hx hb dX2_readFactor_75 rfl (lv_at hl 1 rfl) ?_
      refine va_get (D := D) (ci := 2) (v := .ref lw) (C := RX2) (T := TX2) (N := 2) hx hb htb itX2 hown hK hP 0 rfl rfl 1 (by decide) (htb _ k_289) (fun _ h9 => h9) rfl dX2_readFactor_76 ?_
      refine lv_iconst (v := 0) hx hb dX2_readFactor_79 (by decide) ?_
      refine lv_aload_n hx hb dX2_readFactor_80 rfl (lv_at hl 1 rfl) ?_
      refine va_get (D := D) (ci := 2) (v := .ref tx) (C := RX2) (T := TX2) (N := 2) hx hb htb itX2 hown hK hP 0 rfl rfl 0 (by decide) (htb _ k_288) (fun _ h9 => h9) rfl dX2_readFactor_81 ?_
      refine lv_iconst (v := 5) hx hb dX2_readFactor_84 (by decide) ?_
      refine lv_iconst (v := 2) hx hb dX2_readFactor_85 (by decide) ?_
      refine cVI (As := [.int 5, .int 2]) (rest := [.int 0, .ref lw]) (n := 2) (ci := 6) (q0 := 0) (wr := [(h0, .inr (2, [.ref tx, .ref lw])), (lw, .inr (1, [.ref l1, .ref l2, .ref l3, .ref l4, .ref l5, .ref l6, .ref l7, .int (nI z), .int (nI k)])), (l1, .inl (cI, 240, .inl q1))]) X hN hK hP hD hS hA (c_numberP l D cI cB _ tx tp N P fa by_ T fb 5 2 hT hNT hPN (by decide)) (gV k_612 k_613 k_614 k_98 k_615) (by decide +kernel) ⟨Nat.le_of_ble_eq_true rfl, Nat.le_of_ble_eq_true rfl⟩ ⟨rfl, rfl⟩ [1, 2, 3] [0, 4, 5] rfl rfl (by decide) (by decide) rfl rfl rfl rfl rfl hl.1 (Nat.le_of_ble_eq_true rfl) dX2_readFactor_86 ⟨Nat.le_of_ble_eq_true rfl, Nat.le_of_ble_eq_true rfl⟩ (fun r_4 u H locs hw_7 hP hD hS => ?_)
      obtain ⟨Po_5, fo_6⟩ := u
      try dsimp only at hw_7
      have hP : va_P D vwCl [(h0, .inr (2, [.ref tx, .ref lw])), (lw, .inr (1, [.ref l1, .ref l2, .ref l3, .ref l4, .ref l5, .ref l6, .ref l7, .int (nI z), .int (nI k)])), (l1, .inl (cI, 240, .inl q1)), (tx, .inr (6, [.ref tp, .int (nI N), .int (nI Po_5), .int fo_6])), (tp, .inr (5, [.ref by_, .int (nI T)])), (by_, .inl (cI, 260, .inl fb))] H := hP
      have hD : va_D A [(h0, .inr (2, [.ref tx, .ref lw])), (lw, .inr (1, [.ref l1, .ref l2, .ref l3, .ref l4, .ref l5, .ref l6, .ref l7, .int (nI z), .int (nI k)])), (l1, .inl (cI, 240, .inl q1)), (tx, .inr (6, [.ref tp, .int (nI N), .int (nI Po_5), .int fo_6])), (tp, .inr (5, [.ref by_, .int (nI T)])), (by_, .inl (cI, 260, .inl fb))] := hD
      refine cVV (As := [.int 0, .int r_4]) (rest := []) (n := 2) (ci := 1) (q0 := 0) (wr := [(h0, .inr (2, [.ref tx, .ref lw])), (tx, .inr (6, [.ref tp, .int (nI N), .int (nI Po_5), .int fo_6])), (tp, .inr (5, [.ref by_, .int (nI T)])), (by_, .inl (cI, 260, .inl fb))]) X hN hK hP hD hS hA (c_X1_addStep l D cI cB _ lw l1 l2 l3 l4 l5 l6 l7 z k 0 r_4 q1 hz hk) (gV k_594 k_595 k_596 k_97 k_597) (by decide +kernel) ⟨Nat.le_of_ble_eq_true rfl, Nat.le_of_ble_eq_true rfl⟩ ⟨rfl, rfl⟩ [1, 2] [0, 3, 4, 5] rfl rfl (by decide) (by decide) rfl rfl rfl rfl rfl hl.1 (Nat.le_of_ble_eq_true rfl) dX2_readFactor_89 ⟨Nat.le_of_ble_eq_true rfl, Nat.le_of_ble_eq_true rfl⟩ (fun u H locs hw_11 hP hD hS => ?_)
      obtain ⟨zo_9, l1_fo_10⟩ := u
      try dsimp only at hw_11
      have hP : va_P D vwCl [(h0, .inr (2, [.ref tx, .ref lw])), (tx, .inr (6, [.ref tp, .int (nI N), .int (nI Po_5), .int fo_6])), (tp, .inr (5, [.ref by_, .int (nI T)])), (by_, .inl (cI, 260, .inl fb)), (lw, .inr (1, [.ref l1, .ref l2, .ref l3, .ref l4, .ref l5, .ref l6, .ref l7, .int (nI zo_9), .int (nI k)])), (l1, .inl (cI, 240, .inl l1_fo_10))] H := hP
      have hD : va_D A [(h0, .inr (2, [.ref tx, .ref lw])), (tx, .inr (6, [.ref tp, .int (nI N), .int (nI Po_5), .int fo_6])), (tp, .inr (5, [.ref by_, .int (nI T)])), (by_, .inl (cI, 260, .inl fb)), (lw, .inr (1, [.ref l1, .ref l2, .ref l3, .ref l4, .ref l5, .ref l6, .ref l7, .int (nI zo_9), .int (nI k)])), (l1, .inl (cI, 240, .inl l1_fo_10))] := hD
      exact ret _ _ _ _ (Po_5, fo_6, zo_9, l1_fo_10) dX2_readFactor_92 (⟨hw_11, by have q := FCQ.num (k := 2) (f := fb) (N := N) (p := P) (fa := fa) (by omega) hPN hfa (kp1_lt (by rw [← ex_2]; exact c_8)) c_45 (by rw [← hw_7.1]; exact hw_7.2.2.2); rw [← hw_7.1, ← hw_7.2.2.1] at q; exact q⟩) (hP.sub [0, 1, 2, 3, 4, 5] rfl) (hD.sub [0, 1, 2, 3, 4, 5] (by decide) rfl) hS
    · have h91 := c_45
      obtain ⟨hf0, hlt⟩ := sQz (fun z => absurd (z.symm.trans h91) (by decide))
      subst hf0
      rw [sQ0] at h91
      refine lv_aload_n hx hb dX2_readFactor_48 rfl (lv_at hl 1 rfl) ?_
      refine lv_iload_n hx hb dX2_readFactor_49 rfl (lv_at hl 2 rfl) ?_
      refine cVI (As := [.int 4]) (rest := []) (n := 1) (ci := 2) (q0 := 0) (wr := [(tp, .inr (5, [.ref by_, .int (nI T)])), (by_, .inl (cI, 260, .inl fb)), (lw, .inr (1, [.ref l1, .ref l2, .ref l3, .ref l4, .ref l5, .ref l6, .ref l7, .int (nI z), .int (nI k)])), (l1, .inl (cI, 240, .inl q1))]) X hN hK hP hD hS hA (c_opensP l D cI cB _ h0 lw tx tp N P 0 4 hlt) (gV k_598 k_600 k_5 k_99 k_601) (by decide +kernel) ⟨Nat.le_of_ble_eq_true rfl, Nat.le_of_ble_eq_true rfl⟩ ⟨rfl, rfl⟩ [0, 1] [2, 3, 4, 5] rfl rfl (by decide) (by decide) rfl rfl rfl rfl rfl hl.1 (Nat.le_of_ble_eq_true rfl) dX2_readFactor_50 ⟨Nat.le_of_ble_eq_true rfl, Nat.le_of_ble_eq_true rfl⟩ (fun r_12 u H locs hw_15 hP hD hS => ?_)
      obtain ⟨Po_13, fo_14⟩ := u
      try dsimp only at hw_15
      have hP : va_P D vwCl [(tp, .inr (5, [.ref by_, .int (nI T)])), (by_, .inl (cI, 260, .inl fb)), (lw, .inr (1, [.ref l1, .ref l2, .ref l3, .ref l4, .ref l5, .ref l6, .ref l7, .int (nI z), .int (nI k)])), (l1, .inl (cI, 240, .inl q1)), (h0, .inr (2, [.ref tx, .ref lw])), (tx, .inr (6, [.ref tp, .int (nI N), .int (nI Po_13), .int fo_14]))] H := hP
      have hD : va_D A [(tp, .inr (5, [.ref by_, .int (nI T)])), (by_, .inl (cI, 260, .inl fb)), (lw, .inr (1, [.ref l1, .ref l2, .ref l3, .ref l4, .ref l5, .ref l6, .ref l7, .int (nI z), .int (nI k)])), (l1, .inl (cI, 240, .inl q1)), (h0, .inr (2, [.ref tx, .ref lw])), (tx, .inr (6, [.ref tp, .int (nI N), .int (nI Po_13), .int fo_14]))] := hD
      obtain rfl : r_12 = 1 := hw_15.1.trans (by decide)
      obtain ⟨eo1, eo2⟩ := hw_15.2.1 (by decide)
      rw [eo1, eo2] at hP hD
      have hP : va_P D vwCl [(tp, .inr (5, [.ref by_, .int (nI T)])), (by_, .inl (cI, 260, .inl fb)), (lw, .inr (1, [.ref l1, .ref l2, .ref l3, .ref l4, .ref l5, .ref l6, .ref l7, .int (nI z), .int (nI k)])), (l1, .inl (cI, 240, .inl q1)), (h0, .inr (2, [.ref tx, .ref lw])), (tx, .inr (6, [.ref tp, .int (nI N), .int (nI (P + 1)), .int 0]))] H := hP
      have hD : va_D A [(tp, .inr (5, [.ref by_, .int (nI T)])), (by_, .inl (cI, 260, .inl fb)), (lw, .inr (1, [.ref l1, .ref l2, .ref l3, .ref l4, .ref l5, .ref l6, .ref l7, .int (nI z), .int (nI k)])), (l1, .inl (cI, 240, .inl q1)), (h0, .inr (2, [.ref tx, .ref lw])), (tx, .inr (6, [.ref tp, .int (nI N), .int (nI (P + 1)), .int 0]))] := hD
      refine lv_if_eq (tgt := 92) hx hb dX2_readFactor_53 (by decide) (fun c_53 => absurd c_53 (by decide)) (fun _ => ?_)
      refine lv_aload_n hx hb dX2_readFactor_56 rfl (lv_at hl 1 rfl) ?_
      refine lv_iload_n hx hb dX2_readFactor_57 rfl (lv_at hl 2 rfl) ?_
      refine lv_iconst (v := 1) hx hb dX2_readFactor_58 (by decide) ?_
      refine lv_iadd hx hb dX2_readFactor_59 ?_
      refine tv (z := 5) (by decide) ?_
      refine cVVk (As := [.int 5]) (rest := []) (n := 1) (ci := 2) (q0 := 0) (wr := []) X hN hKO hK hP hD hS hA (c_rsP_5 l D cI cB _ kk h0 tx tp N (P + 1) 0 by_ T fb lw l1 l2 l3 l4 l5 l6 l7 z k q1 hT hNT (by omega) hN2 (Or.inl rfl) hbr hz hk) (gV k_581 k_583 k_2 k_99 k_584) (by decide +kernel) ⟨Nat.le_of_ble_eq_true rfl, Nat.le_of_ble_eq_true rfl⟩ ⟨rfl, rfl⟩ [4, 5, 0, 1, 2, 3] [] rfl rfl (by decide) (by decide) rfl rfl rfl rfl rfl hl.1 (Nat.le_of_ble_eq_true rfl) dX2_readFactor_60 ⟨Nat.le_of_ble_eq_true rfl, Nat.le_of_ble_eq_true rfl⟩ (fun u H locs hw_21 hP hD hS => ?_)
      obtain ⟨Po_17, fo_18, zo_19, l1o_20⟩ := u
      try dsimp only at hw_21
      have hP : va_P D vwCl [(h0, .inr (2, [.ref tx, .ref lw])), (tx, .inr (6, [.ref tp, .int (nI N), .int (nI Po_17), .int fo_18])), (tp, .inr (5, [.ref by_, .int (nI T)])), (by_, .inl (cI, 260, .inl fb)), (lw, .inr (1, [.ref l1, .ref l2, .ref l3, .ref l4, .ref l5, .ref l6, .ref l7, .int (nI zo_19), .int (nI k)])), (l1, .inl (cI, 240, .inl l1o_20))] H := hP
      have hD : va_D A [(h0, .inr (2, [.ref tx, .ref lw])), (tx, .inr (6, [.ref tp, .int (nI N), .int (nI Po_17), .int fo_18])), (tp, .inr (5, [.ref by_, .int (nI T)])), (by_, .inl (cI, 260, .inl fb)), (lw, .inr (1, [.ref l1, .ref l2, .ref l3, .ref l4, .ref l5, .ref l6, .ref l7, .int (nI zo_19), .int (nI k)])), (l1, .inl (cI, 240, .inl l1o_20))] := hD
      refine lv_aload_n hx hb dX2_readFactor_63 rfl (lv_at hl 1 rfl) ?_
      refine va_get (D := D) (ci := 2) (v := .ref tx) (C := RX2) (T := TX2) (N := 2) hx hb htb itX2 hown hK hP 0 rfl rfl 0 (by decide) (htb _ k_288) (fun _ h9 => h9) rfl dX2_readFactor_64 ?_
      refine lv_bipush (v := 93) hx hb dX2_readFactor_67 (by decide) ?_
      refine cVV (As := [.int 93]) (rest := []) (n := 1) (ci := 6) (q0 := 0) (wr := [(h0, .inr (2, [.ref tx, .ref lw])), (lw, .inr (1, [.ref l1, .ref l2, .ref l3, .ref l4, .ref l5, .ref l6, .ref l7, .int (nI zo_19), .int (nI k)])), (l1, .inl (cI, 240, .inl l1o_20))]) X hN hK hP hD hS hA (c_expectP l D cI cB _ tx tp N Po_17 fo_18 by_ T fb 93 hT hNT hw_21.2.1.2.2.2.1 (by decide)) (gV k_602 k_603 k_604 k_98 k_605) (by decide +kernel) ⟨Nat.le_of_ble_eq_true rfl, Nat.le_of_ble_eq_true rfl⟩ ⟨rfl, rfl⟩ [1, 2, 3] [0, 4, 5] rfl rfl (by decide) (by decide) rfl rfl rfl rfl rfl hl.1 (Nat.le_of_ble_eq_true rfl) dX2_readFactor_69 ⟨Nat.le_of_ble_eq_true rfl, Nat.le_of_ble_eq_true rfl⟩ (fun u H locs hw_25 hP hD hS => ?_)
      obtain ⟨Po_23, fo_24⟩ := u
      try dsimp only at hw_25
      have hP : va_P D vwCl [(h0, .inr (2, [.ref tx, .ref lw])), (lw, .inr (1, [.ref l1, .ref l2, .ref l3, .ref l4, .ref l5, .ref l6, .ref l7, .int (nI zo_19), .int (nI k)])), (l1, .inl (cI, 240, .inl l1o_20)), (tx, .inr (6, [.ref tp, .int (nI N), .int (nI Po_23), .int fo_24])), (tp, .inr (5, [.ref by_, .int (nI T)])), (by_, .inl (cI, 260, .inl fb))] H := hP
      have hD : va_D A [(h0, .inr (2, [.ref tx, .ref lw])), (lw, .inr (1, [.ref l1, .ref l2, .ref l3, .ref l4, .ref l5, .ref l6, .ref l7, .int (nI zo_19), .int (nI k)])), (l1, .inl (cI, 240, .inl l1o_20)), (tx, .inr (6, [.ref tp, .int (nI N), .int (nI Po_23), .int fo_24])), (tp, .inr (5, [.ref by_, .int (nI T)])), (by_, .inl (cI, 260, .inl fb))] := hD
      refine lv_goto (tgt := 92) hx hb dX2_readFactor_72 (by decide) ?_
      exact ret _ _ _ _ (Po_23, fo_24, zo_19, l1o_20) dX2_readFactor_92 (⟨hw_21.1, FCQ.brk (by omega) h91 hw_21.2.1 hw_21.2.2 hw_25.1 hw_25.2.1 hw_25.2.2.2⟩) (hP.sub [0, 3, 4, 5, 1, 2] rfl) (hD.sub [0, 3, 4, 5, 1, 2] (by decide) rfl) hS
  · obtain ⟨hf0, hlt, hfq⟩ := FCQ.letter (k := 2) (fun z => c_8 (by rw [ex_2, z]; decide))
    refine lv_aload_n hx hb dX2_readFactor_11 rfl (lv_at hl 1 rfl) ?_
    refine va_get (D := D) (ci := 2) (v := .ref tx) (C := RX2) (T := TX2) (N := 2) hx hb htb itX2 hown hK hP 0 rfl rfl 0 (by decide) (htb _ k_288) (fun _ h9 => h9) rfl dX2_readFactor_12 ?_
    refine lv_dup hx hb dX2_readFactor_15 rfl ?_
    refine va_getN (D := D) (ci := 6) (v := .int (nI P)) (C := RX6) (T := TX6) (N := 4) hx hb htb itX6 hown hK hP 1 rfl rfl 2 (by decide) (va_Nw.use rfl (hN _ n_264 rfl)) (fun _ h9 => h9) rfl dX2_readFactor_16 ?_
    refine lv_iconst (v := 1) hx hb dX2_readFactor_19 (by decide) ?_
    refine lv_iadd hx hb dX2_readFactor_20 ?_
    refine tv (z := (nI (P + 1))) (nI_1 P) ?_
    refine va_putN (D := D) (ci := 6) (v := .int (nI (P + 1))) (ty := .int) (C := RX6) (T := TX6) (N := 4) hx hb htb itX6 tyX6 tyX6_ok nmX6 hown hK hP hD hS 1 rfl rfl 2 (by decide) (va_Nw.use rfl (hN _ n_264 rfl)) (fun _ h9 => h9) rfl (tyX6_ok 2 (by decide)) rfl rfl (Nat.le_of_ble_eq_true rfl) dX2_readFactor_21 (fun H locs hP hD hS => ?_)
    have hP : va_P D vwCl [(h0, .inr (2, [.ref tx, .ref lw])), (tx, .inr (6, [.ref tp, .int (nI N), .int (nI (P + 1)), .int fa])), (tp, .inr (5, [.ref by_, .int (nI T)])), (by_, .inl (cI, 260, .inl fb)), (lw, .inr (1, [.ref l1, .ref l2, .ref l3, .ref l4, .ref l5, .ref l6, .ref l7, .int (nI z), .int (nI k)])), (l1, .inl (cI, 240, .inl q1))] H := hP
    have hD : va_D A [(h0, .inr (2, [.ref tx, .ref lw])), (tx, .inr (6, [.ref tp, .int (nI N), .int (nI (P + 1)), .int fa])), (tp, .inr (5, [.ref by_, .int (nI T)])), (by_, .inl (cI, 260, .inl fb)), (lw, .inr (1, [.ref l1, .ref l2, .ref l3, .ref l4, .ref l5, .ref l6, .ref l7, .int (nI z), .int (nI k)])), (l1, .inl (cI, 240, .inl q1))] := hD
    refine lv_aload_n hx hb dX2_readFactor_24 rfl (lv_at hl 1 rfl) ?_
    refine va_get (D := D) (ci := 2) (v := .ref lw) (C := RX2) (T := TX2) (N := 2) hx hb htb itX2 hown hK hP 0 rfl rfl 1 (by decide) (htb _ k_289) (fun _ h9 => h9) rfl dX2_readFactor_25 ?_
    refine lv_iconst (v := 1) hx hb dX2_readFactor_28 (by decide) ?_
    refine lv_iload_n hx hb dX2_readFactor_29 rfl (lv_at hl 0 rfl) ?_
    refine cVV (As := [.int 1, .int x_2]) (rest := []) (n := 2) (ci := 1) (q0 := 0) (wr := [(h0, .inr (2, [.ref tx, .ref lw])), (tx, .inr (6, [.ref tp, .int (nI N), .int (nI (P + 1)), .int fa])), (tp, .inr (5, [.ref by_, .int (nI T)])), (by_, .inl (cI, 260, .inl fb))]) X hN hK hP hD hS hA (c_X1_addStep l D cI cB _ lw l1 l2 l3 l4 l5 l6 l7 z k 1 x_2 q1 hz hk) (gV k_594 k_595 k_596 k_97 k_597) (by decide +kernel) ⟨Nat.le_of_ble_eq_true rfl, Nat.le_of_ble_eq_true rfl⟩ ⟨rfl, rfl⟩ [4, 5] [0, 1, 2, 3] rfl rfl (by decide) (by decide) rfl rfl rfl rfl rfl hl.1 (Nat.le_of_ble_eq_true rfl) dX2_readFactor_30 ⟨Nat.le_of_ble_eq_true rfl, Nat.le_of_ble_eq_true rfl⟩ (fun u H locs hw_29 hP hD hS => ?_)
    obtain ⟨zo_27, l1_fo_28⟩ := u
    try dsimp only at hw_29
    have hP : va_P D vwCl [(h0, .inr (2, [.ref tx, .ref lw])), (tx, .inr (6, [.ref tp, .int (nI N), .int (nI (P + 1)), .int fa])), (tp, .inr (5, [.ref by_, .int (nI T)])), (by_, .inl (cI, 260, .inl fb)), (lw, .inr (1, [.ref l1, .ref l2, .ref l3, .ref l4, .ref l5, .ref l6, .ref l7, .int (nI zo_27), .int (nI k)])), (l1, .inl (cI, 240, .inl l1_fo_28))] H := hP
    have hD : va_D A [(h0, .inr (2, [.ref tx, .ref lw])), (tx, .inr (6, [.ref tp, .int (nI N), .int (nI (P + 1)), .int fa])), (tp, .inr (5, [.ref by_, .int (nI T)])), (by_, .inl (cI, 260, .inl fb)), (lw, .inr (1, [.ref l1, .ref l2, .ref l3, .ref l4, .ref l5, .ref l6, .ref l7, .int (nI zo_27), .int (nI k)])), (l1, .inl (cI, 240, .inl l1_fo_28))] := hD
    refine lv_goto (tgt := 92) hx hb dX2_readFactor_33 (by decide) ?_
    exact ret _ _ _ _ ((P + 1), fa, zo_27, l1_fo_28) dX2_readFactor_92 (⟨hw_29, hfq⟩) (hP.sub [0, 1, 2, 3, 4, 5] rfl) (hD.sub [0, 1, 2, 3, 4, 5] (by decide) rfl) hS

set_option maxRecDepth 100000 in
set_option maxHeartbeats 4000000 in
theorem c_rtP_4 (l : Launch) (D : va_G) (cI cB : ClassId) (sz : Nat) (kk : KT) (h0 : Nat) (tx : Nat) (tp : Nat) (N : Nat) (P : Nat) (fa : Int32) (by_ : Nat) (T : Nat) (fb : Nat → Int32) (lw : Nat) (l1 : Nat) (l2 : Nat) (l3 : Nat) (l4 : Nat) (l5 : Nat) (l6 : Nat) (l7 : Nat) (z : Nat) (k : Nat) (q1 : Nat → Int32) (hT : T ≤ 260) (hNT : N ≤ T) (hPN : P ≤ N) (hN2 : N ≤ 240) (hfa : fa = 0 ∨ fa < 0) (hbr : BR N fb) (hz : z ≤ 240) (hk : k ≤ 16) : MVk (S := ((Nat) × (Int32) × (Nat) × (Nat → Int32))) l D cI cB kk yX2_readTerm cX2_readTerm 4 (rm 12 271) [.ref h0, .int 4] [(h0, .inr (2, [.ref tx, .ref lw])), (tx, .inr (6, [.ref tp, .int (nI N), .int (nI P), .int fa])), (tp, .inr (5, [.ref by_, .int (nI T)])), (by_, .inl (cI, 260, .inl fb)), (lw, .inr (1, [.ref l1, .ref l2, .ref l3, .ref l4, .ref l5, .ref l6, .ref l7, .int (nI z), .int (nI k)])), (l1, .inl (cI, 240, .inl q1))] sz (fun u => u.2.2.1 ≤ 240 ∧ FCQ fb N 2 P u.1 fa u.2.1 ∧ (u.2.1 = 0 → ¬ MU3 (chF fb N u.1))) (fun u : ((Nat) × (Int32) × (Nat) × (Nat → Int32)) => [(h0, .inr (2, [.ref tx, .ref lw])), (tx, .inr (6, [.ref tp, .int (nI N), .int (nI u.1), .int u.2.1])), (tp, .inr (5, [.ref by_, .int (nI T)])), (by_, .inl (cI, 260, .inl fb)), (lw, .inr (1, [.ref l1, .ref l2, .ref l3, .ref l4, .ref l5, .ref l6, .ref l7, .int (nI u.2.2.1), .int (nI k)])), (l1, .inl (cI, 240, .inl u.2.2.2))]) := by
  refine MVk.of (by decide) (Nat.le_of_ble_eq_true rfl) ?_
  intro p e s m below meth c Q ls A X hin hN hKO hP hK hD hA hl ret
  have hS : va_S A s.heap s.heap [] := va_S.rf
  obtain ⟨hx, hb, hml, hown, htb⟩ := id X
  have hl : lv_has ls 4 [(0, .ref h0), (1, .int 4)] := hl
  refine lv_aload_n hx hb dX2_readTerm_0 rfl (lv_at hl 0 rfl) ?_
  refine lv_iload_n hx hb dX2_readTerm_1 rfl (lv_at hl 1 rfl) ?_
  refine cVVk (As := [.int 4]) (rest := []) (n := 1) (ci := 2) (q0 := 0) (wr := []) X hN hKO hK hP hD hS hA (c_rfP_4 l D cI cB _ kk h0 tx tp N P fa by_ T fb lw l1 l2 l3 l4 l5 l6 l7 z k q1 hT hNT hPN hN2 hfa hbr hz hk) (gV k_589 k_591 k_4 k_99 k_592) (by decide +kernel) ⟨Nat.le_of_ble_eq_true rfl, Nat.le_of_ble_eq_true rfl⟩ ⟨rfl, rfl⟩ [0, 1, 2, 3, 4, 5] [] rfl rfl (by decide) (by decide) rfl rfl rfl rfl rfl hl.1 (Nat.le_of_ble_eq_true rfl) dX2_readTerm_2 ⟨Nat.le_of_ble_eq_true rfl, Nat.le_of_ble_eq_true rfl⟩ (fun u H locs hw_6 hP hD hS => ?_)
  obtain ⟨Po_2, fo_3, zo_4, l1o_5⟩ := u
  try dsimp only at hw_6
  have hP : va_P D vwCl [(h0, .inr (2, [.ref tx, .ref lw])), (tx, .inr (6, [.ref tp, .int (nI N), .int (nI Po_2), .int fo_3])), (tp, .inr (5, [.ref by_, .int (nI T)])), (by_, .inl (cI, 260, .inl fb)), (lw, .inr (1, [.ref l1, .ref l2, .ref l3, .ref l4, .ref l5, .ref l6, .ref l7, .int (nI zo_4), .int (nI k)])), (l1, .inl (cI, 240, .inl l1o_5))] H := hP
  have hD : va_D A [(h0, .inr (2, [.ref tx, .ref lw])), (tx, .inr (6, [.ref tp, .int (nI N), .int (nI Po_2), .int fo_3])), (tp, .inr (5, [.ref by_, .int (nI T)])), (by_, .inl (cI, 260, .inl fb)), (lw, .inr (1, [.ref l1, .ref l2, .ref l3, .ref l4, .ref l5, .ref l6, .ref l7, .int (nI zo_4), .int (nI k)])), (l1, .inl (cI, 240, .inl l1o_5))] := hD
  refine lv_iconst (v := 0) hx hb dX2_readTerm_5 (by decide) ?_
  refine lv_istore_n (lv' := [(2, .int 0), (0, .ref h0), (1, .int 4)]) hx hb dX2_readTerm_6 rfl hl (by decide) rfl (fun ls hl => ?_)
  have loop_7 : ∀ (n i : Nat) (Pa : Nat) (fv : Int32) (za : Nat) (qa : Nat → Int32), n + i = 240 → (za ≤ 240) → (FCQ fb N 2 P Pa fa fv) → (fv = 0 → fa = 0 → i < Pa) → ∀ (H : Heap) (locs : List Loc), va_P D vwCl [(h0, .inr (2, [.ref tx, .ref lw])), (tx, .inr (6, [.ref tp, .int (nI N), .int (nI Pa), .int fv])), (tp, .inr (5, [.ref by_, .int (nI T)])), (by_, .inl (cI, 260, .inl fb)), (lw, .inr (1, [.ref l1, .ref l2, .ref l3, .ref l4, .ref l5, .ref l6, .ref l7, .int (nI za), .int (nI k)])), (l1, .inl (cI, 240, .inl qa))] H → va_D A [(h0, .inr (2, [.ref tx, .ref lw])), (tx, .inr (6, [.ref tp, .int (nI N), .int (nI Pa), .int fv])), (tp, .inr (5, [.ref by_, .int (nI T)])), (by_, .inl (cI, 260, .inl fb)), (lw, .inr (1, [.ref l1, .ref l2, .ref l3, .ref l4, .ref l5, .ref l6, .ref l7, .int (nI za), .int (nI k)])), (l1, .inl (cI, 240, .inl qa))] → va_S A s.heap H locs → ∀ (ls : Array Slot), lv_has ls 4 [(0, .ref h0), (1, .int 4), (2, .int (nI i))] → W p l e (rm 12 271) s m ([.ref h0, .int 4] : List Value).toArray below meth c H locs 0 0 Q (F0 m 7 ls []) := by
    intro n
    induction n with
    | zero =>
      intro i Pa fv za qa hni hza hq hiP H locs hP hD hS ls hl
      have hni_7 := hni
      have hi : i = 240 := by omega
      refine lv_iload_n hx hb dX2_readTerm_7 rfl (lv_at hl 2 rfl) ?_
      refine lv_sipush (v := 240) hx hb dX2_readTerm_8 (by decide) ?_
      refine lv_icmp_ge (tgt := 60) hx hb dX2_readTerm_11 (by decide) (fun _ => ?_) (fun c_11 => absurd (by rw [hi]; decide) c_11)
      exact ret _ _ _ _ (Pa, fv, za, qa) dX2_readTerm_60 (⟨hza, ⟨hq, fun z => absurd z (fun z => by have h2 := hq.2.1; have h4 := hq.2.2.2.1; exact (Classical.em (fa = 0)).elim (fun w => by have := hiP z w; omega) (fun w => w ((h2 w).symm.trans z)))⟩⟩) (hP.sub [0, 1, 2, 3, 4, 5] rfl) (hD.sub [0, 1, 2, 3, 4, 5] (by decide) rfl) hS
    | succ n ih_7 =>
      intro i Pa fv za qa hni hza hq hiP H locs hP hD hS ls hl
      have hni_7 := hni
      have hi : i < 240 := by omega
      refine lv_iload_n hx hb dX2_readTerm_7 rfl (lv_at hl 2 rfl) ?_
      refine lv_sipush (v := 240) hx hb dX2_readTerm_8 (by decide) ?_
      refine lv_icmp_ge (tgt := 60) hx hb dX2_readTerm_11 (by decide) (fun c_11 => absurd c_11 (nI_ge hi (by decide))) (fun _ => ?_)
      refine lv_aload_n hx hb dX2_readTerm_14 rfl (lv_at hl 0 rfl) ?_
      refine cVR (As := []) (rest := []) (n := 0) (ci := 2) (q0 := 0) X hN hK hP (c_factorStepP l D cI cB h0 lw tx tp N Pa fv by_ T fb hT hNT hq.2.2.2.1) (gV k_620 k_622 k_6 k_99 k_623) (by decide +kernel) ⟨Nat.le_of_ble_eq_true rfl, Nat.le_of_ble_eq_true rfl⟩ ⟨rfl, rfl⟩ [0, 1, 2, 3] rfl rfl rfl rfl rfl rfl hl.1 (Nat.le_of_ble_eq_true rfl) dX2_readTerm_15 ⟨Nat.le_of_ble_eq_true rfl, Nat.le_of_ble_eq_true rfl⟩ (fun rfs hrfs => ?_)
      refine lv_iconst (v := (-1)) hx hb dX2_readTerm_18 (by decide) ?_
      refine lv_icmp_eq (tgt := 60) hx hb dX2_readTerm_19 (by decide) (fun c_19 => ?_) (fun c_19 => ?_)
      · exact ret _ _ _ _ (Pa, fv, za, qa) dX2_readTerm_60 (⟨hza, ⟨hq, fun (z : fv = 0) => by have w := hrfs.1 c_19; rw [z, sQ0] at w; exact w⟩⟩) (hP.sub [0, 1, 2, 3, 4, 5] rfl) (hD.sub [0, 1, 2, 3, 4, 5] (by decide) rfl) hS
      · obtain ⟨hf0, hlt, hs5⟩ := sQs (sgM (hrfs.2 c_19))
        subst hf0
        refine lv_aload_n hx hb dX2_readTerm_22 rfl (lv_at hl 0 rfl) ?_
        refine cVR (As := []) (rest := []) (n := 0) (ci := 2) (q0 := 0) X hN hK hP (c_factorStepP l D cI cB h0 lw tx tp N Pa 0 by_ T fb hT hNT hq.2.2.2.1) (gV k_620 k_622 k_6 k_99 k_623) (by decide +kernel) ⟨Nat.le_of_ble_eq_true rfl, Nat.le_of_ble_eq_true rfl⟩ ⟨rfl, rfl⟩ [0, 1, 2, 3] rfl rfl rfl rfl rfl rfl hl.1 (Nat.le_of_ble_eq_true rfl) dX2_readTerm_23 ⟨Nat.le_of_ble_eq_true rfl, Nat.le_of_ble_eq_true rfl⟩ (fun r_7 hr_7 => ?_)
        refine lv_istore_n (lv' := [(3, .int r_7), (0, .ref h0), (1, .int 4), (2, .int (nI i))]) hx hb dX2_readTerm_26 rfl hl (by decide) rfl (fun ls hl => ?_)
        refine lv_aload_n hx hb dX2_readTerm_27 rfl (lv_at hl 1 rfl) ?_
        refine va_get (D := D) (ci := 2) (v := .ref tx) (C := RX2) (T := TX2) (N := 2) hx hb htb itX2 hown hK hP 0 rfl rfl 0 (by decide) (htb _ k_288) (fun _ h9 => h9) rfl dX2_readTerm_28 ?_
        refine lv_dup hx hb dX2_readTerm_31 rfl ?_
        refine va_getN (D := D) (ci := 6) (v := .int (nI Pa)) (C := RX6) (T := TX6) (N := 4) hx hb htb itX6 hown hK hP 1 rfl rfl 2 (by decide) (va_Nw.use rfl (hN _ n_264 rfl)) (fun _ h9 => h9) rfl dX2_readTerm_32 ?_
        refine lv_iconst (v := 1) hx hb dX2_readTerm_35 (by decide) ?_
        refine lv_iadd hx hb dX2_readTerm_36 ?_
        refine tv (z := (nI (Pa + 1))) (nI_1 Pa) ?_
        refine va_putN (D := D) (ci := 6) (v := .int (nI (Pa + 1))) (ty := .int) (C := RX6) (T := TX6) (N := 4) hx hb htb itX6 tyX6 tyX6_ok nmX6 hown hK hP hD hS 1 rfl rfl 2 (by decide) (va_Nw.use rfl (hN _ n_264 rfl)) (fun _ h9 => h9) rfl (tyX6_ok 2 (by decide)) rfl rfl (Nat.le_of_ble_eq_true rfl) dX2_readTerm_37 (fun H locs hP hD hS => ?_)
        have hP : va_P D vwCl [(h0, .inr (2, [.ref tx, .ref lw])), (tx, .inr (6, [.ref tp, .int (nI N), .int (nI (Pa + 1)), .int 0])), (tp, .inr (5, [.ref by_, .int (nI T)])), (by_, .inl (cI, 260, .inl fb)), (lw, .inr (1, [.ref l1, .ref l2, .ref l3, .ref l4, .ref l5, .ref l6, .ref l7, .int (nI za), .int (nI k)])), (l1, .inl (cI, 240, .inl qa))] H := hP
        have hD : va_D A [(h0, .inr (2, [.ref tx, .ref lw])), (tx, .inr (6, [.ref tp, .int (nI N), .int (nI (Pa + 1)), .int 0])), (tp, .inr (5, [.ref by_, .int (nI T)])), (by_, .inl (cI, 260, .inl fb)), (lw, .inr (1, [.ref l1, .ref l2, .ref l3, .ref l4, .ref l5, .ref l6, .ref l7, .int (nI za), .int (nI k)])), (l1, .inl (cI, 240, .inl qa))] := hD
        refine lv_aload_n hx hb dX2_readTerm_40 rfl (lv_at hl 1 rfl) ?_
        refine lv_iload_n hx hb dX2_readTerm_41 rfl (lv_at hl 2 rfl) ?_
        refine cVVk (As := [.int 4]) (rest := []) (n := 1) (ci := 2) (q0 := 0) (wr := []) X hN hKO hK hP hD hS hA (c_rfP_4 l D cI cB _ kk h0 tx tp N (Pa + 1) 0 by_ T fb lw l1 l2 l3 l4 l5 l6 l7 za k qa hT hNT (by omega) hN2 (Or.inl rfl) hbr hza hk) (gV k_589 k_591 k_4 k_99 k_592) (by decide +kernel) ⟨Nat.le_of_ble_eq_true rfl, Nat.le_of_ble_eq_true rfl⟩ ⟨rfl, rfl⟩ [0, 1, 2, 3, 4, 5] [] rfl rfl (by decide) (by decide) rfl rfl rfl rfl rfl hl.1 (Nat.le_of_ble_eq_true rfl) dX2_readTerm_42 ⟨Nat.le_of_ble_eq_true rfl, Nat.le_of_ble_eq_true rfl⟩ (fun u H locs hw_13 hP hD hS => ?_)
        obtain ⟨Po_9, fo_10, zo_11, l1o_12⟩ := u
        try dsimp only at hw_13
        have hP : va_P D vwCl [(h0, .inr (2, [.ref tx, .ref lw])), (tx, .inr (6, [.ref tp, .int (nI N), .int (nI Po_9), .int fo_10])), (tp, .inr (5, [.ref by_, .int (nI T)])), (by_, .inl (cI, 260, .inl fb)), (lw, .inr (1, [.ref l1, .ref l2, .ref l3, .ref l4, .ref l5, .ref l6, .ref l7, .int (nI zo_11), .int (nI k)])), (l1, .inl (cI, 240, .inl l1o_12))] H := hP
        have hD : va_D A [(h0, .inr (2, [.ref tx, .ref lw])), (tx, .inr (6, [.ref tp, .int (nI N), .int (nI Po_9), .int fo_10])), (tp, .inr (5, [.ref by_, .int (nI T)])), (by_, .inl (cI, 260, .inl fb)), (lw, .inr (1, [.ref l1, .ref l2, .ref l3, .ref l4, .ref l5, .ref l6, .ref l7, .int (nI zo_11), .int (nI k)])), (l1, .inl (cI, 240, .inl l1o_12))] := hD
        refine lv_aload_n hx hb dX2_readTerm_45 rfl (lv_at hl 1 rfl) ?_
        refine va_get (D := D) (ci := 2) (v := .ref lw) (C := RX2) (T := TX2) (N := 2) hx hb htb itX2 hown hK hP 0 rfl rfl 1 (by decide) (htb _ k_289) (fun _ h9 => h9) rfl dX2_readTerm_46 ?_
        refine lv_iload_n hx hb dX2_readTerm_49 rfl (lv_at hl 0 rfl) ?_
        refine lv_iconst (v := 0) hx hb dX2_readTerm_50 (by decide) ?_
        refine cVV (As := [.int r_7, .int 0]) (rest := []) (n := 2) (ci := 1) (q0 := 0) (wr := [(h0, .inr (2, [.ref tx, .ref lw])), (tx, .inr (6, [.ref tp, .int (nI N), .int (nI Po_9), .int fo_10])), (tp, .inr (5, [.ref by_, .int (nI T)])), (by_, .inl (cI, 260, .inl fb))]) X hN hK hP hD hS hA (c_X1_addStep l D cI cB _ lw l1 l2 l3 l4 l5 l6 l7 zo_11 k r_7 0 l1o_12 hw_13.1 hk) (gV k_594 k_595 k_596 k_97 k_597) (by decide +kernel) ⟨Nat.le_of_ble_eq_true rfl, Nat.le_of_ble_eq_true rfl⟩ ⟨rfl, rfl⟩ [4, 5] [0, 1, 2, 3] rfl rfl (by decide) (by decide) rfl rfl rfl rfl rfl hl.1 (Nat.le_of_ble_eq_true rfl) dX2_readTerm_51 ⟨Nat.le_of_ble_eq_true rfl, Nat.le_of_ble_eq_true rfl⟩ (fun u H locs hw_17 hP hD hS => ?_)
        obtain ⟨zo_15, l1_fo_16⟩ := u
        try dsimp only at hw_17
        have hP : va_P D vwCl [(h0, .inr (2, [.ref tx, .ref lw])), (tx, .inr (6, [.ref tp, .int (nI N), .int (nI Po_9), .int fo_10])), (tp, .inr (5, [.ref by_, .int (nI T)])), (by_, .inl (cI, 260, .inl fb)), (lw, .inr (1, [.ref l1, .ref l2, .ref l3, .ref l4, .ref l5, .ref l6, .ref l7, .int (nI zo_15), .int (nI k)])), (l1, .inl (cI, 240, .inl l1_fo_16))] H := hP
        have hD : va_D A [(h0, .inr (2, [.ref tx, .ref lw])), (tx, .inr (6, [.ref tp, .int (nI N), .int (nI Po_9), .int fo_10])), (tp, .inr (5, [.ref by_, .int (nI T)])), (by_, .inl (cI, 260, .inl fb)), (lw, .inr (1, [.ref l1, .ref l2, .ref l3, .ref l4, .ref l5, .ref l6, .ref l7, .int (nI zo_15), .int (nI k)])), (l1, .inl (cI, 240, .inl l1_fo_16))] := hD
        refine lv_iinc (v := (nI (i + 1))) (lv' := [(2, .int (nI (i + 1))), (3, .int r_7), (0, .ref h0), (1, .int 4)]) hx hb dX2_readTerm_54 hl (k := 3) rfl (nI_1 i) (by decide) rfl (fun ls hl => ?_)
        refine lv_goto (tgt := 7) hx hb dX2_readTerm_57 (by decide) ?_
        exact ih_7 (i + 1) Po_9 fo_10 zo_15 l1_fo_16 (by omega) hw_17 (hq.more hs5 hw_13.2) (fun z w => by have := (((hw_13.2.2.2.2.2 rfl).1 z).1); have := hiP rfl w; omega) _ _ (hP.sub [0, 1, 2, 3, 4, 5] rfl) (hD.sub [0, 1, 2, 3, 4, 5] (by decide) rfl) hS _ (lv_sub hl [2, 3, 0] rfl)
  exact loop_7 240 0 Po_2 fo_3 zo_4 l1o_5 (by omega) hw_6.1 hw_6.2 (fun z w => (((hw_6.2.2.2.2.2 w).1 z).1 |> fun y => by omega)) _ _ (hP.sub [0, 1, 2, 3, 4, 5] rfl) (hD.sub [0, 1, 2, 3, 4, 5] (by decide) rfl) hS _ (lv_sub hl [1, 2, 0] rfl)

set_option maxRecDepth 100000 in
set_option maxHeartbeats 4000000 in
theorem c_rsP_4 (l : Launch) (D : va_G) (cI cB : ClassId) (sz : Nat) (kk : KT) (h0 : Nat) (tx : Nat) (tp : Nat) (N : Nat) (P : Nat) (fa : Int32) (by_ : Nat) (T : Nat) (fb : Nat → Int32) (lw : Nat) (l1 : Nat) (l2 : Nat) (l3 : Nat) (l4 : Nat) (l5 : Nat) (l6 : Nat) (l7 : Nat) (z : Nat) (k : Nat) (q1 : Nat → Int32) (hT : T ≤ 260) (hNT : N ≤ T) (hPN : P ≤ N) (hN2 : N ≤ 240) (hfa : fa = 0 ∨ fa < 0) (hbr : BR N fb) (hz : z ≤ 240) (hk : k ≤ 16) : MVk (S := ((Nat) × (Int32) × (Nat) × (Nat → Int32))) l D cI cB kk yX2_readSum cX2_readSum 4 (rm 13 294) [.ref h0, .int 4] [(h0, .inr (2, [.ref tx, .ref lw])), (tx, .inr (6, [.ref tp, .int (nI N), .int (nI P), .int fa])), (tp, .inr (5, [.ref by_, .int (nI T)])), (by_, .inl (cI, 260, .inl fb)), (lw, .inr (1, [.ref l1, .ref l2, .ref l3, .ref l4, .ref l5, .ref l6, .ref l7, .int (nI z), .int (nI k)])), (l1, .inl (cI, 240, .inl q1))] sz (fun u => u.2.2.1 ≤ 240 ∧ FCQ fb N 2 P u.1 fa u.2.1 ∧ (u.2.1 = 0 → ¬ SG5 (chF fb N u.1))) (fun u : ((Nat) × (Int32) × (Nat) × (Nat → Int32)) => [(h0, .inr (2, [.ref tx, .ref lw])), (tx, .inr (6, [.ref tp, .int (nI N), .int (nI u.1), .int u.2.1])), (tp, .inr (5, [.ref by_, .int (nI T)])), (by_, .inl (cI, 260, .inl fb)), (lw, .inr (1, [.ref l1, .ref l2, .ref l3, .ref l4, .ref l5, .ref l6, .ref l7, .int (nI u.2.2.1), .int (nI k)])), (l1, .inl (cI, 240, .inl u.2.2.2))]) := by
  refine MVk.of (by decide) (Nat.le_of_ble_eq_true rfl) ?_
  intro p e s m below meth c Q ls A X hin hN hKO hP hK hD hA hl ret
  have hS : va_S A s.heap s.heap [] := va_S.rf
  obtain ⟨hx, hb, hml, hown, htb⟩ := id X
  have hl : lv_has ls 4 [(0, .ref h0), (1, .int 4)] := hl
  refine lv_aload_n hx hb dX2_readSum_0 rfl (lv_at hl 0 rfl) ?_
  refine lv_iload_n hx hb dX2_readSum_1 rfl (lv_at hl 1 rfl) ?_
  refine cVVk (As := [.int 4]) (rest := []) (n := 1) (ci := 2) (q0 := 0) (wr := []) X hN hKO hK hP hD hS hA (c_rtP_4 l D cI cB _ kk h0 tx tp N P fa by_ T fb lw l1 l2 l3 l4 l5 l6 l7 z k q1 hT hNT hPN hN2 hfa hbr hz hk) (gV k_585 k_587 k_3 k_99 k_588) (by decide +kernel) ⟨Nat.le_of_ble_eq_true rfl, Nat.le_of_ble_eq_true rfl⟩ ⟨rfl, rfl⟩ [0, 1, 2, 3, 4, 5] [] rfl rfl (by decide) (by decide) rfl rfl rfl rfl rfl hl.1 (Nat.le_of_ble_eq_true rfl) dX2_readSum_2 ⟨Nat.le_of_ble_eq_true rfl, Nat.le_of_ble_eq_true rfl⟩ (fun u H locs hw_6 hP hD hS => ?_)
  obtain ⟨Po_2, fo_3, zo_4, l1o_5⟩ := u
  try dsimp only at hw_6
  have hP : va_P D vwCl [(h0, .inr (2, [.ref tx, .ref lw])), (tx, .inr (6, [.ref tp, .int (nI N), .int (nI Po_2), .int fo_3])), (tp, .inr (5, [.ref by_, .int (nI T)])), (by_, .inl (cI, 260, .inl fb)), (lw, .inr (1, [.ref l1, .ref l2, .ref l3, .ref l4, .ref l5, .ref l6, .ref l7, .int (nI zo_4), .int (nI k)])), (l1, .inl (cI, 240, .inl l1o_5))] H := hP
  have hD : va_D A [(h0, .inr (2, [.ref tx, .ref lw])), (tx, .inr (6, [.ref tp, .int (nI N), .int (nI Po_2), .int fo_3])), (tp, .inr (5, [.ref by_, .int (nI T)])), (by_, .inl (cI, 260, .inl fb)), (lw, .inr (1, [.ref l1, .ref l2, .ref l3, .ref l4, .ref l5, .ref l6, .ref l7, .int (nI zo_4), .int (nI k)])), (l1, .inl (cI, 240, .inl l1o_5))] := hD
  refine lv_iconst (v := 0) hx hb dX2_readSum_5 (by decide) ?_
  refine lv_istore_n (lv' := [(2, .int 0), (0, .ref h0), (1, .int 4)]) hx hb dX2_readSum_6 rfl hl (by decide) rfl (fun ls hl => ?_)
  have loop_7 : ∀ (n i : Nat) (Pa : Nat) (fv : Int32) (za : Nat) (qa : Nat → Int32), n + i = 240 → (za ≤ 240) → (FCQ fb N 2 P Pa fa fv) → (fv = 0 → fa = 0 → i < Pa) → (fv = 0 → ¬ MU3 (chF fb N Pa)) → ∀ (H : Heap) (locs : List Loc), va_P D vwCl [(h0, .inr (2, [.ref tx, .ref lw])), (tx, .inr (6, [.ref tp, .int (nI N), .int (nI Pa), .int fv])), (tp, .inr (5, [.ref by_, .int (nI T)])), (by_, .inl (cI, 260, .inl fb)), (lw, .inr (1, [.ref l1, .ref l2, .ref l3, .ref l4, .ref l5, .ref l6, .ref l7, .int (nI za), .int (nI k)])), (l1, .inl (cI, 240, .inl qa))] H → va_D A [(h0, .inr (2, [.ref tx, .ref lw])), (tx, .inr (6, [.ref tp, .int (nI N), .int (nI Pa), .int fv])), (tp, .inr (5, [.ref by_, .int (nI T)])), (by_, .inl (cI, 260, .inl fb)), (lw, .inr (1, [.ref l1, .ref l2, .ref l3, .ref l4, .ref l5, .ref l6, .ref l7, .int (nI za), .int (nI k)])), (l1, .inl (cI, 240, .inl qa))] → va_S A s.heap H locs → ∀ (ls : Array Slot), lv_has ls 4 [(0, .ref h0), (1, .int 4), (2, .int (nI i))] → W p l e (rm 13 294) s m ([.ref h0, .int 4] : List Value).toArray below meth c H locs 0 0 Q (F0 m 7 ls []) := by
    intro n
    induction n with
    | zero =>
      intro i Pa fv za qa hni hza hq hiP hmu H locs hP hD hS ls hl
      have hni_7 := hni
      have hi : i = 240 := by omega
      refine lv_iload_n hx hb dX2_readSum_7 rfl (lv_at hl 2 rfl) ?_
      refine lv_sipush (v := 240) hx hb dX2_readSum_8 (by decide) ?_
      refine lv_icmp_ge (tgt := 90) hx hb dX2_readSum_11 (by decide) (fun _ => ?_) (fun c_11 => absurd (by rw [hi]; decide) c_11)
      exact ret _ _ _ _ (Pa, fv, za, qa) dX2_readSum_90 (⟨hza, ⟨hq, fun z => absurd z (fun z => by have h2 := hq.2.1; have h4 := hq.2.2.2.1; exact (Classical.em (fa = 0)).elim (fun w => by have := hiP z w; omega) (fun w => w ((h2 w).symm.trans z)))⟩⟩) (hP.sub [0, 1, 2, 3, 4, 5] rfl) (hD.sub [0, 1, 2, 3, 4, 5] (by decide) rfl) hS
    | succ n ih_7 =>
      intro i Pa fv za qa hni hza hq hiP hmu H locs hP hD hS ls hl
      have hni_7 := hni
      have hi : i < 240 := by omega
      refine lv_iload_n hx hb dX2_readSum_7 rfl (lv_at hl 2 rfl) ?_
      refine lv_sipush (v := 240) hx hb dX2_readSum_8 (by decide) ?_
      refine lv_icmp_ge (tgt := 90) hx hb dX2_readSum_11 (by decide) (fun c_11 => absurd c_11 (nI_ge hi (by decide))) (fun _ => ?_)
      refine lv_aload_n hx hb dX2_readSum_14 rfl (lv_at hl 0 rfl) ?_
      refine va_get (D := D) (ci := 2) (v := .ref tx) (C := RX2) (T := TX2) (N := 2) hx hb htb itX2 hown hK hP 0 rfl rfl 0 (by decide) (htb _ k_288) (fun _ h9 => h9) rfl dX2_readSum_15 ?_
      refine cVR (As := []) (rest := []) (n := 0) (ci := 6) (q0 := 0) X hN hK hP (c_signP l D cI cB tx tp N Pa fv by_ T fb hT hNT hq.2.2.2.1) (gV k_483 k_484 k_485 k_98 k_486) (by decide +kernel) ⟨Nat.le_of_ble_eq_true rfl, Nat.le_of_ble_eq_true rfl⟩ ⟨rfl, rfl⟩ [1, 2, 3] rfl rfl rfl rfl rfl rfl hl.1 (Nat.le_of_ble_eq_true rfl) dX2_readSum_18 ⟨Nat.le_of_ble_eq_true rfl, Nat.le_of_ble_eq_true rfl⟩ (fun r_7 hr_7 => ?_)
      subst hr_7
      refine lv_bipush (v := 43) hx hb dX2_readSum_21 (by decide) ?_
      refine lv_icmp_eq (tgt := 38) hx hb dX2_readSum_23 (by decide) (fun c_23 => ?_) (fun c_23 => ?_)
      · obtain ⟨hf0, hlt, hs5⟩ := sQs (sgA (Or.inl c_23))
        subst hf0
        refine lv_aload_n hx hb dX2_readSum_38 rfl (lv_at hl 0 rfl) ?_
        refine va_get (D := D) (ci := 2) (v := .ref tx) (C := RX2) (T := TX2) (N := 2) hx hb htb itX2 hown hK hP 0 rfl rfl 0 (by decide) (htb _ k_288) (fun _ h9 => h9) rfl dX2_readSum_39 ?_
        refine cVR (As := []) (rest := []) (n := 0) (ci := 6) (q0 := 0) X hN hK hP (c_signP l D cI cB tx tp N Pa 0 by_ T fb hT hNT hq.2.2.2.1) (gV k_483 k_484 k_485 k_98 k_486) (by decide +kernel) ⟨Nat.le_of_ble_eq_true rfl, Nat.le_of_ble_eq_true rfl⟩ ⟨rfl, rfl⟩ [1, 2, 3] rfl rfl rfl rfl rfl rfl hl.1 (Nat.le_of_ble_eq_true rfl) dX2_readSum_42 ⟨Nat.le_of_ble_eq_true rfl, Nat.le_of_ble_eq_true rfl⟩ (fun r_8 hr_8 => ?_)
        subst hr_8
        refine lv_bipush (v := 43) hx hb dX2_readSum_45 (by decide) ?_
        refine lv_icmp_ne (tgt := 54) hx hb dX2_readSum_47 (by decide) (fun c_47 => ?_) (fun c_47 => ?_)
        · refine lv_bipush (v := 6) hx hb dX2_readSum_54 (by decide) ?_
          refine lv_istore_n (lv' := [(3, .int 6), (0, .ref h0), (1, .int 4), (2, .int (nI i))]) hx hb dX2_readSum_56 rfl hl (by decide) rfl (fun ls hl => ?_)
          refine lv_aload_n hx hb dX2_readSum_57 rfl (lv_at hl 1 rfl) ?_
          refine va_get (D := D) (ci := 2) (v := .ref tx) (C := RX2) (T := TX2) (N := 2) hx hb htb itX2 hown hK hP 0 rfl rfl 0 (by decide) (htb _ k_288) (fun _ h9 => h9) rfl dX2_readSum_58 ?_
          refine lv_dup hx hb dX2_readSum_61 rfl ?_
          refine va_getN (D := D) (ci := 6) (v := .int (nI Pa)) (C := RX6) (T := TX6) (N := 4) hx hb htb itX6 hown hK hP 1 rfl rfl 2 (by decide) (va_Nw.use rfl (hN _ n_264 rfl)) (fun _ h9 => h9) rfl dX2_readSum_62 ?_
          refine lv_iconst (v := 1) hx hb dX2_readSum_65 (by decide) ?_
          refine lv_iadd hx hb dX2_readSum_66 ?_
          refine tv (z := (nI (Pa + 1))) (nI_1 Pa) ?_
          refine va_putN (D := D) (ci := 6) (v := .int (nI (Pa + 1))) (ty := .int) (C := RX6) (T := TX6) (N := 4) hx hb htb itX6 tyX6 tyX6_ok nmX6 hown hK hP hD hS 1 rfl rfl 2 (by decide) (va_Nw.use rfl (hN _ n_264 rfl)) (fun _ h9 => h9) rfl (tyX6_ok 2 (by decide)) rfl rfl (Nat.le_of_ble_eq_true rfl) dX2_readSum_67 (fun H locs hP hD hS => ?_)
          have hP : va_P D vwCl [(h0, .inr (2, [.ref tx, .ref lw])), (tx, .inr (6, [.ref tp, .int (nI N), .int (nI (Pa + 1)), .int 0])), (tp, .inr (5, [.ref by_, .int (nI T)])), (by_, .inl (cI, 260, .inl fb)), (lw, .inr (1, [.ref l1, .ref l2, .ref l3, .ref l4, .ref l5, .ref l6, .ref l7, .int (nI za), .int (nI k)])), (l1, .inl (cI, 240, .inl qa))] H := hP
          have hD : va_D A [(h0, .inr (2, [.ref tx, .ref lw])), (tx, .inr (6, [.ref tp, .int (nI N), .int (nI (Pa + 1)), .int 0])), (tp, .inr (5, [.ref by_, .int (nI T)])), (by_, .inl (cI, 260, .inl fb)), (lw, .inr (1, [.ref l1, .ref l2, .ref l3, .ref l4, .ref l5, .ref l6, .ref l7, .int (nI za), .int (nI k)])), (l1, .inl (cI, 240, .inl qa))] := hD
          refine lv_aload_n hx hb dX2_readSum_70 rfl (lv_at hl 1 rfl) ?_
          refine lv_iload_n hx hb dX2_readSum_71 rfl (lv_at hl 2 rfl) ?_
          refine cVVk (As := [.int 4]) (rest := []) (n := 1) (ci := 2) (q0 := 0) (wr := []) X hN hKO hK hP hD hS hA (c_rtP_4 l D cI cB _ kk h0 tx tp N (Pa + 1) 0 by_ T fb lw l1 l2 l3 l4 l5 l6 l7 za k qa hT hNT (by omega) hN2 (Or.inl rfl) hbr hza hk) (gV k_585 k_587 k_3 k_99 k_588) (by decide +kernel) ⟨Nat.le_of_ble_eq_true rfl, Nat.le_of_ble_eq_true rfl⟩ ⟨rfl, rfl⟩ [0, 1, 2, 3, 4, 5] [] rfl rfl (by decide) (by decide) rfl rfl rfl rfl rfl hl.1 (Nat.le_of_ble_eq_true rfl) dX2_readSum_72 ⟨Nat.le_of_ble_eq_true rfl, Nat.le_of_ble_eq_true rfl⟩ (fun u H locs hw_14 hP hD hS => ?_)
          obtain ⟨Po_10, fo_11, zo_12, l1o_13⟩ := u
          try dsimp only at hw_14
          have hP : va_P D vwCl [(h0, .inr (2, [.ref tx, .ref lw])), (tx, .inr (6, [.ref tp, .int (nI N), .int (nI Po_10), .int fo_11])), (tp, .inr (5, [.ref by_, .int (nI T)])), (by_, .inl (cI, 260, .inl fb)), (lw, .inr (1, [.ref l1, .ref l2, .ref l3, .ref l4, .ref l5, .ref l6, .ref l7, .int (nI zo_12), .int (nI k)])), (l1, .inl (cI, 240, .inl l1o_13))] H := hP
          have hD : va_D A [(h0, .inr (2, [.ref tx, .ref lw])), (tx, .inr (6, [.ref tp, .int (nI N), .int (nI Po_10), .int fo_11])), (tp, .inr (5, [.ref by_, .int (nI T)])), (by_, .inl (cI, 260, .inl fb)), (lw, .inr (1, [.ref l1, .ref l2, .ref l3, .ref l4, .ref l5, .ref l6, .ref l7, .int (nI zo_12), .int (nI k)])), (l1, .inl (cI, 240, .inl l1o_13))] := hD
          refine lv_aload_n hx hb dX2_readSum_75 rfl (lv_at hl 1 rfl) ?_
          refine va_get (D := D) (ci := 2) (v := .ref lw) (C := RX2) (T := TX2) (N := 2) hx hb htb itX2 hown hK hP 0 rfl rfl 1 (by decide) (htb _ k_289) (fun _ h9 => h9) rfl dX2_readSum_76 ?_
          refine lv_iload_n hx hb dX2_readSum_79 rfl (lv_at hl 0 rfl) ?_
          refine lv_iconst (v := 0) hx hb dX2_readSum_80 (by decide) ?_
          refine cVV (As := [.int 6, .int 0]) (rest := []) (n := 2) (ci := 1) (q0 := 0) (wr := [(h0, .inr (2, [.ref tx, .ref lw])), (tx, .inr (6, [.ref tp, .int (nI N), .int (nI Po_10), .int fo_11])), (tp, .inr (5, [.ref by_, .int (nI T)])), (by_, .inl (cI, 260, .inl fb))]) X hN hK hP hD hS hA (c_X1_addStep l D cI cB _ lw l1 l2 l3 l4 l5 l6 l7 zo_12 k 6 0 l1o_13 hw_14.1 hk) (gV k_594 k_595 k_596 k_97 k_597) (by decide +kernel) ⟨Nat.le_of_ble_eq_true rfl, Nat.le_of_ble_eq_true rfl⟩ ⟨rfl, rfl⟩ [4, 5] [0, 1, 2, 3] rfl rfl (by decide) (by decide) rfl rfl rfl rfl rfl hl.1 (Nat.le_of_ble_eq_true rfl) dX2_readSum_81 ⟨Nat.le_of_ble_eq_true rfl, Nat.le_of_ble_eq_true rfl⟩ (fun u H locs hw_18 hP hD hS => ?_)
          obtain ⟨zo_16, l1_fo_17⟩ := u
          try dsimp only at hw_18
          have hP : va_P D vwCl [(h0, .inr (2, [.ref tx, .ref lw])), (tx, .inr (6, [.ref tp, .int (nI N), .int (nI Po_10), .int fo_11])), (tp, .inr (5, [.ref by_, .int (nI T)])), (by_, .inl (cI, 260, .inl fb)), (lw, .inr (1, [.ref l1, .ref l2, .ref l3, .ref l4, .ref l5, .ref l6, .ref l7, .int (nI zo_16), .int (nI k)])), (l1, .inl (cI, 240, .inl l1_fo_17))] H := hP
          have hD : va_D A [(h0, .inr (2, [.ref tx, .ref lw])), (tx, .inr (6, [.ref tp, .int (nI N), .int (nI Po_10), .int fo_11])), (tp, .inr (5, [.ref by_, .int (nI T)])), (by_, .inl (cI, 260, .inl fb)), (lw, .inr (1, [.ref l1, .ref l2, .ref l3, .ref l4, .ref l5, .ref l6, .ref l7, .int (nI zo_16), .int (nI k)])), (l1, .inl (cI, 240, .inl l1_fo_17))] := hD
          refine lv_iinc (v := (nI (i + 1))) (lv' := [(2, .int (nI (i + 1))), (3, .int 6), (0, .ref h0), (1, .int 4)]) hx hb dX2_readSum_84 hl (k := 3) rfl (nI_1 i) (by decide) rfl (fun ls hl => ?_)
          refine lv_goto (tgt := 7) hx hb dX2_readSum_87 (by decide) ?_
          exact ih_7 (i + 1) Po_10 fo_11 zo_16 l1_fo_17 (by omega) hw_18 (hq.more hs5 hw_14.2.1) (fun z w => by have := (((hw_14.2.1.2.2.2.2 rfl).1 z).1); have := hiP rfl w; omega) hw_14.2.2 _ _ (hP.sub [0, 1, 2, 3, 4, 5] rfl) (hD.sub [0, 1, 2, 3, 4, 5] (by decide) rfl) hS _ (lv_sub hl [2, 3, 0] rfl)
        · refine lv_iconst (v := 5) hx hb dX2_readSum_50 (by decide) ?_
          refine lv_goto (tgt := 56) hx hb dX2_readSum_51 (by decide) ?_
          refine lv_istore_n (lv' := [(3, .int 5), (0, .ref h0), (1, .int 4), (2, .int (nI i))]) hx hb dX2_readSum_56 rfl hl (by decide) rfl (fun ls hl => ?_)
          refine lv_aload_n hx hb dX2_readSum_57 rfl (lv_at hl 1 rfl) ?_
          refine va_get (D := D) (ci := 2) (v := .ref tx) (C := RX2) (T := TX2) (N := 2) hx hb htb itX2 hown hK hP 0 rfl rfl 0 (by decide) (htb _ k_288) (fun _ h9 => h9) rfl dX2_readSum_58 ?_
          refine lv_dup hx hb dX2_readSum_61 rfl ?_
          refine va_getN (D := D) (ci := 6) (v := .int (nI Pa)) (C := RX6) (T := TX6) (N := 4) hx hb htb itX6 hown hK hP 1 rfl rfl 2 (by decide) (va_Nw.use rfl (hN _ n_264 rfl)) (fun _ h9 => h9) rfl dX2_readSum_62 ?_
          refine lv_iconst (v := 1) hx hb dX2_readSum_65 (by decide) ?_
          refine lv_iadd hx hb dX2_readSum_66 ?_
          refine tv (z := (nI (Pa + 1))) (nI_1 Pa) ?_
          refine va_putN (D := D) (ci := 6) (v := .int (nI (Pa + 1))) (ty := .int) (C := RX6) (T := TX6) (N := 4) hx hb htb itX6 tyX6 tyX6_ok nmX6 hown hK hP hD hS 1 rfl rfl 2 (by decide) (va_Nw.use rfl (hN _ n_264 rfl)) (fun _ h9 => h9) rfl (tyX6_ok 2 (by decide)) rfl rfl (Nat.le_of_ble_eq_true rfl) dX2_readSum_67 (fun H locs hP hD hS => ?_)
          have hP : va_P D vwCl [(h0, .inr (2, [.ref tx, .ref lw])), (tx, .inr (6, [.ref tp, .int (nI N), .int (nI (Pa + 1)), .int 0])), (tp, .inr (5, [.ref by_, .int (nI T)])), (by_, .inl (cI, 260, .inl fb)), (lw, .inr (1, [.ref l1, .ref l2, .ref l3, .ref l4, .ref l5, .ref l6, .ref l7, .int (nI za), .int (nI k)])), (l1, .inl (cI, 240, .inl qa))] H := hP
          have hD : va_D A [(h0, .inr (2, [.ref tx, .ref lw])), (tx, .inr (6, [.ref tp, .int (nI N), .int (nI (Pa + 1)), .int 0])), (tp, .inr (5, [.ref by_, .int (nI T)])), (by_, .inl (cI, 260, .inl fb)), (lw, .inr (1, [.ref l1, .ref l2, .ref l3, .ref l4, .ref l5, .ref l6, .ref l7, .int (nI za), .int (nI k)])), (l1, .inl (cI, 240, .inl qa))] := hD
          refine lv_aload_n hx hb dX2_readSum_70 rfl (lv_at hl 1 rfl) ?_
          refine lv_iload_n hx hb dX2_readSum_71 rfl (lv_at hl 2 rfl) ?_
          refine cVVk (As := [.int 4]) (rest := []) (n := 1) (ci := 2) (q0 := 0) (wr := []) X hN hKO hK hP hD hS hA (c_rtP_4 l D cI cB _ kk h0 tx tp N (Pa + 1) 0 by_ T fb lw l1 l2 l3 l4 l5 l6 l7 za k qa hT hNT (by omega) hN2 (Or.inl rfl) hbr hza hk) (gV k_585 k_587 k_3 k_99 k_588) (by decide +kernel) ⟨Nat.le_of_ble_eq_true rfl, Nat.le_of_ble_eq_true rfl⟩ ⟨rfl, rfl⟩ [0, 1, 2, 3, 4, 5] [] rfl rfl (by decide) (by decide) rfl rfl rfl rfl rfl hl.1 (Nat.le_of_ble_eq_true rfl) dX2_readSum_72 ⟨Nat.le_of_ble_eq_true rfl, Nat.le_of_ble_eq_true rfl⟩ (fun u H locs hw_24 hP hD hS => ?_)
          obtain ⟨Po_20, fo_21, zo_22, l1o_23⟩ := u
          try dsimp only at hw_24
          have hP : va_P D vwCl [(h0, .inr (2, [.ref tx, .ref lw])), (tx, .inr (6, [.ref tp, .int (nI N), .int (nI Po_20), .int fo_21])), (tp, .inr (5, [.ref by_, .int (nI T)])), (by_, .inl (cI, 260, .inl fb)), (lw, .inr (1, [.ref l1, .ref l2, .ref l3, .ref l4, .ref l5, .ref l6, .ref l7, .int (nI zo_22), .int (nI k)])), (l1, .inl (cI, 240, .inl l1o_23))] H := hP
          have hD : va_D A [(h0, .inr (2, [.ref tx, .ref lw])), (tx, .inr (6, [.ref tp, .int (nI N), .int (nI Po_20), .int fo_21])), (tp, .inr (5, [.ref by_, .int (nI T)])), (by_, .inl (cI, 260, .inl fb)), (lw, .inr (1, [.ref l1, .ref l2, .ref l3, .ref l4, .ref l5, .ref l6, .ref l7, .int (nI zo_22), .int (nI k)])), (l1, .inl (cI, 240, .inl l1o_23))] := hD
          refine lv_aload_n hx hb dX2_readSum_75 rfl (lv_at hl 1 rfl) ?_
          refine va_get (D := D) (ci := 2) (v := .ref lw) (C := RX2) (T := TX2) (N := 2) hx hb htb itX2 hown hK hP 0 rfl rfl 1 (by decide) (htb _ k_289) (fun _ h9 => h9) rfl dX2_readSum_76 ?_
          refine lv_iload_n hx hb dX2_readSum_79 rfl (lv_at hl 0 rfl) ?_
          refine lv_iconst (v := 0) hx hb dX2_readSum_80 (by decide) ?_
          refine cVV (As := [.int 5, .int 0]) (rest := []) (n := 2) (ci := 1) (q0 := 0) (wr := [(h0, .inr (2, [.ref tx, .ref lw])), (tx, .inr (6, [.ref tp, .int (nI N), .int (nI Po_20), .int fo_21])), (tp, .inr (5, [.ref by_, .int (nI T)])), (by_, .inl (cI, 260, .inl fb))]) X hN hK hP hD hS hA (c_X1_addStep l D cI cB _ lw l1 l2 l3 l4 l5 l6 l7 zo_22 k 5 0 l1o_23 hw_24.1 hk) (gV k_594 k_595 k_596 k_97 k_597) (by decide +kernel) ⟨Nat.le_of_ble_eq_true rfl, Nat.le_of_ble_eq_true rfl⟩ ⟨rfl, rfl⟩ [4, 5] [0, 1, 2, 3] rfl rfl (by decide) (by decide) rfl rfl rfl rfl rfl hl.1 (Nat.le_of_ble_eq_true rfl) dX2_readSum_81 ⟨Nat.le_of_ble_eq_true rfl, Nat.le_of_ble_eq_true rfl⟩ (fun u H locs hw_28 hP hD hS => ?_)
          obtain ⟨zo_26, l1_fo_27⟩ := u
          try dsimp only at hw_28
          have hP : va_P D vwCl [(h0, .inr (2, [.ref tx, .ref lw])), (tx, .inr (6, [.ref tp, .int (nI N), .int (nI Po_20), .int fo_21])), (tp, .inr (5, [.ref by_, .int (nI T)])), (by_, .inl (cI, 260, .inl fb)), (lw, .inr (1, [.ref l1, .ref l2, .ref l3, .ref l4, .ref l5, .ref l6, .ref l7, .int (nI zo_26), .int (nI k)])), (l1, .inl (cI, 240, .inl l1_fo_27))] H := hP
          have hD : va_D A [(h0, .inr (2, [.ref tx, .ref lw])), (tx, .inr (6, [.ref tp, .int (nI N), .int (nI Po_20), .int fo_21])), (tp, .inr (5, [.ref by_, .int (nI T)])), (by_, .inl (cI, 260, .inl fb)), (lw, .inr (1, [.ref l1, .ref l2, .ref l3, .ref l4, .ref l5, .ref l6, .ref l7, .int (nI zo_26), .int (nI k)])), (l1, .inl (cI, 240, .inl l1_fo_27))] := hD
          refine lv_iinc (v := (nI (i + 1))) (lv' := [(2, .int (nI (i + 1))), (3, .int 5), (0, .ref h0), (1, .int 4)]) hx hb dX2_readSum_84 hl (k := 3) rfl (nI_1 i) (by decide) rfl (fun ls hl => ?_)
          refine lv_goto (tgt := 7) hx hb dX2_readSum_87 (by decide) ?_
          exact ih_7 (i + 1) Po_20 fo_21 zo_26 l1_fo_27 (by omega) hw_28 (hq.more hs5 hw_24.2.1) (fun z w => by have := (((hw_24.2.1.2.2.2.2 rfl).1 z).1); have := hiP rfl w; omega) hw_24.2.2 _ _ (hP.sub [0, 1, 2, 3, 4, 5] rfl) (hD.sub [0, 1, 2, 3, 4, 5] (by decide) rfl) hS _ (lv_sub hl [2, 3, 0] rfl)
      · refine lv_aload_n hx hb dX2_readSum_26 rfl (lv_at hl 0 rfl) ?_
        refine va_get (D := D) (ci := 2) (v := .ref tx) (C := RX2) (T := TX2) (N := 2) hx hb htb itX2 hown hK hP 0 rfl rfl 0 (by decide) (htb _ k_288) (fun _ h9 => h9) rfl dX2_readSum_27 ?_
        refine cVR (As := []) (rest := []) (n := 0) (ci := 6) (q0 := 0) X hN hK hP (c_signP l D cI cB tx tp N Pa fv by_ T fb hT hNT hq.2.2.2.1) (gV k_483 k_484 k_485 k_98 k_486) (by decide +kernel) ⟨Nat.le_of_ble_eq_true rfl, Nat.le_of_ble_eq_true rfl⟩ ⟨rfl, rfl⟩ [1, 2, 3] rfl rfl rfl rfl rfl rfl hl.1 (Nat.le_of_ble_eq_true rfl) dX2_readSum_30 ⟨Nat.le_of_ble_eq_true rfl, Nat.le_of_ble_eq_true rfl⟩ (fun r_29 hr_29 => ?_)
        subst hr_29
        refine lv_bipush (v := 45) hx hb dX2_readSum_33 (by decide) ?_
        refine lv_icmp_ne (tgt := 90) hx hb dX2_readSum_35 (by decide) (fun c_35 => ?_) (fun c_35 => ?_)
        · exact ret _ _ _ _ (Pa, fv, za, qa) dX2_readSum_90 (⟨hza, ⟨hq, fun (z : fv = 0) => by have w1 := c_23; have w2 := c_35; rw [z, sQ0] at w1 w2; exact fun y => y.elim (fun a => a.elim w1 w2) (hmu z)⟩⟩) (hP.sub [0, 1, 2, 3, 4, 5] rfl) (hD.sub [0, 1, 2, 3, 4, 5] (by decide) rfl) hS
        · obtain ⟨hf0, hlt, hs5⟩ := sQs (sgA (Or.inr c_35))
          subst hf0
          refine lv_aload_n hx hb dX2_readSum_38 rfl (lv_at hl 0 rfl) ?_
          refine va_get (D := D) (ci := 2) (v := .ref tx) (C := RX2) (T := TX2) (N := 2) hx hb htb itX2 hown hK hP 0 rfl rfl 0 (by decide) (htb _ k_288) (fun _ h9 => h9) rfl dX2_readSum_39 ?_
          refine cVR (As := []) (rest := []) (n := 0) (ci := 6) (q0 := 0) X hN hK hP (c_signP l D cI cB tx tp N Pa 0 by_ T fb hT hNT hq.2.2.2.1) (gV k_483 k_484 k_485 k_98 k_486) (by decide +kernel) ⟨Nat.le_of_ble_eq_true rfl, Nat.le_of_ble_eq_true rfl⟩ ⟨rfl, rfl⟩ [1, 2, 3] rfl rfl rfl rfl rfl rfl hl.1 (Nat.le_of_ble_eq_true rfl) dX2_readSum_42 ⟨Nat.le_of_ble_eq_true rfl, Nat.le_of_ble_eq_true rfl⟩ (fun r_30 hr_30 => ?_)
          subst hr_30
          refine lv_bipush (v := 43) hx hb dX2_readSum_45 (by decide) ?_
          refine lv_icmp_ne (tgt := 54) hx hb dX2_readSum_47 (by decide) (fun c_47 => ?_) (fun c_47 => ?_)
          · refine lv_bipush (v := 6) hx hb dX2_readSum_54 (by decide) ?_
            refine lv_istore_n (lv' := [(3, .int 6), (0, .ref h0), (1, .int 4), (2, .int (nI i))]) hx hb dX2_readSum_56 rfl hl (by decide) rfl (fun ls hl => ?_)
            refine lv_aload_n hx hb dX2_readSum_57 rfl (lv_at hl 1 rfl) ?_
            refine va_get (D := D) (ci := 2) (v := .ref tx) (C := RX2) (T := TX2) (N := 2) hx hb htb itX2 hown hK hP 0 rfl rfl 0 (by decide) (htb _ k_288) (fun _ h9 => h9) rfl dX2_readSum_58 ?_
            refine lv_dup hx hb dX2_readSum_61 rfl ?_
            refine va_getN (D := D) (ci := 6) (v := .int (nI Pa)) (C := RX6) (T := TX6) (N := 4) hx hb htb itX6 hown hK hP 1 rfl rfl 2 (by decide) (va_Nw.use rfl (hN _ n_264 rfl)) (fun _ h9 => h9) rfl dX2_readSum_62 ?_
            refine lv_iconst (v := 1) hx hb dX2_readSum_65 (by decide) ?_
            refine lv_iadd hx hb dX2_readSum_66 ?_
            refine tv (z := (nI (Pa + 1))) (nI_1 Pa) ?_
            refine va_putN (D := D) (ci := 6) (v := .int (nI (Pa + 1))) (ty := .int) (C := RX6) (T := TX6) (N := 4) hx hb htb itX6 tyX6 tyX6_ok nmX6 hown hK hP hD hS 1 rfl rfl 2 (by decide) (va_Nw.use rfl (hN _ n_264 rfl)) (fun _ h9 => h9) rfl (tyX6_ok 2 (by decide)) rfl rfl (Nat.le_of_ble_eq_true rfl) dX2_readSum_67 (fun H locs hP hD hS => ?_)
            have hP : va_P D vwCl [(h0, .inr (2, [.ref tx, .ref lw])), (tx, .inr (6, [.ref tp, .int (nI N), .int (nI (Pa + 1)), .int 0])), (tp, .inr (5, [.ref by_, .int (nI T)])), (by_, .inl (cI, 260, .inl fb)), (lw, .inr (1, [.ref l1, .ref l2, .ref l3, .ref l4, .ref l5, .ref l6, .ref l7, .int (nI za), .int (nI k)])), (l1, .inl (cI, 240, .inl qa))] H := hP
            have hD : va_D A [(h0, .inr (2, [.ref tx, .ref lw])), (tx, .inr (6, [.ref tp, .int (nI N), .int (nI (Pa + 1)), .int 0])), (tp, .inr (5, [.ref by_, .int (nI T)])), (by_, .inl (cI, 260, .inl fb)), (lw, .inr (1, [.ref l1, .ref l2, .ref l3, .ref l4, .ref l5, .ref l6, .ref l7, .int (nI za), .int (nI k)])), (l1, .inl (cI, 240, .inl qa))] := hD
            refine lv_aload_n hx hb dX2_readSum_70 rfl (lv_at hl 1 rfl) ?_
            refine lv_iload_n hx hb dX2_readSum_71 rfl (lv_at hl 2 rfl) ?_
            refine cVVk (As := [.int 4]) (rest := []) (n := 1) (ci := 2) (q0 := 0) (wr := []) X hN hKO hK hP hD hS hA (c_rtP_4 l D cI cB _ kk h0 tx tp N (Pa + 1) 0 by_ T fb lw l1 l2 l3 l4 l5 l6 l7 za k qa hT hNT (by omega) hN2 (Or.inl rfl) hbr hza hk) (gV k_585 k_587 k_3 k_99 k_588) (by decide +kernel) ⟨Nat.le_of_ble_eq_true rfl, Nat.le_of_ble_eq_true rfl⟩ ⟨rfl, rfl⟩ [0, 1, 2, 3, 4, 5] [] rfl rfl (by decide) (by decide) rfl rfl rfl rfl rfl hl.1 (Nat.le_of_ble_eq_true rfl) dX2_readSum_72 ⟨Nat.le_of_ble_eq_true rfl, Nat.le_of_ble_eq_true rfl⟩ (fun u H locs hw_36 hP hD hS => ?_)
            obtain ⟨Po_32, fo_33, zo_34, l1o_35⟩ := u
            try dsimp only at hw_36
            have hP : va_P D vwCl [(h0, .inr (2, [.ref tx, .ref lw])), (tx, .inr (6, [.ref tp, .int (nI N), .int (nI Po_32), .int fo_33])), (tp, .inr (5, [.ref by_, .int (nI T)])), (by_, .inl (cI, 260, .inl fb)), (lw, .inr (1, [.ref l1, .ref l2, .ref l3, .ref l4, .ref l5, .ref l6, .ref l7, .int (nI zo_34), .int (nI k)])), (l1, .inl (cI, 240, .inl l1o_35))] H := hP
            have hD : va_D A [(h0, .inr (2, [.ref tx, .ref lw])), (tx, .inr (6, [.ref tp, .int (nI N), .int (nI Po_32), .int fo_33])), (tp, .inr (5, [.ref by_, .int (nI T)])), (by_, .inl (cI, 260, .inl fb)), (lw, .inr (1, [.ref l1, .ref l2, .ref l3, .ref l4, .ref l5, .ref l6, .ref l7, .int (nI zo_34), .int (nI k)])), (l1, .inl (cI, 240, .inl l1o_35))] := hD
            refine lv_aload_n hx hb dX2_readSum_75 rfl (lv_at hl 1 rfl) ?_
            refine va_get (D := D) (ci := 2) (v := .ref lw) (C := RX2) (T := TX2) (N := 2) hx hb htb itX2 hown hK hP 0 rfl rfl 1 (by decide) (htb _ k_289) (fun _ h9 => h9) rfl dX2_readSum_76 ?_
            refine lv_iload_n hx hb dX2_readSum_79 rfl (lv_at hl 0 rfl) ?_
            refine lv_iconst (v := 0) hx hb dX2_readSum_80 (by decide) ?_
            refine cVV (As := [.int 6, .int 0]) (rest := []) (n := 2) (ci := 1) (q0 := 0) (wr := [(h0, .inr (2, [.ref tx, .ref lw])), (tx, .inr (6, [.ref tp, .int (nI N), .int (nI Po_32), .int fo_33])), (tp, .inr (5, [.ref by_, .int (nI T)])), (by_, .inl (cI, 260, .inl fb))]) X hN hK hP hD hS hA (c_X1_addStep l D cI cB _ lw l1 l2 l3 l4 l5 l6 l7 zo_34 k 6 0 l1o_35 hw_36.1 hk) (gV k_594 k_595 k_596 k_97 k_597) (by decide +kernel) ⟨Nat.le_of_ble_eq_true rfl, Nat.le_of_ble_eq_true rfl⟩ ⟨rfl, rfl⟩ [4, 5] [0, 1, 2, 3] rfl rfl (by decide) (by decide) rfl rfl rfl rfl rfl hl.1 (Nat.le_of_ble_eq_true rfl) dX2_readSum_81 ⟨Nat.le_of_ble_eq_true rfl, Nat.le_of_ble_eq_true rfl⟩ (fun u H locs hw_40 hP hD hS => ?_)
            obtain ⟨zo_38, l1_fo_39⟩ := u
            try dsimp only at hw_40
            have hP : va_P D vwCl [(h0, .inr (2, [.ref tx, .ref lw])), (tx, .inr (6, [.ref tp, .int (nI N), .int (nI Po_32), .int fo_33])), (tp, .inr (5, [.ref by_, .int (nI T)])), (by_, .inl (cI, 260, .inl fb)), (lw, .inr (1, [.ref l1, .ref l2, .ref l3, .ref l4, .ref l5, .ref l6, .ref l7, .int (nI zo_38), .int (nI k)])), (l1, .inl (cI, 240, .inl l1_fo_39))] H := hP
            have hD : va_D A [(h0, .inr (2, [.ref tx, .ref lw])), (tx, .inr (6, [.ref tp, .int (nI N), .int (nI Po_32), .int fo_33])), (tp, .inr (5, [.ref by_, .int (nI T)])), (by_, .inl (cI, 260, .inl fb)), (lw, .inr (1, [.ref l1, .ref l2, .ref l3, .ref l4, .ref l5, .ref l6, .ref l7, .int (nI zo_38), .int (nI k)])), (l1, .inl (cI, 240, .inl l1_fo_39))] := hD
            refine lv_iinc (v := (nI (i + 1))) (lv' := [(2, .int (nI (i + 1))), (3, .int 6), (0, .ref h0), (1, .int 4)]) hx hb dX2_readSum_84 hl (k := 3) rfl (nI_1 i) (by decide) rfl (fun ls hl => ?_)
            refine lv_goto (tgt := 7) hx hb dX2_readSum_87 (by decide) ?_
            exact ih_7 (i + 1) Po_32 fo_33 zo_38 l1_fo_39 (by omega) hw_40 (hq.more hs5 hw_36.2.1) (fun z w => by have := (((hw_36.2.1.2.2.2.2 rfl).1 z).1); have := hiP rfl w; omega) hw_36.2.2 _ _ (hP.sub [0, 1, 2, 3, 4, 5] rfl) (hD.sub [0, 1, 2, 3, 4, 5] (by decide) rfl) hS _ (lv_sub hl [2, 3, 0] rfl)
          · refine lv_iconst (v := 5) hx hb dX2_readSum_50 (by decide) ?_
            refine lv_goto (tgt := 56) hx hb dX2_readSum_51 (by decide) ?_
            refine lv_istore_n (lv' := [(3, .int 5), (0, .ref h0), (1, .int 4), (2, .int (nI i))]) hx hb dX2_readSum_56 rfl hl (by decide) rfl (fun ls hl => ?_)
            refine lv_aload_n hx hb dX2_readSum_57 rfl (lv_at hl 1 rfl) ?_
            refine va_get (D := D) (ci := 2) (v := .ref tx) (C := RX2) (T := TX2) (N := 2) hx hb htb itX2 hown hK hP 0 rfl rfl 0 (by decide) (htb _ k_288) (fun _ h9 => h9) rfl dX2_readSum_58 ?_
            refine lv_dup hx hb dX2_readSum_61 rfl ?_
            refine va_getN (D := D) (ci := 6) (v := .int (nI Pa)) (C := RX6) (T := TX6) (N := 4) hx hb htb itX6 hown hK hP 1 rfl rfl 2 (by decide) (va_Nw.use rfl (hN _ n_264 rfl)) (fun _ h9 => h9) rfl dX2_readSum_62 ?_
            refine lv_iconst (v := 1) hx hb dX2_readSum_65 (by decide) ?_
            refine lv_iadd hx hb dX2_readSum_66 ?_
            refine tv (z := (nI (Pa + 1))) (nI_1 Pa) ?_
            refine va_putN (D := D) (ci := 6) (v := .int (nI (Pa + 1))) (ty := .int) (C := RX6) (T := TX6) (N := 4) hx hb htb itX6 tyX6 tyX6_ok nmX6 hown hK hP hD hS 1 rfl rfl 2 (by decide) (va_Nw.use rfl (hN _ n_264 rfl)) (fun _ h9 => h9) rfl (tyX6_ok 2 (by decide)) rfl rfl (Nat.le_of_ble_eq_true rfl) dX2_readSum_67 (fun H locs hP hD hS => ?_)
            have hP : va_P D vwCl [(h0, .inr (2, [.ref tx, .ref lw])), (tx, .inr (6, [.ref tp, .int (nI N), .int (nI (Pa + 1)), .int 0])), (tp, .inr (5, [.ref by_, .int (nI T)])), (by_, .inl (cI, 260, .inl fb)), (lw, .inr (1, [.ref l1, .ref l2, .ref l3, .ref l4, .ref l5, .ref l6, .ref l7, .int (nI za), .int (nI k)])), (l1, .inl (cI, 240, .inl qa))] H := hP
            have hD : va_D A [(h0, .inr (2, [.ref tx, .ref lw])), (tx, .inr (6, [.ref tp, .int (nI N), .int (nI (Pa + 1)), .int 0])), (tp, .inr (5, [.ref by_, .int (nI T)])), (by_, .inl (cI, 260, .inl fb)), (lw, .inr (1, [.ref l1, .ref l2, .ref l3, .ref l4, .ref l5, .ref l6, .ref l7, .int (nI za), .int (nI k)])), (l1, .inl (cI, 240, .inl qa))] := hD
            refine lv_aload_n hx hb dX2_readSum_70 rfl (lv_at hl 1 rfl) ?_
            refine lv_iload_n hx hb dX2_readSum_71 rfl (lv_at hl 2 rfl) ?_
            refine cVVk (As := [.int 4]) (rest := []) (n := 1) (ci := 2) (q0 := 0) (wr := []) X hN hKO hK hP hD hS hA (c_rtP_4 l D cI cB _ kk h0 tx tp N (Pa + 1) 0 by_ T fb lw l1 l2 l3 l4 l5 l6 l7 za k qa hT hNT (by omega) hN2 (Or.inl rfl) hbr hza hk) (gV k_585 k_587 k_3 k_99 k_588) (by decide +kernel) ⟨Nat.le_of_ble_eq_true rfl, Nat.le_of_ble_eq_true rfl⟩ ⟨rfl, rfl⟩ [0, 1, 2, 3, 4, 5] [] rfl rfl (by decide) (by decide) rfl rfl rfl rfl rfl hl.1 (Nat.le_of_ble_eq_true rfl) dX2_readSum_72 ⟨Nat.le_of_ble_eq_true rfl, Nat.le_of_ble_eq_true rfl⟩ (fun u H locs hw_46 hP hD hS => ?_)
            obtain ⟨Po_42, fo_43, zo_44, l1o_45⟩ := u
            try dsimp only at hw_46
            have hP : va_P D vwCl [(h0, .inr (2, [.ref tx, .ref lw])), (tx, .inr (6, [.ref tp, .int (nI N), .int (nI Po_42), .int fo_43])), (tp, .inr (5, [.ref by_, .int (nI T)])), (by_, .inl (cI, 260, .inl fb)), (lw, .inr (1, [.ref l1, .ref l2, .ref l3, .ref l4, .ref l5, .ref l6, .ref l7, .int (nI zo_44), .int (nI k)])), (l1, .inl (cI, 240, .inl l1o_45))] H := hP
            have hD : va_D A [(h0, .inr (2, [.ref tx, .ref lw])), (tx, .inr (6, [.ref tp, .int (nI N), .int (nI Po_42), .int fo_43])), (tp, .inr (5, [.ref by_, .int (nI T)])), (by_, .inl (cI, 260, .inl fb)), (lw, .inr (1, [.ref l1, .ref l2, .ref l3, .ref l4, .ref l5, .ref l6, .ref l7, .int (nI zo_44), .int (nI k)])), (l1, .inl (cI, 240, .inl l1o_45))] := hD
            refine lv_aload_n hx hb dX2_readSum_75 rfl (lv_at hl 1 rfl) ?_
            refine va_get (D := D) (ci := 2) (v := .ref lw) (C := RX2) (T := TX2) (N := 2) hx hb htb itX2 hown hK hP 0 rfl rfl 1 (by decide) (htb _ k_289) (fun _ h9 => h9) rfl dX2_readSum_76 ?_
            refine lv_iload_n hx hb dX2_readSum_79 rfl (lv_at hl 0 rfl) ?_
            refine lv_iconst (v := 0) hx hb dX2_readSum_80 (by decide) ?_
            refine cVV (As := [.int 5, .int 0]) (rest := []) (n := 2) (ci := 1) (q0 := 0) (wr := [(h0, .inr (2, [.ref tx, .ref lw])), (tx, .inr (6, [.ref tp, .int (nI N), .int (nI Po_42), .int fo_43])), (tp, .inr (5, [.ref by_, .int (nI T)])), (by_, .inl (cI, 260, .inl fb))]) X hN hK hP hD hS hA (c_X1_addStep l D cI cB _ lw l1 l2 l3 l4 l5 l6 l7 zo_44 k 5 0 l1o_45 hw_46.1 hk) (gV k_594 k_595 k_596 k_97 k_597) (by decide +kernel) ⟨Nat.le_of_ble_eq_true rfl, Nat.le_of_ble_eq_true rfl⟩ ⟨rfl, rfl⟩ [4, 5] [0, 1, 2, 3] rfl rfl (by decide) (by decide) rfl rfl rfl rfl rfl hl.1 (Nat.le_of_ble_eq_true rfl) dX2_readSum_81 ⟨Nat.le_of_ble_eq_true rfl, Nat.le_of_ble_eq_true rfl⟩ (fun u H locs hw_50 hP hD hS => ?_)
            obtain ⟨zo_48, l1_fo_49⟩ := u
            try dsimp only at hw_50
            have hP : va_P D vwCl [(h0, .inr (2, [.ref tx, .ref lw])), (tx, .inr (6, [.ref tp, .int (nI N), .int (nI Po_42), .int fo_43])), (tp, .inr (5, [.ref by_, .int (nI T)])), (by_, .inl (cI, 260, .inl fb)), (lw, .inr (1, [.ref l1, .ref l2, .ref l3, .ref l4, .ref l5, .ref l6, .ref l7, .int (nI zo_48), .int (nI k)])), (l1, .inl (cI, 240, .inl l1_fo_49))] H := hP
            have hD : va_D A [(h0, .inr (2, [.ref tx, .ref lw])), (tx, .inr (6, [.ref tp, .int (nI N), .int (nI Po_42), .int fo_43])), (tp, .inr (5, [.ref by_, .int (nI T)])), (by_, .inl (cI, 260, .inl fb)), (lw, .inr (1, [.ref l1, .ref l2, .ref l3, .ref l4, .ref l5, .ref l6, .ref l7, .int (nI zo_48), .int (nI k)])), (l1, .inl (cI, 240, .inl l1_fo_49))] := hD
            refine lv_iinc (v := (nI (i + 1))) (lv' := [(2, .int (nI (i + 1))), (3, .int 5), (0, .ref h0), (1, .int 4)]) hx hb dX2_readSum_84 hl (k := 3) rfl (nI_1 i) (by decide) rfl (fun ls hl => ?_)
            refine lv_goto (tgt := 7) hx hb dX2_readSum_87 (by decide) ?_
            exact ih_7 (i + 1) Po_42 fo_43 zo_48 l1_fo_49 (by omega) hw_50 (hq.more hs5 hw_46.2.1) (fun z w => by have := (((hw_46.2.1.2.2.2.2 rfl).1 z).1); have := hiP rfl w; omega) hw_46.2.2 _ _ (hP.sub [0, 1, 2, 3, 4, 5] rfl) (hD.sub [0, 1, 2, 3, 4, 5] (by decide) rfl) hS _ (lv_sub hl [2, 3, 0] rfl)
  exact loop_7 240 0 Po_2 fo_3 zo_4 l1o_5 (by omega) hw_6.1 hw_6.2.1 (fun z w => (((hw_6.2.1.2.2.2.2 w).1 z).1 |> fun y => by omega)) hw_6.2.2 _ _ (hP.sub [0, 1, 2, 3, 4, 5] rfl) (hD.sub [0, 1, 2, 3, 4, 5] (by decide) rfl) hS _ (lv_sub hl [1, 2, 0] rfl)

set_option maxRecDepth 100000 in
set_option maxHeartbeats 4000000 in
theorem c_rfP_3 (l : Launch) (D : va_G) (cI cB : ClassId) (sz : Nat) (kk : KT) (h0 : Nat) (tx : Nat) (tp : Nat) (N : Nat) (P : Nat) (fa : Int32) (by_ : Nat) (T : Nat) (fb : Nat → Int32) (lw : Nat) (l1 : Nat) (l2 : Nat) (l3 : Nat) (l4 : Nat) (l5 : Nat) (l6 : Nat) (l7 : Nat) (z : Nat) (k : Nat) (q1 : Nat → Int32) (hT : T ≤ 260) (hNT : N ≤ T) (hPN : P ≤ N) (hN2 : N ≤ 240) (hfa : fa = 0 ∨ fa < 0) (hbr : BR N fb) (hz : z ≤ 240) (hk : k ≤ 16) : MVk (S := ((Nat) × (Int32) × (Nat) × (Nat → Int32))) l D cI cB kk yX2_readFactor cX2_readFactor 3 (rm 14 317) [.ref h0, .int 3] [(h0, .inr (2, [.ref tx, .ref lw])), (tx, .inr (6, [.ref tp, .int (nI N), .int (nI P), .int fa])), (tp, .inr (5, [.ref by_, .int (nI T)])), (by_, .inl (cI, 260, .inl fb)), (lw, .inr (1, [.ref l1, .ref l2, .ref l3, .ref l4, .ref l5, .ref l6, .ref l7, .int (nI z), .int (nI k)])), (l1, .inl (cI, 240, .inl q1))] sz (fun u => u.2.2.1 ≤ 240 ∧ FCQ fb N 3 P u.1 fa u.2.1) (fun u : ((Nat) × (Int32) × (Nat) × (Nat → Int32)) => [(h0, .inr (2, [.ref tx, .ref lw])), (tx, .inr (6, [.ref tp, .int (nI N), .int (nI u.1), .int u.2.1])), (tp, .inr (5, [.ref by_, .int (nI T)])), (by_, .inl (cI, 260, .inl fb)), (lw, .inr (1, [.ref l1, .ref l2, .ref l3, .ref l4, .ref l5, .ref l6, .ref l7, .int (nI u.2.2.1), .int (nI k)])), (l1, .inl (cI, 240, .inl u.2.2.2))]) := by
  refine MVk.of (by decide) (Nat.le_of_ble_eq_true rfl) ?_
  intro p e s m below meth c Q ls A X hin hN hKO hP hK hD hA hl ret
  have hS : va_S A s.heap s.heap [] := va_S.rf
  obtain ⟨hx, hb, hml, hown, htb⟩ := id X
  have hl : lv_has ls 3 [(0, .ref h0), (1, .int 3)] := hl
  refine lv_aload_n hx hb dX2_readFactor_0 rfl (lv_at hl 0 rfl) ?_
  refine va_ldcS hx hb hown hKO.2.2.2.2.2 dX2_readFactor_1 ?_
  refine cVRk (As := [.ref (kk.2.1 1)]) (rest := []) (n := 1) (ci := 2) (q0 := 0) X hN hKO hS hK hP (c_placeInP1 l D cI cB kk h0 lw tx tp N P fa by_ T fb hT hNT hPN hbr) (gV k_479 k_481 k_1 k_99 k_482) (by decide +kernel) ⟨Nat.le_of_ble_eq_true rfl, Nat.le_of_ble_eq_true rfl⟩ ⟨rfl, rfl⟩ [0, 1, 2, 3] rfl rfl rfl rfl rfl rfl hl.1 (Nat.le_of_ble_eq_true rfl) dX2_readFactor_3 ⟨Nat.le_of_ble_eq_true rfl, Nat.le_of_ble_eq_true rfl⟩ (fun r_1 hr_1 => ?_)
  subst hr_1
  refine lv_topi (fun x_2 ex_2 => ?_)
  refine lv_istore_n (lv' := [(2, .int x_2), (0, .ref h0), (1, .int 3)]) hx hb dX2_readFactor_6 rfl hl (by decide) rfl (fun ls hl => ?_)
  refine lv_iload_n hx hb dX2_readFactor_7 rfl (lv_at hl 0 rfl) ?_
  refine lv_if_lt (tgt := 36) hx hb dX2_readFactor_8 (by decide) (fun c_8 => ?_) (fun c_8 => ?_)
  · refine lv_aload_n hx hb dX2_readFactor_36 rfl (lv_at hl 1 rfl) ?_
    refine va_get (D := D) (ci := 2) (v := .ref tx) (C := RX2) (T := TX2) (N := 2) hx hb htb itX2 hown hK hP 0 rfl rfl 0 (by decide) (htb _ k_288) (fun _ h9 => h9) rfl dX2_readFactor_37 ?_
    refine cVR (As := []) (rest := []) (n := 0) (ci := 6) (q0 := 0) X hN hK hP (c_signP l D cI cB tx tp N P fa by_ T fb hT hNT hPN) (gV k_483 k_484 k_485 k_98 k_486) (by decide +kernel) ⟨Nat.le_of_ble_eq_true rfl, Nat.le_of_ble_eq_true rfl⟩ ⟨rfl, rfl⟩ [1, 2, 3] rfl rfl rfl rfl rfl rfl hl.1 (Nat.le_of_ble_eq_true rfl) dX2_readFactor_40 ⟨Nat.le_of_ble_eq_true rfl, Nat.le_of_ble_eq_true rfl⟩ (fun r_3 hr_3 => ?_)
    subst hr_3
    refine lv_bipush (v := 91) hx hb dX2_readFactor_43 (by decide) ?_
    refine lv_icmp_ne (tgt := 75) hx hb dX2_readFactor_45 (by decide) (fun c_45 => ?_) (fun c_45 => ?_)
    · refine lv_aload_n hx hb dX2_readFactor_75 rfl (lv_at hl 1 rfl) ?_
      refine va_get (D := D) (ci := 2) (v := .ref lw) (C := RX2) (T := TX2) (N := 2) hx hb htb itX2 hown hK hP 0 rfl rfl 1 (by decide) (htb _ k_289) (fun _ h9 => h9) rfl dX2_readFactor_76 ?_
      refine lv_iconst (v := 0) hx hb dX2_readFactor_79 (by decide) ?_
      refine lv_aload_n hx hb dX2_readFactor_80 rfl (lv_at hl 1 rfl) ?_
      refine va_get (D := D) (ci := 2) (v := .ref tx) (C := RX2) (T := TX2) (N := 2) hx hb htb itX2 hown hK hP 0 rfl rfl 0 (by decide) (htb _ k_288) (fun _ h9 => h9) rfl dX2_readFactor_81 ?_
      refine lv_iconst (v := 5) hx hb dX2_readFactor_84 (by decide) ?_
      refine lv_iconst (v := 2) hx hb dX2_readFactor_85 (by decide) ?_
      refine cVI (As := [.int 5, .int 2]) (rest := [.int 0, .ref lw]) (n := 2) (ci := 6) (q0 := 0) (wr := [(h0, .inr (2, [.ref tx, .ref lw])), (lw, .inr (1, [.ref l1, .ref l2, .ref l3, .ref l4, .ref l5, .ref l6, .ref l7, .int (nI z), .int (nI k)])), (l1, .inl (cI, 240, .inl q1))]) X hN hK hP hD hS hA (c_numberP l D cI cB _ tx tp N P fa by_ T fb 5 2 hT hNT hPN (by decide)) (gV k_612 k_613 k_614 k_98 k_615) (by decide +kernel) ⟨Nat.le_of_ble_eq_true rfl, Nat.le_of_ble_eq_true rfl⟩ ⟨rfl, rfl⟩ [1, 2, 3] [0, 4, 5] rfl rfl (by decide) (by decide) rfl rfl rfl rfl rfl hl.1 (Nat.le_of_ble_eq_true rfl) dX2_readFactor_86 ⟨Nat.le_of_ble_eq_true rfl, Nat.le_of_ble_eq_true rfl⟩ (fun r_4 u H locs hw_7 hP hD hS => ?_)
      obtain ⟨Po_5, fo_6⟩ := u
      try dsimp only at hw_7
      have hP : va_P D vwCl [(h0, .inr (2, [.ref tx, .ref lw])), (lw, .inr (1, [.ref l1, .ref l2, .ref l3, .ref l4, .ref l5, .ref l6, .ref l7, .int (nI z), .int (nI k)])), (l1, .inl (cI, 240, .inl q1)), (tx, .inr (6, [.ref tp, .int (nI N), .int (nI Po_5), .int fo_6])), (tp, .inr (5, [.ref by_, .int (nI T)])), (by_, .inl (cI, 260, .inl fb))] H := hP
      have hD : va_D A [(h0, .inr (2, [.ref tx, .ref lw])), (lw, .inr (1, [.ref l1, .ref l2, .ref l3, .ref l4, .ref l5, .ref l6, .ref l7, .int (nI z), .int (nI k)])), (l1, .inl (cI, 240, .inl q1)), (tx, .inr (6, [.ref tp, .int (nI N), .int (nI Po_5), .int fo_6])), (tp, .inr (5, [.ref by_, .int (nI T)])), (by_, .inl (cI, 260, .inl fb))] := hD
      refine cVV (As := [.int 0, .int r_4]) (rest := []) (n := 2) (ci := 1) (q0 := 0) (wr := [(h0, .inr (2, [.ref tx, .ref lw])), (tx, .inr (6, [.ref tp, .int (nI N), .int (nI Po_5), .int fo_6])), (tp, .inr (5, [.ref by_, .int (nI T)])), (by_, .inl (cI, 260, .inl fb))]) X hN hK hP hD hS hA (c_X1_addStep l D cI cB _ lw l1 l2 l3 l4 l5 l6 l7 z k 0 r_4 q1 hz hk) (gV k_594 k_595 k_596 k_97 k_597) (by decide +kernel) ⟨Nat.le_of_ble_eq_true rfl, Nat.le_of_ble_eq_true rfl⟩ ⟨rfl, rfl⟩ [1, 2] [0, 3, 4, 5] rfl rfl (by decide) (by decide) rfl rfl rfl rfl rfl hl.1 (Nat.le_of_ble_eq_true rfl) dX2_readFactor_89 ⟨Nat.le_of_ble_eq_true rfl, Nat.le_of_ble_eq_true rfl⟩ (fun u H locs hw_11 hP hD hS => ?_)
      obtain ⟨zo_9, l1_fo_10⟩ := u
      try dsimp only at hw_11
      have hP : va_P D vwCl [(h0, .inr (2, [.ref tx, .ref lw])), (tx, .inr (6, [.ref tp, .int (nI N), .int (nI Po_5), .int fo_6])), (tp, .inr (5, [.ref by_, .int (nI T)])), (by_, .inl (cI, 260, .inl fb)), (lw, .inr (1, [.ref l1, .ref l2, .ref l3, .ref l4, .ref l5, .ref l6, .ref l7, .int (nI zo_9), .int (nI k)])), (l1, .inl (cI, 240, .inl l1_fo_10))] H := hP
      have hD : va_D A [(h0, .inr (2, [.ref tx, .ref lw])), (tx, .inr (6, [.ref tp, .int (nI N), .int (nI Po_5), .int fo_6])), (tp, .inr (5, [.ref by_, .int (nI T)])), (by_, .inl (cI, 260, .inl fb)), (lw, .inr (1, [.ref l1, .ref l2, .ref l3, .ref l4, .ref l5, .ref l6, .ref l7, .int (nI zo_9), .int (nI k)])), (l1, .inl (cI, 240, .inl l1_fo_10))] := hD
      exact ret _ _ _ _ (Po_5, fo_6, zo_9, l1_fo_10) dX2_readFactor_92 (⟨hw_11, by have q := FCQ.num (k := 3) (f := fb) (N := N) (p := P) (fa := fa) (by omega) hPN hfa (kp1_lt (by rw [← ex_2]; exact c_8)) c_45 (by rw [← hw_7.1]; exact hw_7.2.2.2); rw [← hw_7.1, ← hw_7.2.2.1] at q; exact q⟩) (hP.sub [0, 1, 2, 3, 4, 5] rfl) (hD.sub [0, 1, 2, 3, 4, 5] (by decide) rfl) hS
    · have h91 := c_45
      obtain ⟨hf0, hlt⟩ := sQz (fun z => absurd (z.symm.trans h91) (by decide))
      subst hf0
      rw [sQ0] at h91
      refine lv_aload_n hx hb dX2_readFactor_48 rfl (lv_at hl 1 rfl) ?_
      refine lv_iload_n hx hb dX2_readFactor_49 rfl (lv_at hl 2 rfl) ?_
      refine cVI (As := [.int 3]) (rest := []) (n := 1) (ci := 2) (q0 := 0) (wr := [(tp, .inr (5, [.ref by_, .int (nI T)])), (by_, .inl (cI, 260, .inl fb)), (lw, .inr (1, [.ref l1, .ref l2, .ref l3, .ref l4, .ref l5, .ref l6, .ref l7, .int (nI z), .int (nI k)])), (l1, .inl (cI, 240, .inl q1))]) X hN hK hP hD hS hA (c_opensP l D cI cB _ h0 lw tx tp N P 0 3 hlt) (gV k_598 k_600 k_5 k_99 k_601) (by decide +kernel) ⟨Nat.le_of_ble_eq_true rfl, Nat.le_of_ble_eq_true rfl⟩ ⟨rfl, rfl⟩ [0, 1] [2, 3, 4, 5] rfl rfl (by decide) (by decide) rfl rfl rfl rfl rfl hl.1 (Nat.le_of_ble_eq_true rfl) dX2_readFactor_50 ⟨Nat.le_of_ble_eq_true rfl, Nat.le_of_ble_eq_true rfl⟩ (fun r_12 u H locs hw_15 hP hD hS => ?_)
      obtain ⟨Po_13, fo_14⟩ := u
      try dsimp only at hw_15
      have hP : va_P D vwCl [(tp, .inr (5, [.ref by_, .int (nI T)])), (by_, .inl (cI, 260, .inl fb)), (lw, .inr (1, [.ref l1, .ref l2, .ref l3, .ref l4, .ref l5, .ref l6, .ref l7, .int (nI z), .int (nI k)])), (l1, .inl (cI, 240, .inl q1)), (h0, .inr (2, [.ref tx, .ref lw])), (tx, .inr (6, [.ref tp, .int (nI N), .int (nI Po_13), .int fo_14]))] H := hP
      have hD : va_D A [(tp, .inr (5, [.ref by_, .int (nI T)])), (by_, .inl (cI, 260, .inl fb)), (lw, .inr (1, [.ref l1, .ref l2, .ref l3, .ref l4, .ref l5, .ref l6, .ref l7, .int (nI z), .int (nI k)])), (l1, .inl (cI, 240, .inl q1)), (h0, .inr (2, [.ref tx, .ref lw])), (tx, .inr (6, [.ref tp, .int (nI N), .int (nI Po_13), .int fo_14]))] := hD
      obtain rfl : r_12 = 1 := hw_15.1.trans (by decide)
      obtain ⟨eo1, eo2⟩ := hw_15.2.1 (by decide)
      rw [eo1, eo2] at hP hD
      have hP : va_P D vwCl [(tp, .inr (5, [.ref by_, .int (nI T)])), (by_, .inl (cI, 260, .inl fb)), (lw, .inr (1, [.ref l1, .ref l2, .ref l3, .ref l4, .ref l5, .ref l6, .ref l7, .int (nI z), .int (nI k)])), (l1, .inl (cI, 240, .inl q1)), (h0, .inr (2, [.ref tx, .ref lw])), (tx, .inr (6, [.ref tp, .int (nI N), .int (nI (P + 1)), .int 0]))] H := hP
      have hD : va_D A [(tp, .inr (5, [.ref by_, .int (nI T)])), (by_, .inl (cI, 260, .inl fb)), (lw, .inr (1, [.ref l1, .ref l2, .ref l3, .ref l4, .ref l5, .ref l6, .ref l7, .int (nI z), .int (nI k)])), (l1, .inl (cI, 240, .inl q1)), (h0, .inr (2, [.ref tx, .ref lw])), (tx, .inr (6, [.ref tp, .int (nI N), .int (nI (P + 1)), .int 0]))] := hD
      refine lv_if_eq (tgt := 92) hx hb dX2_readFactor_53 (by decide) (fun c_53 => absurd c_53 (by decide)) (fun _ => ?_)
      refine lv_aload_n hx hb dX2_readFactor_56 rfl (lv_at hl 1 rfl) ?_
      refine lv_iload_n hx hb dX2_readFactor_57 rfl (lv_at hl 2 rfl) ?_
      refine lv_iconst (v := 1) hx hb dX2_readFactor_58 (by decide) ?_
      refine lv_iadd hx hb dX2_readFactor_59 ?_
      refine tv (z := 4) (by decide) ?_
      refine cVVk (As := [.int 4]) (rest := []) (n := 1) (ci := 2) (q0 := 0) (wr := []) X hN hKO hK hP hD hS hA (c_rsP_4 l D cI cB _ kk h0 tx tp N (P + 1) 0 by_ T fb lw l1 l2 l3 l4 l5 l6 l7 z k q1 hT hNT (by omega) hN2 (Or.inl rfl) hbr hz hk) (gV k_581 k_583 k_2 k_99 k_584) (by decide +kernel) ⟨Nat.le_of_ble_eq_true rfl, Nat.le_of_ble_eq_true rfl⟩ ⟨rfl, rfl⟩ [4, 5, 0, 1, 2, 3] [] rfl rfl (by decide) (by decide) rfl rfl rfl rfl rfl hl.1 (Nat.le_of_ble_eq_true rfl) dX2_readFactor_60 ⟨Nat.le_of_ble_eq_true rfl, Nat.le_of_ble_eq_true rfl⟩ (fun u H locs hw_21 hP hD hS => ?_)
      obtain ⟨Po_17, fo_18, zo_19, l1o_20⟩ := u
      try dsimp only at hw_21
      have hP : va_P D vwCl [(h0, .inr (2, [.ref tx, .ref lw])), (tx, .inr (6, [.ref tp, .int (nI N), .int (nI Po_17), .int fo_18])), (tp, .inr (5, [.ref by_, .int (nI T)])), (by_, .inl (cI, 260, .inl fb)), (lw, .inr (1, [.ref l1, .ref l2, .ref l3, .ref l4, .ref l5, .ref l6, .ref l7, .int (nI zo_19), .int (nI k)])), (l1, .inl (cI, 240, .inl l1o_20))] H := hP
      have hD : va_D A [(h0, .inr (2, [.ref tx, .ref lw])), (tx, .inr (6, [.ref tp, .int (nI N), .int (nI Po_17), .int fo_18])), (tp, .inr (5, [.ref by_, .int (nI T)])), (by_, .inl (cI, 260, .inl fb)), (lw, .inr (1, [.ref l1, .ref l2, .ref l3, .ref l4, .ref l5, .ref l6, .ref l7, .int (nI zo_19), .int (nI k)])), (l1, .inl (cI, 240, .inl l1o_20))] := hD
      refine lv_aload_n hx hb dX2_readFactor_63 rfl (lv_at hl 1 rfl) ?_
      refine va_get (D := D) (ci := 2) (v := .ref tx) (C := RX2) (T := TX2) (N := 2) hx hb htb itX2 hown hK hP 0 rfl rfl 0 (by decide) (htb _ k_288) (fun _ h9 => h9) rfl dX2_readFactor_64 ?_
      refine lv_bipush (v := 93) hx hb dX2_readFactor_67 (by decide) ?_
      refine cVV (As := [.int 93]) (rest := []) (n := 1) (ci := 6) (q0 := 0) (wr := [(h0, .inr (2, [.ref tx, .ref lw])), (lw, .inr (1, [.ref l1, .ref l2, .ref l3, .ref l4, .ref l5, .ref l6, .ref l7, .int (nI zo_19), .int (nI k)])), (l1, .inl (cI, 240, .inl l1o_20))]) X hN hK hP hD hS hA (c_expectP l D cI cB _ tx tp N Po_17 fo_18 by_ T fb 93 hT hNT hw_21.2.1.2.2.2.1 (by decide)) (gV k_602 k_603 k_604 k_98 k_605) (by decide +kernel) ⟨Nat.le_of_ble_eq_true rfl, Nat.le_of_ble_eq_true rfl⟩ ⟨rfl, rfl⟩ [1, 2, 3] [0, 4, 5] rfl rfl (by decide) (by decide) rfl rfl rfl rfl rfl hl.1 (Nat.le_of_ble_eq_true rfl) dX2_readFactor_69 ⟨Nat.le_of_ble_eq_true rfl, Nat.le_of_ble_eq_true rfl⟩ (fun u H locs hw_25 hP hD hS => ?_)
      obtain ⟨Po_23, fo_24⟩ := u
      try dsimp only at hw_25
      have hP : va_P D vwCl [(h0, .inr (2, [.ref tx, .ref lw])), (lw, .inr (1, [.ref l1, .ref l2, .ref l3, .ref l4, .ref l5, .ref l6, .ref l7, .int (nI zo_19), .int (nI k)])), (l1, .inl (cI, 240, .inl l1o_20)), (tx, .inr (6, [.ref tp, .int (nI N), .int (nI Po_23), .int fo_24])), (tp, .inr (5, [.ref by_, .int (nI T)])), (by_, .inl (cI, 260, .inl fb))] H := hP
      have hD : va_D A [(h0, .inr (2, [.ref tx, .ref lw])), (lw, .inr (1, [.ref l1, .ref l2, .ref l3, .ref l4, .ref l5, .ref l6, .ref l7, .int (nI zo_19), .int (nI k)])), (l1, .inl (cI, 240, .inl l1o_20)), (tx, .inr (6, [.ref tp, .int (nI N), .int (nI Po_23), .int fo_24])), (tp, .inr (5, [.ref by_, .int (nI T)])), (by_, .inl (cI, 260, .inl fb))] := hD
      refine lv_goto (tgt := 92) hx hb dX2_readFactor_72 (by decide) ?_
      exact ret _ _ _ _ (Po_23, fo_24, zo_19, l1o_20) dX2_readFactor_92 (⟨hw_21.1, FCQ.brk (by omega) h91 hw_21.2.1 hw_21.2.2 hw_25.1 hw_25.2.1 hw_25.2.2.2⟩) (hP.sub [0, 3, 4, 5, 1, 2] rfl) (hD.sub [0, 3, 4, 5, 1, 2] (by decide) rfl) hS
  · obtain ⟨hf0, hlt, hfq⟩ := FCQ.letter (k := 3) (fun z => c_8 (by rw [ex_2, z]; decide))
    refine lv_aload_n hx hb dX2_readFactor_11 rfl (lv_at hl 1 rfl) ?_
    refine va_get (D := D) (ci := 2) (v := .ref tx) (C := RX2) (T := TX2) (N := 2) hx hb htb itX2 hown hK hP 0 rfl rfl 0 (by decide) (htb _ k_288) (fun _ h9 => h9) rfl dX2_readFactor_12 ?_
    refine lv_dup hx hb dX2_readFactor_15 rfl ?_
    refine va_getN (D := D) (ci := 6) (v := .int (nI P)) (C := RX6) (T := TX6) (N := 4) hx hb htb itX6 hown hK hP 1 rfl rfl 2 (by decide) (va_Nw.use rfl (hN _ n_264 rfl)) (fun _ h9 => h9) rfl dX2_readFactor_16 ?_
    refine lv_iconst (v := 1) hx hb dX2_readFactor_19 (by decide) ?_
    refine lv_iadd hx hb dX2_readFactor_20 ?_
    refine tv (z := (nI (P + 1))) (nI_1 P) ?_
    refine va_putN (D := D) (ci := 6) (v := .int (nI (P + 1))) (ty := .int) (C := RX6) (T := TX6) (N := 4) hx hb htb itX6 tyX6 tyX6_ok nmX6 hown hK hP hD hS 1 rfl rfl 2 (by decide) (va_Nw.use rfl (hN _ n_264 rfl)) (fun _ h9 => h9) rfl (tyX6_ok 2 (by decide)) rfl rfl (Nat.le_of_ble_eq_true rfl) dX2_readFactor_21 (fun H locs hP hD hS => ?_)
    have hP : va_P D vwCl [(h0, .inr (2, [.ref tx, .ref lw])), (tx, .inr (6, [.ref tp, .int (nI N), .int (nI (P + 1)), .int fa])), (tp, .inr (5, [.ref by_, .int (nI T)])), (by_, .inl (cI, 260, .inl fb)), (lw, .inr (1, [.ref l1, .ref l2, .ref l3, .ref l4, .ref l5, .ref l6, .ref l7, .int (nI z), .int (nI k)])), (l1, .inl (cI, 240, .inl q1))] H := hP
    have hD : va_D A [(h0, .inr (2, [.ref tx, .ref lw])), (tx, .inr (6, [.ref tp, .int (nI N), .int (nI (P + 1)), .int fa])), (tp, .inr (5, [.ref by_, .int (nI T)])), (by_, .inl (cI, 260, .inl fb)), (lw, .inr (1, [.ref l1, .ref l2, .ref l3, .ref l4, .ref l5, .ref l6, .ref l7, .int (nI z), .int (nI k)])), (l1, .inl (cI, 240, .inl q1))] := hD
    refine lv_aload_n hx hb dX2_readFactor_24 rfl (lv_at hl 1 rfl) ?_
    refine va_get (D := D) (ci := 2) (v := .ref lw) (C := RX2) (T := TX2) (N := 2) hx hb htb itX2 hown hK hP 0 rfl rfl 1 (by decide) (htb _ k_289) (fun _ h9 => h9) rfl dX2_readFactor_25 ?_
    refine lv_iconst (v := 1) hx hb dX2_readFactor_28 (by decide) ?_
    refine lv_iload_n hx hb dX2_readFactor_29 rfl (lv_at hl 0 rfl) ?_
    refine cVV (As := [.int 1, .int x_2]) (rest := []) (n := 2) (ci := 1) (q0 := 0) (wr := [(h0, .inr (2, [.ref tx, .ref lw])), (tx, .inr (6, [.ref tp, .int (nI N), .int (nI (P + 1)), .int fa])), (tp, .inr (5, [.ref by_, .int (nI T)])), (by_, .inl (cI, 260, .inl fb))]) X hN hK hP hD hS hA (c_X1_addStep l D cI cB _ lw l1 l2 l3 l4 l5 l6 l7 z k 1 x_2 q1 hz hk) (gV k_594 k_595 k_596 k_97 k_597) (by decide +kernel) ⟨Nat.le_of_ble_eq_true rfl, Nat.le_of_ble_eq_true rfl⟩ ⟨rfl, rfl⟩ [4, 5] [0, 1, 2, 3] rfl rfl (by decide) (by decide) rfl rfl rfl rfl rfl hl.1 (Nat.le_of_ble_eq_true rfl) dX2_readFactor_30 ⟨Nat.le_of_ble_eq_true rfl, Nat.le_of_ble_eq_true rfl⟩ (fun u H locs hw_29 hP hD hS => ?_)
    obtain ⟨zo_27, l1_fo_28⟩ := u
    try dsimp only at hw_29
    have hP : va_P D vwCl [(h0, .inr (2, [.ref tx, .ref lw])), (tx, .inr (6, [.ref tp, .int (nI N), .int (nI (P + 1)), .int fa])), (tp, .inr (5, [.ref by_, .int (nI T)])), (by_, .inl (cI, 260, .inl fb)), (lw, .inr (1, [.ref l1, .ref l2, .ref l3, .ref l4, .ref l5, .ref l6, .ref l7, .int (nI zo_27), .int (nI k)])), (l1, .inl (cI, 240, .inl l1_fo_28))] H := hP
    have hD : va_D A [(h0, .inr (2, [.ref tx, .ref lw])), (tx, .inr (6, [.ref tp, .int (nI N), .int (nI (P + 1)), .int fa])), (tp, .inr (5, [.ref by_, .int (nI T)])), (by_, .inl (cI, 260, .inl fb)), (lw, .inr (1, [.ref l1, .ref l2, .ref l3, .ref l4, .ref l5, .ref l6, .ref l7, .int (nI zo_27), .int (nI k)])), (l1, .inl (cI, 240, .inl l1_fo_28))] := hD
    refine lv_goto (tgt := 92) hx hb dX2_readFactor_33 (by decide) ?_
    exact ret _ _ _ _ ((P + 1), fa, zo_27, l1_fo_28) dX2_readFactor_92 (⟨hw_29, hfq⟩) (hP.sub [0, 1, 2, 3, 4, 5] rfl) (hD.sub [0, 1, 2, 3, 4, 5] (by decide) rfl) hS

set_option maxRecDepth 100000 in
set_option maxHeartbeats 4000000 in
theorem c_rtP_3 (l : Launch) (D : va_G) (cI cB : ClassId) (sz : Nat) (kk : KT) (h0 : Nat) (tx : Nat) (tp : Nat) (N : Nat) (P : Nat) (fa : Int32) (by_ : Nat) (T : Nat) (fb : Nat → Int32) (lw : Nat) (l1 : Nat) (l2 : Nat) (l3 : Nat) (l4 : Nat) (l5 : Nat) (l6 : Nat) (l7 : Nat) (z : Nat) (k : Nat) (q1 : Nat → Int32) (hT : T ≤ 260) (hNT : N ≤ T) (hPN : P ≤ N) (hN2 : N ≤ 240) (hfa : fa = 0 ∨ fa < 0) (hbr : BR N fb) (hz : z ≤ 240) (hk : k ≤ 16) : MVk (S := ((Nat) × (Int32) × (Nat) × (Nat → Int32))) l D cI cB kk yX2_readTerm cX2_readTerm 4 (rm 15 339) [.ref h0, .int 3] [(h0, .inr (2, [.ref tx, .ref lw])), (tx, .inr (6, [.ref tp, .int (nI N), .int (nI P), .int fa])), (tp, .inr (5, [.ref by_, .int (nI T)])), (by_, .inl (cI, 260, .inl fb)), (lw, .inr (1, [.ref l1, .ref l2, .ref l3, .ref l4, .ref l5, .ref l6, .ref l7, .int (nI z), .int (nI k)])), (l1, .inl (cI, 240, .inl q1))] sz (fun u => u.2.2.1 ≤ 240 ∧ FCQ fb N 3 P u.1 fa u.2.1 ∧ (u.2.1 = 0 → ¬ MU3 (chF fb N u.1))) (fun u : ((Nat) × (Int32) × (Nat) × (Nat → Int32)) => [(h0, .inr (2, [.ref tx, .ref lw])), (tx, .inr (6, [.ref tp, .int (nI N), .int (nI u.1), .int u.2.1])), (tp, .inr (5, [.ref by_, .int (nI T)])), (by_, .inl (cI, 260, .inl fb)), (lw, .inr (1, [.ref l1, .ref l2, .ref l3, .ref l4, .ref l5, .ref l6, .ref l7, .int (nI u.2.2.1), .int (nI k)])), (l1, .inl (cI, 240, .inl u.2.2.2))]) := by
  refine MVk.of (by decide) (Nat.le_of_ble_eq_true rfl) ?_
  intro p e s m below meth c Q ls A X hin hN hKO hP hK hD hA hl ret
  have hS : va_S A s.heap s.heap [] := va_S.rf
  obtain ⟨hx, hb, hml, hown, htb⟩ := id X
  have hl : lv_has ls 4 [(0, .ref h0), (1, .int 3)] := hl
  refine lv_aload_n hx hb dX2_readTerm_0 rfl (lv_at hl 0 rfl) ?_
  refine lv_iload_n hx hb dX2_readTerm_1 rfl (lv_at hl 1 rfl) ?_
  refine cVVk (As := [.int 3]) (rest := []) (n := 1) (ci := 2) (q0 := 0) (wr := []) X hN hKO hK hP hD hS hA (c_rfP_3 l D cI cB _ kk h0 tx tp N P fa by_ T fb lw l1 l2 l3 l4 l5 l6 l7 z k q1 hT hNT hPN hN2 hfa hbr hz hk) (gV k_589 k_591 k_4 k_99 k_592) (by decide +kernel) ⟨Nat.le_of_ble_eq_true rfl, Nat.le_of_ble_eq_true rfl⟩ ⟨rfl, rfl⟩ [0, 1, 2, 3, 4, 5] [] rfl rfl (by decide) (by decide) rfl rfl rfl rfl rfl hl.1 (Nat.le_of_ble_eq_true rfl) dX2_readTerm_2 ⟨Nat.le_of_ble_eq_true rfl, Nat.le_of_ble_eq_true rfl⟩ (fun u H locs hw_6 hP hD hS => ?_)
  obtain ⟨Po_2, fo_3, zo_4, l1o_5⟩ := u
  try dsimp only at hw_6
  have hP : va_P D vwCl [(h0, .inr (2, [.ref tx, .ref lw])), (tx, .inr (6, [.ref tp, .int (nI N), .int (nI Po_2), .int fo_3])), (tp, .inr (5, [.ref by_, .int (nI T)])), (by_, .inl (cI, 260, .inl fb)), (lw, .inr (1, [.ref l1, .ref l2, .ref l3, .ref l4, .ref l5, .ref l6, .ref l7, .int (nI zo_4), .int (nI k)])), (l1, .inl (cI, 240, .inl l1o_5))] H := hP
  have hD : va_D A [(h0, .inr (2, [.ref tx, .ref lw])), (tx, .inr (6, [.ref tp, .int (nI N), .int (nI Po_2), .int fo_3])), (tp, .inr (5, [.ref by_, .int (nI T)])), (by_, .inl (cI, 260, .inl fb)), (lw, .inr (1, [.ref l1, .ref l2, .ref l3, .ref l4, .ref l5, .ref l6, .ref l7, .int (nI zo_4), .int (nI k)])), (l1, .inl (cI, 240, .inl l1o_5))] := hD
  refine lv_iconst (v := 0) hx hb dX2_readTerm_5 (by decide) ?_
  refine lv_istore_n (lv' := [(2, .int 0), (0, .ref h0), (1, .int 3)]) hx hb dX2_readTerm_6 rfl hl (by decide) rfl (fun ls hl => ?_)
  have loop_7 : ∀ (n i : Nat) (Pa : Nat) (fv : Int32) (za : Nat) (qa : Nat → Int32), n + i = 240 → (za ≤ 240) → (FCQ fb N 3 P Pa fa fv) → (fv = 0 → fa = 0 → i < Pa) → ∀ (H : Heap) (locs : List Loc), va_P D vwCl [(h0, .inr (2, [.ref tx, .ref lw])), (tx, .inr (6, [.ref tp, .int (nI N), .int (nI Pa), .int fv])), (tp, .inr (5, [.ref by_, .int (nI T)])), (by_, .inl (cI, 260, .inl fb)), (lw, .inr (1, [.ref l1, .ref l2, .ref l3, .ref l4, .ref l5, .ref l6, .ref l7, .int (nI za), .int (nI k)])), (l1, .inl (cI, 240, .inl qa))] H → va_D A [(h0, .inr (2, [.ref tx, .ref lw])), (tx, .inr (6, [.ref tp, .int (nI N), .int (nI Pa), .int fv])), (tp, .inr (5, [.ref by_, .int (nI T)])), (by_, .inl (cI, 260, .inl fb)), (lw, .inr (1, [.ref l1, .ref l2, .ref l3, .ref l4, .ref l5, .ref l6, .ref l7, .int (nI za), .int (nI k)])), (l1, .inl (cI, 240, .inl qa))] → va_S A s.heap H locs → ∀ (ls : Array Slot), lv_has ls 4 [(0, .ref h0), (1, .int 3), (2, .int (nI i))] → W p l e (rm 15 339) s m ([.ref h0, .int 3] : List Value).toArray below meth c H locs 0 0 Q (F0 m 7 ls []) := by
    intro n
    induction n with
    | zero =>
      intro i Pa fv za qa hni hza hq hiP H locs hP hD hS ls hl
      have hni_7 := hni
      have hi : i = 240 := by omega
      refine lv_iload_n hx hb dX2_readTerm_7 rfl (lv_at hl 2 rfl) ?_
      refine lv_sipush (v := 240) hx hb dX2_readTerm_8 (by decide) ?_
      refine lv_icmp_ge (tgt := 60) hx hb dX2_readTerm_11 (by decide) (fun _ => ?_) (fun c_11 => absurd (by rw [hi]; decide) c_11)
      exact ret _ _ _ _ (Pa, fv, za, qa) dX2_readTerm_60 (⟨hza, ⟨hq, fun z => absurd z (fun z => by have h2 := hq.2.1; have h4 := hq.2.2.2.1; exact (Classical.em (fa = 0)).elim (fun w => by have := hiP z w; omega) (fun w => w ((h2 w).symm.trans z)))⟩⟩) (hP.sub [0, 1, 2, 3, 4, 5] rfl) (hD.sub [0, 1, 2, 3, 4, 5] (by decide) rfl) hS
    | succ n ih_7 =>
      intro i Pa fv za qa hni hza hq hiP H locs hP hD hS ls hl
      have hni_7 := hni
      have hi : i < 240 := by omega
      refine lv_iload_n hx hb dX2_readTerm_7 rfl (lv_at hl 2 rfl) ?_
      refine lv_sipush (v := 240) hx hb dX2_readTerm_8 (by decide) ?_
      refine lv_icmp_ge (tgt := 60) hx hb dX2_readTerm_11 (by decide) (fun c_11 => absurd c_11 (nI_ge hi (by decide))) (fun _ => ?_)
      refine lv_aload_n hx hb dX2_readTerm_14 rfl (lv_at hl 0 rfl) ?_
      refine cVR (As := []) (rest := []) (n := 0) (ci := 2) (q0 := 0) X hN hK hP (c_factorStepP l D cI cB h0 lw tx tp N Pa fv by_ T fb hT hNT hq.2.2.2.1) (gV k_620 k_622 k_6 k_99 k_623) (by decide +kernel) ⟨Nat.le_of_ble_eq_true rfl, Nat.le_of_ble_eq_true rfl⟩ ⟨rfl, rfl⟩ [0, 1, 2, 3] rfl rfl rfl rfl rfl rfl hl.1 (Nat.le_of_ble_eq_true rfl) dX2_readTerm_15 ⟨Nat.le_of_ble_eq_true rfl, Nat.le_of_ble_eq_true rfl⟩ (fun rfs hrfs => ?_)
      refine lv_iconst (v := (-1)) hx hb dX2_readTerm_18 (by decide) ?_
      refine lv_icmp_eq (tgt := 60) hx hb dX2_readTerm_19 (by decide) (fun c_19 => ?_) (fun c_19 => ?_)
      · exact ret _ _ _ _ (Pa, fv, za, qa) dX2_readTerm_60 (⟨hza, ⟨hq, fun (z : fv = 0) => by have w := hrfs.1 c_19; rw [z, sQ0] at w; exact w⟩⟩) (hP.sub [0, 1, 2, 3, 4, 5] rfl) (hD.sub [0, 1, 2, 3, 4, 5] (by decide) rfl) hS
      · obtain ⟨hf0, hlt, hs5⟩ := sQs (sgM (hrfs.2 c_19))
        subst hf0
        refine lv_aload_n hx hb dX2_readTerm_22 rfl (lv_at hl 0 rfl) ?_
        refine cVR (As := []) (rest := []) (n := 0) (ci := 2) (q0 := 0) X hN hK hP (c_factorStepP l D cI cB h0 lw tx tp N Pa 0 by_ T fb hT hNT hq.2.2.2.1) (gV k_620 k_622 k_6 k_99 k_623) (by decide +kernel) ⟨Nat.le_of_ble_eq_true rfl, Nat.le_of_ble_eq_true rfl⟩ ⟨rfl, rfl⟩ [0, 1, 2, 3] rfl rfl rfl rfl rfl rfl hl.1 (Nat.le_of_ble_eq_true rfl) dX2_readTerm_23 ⟨Nat.le_of_ble_eq_true rfl, Nat.le_of_ble_eq_true rfl⟩ (fun r_7 hr_7 => ?_)
        refine lv_istore_n (lv' := [(3, .int r_7), (0, .ref h0), (1, .int 3), (2, .int (nI i))]) hx hb dX2_readTerm_26 rfl hl (by decide) rfl (fun ls hl => ?_)
        refine lv_aload_n hx hb dX2_readTerm_27 rfl (lv_at hl 1 rfl) ?_
        refine va_get (D := D) (ci := 2) (v := .ref tx) (C := RX2) (T := TX2) (N := 2) hx hb htb itX2 hown hK hP 0 rfl rfl 0 (by decide) (htb _ k_288) (fun _ h9 => h9) rfl dX2_readTerm_28 ?_
        refine lv_dup hx hb dX2_readTerm_31 rfl ?_
        refine va_getN (D := D) (ci := 6) (v := .int (nI Pa)) (C := RX6) (T := TX6) (N := 4) hx hb htb itX6 hown hK hP 1 rfl rfl 2 (by decide) (va_Nw.use rfl (hN _ n_264 rfl)) (fun _ h9 => h9) rfl dX2_readTerm_32 ?_
        refine lv_iconst (v := 1) hx hb dX2_readTerm_35 (by decide) ?_
        refine lv_iadd hx hb dX2_readTerm_36 ?_
        refine tv (z := (nI (Pa + 1))) (nI_1 Pa) ?_
        refine va_putN (D := D) (ci := 6) (v := .int (nI (Pa + 1))) (ty := .int) (C := RX6) (T := TX6) (N := 4) hx hb htb itX6 tyX6 tyX6_ok nmX6 hown hK hP hD hS 1 rfl rfl 2 (by decide) (va_Nw.use rfl (hN _ n_264 rfl)) (fun _ h9 => h9) rfl (tyX6_ok 2 (by decide)) rfl rfl (Nat.le_of_ble_eq_true rfl) dX2_readTerm_37 (fun H locs hP hD hS => ?_)
        have hP : va_P D vwCl [(h0, .inr (2, [.ref tx, .ref lw])), (tx, .inr (6, [.ref tp, .int (nI N), .int (nI (Pa + 1)), .int 0])), (tp, .inr (5, [.ref by_, .int (nI T)])), (by_, .inl (cI, 260, .inl fb)), (lw, .inr (1, [.ref l1, .ref l2, .ref l3, .ref l4, .ref l5, .ref l6, .ref l7, .int (nI za), .int (nI k)])), (l1, .inl (cI, 240, .inl qa))] H := hP
        have hD : va_D A [(h0, .inr (2, [.ref tx, .ref lw])), (tx, .inr (6, [.ref tp, .int (nI N), .int (nI (Pa + 1)), .int 0])), (tp, .inr (5, [.ref by_, .int (nI T)])), (by_, .inl (cI, 260, .inl fb)), (lw, .inr (1, [.ref l1, .ref l2, .ref l3, .ref l4, .ref l5, .ref l6, .ref l7, .int (nI za), .int (nI k)])), (l1, .inl (cI, 240, .inl qa))] := hD
        refine lv_aload_n hx hb dX2_readTerm_40 rfl (lv_at hl 1 rfl) ?_
        refine lv_iload_n hx hb dX2_readTerm_41 rfl (lv_at hl 2 rfl) ?_
        refine cVVk (As := [.int 3]) (rest := []) (n := 1) (ci := 2) (q0 := 0) (wr := []) X hN hKO hK hP hD hS hA (c_rfP_3 l D cI cB _ kk h0 tx tp N (Pa + 1) 0 by_ T fb lw l1 l2 l3 l4 l5 l6 l7 za k qa hT hNT (by omega) hN2 (Or.inl rfl) hbr hza hk) (gV k_589 k_591 k_4 k_99 k_592) (by decide +kernel) ⟨Nat.le_of_ble_eq_true rfl, Nat.le_of_ble_eq_true rfl⟩ ⟨rfl, rfl⟩ [0, 1, 2, 3, 4, 5] [] rfl rfl (by decide) (by decide) rfl rfl rfl rfl rfl hl.1 (Nat.le_of_ble_eq_true rfl) dX2_readTerm_42 ⟨Nat.le_of_ble_eq_true rfl, Nat.le_of_ble_eq_true rfl⟩ (fun u H locs hw_13 hP hD hS => ?_)
        obtain ⟨Po_9, fo_10, zo_11, l1o_12⟩ := u
        try dsimp only at hw_13
        have hP : va_P D vwCl [(h0, .inr (2, [.ref tx, .ref lw])), (tx, .inr (6, [.ref tp, .int (nI N), .int (nI Po_9), .int fo_10])), (tp, .inr (5, [.ref by_, .int (nI T)])), (by_, .inl (cI, 260, .inl fb)), (lw, .inr (1, [.ref l1, .ref l2, .ref l3, .ref l4, .ref l5, .ref l6, .ref l7, .int (nI zo_11), .int (nI k)])), (l1, .inl (cI, 240, .inl l1o_12))] H := hP
        have hD : va_D A [(h0, .inr (2, [.ref tx, .ref lw])), (tx, .inr (6, [.ref tp, .int (nI N), .int (nI Po_9), .int fo_10])), (tp, .inr (5, [.ref by_, .int (nI T)])), (by_, .inl (cI, 260, .inl fb)), (lw, .inr (1, [.ref l1, .ref l2, .ref l3, .ref l4, .ref l5, .ref l6, .ref l7, .int (nI zo_11), .int (nI k)])), (l1, .inl (cI, 240, .inl l1o_12))] := hD
        refine lv_aload_n hx hb dX2_readTerm_45 rfl (lv_at hl 1 rfl) ?_
        refine va_get (D := D) (ci := 2) (v := .ref lw) (C := RX2) (T := TX2) (N := 2) hx hb htb itX2 hown hK hP 0 rfl rfl 1 (by decide) (htb _ k_289) (fun _ h9 => h9) rfl dX2_readTerm_46 ?_
        refine lv_iload_n hx hb dX2_readTerm_49 rfl (lv_at hl 0 rfl) ?_
        refine lv_iconst (v := 0) hx hb dX2_readTerm_50 (by decide) ?_
        refine cVV (As := [.int r_7, .int 0]) (rest := []) (n := 2) (ci := 1) (q0 := 0) (wr := [(h0, .inr (2, [.ref tx, .ref lw])), (tx, .inr (6, [.ref tp, .int (nI N), .int (nI Po_9), .int fo_10])), (tp, .inr (5, [.ref by_, .int (nI T)])), (by_, .inl (cI, 260, .inl fb))]) X hN hK hP hD hS hA (c_X1_addStep l D cI cB _ lw l1 l2 l3 l4 l5 l6 l7 zo_11 k r_7 0 l1o_12 hw_13.1 hk) (gV k_594 k_595 k_596 k_97 k_597) (by decide +kernel) ⟨Nat.le_of_ble_eq_true rfl, Nat.le_of_ble_eq_true rfl⟩ ⟨rfl, rfl⟩ [4, 5] [0, 1, 2, 3] rfl rfl (by decide) (by decide) rfl rfl rfl rfl rfl hl.1 (Nat.le_of_ble_eq_true rfl) dX2_readTerm_51 ⟨Nat.le_of_ble_eq_true rfl, Nat.le_of_ble_eq_true rfl⟩ (fun u H locs hw_17 hP hD hS => ?_)
        obtain ⟨zo_15, l1_fo_16⟩ := u
        try dsimp only at hw_17
        have hP : va_P D vwCl [(h0, .inr (2, [.ref tx, .ref lw])), (tx, .inr (6, [.ref tp, .int (nI N), .int (nI Po_9), .int fo_10])), (tp, .inr (5, [.ref by_, .int (nI T)])), (by_, .inl (cI, 260, .inl fb)), (lw, .inr (1, [.ref l1, .ref l2, .ref l3, .ref l4, .ref l5, .ref l6, .ref l7, .int (nI zo_15), .int (nI k)])), (l1, .inl (cI, 240, .inl l1_fo_16))] H := hP
        have hD : va_D A [(h0, .inr (2, [.ref tx, .ref lw])), (tx, .inr (6, [.ref tp, .int (nI N), .int (nI Po_9), .int fo_10])), (tp, .inr (5, [.ref by_, .int (nI T)])), (by_, .inl (cI, 260, .inl fb)), (lw, .inr (1, [.ref l1, .ref l2, .ref l3, .ref l4, .ref l5, .ref l6, .ref l7, .int (nI zo_15), .int (nI k)])), (l1, .inl (cI, 240, .inl l1_fo_16))] := hD
        refine lv_iinc (v := (nI (i + 1))) (lv' := [(2, .int (nI (i + 1))), (3, .int r_7), (0, .ref h0), (1, .int 3)]) hx hb dX2_readTerm_54 hl (k := 3) rfl (nI_1 i) (by decide) rfl (fun ls hl => ?_)
        refine lv_goto (tgt := 7) hx hb dX2_readTerm_57 (by decide) ?_
        exact ih_7 (i + 1) Po_9 fo_10 zo_15 l1_fo_16 (by omega) hw_17 (hq.more hs5 hw_13.2) (fun z w => by have := (((hw_13.2.2.2.2.2 rfl).1 z).1); have := hiP rfl w; omega) _ _ (hP.sub [0, 1, 2, 3, 4, 5] rfl) (hD.sub [0, 1, 2, 3, 4, 5] (by decide) rfl) hS _ (lv_sub hl [2, 3, 0] rfl)
  exact loop_7 240 0 Po_2 fo_3 zo_4 l1o_5 (by omega) hw_6.1 hw_6.2 (fun z w => (((hw_6.2.2.2.2.2 w).1 z).1 |> fun y => by omega)) _ _ (hP.sub [0, 1, 2, 3, 4, 5] rfl) (hD.sub [0, 1, 2, 3, 4, 5] (by decide) rfl) hS _ (lv_sub hl [1, 2, 0] rfl)

set_option maxRecDepth 100000 in
set_option maxHeartbeats 4000000 in
theorem c_rsP_3 (l : Launch) (D : va_G) (cI cB : ClassId) (sz : Nat) (kk : KT) (h0 : Nat) (tx : Nat) (tp : Nat) (N : Nat) (P : Nat) (fa : Int32) (by_ : Nat) (T : Nat) (fb : Nat → Int32) (lw : Nat) (l1 : Nat) (l2 : Nat) (l3 : Nat) (l4 : Nat) (l5 : Nat) (l6 : Nat) (l7 : Nat) (z : Nat) (k : Nat) (q1 : Nat → Int32) (hT : T ≤ 260) (hNT : N ≤ T) (hPN : P ≤ N) (hN2 : N ≤ 240) (hfa : fa = 0 ∨ fa < 0) (hbr : BR N fb) (hz : z ≤ 240) (hk : k ≤ 16) : MVk (S := ((Nat) × (Int32) × (Nat) × (Nat → Int32))) l D cI cB kk yX2_readSum cX2_readSum 4 (rm 16 362) [.ref h0, .int 3] [(h0, .inr (2, [.ref tx, .ref lw])), (tx, .inr (6, [.ref tp, .int (nI N), .int (nI P), .int fa])), (tp, .inr (5, [.ref by_, .int (nI T)])), (by_, .inl (cI, 260, .inl fb)), (lw, .inr (1, [.ref l1, .ref l2, .ref l3, .ref l4, .ref l5, .ref l6, .ref l7, .int (nI z), .int (nI k)])), (l1, .inl (cI, 240, .inl q1))] sz (fun u => u.2.2.1 ≤ 240 ∧ FCQ fb N 3 P u.1 fa u.2.1 ∧ (u.2.1 = 0 → ¬ SG5 (chF fb N u.1))) (fun u : ((Nat) × (Int32) × (Nat) × (Nat → Int32)) => [(h0, .inr (2, [.ref tx, .ref lw])), (tx, .inr (6, [.ref tp, .int (nI N), .int (nI u.1), .int u.2.1])), (tp, .inr (5, [.ref by_, .int (nI T)])), (by_, .inl (cI, 260, .inl fb)), (lw, .inr (1, [.ref l1, .ref l2, .ref l3, .ref l4, .ref l5, .ref l6, .ref l7, .int (nI u.2.2.1), .int (nI k)])), (l1, .inl (cI, 240, .inl u.2.2.2))]) := by
  refine MVk.of (by decide) (Nat.le_of_ble_eq_true rfl) ?_
  intro p e s m below meth c Q ls A X hin hN hKO hP hK hD hA hl ret
  have hS : va_S A s.heap s.heap [] := va_S.rf
  obtain ⟨hx, hb, hml, hown, htb⟩ := id X
  have hl : lv_has ls 4 [(0, .ref h0), (1, .int 3)] := hl
  refine lv_aload_n hx hb dX2_readSum_0 rfl (lv_at hl 0 rfl) ?_
  refine lv_iload_n hx hb dX2_readSum_1 rfl (lv_at hl 1 rfl) ?_
  refine cVVk (As := [.int 3]) (rest := []) (n := 1) (ci := 2) (q0 := 0) (wr := []) X hN hKO hK hP hD hS hA (c_rtP_3 l D cI cB _ kk h0 tx tp N P fa by_ T fb lw l1 l2 l3 l4 l5 l6 l7 z k q1 hT hNT hPN hN2 hfa hbr hz hk) (gV k_585 k_587 k_3 k_99 k_588) (by decide +kernel) ⟨Nat.le_of_ble_eq_true rfl, Nat.le_of_ble_eq_true rfl⟩ ⟨rfl, rfl⟩ [0, 1, 2, 3, 4, 5] [] rfl rfl (by decide) (by decide) rfl rfl rfl rfl rfl hl.1 (Nat.le_of_ble_eq_true rfl) dX2_readSum_2 ⟨Nat.le_of_ble_eq_true rfl, Nat.le_of_ble_eq_true rfl⟩ (fun u H locs hw_6 hP hD hS => ?_)
  obtain ⟨Po_2, fo_3, zo_4, l1o_5⟩ := u
  try dsimp only at hw_6
  have hP : va_P D vwCl [(h0, .inr (2, [.ref tx, .ref lw])), (tx, .inr (6, [.ref tp, .int (nI N), .int (nI Po_2), .int fo_3])), (tp, .inr (5, [.ref by_, .int (nI T)])), (by_, .inl (cI, 260, .inl fb)), (lw, .inr (1, [.ref l1, .ref l2, .ref l3, .ref l4, .ref l5, .ref l6, .ref l7, .int (nI zo_4), .int (nI k)])), (l1, .inl (cI, 240, .inl l1o_5))] H := hP
  have hD : va_D A [(h0, .inr (2, [.ref tx, .ref lw])), (tx, .inr (6, [.ref tp, .int (nI N), .int (nI Po_2), .int fo_3])), (tp, .inr (5, [.ref by_, .int (nI T)])), (by_, .inl (cI, 260, .inl fb)), (lw, .inr (1, [.ref l1, .ref l2, .ref l3, .ref l4, .ref l5, .ref l6, .ref l7, .int (nI zo_4), .int (nI k)])), (l1, .inl (cI, 240, .inl l1o_5))] := hD
  refine lv_iconst (v := 0) hx hb dX2_readSum_5 (by decide) ?_
  refine lv_istore_n (lv' := [(2, .int 0), (0, .ref h0), (1, .int 3)]) hx hb dX2_readSum_6 rfl hl (by decide) rfl (fun ls hl => ?_)
  have loop_7 : ∀ (n i : Nat) (Pa : Nat) (fv : Int32) (za : Nat) (qa : Nat → Int32), n + i = 240 → (za ≤ 240) → (FCQ fb N 3 P Pa fa fv) → (fv = 0 → fa = 0 → i < Pa) → (fv = 0 → ¬ MU3 (chF fb N Pa)) → ∀ (H : Heap) (locs : List Loc), va_P D vwCl [(h0, .inr (2, [.ref tx, .ref lw])), (tx, .inr (6, [.ref tp, .int (nI N), .int (nI Pa), .int fv])), (tp, .inr (5, [.ref by_, .int (nI T)])), (by_, .inl (cI, 260, .inl fb)), (lw, .inr (1, [.ref l1, .ref l2, .ref l3, .ref l4, .ref l5, .ref l6, .ref l7, .int (nI za), .int (nI k)])), (l1, .inl (cI, 240, .inl qa))] H → va_D A [(h0, .inr (2, [.ref tx, .ref lw])), (tx, .inr (6, [.ref tp, .int (nI N), .int (nI Pa), .int fv])), (tp, .inr (5, [.ref by_, .int (nI T)])), (by_, .inl (cI, 260, .inl fb)), (lw, .inr (1, [.ref l1, .ref l2, .ref l3, .ref l4, .ref l5, .ref l6, .ref l7, .int (nI za), .int (nI k)])), (l1, .inl (cI, 240, .inl qa))] → va_S A s.heap H locs → ∀ (ls : Array Slot), lv_has ls 4 [(0, .ref h0), (1, .int 3), (2, .int (nI i))] → W p l e (rm 16 362) s m ([.ref h0, .int 3] : List Value).toArray below meth c H locs 0 0 Q (F0 m 7 ls []) := by
    intro n
    induction n with
    | zero =>
      intro i Pa fv za qa hni hza hq hiP hmu H locs hP hD hS ls hl
      have hni_7 := hni
      have hi : i = 240 := by omega
      refine lv_iload_n hx hb dX2_readSum_7 rfl (lv_at hl 2 rfl) ?_
      refine lv_sipush (v := 240) hx hb dX2_readSum_8 (by decide) ?_
      refine lv_icmp_ge (tgt := 90) hx hb dX2_readSum_11 (by decide) (fun _ => ?_) (fun c_11 => absurd (by rw [hi]; decide) c_11)
      exact ret _ _ _ _ (Pa, fv, za, qa) dX2_readSum_90 (⟨hza, ⟨hq, fun z => absurd z (fun z => by have h2 := hq.2.1; have h4 := hq.2.2.2.1; exact (Classical.em (fa = 0)).elim (fun w => by have := hiP z w; omega) (fun w => w ((h2 w).symm.trans z)))⟩⟩) (hP.sub [0, 1, 2, 3, 4, 5] rfl) (hD.sub [0, 1, 2, 3, 4, 5] (by decide) rfl) hS
    | succ n ih_7 =>
      intro i Pa fv za qa hni hza hq hiP hmu H locs hP hD hS ls hl
      have hni_7 := hni
      have hi : i < 240 := by omega
      refine lv_iload_n hx hb dX2_readSum_7 rfl (lv_at hl 2 rfl) ?_
      refine lv_sipush (v := 240) hx hb dX2_readSum_8 (by decide) ?_
      refine lv_icmp_ge (tgt := 90) hx hb dX2_readSum_11 (by decide) (fun c_11 => absurd c_11 (nI_ge hi (by decide))) (fun _ => ?_)
      refine lv_aload_n hx hb dX2_readSum_14 rfl (lv_at hl 0 rfl) ?_
      refine va_get (D := D) (ci := 2) (v := .ref tx) (C := RX2) (T := TX2) (N := 2) hx hb htb itX2 hown hK hP 0 rfl rfl 0 (by decide) (htb _ k_288) (fun _ h9 => h9) rfl dX2_readSum_15 ?_
      refine cVR (As := []) (rest := []) (n := 0) (ci := 6) (q0 := 0) X hN hK hP (c_signP l D cI cB tx tp N Pa fv by_ T fb hT hNT hq.2.2.2.1) (gV k_483 k_484 k_485 k_98 k_486) (by decide +kernel) ⟨Nat.le_of_ble_eq_true rfl, Nat.le_of_ble_eq_true rfl⟩ ⟨rfl, rfl⟩ [1, 2, 3] rfl rfl rfl rfl rfl rfl hl.1 (Nat.le_of_ble_eq_true rfl) dX2_readSum_18 ⟨Nat.le_of_ble_eq_true rfl, Nat.le_of_ble_eq_true rfl⟩ (fun r_7 hr_7 => ?_)
      subst hr_7
      refine lv_bipush (v := 43) hx hb dX2_readSum_21 (by decide) ?_
      refine lv_icmp_eq (tgt := 38) hx hb dX2_readSum_23 (by decide) (fun c_23 => ?_) (fun c_23 => ?_)
      · obtain ⟨hf0, hlt, hs5⟩ := sQs (sgA (Or.inl c_23))
        subst hf0
        refine lv_aload_n hx hb dX2_readSum_38 rfl (lv_at hl 0 rfl) ?_
        refine va_get (D := D) (ci := 2) (v := .ref tx) (C := RX2) (T := TX2) (N := 2) hx hb htb itX2 hown hK hP 0 rfl rfl 0 (by decide) (htb _ k_288) (fun _ h9 => h9) rfl dX2_readSum_39 ?_
        refine cVR (As := []) (rest := []) (n := 0) (ci := 6) (q0 := 0) X hN hK hP (c_signP l D cI cB tx tp N Pa 0 by_ T fb hT hNT hq.2.2.2.1) (gV k_483 k_484 k_485 k_98 k_486) (by decide +kernel) ⟨Nat.le_of_ble_eq_true rfl, Nat.le_of_ble_eq_true rfl⟩ ⟨rfl, rfl⟩ [1, 2, 3] rfl rfl rfl rfl rfl rfl hl.1 (Nat.le_of_ble_eq_true rfl) dX2_readSum_42 ⟨Nat.le_of_ble_eq_true rfl, Nat.le_of_ble_eq_true rfl⟩ (fun r_8 hr_8 => ?_)
        subst hr_8
        refine lv_bipush (v := 43) hx hb dX2_readSum_45 (by decide) ?_
        refine lv_icmp_ne (tgt := 54) hx hb dX2_readSum_47 (by decide) (fun c_47 => ?_) (fun c_47 => ?_)
        · refine lv_bipush (v := 6) hx hb dX2_readSum_54 (by decide) ?_
          refine lv_istore_n (lv' := [(3, .int 6), (0, .ref h0), (1, .int 3), (2, .int (nI i))]) hx hb dX2_readSum_56 rfl hl (by decide) rfl (fun ls hl => ?_)
          refine lv_aload_n hx hb dX2_readSum_57 rfl (lv_at hl 1 rfl) ?_
          refine va_get (D := D) (ci := 2) (v := .ref tx) (C := RX2) (T := TX2) (N := 2) hx hb htb itX2 hown hK hP 0 rfl rfl 0 (by decide) (htb _ k_288) (fun _ h9 => h9) rfl dX2_readSum_58 ?_
          refine lv_dup hx hb dX2_readSum_61 rfl ?_
          refine va_getN (D := D) (ci := 6) (v := .int (nI Pa)) (C := RX6) (T := TX6) (N := 4) hx hb htb itX6 hown hK hP 1 rfl rfl 2 (by decide) (va_Nw.use rfl (hN _ n_264 rfl)) (fun _ h9 => h9) rfl dX2_readSum_62 ?_
          refine lv_iconst (v := 1) hx hb dX2_readSum_65 (by decide) ?_
          refine lv_iadd hx hb dX2_readSum_66 ?_
          refine tv (z := (nI (Pa + 1))) (nI_1 Pa) ?_
          refine va_putN (D := D) (ci := 6) (v := .int (nI (Pa + 1))) (ty := .int) (C := RX6) (T := TX6) (N := 4) hx hb htb itX6 tyX6 tyX6_ok nmX6 hown hK hP hD hS 1 rfl rfl 2 (by decide) (va_Nw.use rfl (hN _ n_264 rfl)) (fun _ h9 => h9) rfl (tyX6_ok 2 (by decide)) rfl rfl (Nat.le_of_ble_eq_true rfl) dX2_readSum_67 (fun H locs hP hD hS => ?_)
          have hP : va_P D vwCl [(h0, .inr (2, [.ref tx, .ref lw])), (tx, .inr (6, [.ref tp, .int (nI N), .int (nI (Pa + 1)), .int 0])), (tp, .inr (5, [.ref by_, .int (nI T)])), (by_, .inl (cI, 260, .inl fb)), (lw, .inr (1, [.ref l1, .ref l2, .ref l3, .ref l4, .ref l5, .ref l6, .ref l7, .int (nI za), .int (nI k)])), (l1, .inl (cI, 240, .inl qa))] H := hP
          have hD : va_D A [(h0, .inr (2, [.ref tx, .ref lw])), (tx, .inr (6, [.ref tp, .int (nI N), .int (nI (Pa + 1)), .int 0])), (tp, .inr (5, [.ref by_, .int (nI T)])), (by_, .inl (cI, 260, .inl fb)), (lw, .inr (1, [.ref l1, .ref l2, .ref l3, .ref l4, .ref l5, .ref l6, .ref l7, .int (nI za), .int (nI k)])), (l1, .inl (cI, 240, .inl qa))] := hD
          refine lv_aload_n hx hb dX2_readSum_70 rfl (lv_at hl 1 rfl) ?_
          refine lv_iload_n hx hb dX2_readSum_71 rfl (lv_at hl 2 rfl) ?_
          refine cVVk (As := [.int 3]) (rest := []) (n := 1) (ci := 2) (q0 := 0) (wr := []) X hN hKO hK hP hD hS hA (c_rtP_3 l D cI cB _ kk h0 tx tp N (Pa + 1) 0 by_ T fb lw l1 l2 l3 l4 l5 l6 l7 za k qa hT hNT (by omega) hN2 (Or.inl rfl) hbr hza hk) (gV k_585 k_587 k_3 k_99 k_588) (by decide +kernel) ⟨Nat.le_of_ble_eq_true rfl, Nat.le_of_ble_eq_true rfl⟩ ⟨rfl, rfl⟩ [0, 1, 2, 3, 4, 5] [] rfl rfl (by decide) (by decide) rfl rfl rfl rfl rfl hl.1 (Nat.le_of_ble_eq_true rfl) dX2_readSum_72 ⟨Nat.le_of_ble_eq_true rfl, Nat.le_of_ble_eq_true rfl⟩ (fun u H locs hw_14 hP hD hS => ?_)
          obtain ⟨Po_10, fo_11, zo_12, l1o_13⟩ := u
          try dsimp only at hw_14
          have hP : va_P D vwCl [(h0, .inr (2, [.ref tx, .ref lw])), (tx, .inr (6, [.ref tp, .int (nI N), .int (nI Po_10), .int fo_11])), (tp, .inr (5, [.ref by_, .int (nI T)])), (by_, .inl (cI, 260, .inl fb)), (lw, .inr (1, [.ref l1, .ref l2, .ref l3, .ref l4, .ref l5, .ref l6, .ref l7, .int (nI zo_12), .int (nI k)])), (l1, .inl (cI, 240, .inl l1o_13))] H := hP
          have hD : va_D A [(h0, .inr (2, [.ref tx, .ref lw])), (tx, .inr (6, [.ref tp, .int (nI N), .int (nI Po_10), .int fo_11])), (tp, .inr (5, [.ref by_, .int (nI T)])), (by_, .inl (cI, 260, .inl fb)), (lw, .inr (1, [.ref l1, .ref l2, .ref l3, .ref l4, .ref l5, .ref l6, .ref l7, .int (nI zo_12), .int (nI k)])), (l1, .inl (cI, 240, .inl l1o_13))] := hD
          refine lv_aload_n hx hb dX2_readSum_75 rfl (lv_at hl 1 rfl) ?_
          refine va_get (D := D) (ci := 2) (v := .ref lw) (C := RX2) (T := TX2) (N := 2) hx hb htb itX2 hown hK hP 0 rfl rfl 1 (by decide) (htb _ k_289) (fun _ h9 => h9) rfl dX2_readSum_76 ?_
          refine lv_iload_n hx hb dX2_readSum_79 rfl (lv_at hl 0 rfl) ?_
          refine lv_iconst (v := 0) hx hb dX2_readSum_80 (by decide) ?_
          refine cVV (As := [.int 6, .int 0]) (rest := []) (n := 2) (ci := 1) (q0 := 0) (wr := [(h0, .inr (2, [.ref tx, .ref lw])), (tx, .inr (6, [.ref tp, .int (nI N), .int (nI Po_10), .int fo_11])), (tp, .inr (5, [.ref by_, .int (nI T)])), (by_, .inl (cI, 260, .inl fb))]) X hN hK hP hD hS hA (c_X1_addStep l D cI cB _ lw l1 l2 l3 l4 l5 l6 l7 zo_12 k 6 0 l1o_13 hw_14.1 hk) (gV k_594 k_595 k_596 k_97 k_597) (by decide +kernel) ⟨Nat.le_of_ble_eq_true rfl, Nat.le_of_ble_eq_true rfl⟩ ⟨rfl, rfl⟩ [4, 5] [0, 1, 2, 3] rfl rfl (by decide) (by decide) rfl rfl rfl rfl rfl hl.1 (Nat.le_of_ble_eq_true rfl) dX2_readSum_81 ⟨Nat.le_of_ble_eq_true rfl, Nat.le_of_ble_eq_true rfl⟩ (fun u H locs hw_18 hP hD hS => ?_)
          obtain ⟨zo_16, l1_fo_17⟩ := u
          try dsimp only at hw_18
          have hP : va_P D vwCl [(h0, .inr (2, [.ref tx, .ref lw])), (tx, .inr (6, [.ref tp, .int (nI N), .int (nI Po_10), .int fo_11])), (tp, .inr (5, [.ref by_, .int (nI T)])), (by_, .inl (cI, 260, .inl fb)), (lw, .inr (1, [.ref l1, .ref l2, .ref l3, .ref l4, .ref l5, .ref l6, .ref l7, .int (nI zo_16), .int (nI k)])), (l1, .inl (cI, 240, .inl l1_fo_17))] H := hP
          have hD : va_D A [(h0, .inr (2, [.ref tx, .ref lw])), (tx, .inr (6, [.ref tp, .int (nI N), .int (nI Po_10), .int fo_11])), (tp, .inr (5, [.ref by_, .int (nI T)])), (by_, .inl (cI, 260, .inl fb)), (lw, .inr (1, [.ref l1, .ref l2, .ref l3, .ref l4, .ref l5, .ref l6, .ref l7, .int (nI zo_16), .int (nI k)])), (l1, .inl (cI, 240, .inl l1_fo_17))] := hD
          refine lv_iinc (v := (nI (i + 1))) (lv' := [(2, .int (nI (i + 1))), (3, .int 6), (0, .ref h0), (1, .int 3)]) hx hb dX2_readSum_84 hl (k := 3) rfl (nI_1 i) (by decide) rfl (fun ls hl => ?_)
          refine lv_goto (tgt := 7) hx hb dX2_readSum_87 (by decide) ?_
          exact ih_7 (i + 1) Po_10 fo_11 zo_16 l1_fo_17 (by omega) hw_18 (hq.more hs5 hw_14.2.1) (fun z w => by have := (((hw_14.2.1.2.2.2.2 rfl).1 z).1); have := hiP rfl w; omega) hw_14.2.2 _ _ (hP.sub [0, 1, 2, 3, 4, 5] rfl) (hD.sub [0, 1, 2, 3, 4, 5] (by decide) rfl) hS _ (lv_sub hl [2, 3, 0] rfl)
        · refine lv_iconst (v := 5) hx hb dX2_readSum_50 (by decide) ?_
          refine lv_goto (tgt := 56) hx hb dX2_readSum_51 (by decide) ?_
          refine lv_istore_n (lv' := [(3, .int 5), (0, .ref h0), (1, .int 3), (2, .int (nI i))]) hx hb dX2_readSum_56 rfl hl (by decide) rfl (fun ls hl => ?_)
          refine lv_aload_n hx hb dX2_readSum_57 rfl (lv_at hl 1 rfl) ?_
          refine va_get (D := D) (ci := 2) (v := .ref tx) (C := RX2) (T := TX2) (N := 2) hx hb htb itX2 hown hK hP 0 rfl rfl 0 (by decide) (htb _ k_288) (fun _ h9 => h9) rfl dX2_readSum_58 ?_
          refine lv_dup hx hb dX2_readSum_61 rfl ?_
          refine va_getN (D := D) (ci := 6) (v := .int (nI Pa)) (C := RX6) (T := TX6) (N := 4) hx hb htb itX6 hown hK hP 1 rfl rfl 2 (by decide) (va_Nw.use rfl (hN _ n_264 rfl)) (fun _ h9 => h9) rfl dX2_readSum_62 ?_
          refine lv_iconst (v := 1) hx hb dX2_readSum_65 (by decide) ?_
          refine lv_iadd hx hb dX2_readSum_66 ?_
          refine tv (z := (nI (Pa + 1))) (nI_1 Pa) ?_
          refine va_putN (D := D) (ci := 6) (v := .int (nI (Pa + 1))) (ty := .int) (C := RX6) (T := TX6) (N := 4) hx hb htb itX6 tyX6 tyX6_ok nmX6 hown hK hP hD hS 1 rfl rfl 2 (by decide) (va_Nw.use rfl (hN _ n_264 rfl)) (fun _ h9 => h9) rfl (tyX6_ok 2 (by decide)) rfl rfl (Nat.le_of_ble_eq_true rfl) dX2_readSum_67 (fun H locs hP hD hS => ?_)
          have hP : va_P D vwCl [(h0, .inr (2, [.ref tx, .ref lw])), (tx, .inr (6, [.ref tp, .int (nI N), .int (nI (Pa + 1)), .int 0])), (tp, .inr (5, [.ref by_, .int (nI T)])), (by_, .inl (cI, 260, .inl fb)), (lw, .inr (1, [.ref l1, .ref l2, .ref l3, .ref l4, .ref l5, .ref l6, .ref l7, .int (nI za), .int (nI k)])), (l1, .inl (cI, 240, .inl qa))] H := hP
          have hD : va_D A [(h0, .inr (2, [.ref tx, .ref lw])), (tx, .inr (6, [.ref tp, .int (nI N), .int (nI (Pa + 1)), .int 0])), (tp, .inr (5, [.ref by_, .int (nI T)])), (by_, .inl (cI, 260, .inl fb)), (lw, .inr (1, [.ref l1, .ref l2, .ref l3, .ref l4, .ref l5, .ref l6, .ref l7, .int (nI za), .int (nI k)])), (l1, .inl (cI, 240, .inl qa))] := hD
          refine lv_aload_n hx hb dX2_readSum_70 rfl (lv_at hl 1 rfl) ?_
          refine lv_iload_n hx hb dX2_readSum_71 rfl (lv_at hl 2 rfl) ?_
          refine cVVk (As := [.int 3]) (rest := []) (n := 1) (ci := 2) (q0 := 0) (wr := []) X hN hKO hK hP hD hS hA (c_rtP_3 l D cI cB _ kk h0 tx tp N (Pa + 1) 0 by_ T fb lw l1 l2 l3 l4 l5 l6 l7 za k qa hT hNT (by omega) hN2 (Or.inl rfl) hbr hza hk) (gV k_585 k_587 k_3 k_99 k_588) (by decide +kernel) ⟨Nat.le_of_ble_eq_true rfl, Nat.le_of_ble_eq_true rfl⟩ ⟨rfl, rfl⟩ [0, 1, 2, 3, 4, 5] [] rfl rfl (by decide) (by decide) rfl rfl rfl rfl rfl hl.1 (Nat.le_of_ble_eq_true rfl) dX2_readSum_72 ⟨Nat.le_of_ble_eq_true rfl, Nat.le_of_ble_eq_true rfl⟩ (fun u H locs hw_24 hP hD hS => ?_)
          obtain ⟨Po_20, fo_21, zo_22, l1o_23⟩ := u
          try dsimp only at hw_24
          have hP : va_P D vwCl [(h0, .inr (2, [.ref tx, .ref lw])), (tx, .inr (6, [.ref tp, .int (nI N), .int (nI Po_20), .int fo_21])), (tp, .inr (5, [.ref by_, .int (nI T)])), (by_, .inl (cI, 260, .inl fb)), (lw, .inr (1, [.ref l1, .ref l2, .ref l3, .ref l4, .ref l5, .ref l6, .ref l7, .int (nI zo_22), .int (nI k)])), (l1, .inl (cI, 240, .inl l1o_23))] H := hP
          have hD : va_D A [(h0, .inr (2, [.ref tx, .ref lw])), (tx, .inr (6, [.ref tp, .int (nI N), .int (nI Po_20), .int fo_21])), (tp, .inr (5, [.ref by_, .int (nI T)])), (by_, .inl (cI, 260, .inl fb)), (lw, .inr (1, [.ref l1, .ref l2, .ref l3, .ref l4, .ref l5, .ref l6, .ref l7, .int (nI zo_22), .int (nI k)])), (l1, .inl (cI, 240, .inl l1o_23))] := hD
          refine lv_aload_n hx hb dX2_readSum_75 rfl (lv_at hl 1 rfl) ?_
          refine va_get (D := D) (ci := 2) (v := .ref lw) (C := RX2) (T := TX2) (N := 2) hx hb htb itX2 hown hK hP 0 rfl rfl 1 (by decide) (htb _ k_289) (fun _ h9 => h9) rfl dX2_readSum_76 ?_
          refine lv_iload_n hx hb dX2_readSum_79 rfl (lv_at hl 0 rfl) ?_
          refine lv_iconst (v := 0) hx hb dX2_readSum_80 (by decide) ?_
          refine cVV (As := [.int 5, .int 0]) (rest := []) (n := 2) (ci := 1) (q0 := 0) (wr := [(h0, .inr (2, [.ref tx, .ref lw])), (tx, .inr (6, [.ref tp, .int (nI N), .int (nI Po_20), .int fo_21])), (tp, .inr (5, [.ref by_, .int (nI T)])), (by_, .inl (cI, 260, .inl fb))]) X hN hK hP hD hS hA (c_X1_addStep l D cI cB _ lw l1 l2 l3 l4 l5 l6 l7 zo_22 k 5 0 l1o_23 hw_24.1 hk) (gV k_594 k_595 k_596 k_97 k_597) (by decide +kernel) ⟨Nat.le_of_ble_eq_true rfl, Nat.le_of_ble_eq_true rfl⟩ ⟨rfl, rfl⟩ [4, 5] [0, 1, 2, 3] rfl rfl (by decide) (by decide) rfl rfl rfl rfl rfl hl.1 (Nat.le_of_ble_eq_true rfl) dX2_readSum_81 ⟨Nat.le_of_ble_eq_true rfl, Nat.le_of_ble_eq_true rfl⟩ (fun u H locs hw_28 hP hD hS => ?_)
          obtain ⟨zo_26, l1_fo_27⟩ := u
          try dsimp only at hw_28
          have hP : va_P D vwCl [(h0, .inr (2, [.ref tx, .ref lw])), (tx, .inr (6, [.ref tp, .int (nI N), .int (nI Po_20), .int fo_21])), (tp, .inr (5, [.ref by_, .int (nI T)])), (by_, .inl (cI, 260, .inl fb)), (lw, .inr (1, [.ref l1, .ref l2, .ref l3, .ref l4, .ref l5, .ref l6, .ref l7, .int (nI zo_26), .int (nI k)])), (l1, .inl (cI, 240, .inl l1_fo_27))] H := hP
          have hD : va_D A [(h0, .inr (2, [.ref tx, .ref lw])), (tx, .inr (6, [.ref tp, .int (nI N), .int (nI Po_20), .int fo_21])), (tp, .inr (5, [.ref by_, .int (nI T)])), (by_, .inl (cI, 260, .inl fb)), (lw, .inr (1, [.ref l1, .ref l2, .ref l3, .ref l4, .ref l5, .ref l6, .ref l7, .int (nI zo_26), .int (nI k)])), (l1, .inl (cI, 240, .inl l1_fo_27))] := hD
          refine lv_iinc (v := (nI (i + 1))) (lv' := [(2, .int (nI (i + 1))), (3, .int 5), (0, .ref h0), (1, .int 3)]) hx hb dX2_readSum_84 hl (k := 3) rfl (nI_1 i) (by decide) rfl (fun ls hl => ?_)
          refine lv_goto (tgt := 7) hx hb dX2_readSum_87 (by decide) ?_
          exact ih_7 (i + 1) Po_20 fo_21 zo_26 l1_fo_27 (by omega) hw_28 (hq.more hs5 hw_24.2.1) (fun z w => by have := (((hw_24.2.1.2.2.2.2 rfl).1 z).1); have := hiP rfl w; omega) hw_24.2.2 _ _ (hP.sub [0, 1, 2, 3, 4, 5] rfl) (hD.sub [0, 1, 2, 3, 4, 5] (by decide) rfl) hS _ (lv_sub hl [2, 3, 0] rfl)
      · refine lv_aload_n hx hb dX2_readSum_26 rfl (lv_at hl 0 rfl) ?_
        refine va_get (D := D) (ci := 2) (v := .ref tx) (C := RX2) (T := TX2) (N := 2) hx hb htb itX2 hown hK hP 0 rfl rfl 0 (by decide) (htb _ k_288) (fun _ h9 => h9) rfl dX2_readSum_27 ?_
        refine cVR (As := []) (rest := []) (n := 0) (ci := 6) (q0 := 0) X hN hK hP (c_signP l D cI cB tx tp N Pa fv by_ T fb hT hNT hq.2.2.2.1) (gV k_483 k_484 k_485 k_98 k_486) (by decide +kernel) ⟨Nat.le_of_ble_eq_true rfl, Nat.le_of_ble_eq_true rfl⟩ ⟨rfl, rfl⟩ [1, 2, 3] rfl rfl rfl rfl rfl rfl hl.1 (Nat.le_of_ble_eq_true rfl) dX2_readSum_30 ⟨Nat.le_of_ble_eq_true rfl, Nat.le_of_ble_eq_true rfl⟩ (fun r_29 hr_29 => ?_)
        subst hr_29
        refine lv_bipush (v := 45) hx hb dX2_readSum_33 (by decide) ?_
        refine lv_icmp_ne (tgt := 90) hx hb dX2_readSum_35 (by decide) (fun c_35 => ?_) (fun c_35 => ?_)
        · exact ret _ _ _ _ (Pa, fv, za, qa) dX2_readSum_90 (⟨hza, ⟨hq, fun (z : fv = 0) => by have w1 := c_23; have w2 := c_35; rw [z, sQ0] at w1 w2; exact fun y => y.elim (fun a => a.elim w1 w2) (hmu z)⟩⟩) (hP.sub [0, 1, 2, 3, 4, 5] rfl) (hD.sub [0, 1, 2, 3, 4, 5] (by decide) rfl) hS
        · obtain ⟨hf0, hlt, hs5⟩ := sQs (sgA (Or.inr c_35))
          subst hf0
          refine lv_aload_n hx hb dX2_readSum_38 rfl (lv_at hl 0 rfl) ?_
          refine va_get (D := D) (ci := 2) (v := .ref tx) (C := RX2) (T := TX2) (N := 2) hx hb htb itX2 hown hK hP 0 rfl rfl 0 (by decide) (htb _ k_288) (fun _ h9 => h9) rfl dX2_readSum_39 ?_
          refine cVR (As := []) (rest := []) (n := 0) (ci := 6) (q0 := 0) X hN hK hP (c_signP l D cI cB tx tp N Pa 0 by_ T fb hT hNT hq.2.2.2.1) (gV k_483 k_484 k_485 k_98 k_486) (by decide +kernel) ⟨Nat.le_of_ble_eq_true rfl, Nat.le_of_ble_eq_true rfl⟩ ⟨rfl, rfl⟩ [1, 2, 3] rfl rfl rfl rfl rfl rfl hl.1 (Nat.le_of_ble_eq_true rfl) dX2_readSum_42 ⟨Nat.le_of_ble_eq_true rfl, Nat.le_of_ble_eq_true rfl⟩ (fun r_30 hr_30 => ?_)
          subst hr_30
          refine lv_bipush (v := 43) hx hb dX2_readSum_45 (by decide) ?_
          refine lv_icmp_ne (tgt := 54) hx hb dX2_readSum_47 (by decide) (fun c_47 => ?_) (fun c_47 => ?_)
          · refine lv_bipush (v := 6) hx hb dX2_readSum_54 (by decide) ?_
            refine lv_istore_n (lv' := [(3, .int 6), (0, .ref h0), (1, .int 3), (2, .int (nI i))]) hx hb dX2_readSum_56 rfl hl (by decide) rfl (fun ls hl => ?_)
            refine lv_aload_n hx hb dX2_readSum_57 rfl (lv_at hl 1 rfl) ?_
            refine va_get (D := D) (ci := 2) (v := .ref tx) (C := RX2) (T := TX2) (N := 2) hx hb htb itX2 hown hK hP 0 rfl rfl 0 (by decide) (htb _ k_288) (fun _ h9 => h9) rfl dX2_readSum_58 ?_
            refine lv_dup hx hb dX2_readSum_61 rfl ?_
            refine va_getN (D := D) (ci := 6) (v := .int (nI Pa)) (C := RX6) (T := TX6) (N := 4) hx hb htb itX6 hown hK hP 1 rfl rfl 2 (by decide) (va_Nw.use rfl (hN _ n_264 rfl)) (fun _ h9 => h9) rfl dX2_readSum_62 ?_
            refine lv_iconst (v := 1) hx hb dX2_readSum_65 (by decide) ?_
            refine lv_iadd hx hb dX2_readSum_66 ?_
            refine tv (z := (nI (Pa + 1))) (nI_1 Pa) ?_
            refine va_putN (D := D) (ci := 6) (v := .int (nI (Pa + 1))) (ty := .int) (C := RX6) (T := TX6) (N := 4) hx hb htb itX6 tyX6 tyX6_ok nmX6 hown hK hP hD hS 1 rfl rfl 2 (by decide) (va_Nw.use rfl (hN _ n_264 rfl)) (fun _ h9 => h9) rfl (tyX6_ok 2 (by decide)) rfl rfl (Nat.le_of_ble_eq_true rfl) dX2_readSum_67 (fun H locs hP hD hS => ?_)
            have hP : va_P D vwCl [(h0, .inr (2, [.ref tx, .ref lw])), (tx, .inr (6, [.ref tp, .int (nI N), .int (nI (Pa + 1)), .int 0])), (tp, .inr (5, [.ref by_, .int (nI T)])), (by_, .inl (cI, 260, .inl fb)), (lw, .inr (1, [.ref l1, .ref l2, .ref l3, .ref l4, .ref l5, .ref l6, .ref l7, .int (nI za), .int (nI k)])), (l1, .inl (cI, 240, .inl qa))] H := hP
            have hD : va_D A [(h0, .inr (2, [.ref tx, .ref lw])), (tx, .inr (6, [.ref tp, .int (nI N), .int (nI (Pa + 1)), .int 0])), (tp, .inr (5, [.ref by_, .int (nI T)])), (by_, .inl (cI, 260, .inl fb)), (lw, .inr (1, [.ref l1, .ref l2, .ref l3, .ref l4, .ref l5, .ref l6, .ref l7, .int (nI za), .int (nI k)])), (l1, .inl (cI, 240, .inl qa))] := hD
            refine lv_aload_n hx hb dX2_readSum_70 rfl (lv_at hl 1 rfl) ?_
            refine lv_iload_n hx hb dX2_readSum_71 rfl (lv_at hl 2 rfl) ?_
            refine cVVk (As := [.int 3]) (rest := []) (n := 1) (ci := 2) (q0 := 0) (wr := []) X hN hKO hK hP hD hS hA (c_rtP_3 l D cI cB _ kk h0 tx tp N (Pa + 1) 0 by_ T fb lw l1 l2 l3 l4 l5 l6 l7 za k qa hT hNT (by omega) hN2 (Or.inl rfl) hbr hza hk) (gV k_585 k_587 k_3 k_99 k_588) (by decide +kernel) ⟨Nat.le_of_ble_eq_true rfl, Nat.le_of_ble_eq_true rfl⟩ ⟨rfl, rfl⟩ [0, 1, 2, 3, 4, 5] [] rfl rfl (by decide) (by decide) rfl rfl rfl rfl rfl hl.1 (Nat.le_of_ble_eq_true rfl) dX2_readSum_72 ⟨Nat.le_of_ble_eq_true rfl, Nat.le_of_ble_eq_true rfl⟩ (fun u H locs hw_36 hP hD hS => ?_)
            obtain ⟨Po_32, fo_33, zo_34, l1o_35⟩ := u
            try dsimp only at hw_36
            have hP : va_P D vwCl [(h0, .inr (2, [.ref tx, .ref lw])), (tx, .inr (6, [.ref tp, .int (nI N), .int (nI Po_32), .int fo_33])), (tp, .inr (5, [.ref by_, .int (nI T)])), (by_, .inl (cI, 260, .inl fb)), (lw, .inr (1, [.ref l1, .ref l2, .ref l3, .ref l4, .ref l5, .ref l6, .ref l7, .int (nI zo_34), .int (nI k)])), (l1, .inl (cI, 240, .inl l1o_35))] H := hP
            have hD : va_D A [(h0, .inr (2, [.ref tx, .ref lw])), (tx, .inr (6, [.ref tp, .int (nI N), .int (nI Po_32), .int fo_33])), (tp, .inr (5, [.ref by_, .int (nI T)])), (by_, .inl (cI, 260, .inl fb)), (lw, .inr (1, [.ref l1, .ref l2, .ref l3, .ref l4, .ref l5, .ref l6, .ref l7, .int (nI zo_34), .int (nI k)])), (l1, .inl (cI, 240, .inl l1o_35))] := hD
            refine lv_aload_n hx hb dX2_readSum_75 rfl (lv_at hl 1 rfl) ?_
            refine va_get (D := D) (ci := 2) (v := .ref lw) (C := RX2) (T := TX2) (N := 2) hx hb htb itX2 hown hK hP 0 rfl rfl 1 (by decide) (htb _ k_289) (fun _ h9 => h9) rfl dX2_readSum_76 ?_
            refine lv_iload_n hx hb dX2_readSum_79 rfl (lv_at hl 0 rfl) ?_
            refine lv_iconst (v := 0) hx hb dX2_readSum_80 (by decide) ?_
            refine cVV (As := [.int 6, .int 0]) (rest := []) (n := 2) (ci := 1) (q0 := 0) (wr := [(h0, .inr (2, [.ref tx, .ref lw])), (tx, .inr (6, [.ref tp, .int (nI N), .int (nI Po_32), .int fo_33])), (tp, .inr (5, [.ref by_, .int (nI T)])), (by_, .inl (cI, 260, .inl fb))]) X hN hK hP hD hS hA (c_X1_addStep l D cI cB _ lw l1 l2 l3 l4 l5 l6 l7 zo_34 k 6 0 l1o_35 hw_36.1 hk) (gV k_594 k_595 k_596 k_97 k_597) (by decide +kernel) ⟨Nat.le_of_ble_eq_true rfl, Nat.le_of_ble_eq_true rfl⟩ ⟨rfl, rfl⟩ [4, 5] [0, 1, 2, 3] rfl rfl (by decide) (by decide) rfl rfl rfl rfl rfl hl.1 (Nat.le_of_ble_eq_true rfl) dX2_readSum_81 ⟨Nat.le_of_ble_eq_true rfl, Nat.le_of_ble_eq_true rfl⟩ (fun u H locs hw_40 hP hD hS => ?_)
            obtain ⟨zo_38, l1_fo_39⟩ := u
            try dsimp only at hw_40
            have hP : va_P D vwCl [(h0, .inr (2, [.ref tx, .ref lw])), (tx, .inr (6, [.ref tp, .int (nI N), .int (nI Po_32), .int fo_33])), (tp, .inr (5, [.ref by_, .int (nI T)])), (by_, .inl (cI, 260, .inl fb)), (lw, .inr (1, [.ref l1, .ref l2, .ref l3, .ref l4, .ref l5, .ref l6, .ref l7, .int (nI zo_38), .int (nI k)])), (l1, .inl (cI, 240, .inl l1_fo_39))] H := hP
            have hD : va_D A [(h0, .inr (2, [.ref tx, .ref lw])), (tx, .inr (6, [.ref tp, .int (nI N), .int (nI Po_32), .int fo_33])), (tp, .inr (5, [.ref by_, .int (nI T)])), (by_, .inl (cI, 260, .inl fb)), (lw, .inr (1, [.ref l1, .ref l2, .ref l3, .ref l4, .ref l5, .ref l6, .ref l7, .int (nI zo_38), .int (nI k)])), (l1, .inl (cI, 240, .inl l1_fo_39))] := hD
            refine lv_iinc (v := (nI (i + 1))) (lv' := [(2, .int (nI (i + 1))), (3, .int 6), (0, .ref h0), (1, .int 3)]) hx hb dX2_readSum_84 hl (k := 3) rfl (nI_1 i) (by decide) rfl (fun ls hl => ?_)
            refine lv_goto (tgt := 7) hx hb dX2_readSum_87 (by decide) ?_
            exact ih_7 (i + 1) Po_32 fo_33 zo_38 l1_fo_39 (by omega) hw_40 (hq.more hs5 hw_36.2.1) (fun z w => by have := (((hw_36.2.1.2.2.2.2 rfl).1 z).1); have := hiP rfl w; omega) hw_36.2.2 _ _ (hP.sub [0, 1, 2, 3, 4, 5] rfl) (hD.sub [0, 1, 2, 3, 4, 5] (by decide) rfl) hS _ (lv_sub hl [2, 3, 0] rfl)
          · refine lv_iconst (v := 5) hx hb dX2_readSum_50 (by decide) ?_
            refine lv_goto (tgt := 56) hx hb dX2_readSum_51 (by decide) ?_
            refine lv_istore_n (lv' := [(3, .int 5), (0, .ref h0), (1, .int 3), (2, .int (nI i))]) hx hb dX2_readSum_56 rfl hl (by decide) rfl (fun ls hl => ?_)
            refine lv_aload_n hx hb dX2_readSum_57 rfl (lv_at hl 1 rfl) ?_
            refine va_get (D := D) (ci := 2) (v := .ref tx) (C := RX2) (T := TX2) (N := 2) hx hb htb itX2 hown hK hP 0 rfl rfl 0 (by decide) (htb _ k_288) (fun _ h9 => h9) rfl dX2_readSum_58 ?_
            refine lv_dup hx hb dX2_readSum_61 rfl ?_
            refine va_getN (D := D) (ci := 6) (v := .int (nI Pa)) (C := RX6) (T := TX6) (N := 4) hx hb htb itX6 hown hK hP 1 rfl rfl 2 (by decide) (va_Nw.use rfl (hN _ n_264 rfl)) (fun _ h9 => h9) rfl dX2_readSum_62 ?_
            refine lv_iconst (v := 1) hx hb dX2_readSum_65 (by decide) ?_
            refine lv_iadd hx hb dX2_readSum_66 ?_
            refine tv (z := (nI (Pa + 1))) (nI_1 Pa) ?_
            refine va_putN (D := D) (ci := 6) (v := .int (nI (Pa + 1))) (ty := .int) (C := RX6) (T := TX6) (N := 4) hx hb htb itX6 tyX6 tyX6_ok nmX6 hown hK hP hD hS 1 rfl rfl 2 (by decide) (va_Nw.use rfl (hN _ n_264 rfl)) (fun _ h9 => h9) rfl (tyX6_ok 2 (by decide)) rfl rfl (Nat.le_of_ble_eq_true rfl) dX2_readSum_67 (fun H locs hP hD hS => ?_)
            have hP : va_P D vwCl [(h0, .inr (2, [.ref tx, .ref lw])), (tx, .inr (6, [.ref tp, .int (nI N), .int (nI (Pa + 1)), .int 0])), (tp, .inr (5, [.ref by_, .int (nI T)])), (by_, .inl (cI, 260, .inl fb)), (lw, .inr (1, [.ref l1, .ref l2, .ref l3, .ref l4, .ref l5, .ref l6, .ref l7, .int (nI za), .int (nI k)])), (l1, .inl (cI, 240, .inl qa))] H := hP
            have hD : va_D A [(h0, .inr (2, [.ref tx, .ref lw])), (tx, .inr (6, [.ref tp, .int (nI N), .int (nI (Pa + 1)), .int 0])), (tp, .inr (5, [.ref by_, .int (nI T)])), (by_, .inl (cI, 260, .inl fb)), (lw, .inr (1, [.ref l1, .ref l2, .ref l3, .ref l4, .ref l5, .ref l6, .ref l7, .int (nI za), .int (nI k)])), (l1, .inl (cI, 240, .inl qa))] := hD
            refine lv_aload_n hx hb dX2_readSum_70 rfl (lv_at hl 1 rfl) ?_
            refine lv_iload_n hx hb dX2_readSum_71 rfl (lv_at hl 2 rfl) ?_
            refine cVVk (As := [.int 3]) (rest := []) (n := 1) (ci := 2) (q0 := 0) (wr := []) X hN hKO hK hP hD hS hA (c_rtP_3 l D cI cB _ kk h0 tx tp N (Pa + 1) 0 by_ T fb lw l1 l2 l3 l4 l5 l6 l7 za k qa hT hNT (by omega) hN2 (Or.inl rfl) hbr hza hk) (gV k_585 k_587 k_3 k_99 k_588) (by decide +kernel) ⟨Nat.le_of_ble_eq_true rfl, Nat.le_of_ble_eq_true rfl⟩ ⟨rfl, rfl⟩ [0, 1, 2, 3, 4, 5] [] rfl rfl (by decide) (by decide) rfl rfl rfl rfl rfl hl.1 (Nat.le_of_ble_eq_true rfl) dX2_readSum_72 ⟨Nat.le_of_ble_eq_true rfl, Nat.le_of_ble_eq_true rfl⟩ (fun u H locs hw_46 hP hD hS => ?_)
            obtain ⟨Po_42, fo_43, zo_44, l1o_45⟩ := u
            try dsimp only at hw_46
            have hP : va_P D vwCl [(h0, .inr (2, [.ref tx, .ref lw])), (tx, .inr (6, [.ref tp, .int (nI N), .int (nI Po_42), .int fo_43])), (tp, .inr (5, [.ref by_, .int (nI T)])), (by_, .inl (cI, 260, .inl fb)), (lw, .inr (1, [.ref l1, .ref l2, .ref l3, .ref l4, .ref l5, .ref l6, .ref l7, .int (nI zo_44), .int (nI k)])), (l1, .inl (cI, 240, .inl l1o_45))] H := hP
            have hD : va_D A [(h0, .inr (2, [.ref tx, .ref lw])), (tx, .inr (6, [.ref tp, .int (nI N), .int (nI Po_42), .int fo_43])), (tp, .inr (5, [.ref by_, .int (nI T)])), (by_, .inl (cI, 260, .inl fb)), (lw, .inr (1, [.ref l1, .ref l2, .ref l3, .ref l4, .ref l5, .ref l6, .ref l7, .int (nI zo_44), .int (nI k)])), (l1, .inl (cI, 240, .inl l1o_45))] := hD
            refine lv_aload_n hx hb dX2_readSum_75 rfl (lv_at hl 1 rfl) ?_
            refine va_get (D := D) (ci := 2) (v := .ref lw) (C := RX2) (T := TX2) (N := 2) hx hb htb itX2 hown hK hP 0 rfl rfl 1 (by decide) (htb _ k_289) (fun _ h9 => h9) rfl dX2_readSum_76 ?_
            refine lv_iload_n hx hb dX2_readSum_79 rfl (lv_at hl 0 rfl) ?_
            refine lv_iconst (v := 0) hx hb dX2_readSum_80 (by decide) ?_
            refine cVV (As := [.int 5, .int 0]) (rest := []) (n := 2) (ci := 1) (q0 := 0) (wr := [(h0, .inr (2, [.ref tx, .ref lw])), (tx, .inr (6, [.ref tp, .int (nI N), .int (nI Po_42), .int fo_43])), (tp, .inr (5, [.ref by_, .int (nI T)])), (by_, .inl (cI, 260, .inl fb))]) X hN hK hP hD hS hA (c_X1_addStep l D cI cB _ lw l1 l2 l3 l4 l5 l6 l7 zo_44 k 5 0 l1o_45 hw_46.1 hk) (gV k_594 k_595 k_596 k_97 k_597) (by decide +kernel) ⟨Nat.le_of_ble_eq_true rfl, Nat.le_of_ble_eq_true rfl⟩ ⟨rfl, rfl⟩ [4, 5] [0, 1, 2, 3] rfl rfl (by decide) (by decide) rfl rfl rfl rfl rfl hl.1 (Nat.le_of_ble_eq_true rfl) dX2_readSum_81 ⟨Nat.le_of_ble_eq_true rfl, Nat.le_of_ble_eq_true rfl⟩ (fun u H locs hw_50 hP hD hS => ?_)
            obtain ⟨zo_48, l1_fo_49⟩ := u
            try dsimp only at hw_50
            have hP : va_P D vwCl [(h0, .inr (2, [.ref tx, .ref lw])), (tx, .inr (6, [.ref tp, .int (nI N), .int (nI Po_42), .int fo_43])), (tp, .inr (5, [.ref by_, .int (nI T)])), (by_, .inl (cI, 260, .inl fb)), (lw, .inr (1, [.ref l1, .ref l2, .ref l3, .ref l4, .ref l5, .ref l6, .ref l7, .int (nI zo_48), .int (nI k)])), (l1, .inl (cI, 240, .inl l1_fo_49))] H := hP
            have hD : va_D A [(h0, .inr (2, [.ref tx, .ref lw])), (tx, .inr (6, [.ref tp, .int (nI N), .int (nI Po_42), .int fo_43])), (tp, .inr (5, [.ref by_, .int (nI T)])), (by_, .inl (cI, 260, .inl fb)), (lw, .inr (1, [.ref l1, .ref l2, .ref l3, .ref l4, .ref l5, .ref l6, .ref l7, .int (nI zo_48), .int (nI k)])), (l1, .inl (cI, 240, .inl l1_fo_49))] := hD
            refine lv_iinc (v := (nI (i + 1))) (lv' := [(2, .int (nI (i + 1))), (3, .int 5), (0, .ref h0), (1, .int 3)]) hx hb dX2_readSum_84 hl (k := 3) rfl (nI_1 i) (by decide) rfl (fun ls hl => ?_)
            refine lv_goto (tgt := 7) hx hb dX2_readSum_87 (by decide) ?_
            exact ih_7 (i + 1) Po_42 fo_43 zo_48 l1_fo_49 (by omega) hw_50 (hq.more hs5 hw_46.2.1) (fun z w => by have := (((hw_46.2.1.2.2.2.2 rfl).1 z).1); have := hiP rfl w; omega) hw_46.2.2 _ _ (hP.sub [0, 1, 2, 3, 4, 5] rfl) (hD.sub [0, 1, 2, 3, 4, 5] (by decide) rfl) hS _ (lv_sub hl [2, 3, 0] rfl)
  exact loop_7 240 0 Po_2 fo_3 zo_4 l1o_5 (by omega) hw_6.1 hw_6.2.1 (fun z w => (((hw_6.2.1.2.2.2.2 w).1 z).1 |> fun y => by omega)) hw_6.2.2 _ _ (hP.sub [0, 1, 2, 3, 4, 5] rfl) (hD.sub [0, 1, 2, 3, 4, 5] (by decide) rfl) hS _ (lv_sub hl [1, 2, 0] rfl)

set_option maxRecDepth 100000 in
set_option maxHeartbeats 4000000 in
theorem c_rfP_2 (l : Launch) (D : va_G) (cI cB : ClassId) (sz : Nat) (kk : KT) (h0 : Nat) (tx : Nat) (tp : Nat) (N : Nat) (P : Nat) (fa : Int32) (by_ : Nat) (T : Nat) (fb : Nat → Int32) (lw : Nat) (l1 : Nat) (l2 : Nat) (l3 : Nat) (l4 : Nat) (l5 : Nat) (l6 : Nat) (l7 : Nat) (z : Nat) (k : Nat) (q1 : Nat → Int32) (hT : T ≤ 260) (hNT : N ≤ T) (hPN : P ≤ N) (hN2 : N ≤ 240) (hfa : fa = 0 ∨ fa < 0) (hbr : BR N fb) (hz : z ≤ 240) (hk : k ≤ 16) : MVk (S := ((Nat) × (Int32) × (Nat) × (Nat → Int32))) l D cI cB kk yX2_readFactor cX2_readFactor 3 (rm 17 385) [.ref h0, .int 2] [(h0, .inr (2, [.ref tx, .ref lw])), (tx, .inr (6, [.ref tp, .int (nI N), .int (nI P), .int fa])), (tp, .inr (5, [.ref by_, .int (nI T)])), (by_, .inl (cI, 260, .inl fb)), (lw, .inr (1, [.ref l1, .ref l2, .ref l3, .ref l4, .ref l5, .ref l6, .ref l7, .int (nI z), .int (nI k)])), (l1, .inl (cI, 240, .inl q1))] sz (fun u => u.2.2.1 ≤ 240 ∧ FCQ fb N 4 P u.1 fa u.2.1) (fun u : ((Nat) × (Int32) × (Nat) × (Nat → Int32)) => [(h0, .inr (2, [.ref tx, .ref lw])), (tx, .inr (6, [.ref tp, .int (nI N), .int (nI u.1), .int u.2.1])), (tp, .inr (5, [.ref by_, .int (nI T)])), (by_, .inl (cI, 260, .inl fb)), (lw, .inr (1, [.ref l1, .ref l2, .ref l3, .ref l4, .ref l5, .ref l6, .ref l7, .int (nI u.2.2.1), .int (nI k)])), (l1, .inl (cI, 240, .inl u.2.2.2))]) := by
  refine MVk.of (by decide) (Nat.le_of_ble_eq_true rfl) ?_
  intro p e s m below meth c Q ls A X hin hN hKO hP hK hD hA hl ret
  have hS : va_S A s.heap s.heap [] := va_S.rf
  obtain ⟨hx, hb, hml, hown, htb⟩ := id X
  have hl : lv_has ls 3 [(0, .ref h0), (1, .int 2)] := hl
  refine lv_aload_n hx hb dX2_readFactor_0 rfl (lv_at hl 0 rfl) ?_
  refine va_ldcS hx hb hown hKO.2.2.2.2.2 dX2_readFactor_1 ?_
  refine cVRk (As := [.ref (kk.2.1 1)]) (rest := []) (n := 1) (ci := 2) (q0 := 0) X hN hKO hS hK hP (c_placeInP1 l D cI cB kk h0 lw tx tp N P fa by_ T fb hT hNT hPN hbr) (gV k_479 k_481 k_1 k_99 k_482) (by decide +kernel) ⟨Nat.le_of_ble_eq_true rfl, Nat.le_of_ble_eq_true rfl⟩ ⟨rfl, rfl⟩ [0, 1, 2, 3] rfl rfl rfl rfl rfl rfl hl.1 (Nat.le_of_ble_eq_true rfl) dX2_readFactor_3 ⟨Nat.le_of_ble_eq_true rfl, Nat.le_of_ble_eq_true rfl⟩ (fun r_1 hr_1 => ?_)
  subst hr_1
  refine lv_topi (fun x_2 ex_2 => ?_)
  refine lv_istore_n (lv' := [(2, .int x_2), (0, .ref h0), (1, .int 2)]) hx hb dX2_readFactor_6 rfl hl (by decide) rfl (fun ls hl => ?_)
  refine lv_iload_n hx hb dX2_readFactor_7 rfl (lv_at hl 0 rfl) ?_
  refine lv_if_lt (tgt := 36) hx hb dX2_readFactor_8 (by decide) (fun c_8 => ?_) (fun c_8 => ?_)
  · refine lv_aload_n hx hb dX2_readFactor_36 rfl (lv_at hl 1 rfl) ?_
    refine va_get (D := D) (ci := 2) (v := .ref tx) (C := RX2) (T := TX2) (N := 2) hx hb htb itX2 hown hK hP 0 rfl rfl 0 (by decide) (htb _ k_288) (fun _ h9 => h9) rfl dX2_readFactor_37 ?_
    refine cVR (As := []) (rest := []) (n := 0) (ci := 6) (q0 := 0) X hN hK hP (c_signP l D cI cB tx tp N P fa by_ T fb hT hNT hPN) (gV k_483 k_484 k_485 k_98 k_486) (by decide +kernel) ⟨Nat.le_of_ble_eq_true rfl, Nat.le_of_ble_eq_true rfl⟩ ⟨rfl, rfl⟩ [1, 2, 3] rfl rfl rfl rfl rfl rfl hl.1 (Nat.le_of_ble_eq_true rfl) dX2_readFactor_40 ⟨Nat.le_of_ble_eq_true rfl, Nat.le_of_ble_eq_true rfl⟩ (fun r_3 hr_3 => ?_)
    subst hr_3
    refine lv_bipush (v := 91) hx hb dX2_readFactor_43 (by decide) ?_
    refine lv_icmp_ne (tgt := 75) hx hb dX2_readFactor_45 (by decide) (fun c_45 => ?_) (fun c_45 => ?_)
    · refine lv_aload_n hx hb dX2_readFactor_75 rfl (lv_at hl 1 rfl) ?_
      refine va_get (D := D) (ci := 2) (v := .ref lw) (C := RX2) (T := TX2) (N := 2) hx hb htb itX2 hown hK hP 0 rfl rfl 1 (by decide) (htb _ k_289) (fun _ h9 => h9) rfl dX2_readFactor_76 ?_
      refine lv_iconst (v := 0) hx hb dX2_readFactor_79 (by decide) ?_
      refine lv_aload_n hx hb dX2_readFactor_80 rfl (lv_at hl 1 rfl) ?_
      refine va_get (D := D) (ci := 2) (v := .ref tx) (C := RX2) (T := TX2) (N := 2) hx hb htb itX2 hown hK hP 0 rfl rfl 0 (by decide) (htb _ k_288) (fun _ h9 => h9) rfl dX2_readFactor_81 ?_
      refine lv_iconst (v := 5) hx hb dX2_readFactor_84 (by decide) ?_
      refine lv_iconst (v := 2) hx hb dX2_readFactor_85 (by decide) ?_
      refine cVI (As := [.int 5, .int 2]) (rest := [.int 0, .ref lw]) (n := 2) (ci := 6) (q0 := 0) (wr := [(h0, .inr (2, [.ref tx, .ref lw])), (lw, .inr (1, [.ref l1, .ref l2, .ref l3, .ref l4, .ref l5, .ref l6, .ref l7, .int (nI z), .int (nI k)])), (l1, .inl (cI, 240, .inl q1))]) X hN hK hP hD hS hA (c_numberP l D cI cB _ tx tp N P fa by_ T fb 5 2 hT hNT hPN (by decide)) (gV k_612 k_613 k_614 k_98 k_615) (by decide +kernel) ⟨Nat.le_of_ble_eq_true rfl, Nat.le_of_ble_eq_true rfl⟩ ⟨rfl, rfl⟩ [1, 2, 3] [0, 4, 5] rfl rfl (by decide) (by decide) rfl rfl rfl rfl rfl hl.1 (Nat.le_of_ble_eq_true rfl) dX2_readFactor_86 ⟨Nat.le_of_ble_eq_true rfl, Nat.le_of_ble_eq_true rfl⟩ (fun r_4 u H locs hw_7 hP hD hS => ?_)
      obtain ⟨Po_5, fo_6⟩ := u
      try dsimp only at hw_7
      have hP : va_P D vwCl [(h0, .inr (2, [.ref tx, .ref lw])), (lw, .inr (1, [.ref l1, .ref l2, .ref l3, .ref l4, .ref l5, .ref l6, .ref l7, .int (nI z), .int (nI k)])), (l1, .inl (cI, 240, .inl q1)), (tx, .inr (6, [.ref tp, .int (nI N), .int (nI Po_5), .int fo_6])), (tp, .inr (5, [.ref by_, .int (nI T)])), (by_, .inl (cI, 260, .inl fb))] H := hP
      have hD : va_D A [(h0, .inr (2, [.ref tx, .ref lw])), (lw, .inr (1, [.ref l1, .ref l2, .ref l3, .ref l4, .ref l5, .ref l6, .ref l7, .int (nI z), .int (nI k)])), (l1, .inl (cI, 240, .inl q1)), (tx, .inr (6, [.ref tp, .int (nI N), .int (nI Po_5), .int fo_6])), (tp, .inr (5, [.ref by_, .int (nI T)])), (by_, .inl (cI, 260, .inl fb))] := hD
      refine cVV (As := [.int 0, .int r_4]) (rest := []) (n := 2) (ci := 1) (q0 := 0) (wr := [(h0, .inr (2, [.ref tx, .ref lw])), (tx, .inr (6, [.ref tp, .int (nI N), .int (nI Po_5), .int fo_6])), (tp, .inr (5, [.ref by_, .int (nI T)])), (by_, .inl (cI, 260, .inl fb))]) X hN hK hP hD hS hA (c_X1_addStep l D cI cB _ lw l1 l2 l3 l4 l5 l6 l7 z k 0 r_4 q1 hz hk) (gV k_594 k_595 k_596 k_97 k_597) (by decide +kernel) ⟨Nat.le_of_ble_eq_true rfl, Nat.le_of_ble_eq_true rfl⟩ ⟨rfl, rfl⟩ [1, 2] [0, 3, 4, 5] rfl rfl (by decide) (by decide) rfl rfl rfl rfl rfl hl.1 (Nat.le_of_ble_eq_true rfl) dX2_readFactor_89 ⟨Nat.le_of_ble_eq_true rfl, Nat.le_of_ble_eq_true rfl⟩ (fun u H locs hw_11 hP hD hS => ?_)
      obtain ⟨zo_9, l1_fo_10⟩ := u
      try dsimp only at hw_11
      have hP : va_P D vwCl [(h0, .inr (2, [.ref tx, .ref lw])), (tx, .inr (6, [.ref tp, .int (nI N), .int (nI Po_5), .int fo_6])), (tp, .inr (5, [.ref by_, .int (nI T)])), (by_, .inl (cI, 260, .inl fb)), (lw, .inr (1, [.ref l1, .ref l2, .ref l3, .ref l4, .ref l5, .ref l6, .ref l7, .int (nI zo_9), .int (nI k)])), (l1, .inl (cI, 240, .inl l1_fo_10))] H := hP
      have hD : va_D A [(h0, .inr (2, [.ref tx, .ref lw])), (tx, .inr (6, [.ref tp, .int (nI N), .int (nI Po_5), .int fo_6])), (tp, .inr (5, [.ref by_, .int (nI T)])), (by_, .inl (cI, 260, .inl fb)), (lw, .inr (1, [.ref l1, .ref l2, .ref l3, .ref l4, .ref l5, .ref l6, .ref l7, .int (nI zo_9), .int (nI k)])), (l1, .inl (cI, 240, .inl l1_fo_10))] := hD
      exact ret _ _ _ _ (Po_5, fo_6, zo_9, l1_fo_10) dX2_readFactor_92 (⟨hw_11, by have q := FCQ.num (k := 4) (f := fb) (N := N) (p := P) (fa := fa) (by omega) hPN hfa (kp1_lt (by rw [← ex_2]; exact c_8)) c_45 (by rw [← hw_7.1]; exact hw_7.2.2.2); rw [← hw_7.1, ← hw_7.2.2.1] at q; exact q⟩) (hP.sub [0, 1, 2, 3, 4, 5] rfl) (hD.sub [0, 1, 2, 3, 4, 5] (by decide) rfl) hS
    · have h91 := c_45
      obtain ⟨hf0, hlt⟩ := sQz (fun z => absurd (z.symm.trans h91) (by decide))
      subst hf0
      rw [sQ0] at h91
      refine lv_aload_n hx hb dX2_readFactor_48 rfl (lv_at hl 1 rfl) ?_
      refine lv_iload_n hx hb dX2_readFactor_49 rfl (lv_at hl 2 rfl) ?_
      refine cVI (As := [.int 2]) (rest := []) (n := 1) (ci := 2) (q0 := 0) (wr := [(tp, .inr (5, [.ref by_, .int (nI T)])), (by_, .inl (cI, 260, .inl fb)), (lw, .inr (1, [.ref l1, .ref l2, .ref l3, .ref l4, .ref l5, .ref l6, .ref l7, .int (nI z), .int (nI k)])), (l1, .inl (cI, 240, .inl q1))]) X hN hK hP hD hS hA (c_opensP l D cI cB _ h0 lw tx tp N P 0 2 hlt) (gV k_598 k_600 k_5 k_99 k_601) (by decide +kernel) ⟨Nat.le_of_ble_eq_true rfl, Nat.le_of_ble_eq_true rfl⟩ ⟨rfl, rfl⟩ [0, 1] [2, 3, 4, 5] rfl rfl (by decide) (by decide) rfl rfl rfl rfl rfl hl.1 (Nat.le_of_ble_eq_true rfl) dX2_readFactor_50 ⟨Nat.le_of_ble_eq_true rfl, Nat.le_of_ble_eq_true rfl⟩ (fun r_12 u H locs hw_15 hP hD hS => ?_)
      obtain ⟨Po_13, fo_14⟩ := u
      try dsimp only at hw_15
      have hP : va_P D vwCl [(tp, .inr (5, [.ref by_, .int (nI T)])), (by_, .inl (cI, 260, .inl fb)), (lw, .inr (1, [.ref l1, .ref l2, .ref l3, .ref l4, .ref l5, .ref l6, .ref l7, .int (nI z), .int (nI k)])), (l1, .inl (cI, 240, .inl q1)), (h0, .inr (2, [.ref tx, .ref lw])), (tx, .inr (6, [.ref tp, .int (nI N), .int (nI Po_13), .int fo_14]))] H := hP
      have hD : va_D A [(tp, .inr (5, [.ref by_, .int (nI T)])), (by_, .inl (cI, 260, .inl fb)), (lw, .inr (1, [.ref l1, .ref l2, .ref l3, .ref l4, .ref l5, .ref l6, .ref l7, .int (nI z), .int (nI k)])), (l1, .inl (cI, 240, .inl q1)), (h0, .inr (2, [.ref tx, .ref lw])), (tx, .inr (6, [.ref tp, .int (nI N), .int (nI Po_13), .int fo_14]))] := hD
      obtain rfl : r_12 = 1 := hw_15.1.trans (by decide)
      obtain ⟨eo1, eo2⟩ := hw_15.2.1 (by decide)
      rw [eo1, eo2] at hP hD
      have hP : va_P D vwCl [(tp, .inr (5, [.ref by_, .int (nI T)])), (by_, .inl (cI, 260, .inl fb)), (lw, .inr (1, [.ref l1, .ref l2, .ref l3, .ref l4, .ref l5, .ref l6, .ref l7, .int (nI z), .int (nI k)])), (l1, .inl (cI, 240, .inl q1)), (h0, .inr (2, [.ref tx, .ref lw])), (tx, .inr (6, [.ref tp, .int (nI N), .int (nI (P + 1)), .int 0]))] H := hP
      have hD : va_D A [(tp, .inr (5, [.ref by_, .int (nI T)])), (by_, .inl (cI, 260, .inl fb)), (lw, .inr (1, [.ref l1, .ref l2, .ref l3, .ref l4, .ref l5, .ref l6, .ref l7, .int (nI z), .int (nI k)])), (l1, .inl (cI, 240, .inl q1)), (h0, .inr (2, [.ref tx, .ref lw])), (tx, .inr (6, [.ref tp, .int (nI N), .int (nI (P + 1)), .int 0]))] := hD
      refine lv_if_eq (tgt := 92) hx hb dX2_readFactor_53 (by decide) (fun c_53 => absurd c_53 (by decide)) (fun _ => ?_)
      refine lv_aload_n hx hb dX2_readFactor_56 rfl (lv_at hl 1 rfl) ?_
      refine lv_iload_n hx hb dX2_readFactor_57 rfl (lv_at hl 2 rfl) ?_
      refine lv_iconst (v := 1) hx hb dX2_readFactor_58 (by decide) ?_
      refine lv_iadd hx hb dX2_readFactor_59 ?_
      refine tv (z := 3) (by decide) ?_
      refine cVVk (As := [.int 3]) (rest := []) (n := 1) (ci := 2) (q0 := 0) (wr := []) X hN hKO hK hP hD hS hA (c_rsP_3 l D cI cB _ kk h0 tx tp N (P + 1) 0 by_ T fb lw l1 l2 l3 l4 l5 l6 l7 z k q1 hT hNT (by omega) hN2 (Or.inl rfl) hbr hz hk) (gV k_581 k_583 k_2 k_99 k_584) (by decide +kernel) ⟨Nat.le_of_ble_eq_true rfl, Nat.le_of_ble_eq_true rfl⟩ ⟨rfl, rfl⟩ [4, 5, 0, 1, 2, 3] [] rfl rfl (by decide) (by decide) rfl rfl rfl rfl rfl hl.1 (Nat.le_of_ble_eq_true rfl) dX2_readFactor_60 ⟨Nat.le_of_ble_eq_true rfl, Nat.le_of_ble_eq_true rfl⟩ (fun u H locs hw_21 hP hD hS => ?_)
      obtain ⟨Po_17, fo_18, zo_19, l1o_20⟩ := u
      try dsimp only at hw_21
      have hP : va_P D vwCl [(h0, .inr (2, [.ref tx, .ref lw])), (tx, .inr (6, [.ref tp, .int (nI N), .int (nI Po_17), .int fo_18])), (tp, .inr (5, [.ref by_, .int (nI T)])), (by_, .inl (cI, 260, .inl fb)), (lw, .inr (1, [.ref l1, .ref l2, .ref l3, .ref l4, .ref l5, .ref l6, .ref l7, .int (nI zo_19), .int (nI k)])), (l1, .inl (cI, 240, .inl l1o_20))] H := hP
      have hD : va_D A [(h0, .inr (2, [.ref tx, .ref lw])), (tx, .inr (6, [.ref tp, .int (nI N), .int (nI Po_17), .int fo_18])), (tp, .inr (5, [.ref by_, .int (nI T)])), (by_, .inl (cI, 260, .inl fb)), (lw, .inr (1, [.ref l1, .ref l2, .ref l3, .ref l4, .ref l5, .ref l6, .ref l7, .int (nI zo_19), .int (nI k)])), (l1, .inl (cI, 240, .inl l1o_20))] := hD
      refine lv_aload_n hx hb dX2_readFactor_63 rfl (lv_at hl 1 rfl) ?_
      refine va_get (D := D) (ci := 2) (v := .ref tx) (C := RX2) (T := TX2) (N := 2) hx hb htb itX2 hown hK hP 0 rfl rfl 0 (by decide) (htb _ k_288) (fun _ h9 => h9) rfl dX2_readFactor_64 ?_
      refine lv_bipush (v := 93) hx hb dX2_readFactor_67 (by decide) ?_
      refine cVV (As := [.int 93]) (rest := []) (n := 1) (ci := 6) (q0 := 0) (wr := [(h0, .inr (2, [.ref tx, .ref lw])), (lw, .inr (1, [.ref l1, .ref l2, .ref l3, .ref l4, .ref l5, .ref l6, .ref l7, .int (nI zo_19), .int (nI k)])), (l1, .inl (cI, 240, .inl l1o_20))]) X hN hK hP hD hS hA (c_expectP l D cI cB _ tx tp N Po_17 fo_18 by_ T fb 93 hT hNT hw_21.2.1.2.2.2.1 (by decide)) (gV k_602 k_603 k_604 k_98 k_605) (by decide +kernel) ⟨Nat.le_of_ble_eq_true rfl, Nat.le_of_ble_eq_true rfl⟩ ⟨rfl, rfl⟩ [1, 2, 3] [0, 4, 5] rfl rfl (by decide) (by decide) rfl rfl rfl rfl rfl hl.1 (Nat.le_of_ble_eq_true rfl) dX2_readFactor_69 ⟨Nat.le_of_ble_eq_true rfl, Nat.le_of_ble_eq_true rfl⟩ (fun u H locs hw_25 hP hD hS => ?_)
      obtain ⟨Po_23, fo_24⟩ := u
      try dsimp only at hw_25
      have hP : va_P D vwCl [(h0, .inr (2, [.ref tx, .ref lw])), (lw, .inr (1, [.ref l1, .ref l2, .ref l3, .ref l4, .ref l5, .ref l6, .ref l7, .int (nI zo_19), .int (nI k)])), (l1, .inl (cI, 240, .inl l1o_20)), (tx, .inr (6, [.ref tp, .int (nI N), .int (nI Po_23), .int fo_24])), (tp, .inr (5, [.ref by_, .int (nI T)])), (by_, .inl (cI, 260, .inl fb))] H := hP
      have hD : va_D A [(h0, .inr (2, [.ref tx, .ref lw])), (lw, .inr (1, [.ref l1, .ref l2, .ref l3, .ref l4, .ref l5, .ref l6, .ref l7, .int (nI zo_19), .int (nI k)])), (l1, .inl (cI, 240, .inl l1o_20)), (tx, .inr (6, [.ref tp, .int (nI N), .int (nI Po_23), .int fo_24])), (tp, .inr (5, [.ref by_, .int (nI T)])), (by_, .inl (cI, 260, .inl fb))] := hD
      refine lv_goto (tgt := 92) hx hb dX2_readFactor_72 (by decide) ?_
      exact ret _ _ _ _ (Po_23, fo_24, zo_19, l1o_20) dX2_readFactor_92 (⟨hw_21.1, FCQ.brk (by omega) h91 hw_21.2.1 hw_21.2.2 hw_25.1 hw_25.2.1 hw_25.2.2.2⟩) (hP.sub [0, 3, 4, 5, 1, 2] rfl) (hD.sub [0, 3, 4, 5, 1, 2] (by decide) rfl) hS
  · obtain ⟨hf0, hlt, hfq⟩ := FCQ.letter (k := 4) (fun z => c_8 (by rw [ex_2, z]; decide))
    refine lv_aload_n hx hb dX2_readFactor_11 rfl (lv_at hl 1 rfl) ?_
    refine va_get (D := D) (ci := 2) (v := .ref tx) (C := RX2) (T := TX2) (N := 2) hx hb htb itX2 hown hK hP 0 rfl rfl 0 (by decide) (htb _ k_288) (fun _ h9 => h9) rfl dX2_readFactor_12 ?_
    refine lv_dup hx hb dX2_readFactor_15 rfl ?_
    refine va_getN (D := D) (ci := 6) (v := .int (nI P)) (C := RX6) (T := TX6) (N := 4) hx hb htb itX6 hown hK hP 1 rfl rfl 2 (by decide) (va_Nw.use rfl (hN _ n_264 rfl)) (fun _ h9 => h9) rfl dX2_readFactor_16 ?_
    refine lv_iconst (v := 1) hx hb dX2_readFactor_19 (by decide) ?_
    refine lv_iadd hx hb dX2_readFactor_20 ?_
    refine tv (z := (nI (P + 1))) (nI_1 P) ?_
    refine va_putN (D := D) (ci := 6) (v := .int (nI (P + 1))) (ty := .int) (C := RX6) (T := TX6) (N := 4) hx hb htb itX6 tyX6 tyX6_ok nmX6 hown hK hP hD hS 1 rfl rfl 2 (by decide) (va_Nw.use rfl (hN _ n_264 rfl)) (fun _ h9 => h9) rfl (tyX6_ok 2 (by decide)) rfl rfl (Nat.le_of_ble_eq_true rfl) dX2_readFactor_21 (fun H locs hP hD hS => ?_)
    have hP : va_P D vwCl [(h0, .inr (2, [.ref tx, .ref lw])), (tx, .inr (6, [.ref tp, .int (nI N), .int (nI (P + 1)), .int fa])), (tp, .inr (5, [.ref by_, .int (nI T)])), (by_, .inl (cI, 260, .inl fb)), (lw, .inr (1, [.ref l1, .ref l2, .ref l3, .ref l4, .ref l5, .ref l6, .ref l7, .int (nI z), .int (nI k)])), (l1, .inl (cI, 240, .inl q1))] H := hP
    have hD : va_D A [(h0, .inr (2, [.ref tx, .ref lw])), (tx, .inr (6, [.ref tp, .int (nI N), .int (nI (P + 1)), .int fa])), (tp, .inr (5, [.ref by_, .int (nI T)])), (by_, .inl (cI, 260, .inl fb)), (lw, .inr (1, [.ref l1, .ref l2, .ref l3, .ref l4, .ref l5, .ref l6, .ref l7, .int (nI z), .int (nI k)])), (l1, .inl (cI, 240, .inl q1))] := hD
    refine lv_aload_n hx hb dX2_readFactor_24 rfl (lv_at hl 1 rfl) ?_
    refine va_get (D := D) (ci := 2) (v := .ref lw) (C := RX2) (T := TX2) (N := 2) hx hb htb itX2 hown hK hP 0 rfl rfl 1 (by decide) (htb _ k_289) (fun _ h9 => h9) rfl dX2_readFactor_25 ?_
    refine lv_iconst (v := 1) hx hb dX2_readFactor_28 (by decide) ?_
    refine lv_iload_n hx hb dX2_readFactor_29 rfl (lv_at hl 0 rfl) ?_
    refine cVV (As := [.int 1, .int x_2]) (rest := []) (n := 2) (ci := 1) (q0 := 0) (wr := [(h0, .inr (2, [.ref tx, .ref lw])), (tx, .inr (6, [.ref tp, .int (nI N), .int (nI (P + 1)), .int fa])), (tp, .inr (5, [.ref by_, .int (nI T)])), (by_, .inl (cI, 260, .inl fb))]) X hN hK hP hD hS hA (c_X1_addStep l D cI cB _ lw l1 l2 l3 l4 l5 l6 l7 z k 1 x_2 q1 hz hk) (gV k_594 k_595 k_596 k_97 k_597) (by decide +kernel) ⟨Nat.le_of_ble_eq_true rfl, Nat.le_of_ble_eq_true rfl⟩ ⟨rfl, rfl⟩ [4, 5] [0, 1, 2, 3] rfl rfl (by decide) (by decide) rfl rfl rfl rfl rfl hl.1 (Nat.le_of_ble_eq_true rfl) dX2_readFactor_30 ⟨Nat.le_of_ble_eq_true rfl, Nat.le_of_ble_eq_true rfl⟩ (fun u H locs hw_29 hP hD hS => ?_)
    obtain ⟨zo_27, l1_fo_28⟩ := u
    try dsimp only at hw_29
    have hP : va_P D vwCl [(h0, .inr (2, [.ref tx, .ref lw])), (tx, .inr (6, [.ref tp, .int (nI N), .int (nI (P + 1)), .int fa])), (tp, .inr (5, [.ref by_, .int (nI T)])), (by_, .inl (cI, 260, .inl fb)), (lw, .inr (1, [.ref l1, .ref l2, .ref l3, .ref l4, .ref l5, .ref l6, .ref l7, .int (nI zo_27), .int (nI k)])), (l1, .inl (cI, 240, .inl l1_fo_28))] H := hP
    have hD : va_D A [(h0, .inr (2, [.ref tx, .ref lw])), (tx, .inr (6, [.ref tp, .int (nI N), .int (nI (P + 1)), .int fa])), (tp, .inr (5, [.ref by_, .int (nI T)])), (by_, .inl (cI, 260, .inl fb)), (lw, .inr (1, [.ref l1, .ref l2, .ref l3, .ref l4, .ref l5, .ref l6, .ref l7, .int (nI zo_27), .int (nI k)])), (l1, .inl (cI, 240, .inl l1_fo_28))] := hD
    refine lv_goto (tgt := 92) hx hb dX2_readFactor_33 (by decide) ?_
    exact ret _ _ _ _ ((P + 1), fa, zo_27, l1_fo_28) dX2_readFactor_92 (⟨hw_29, hfq⟩) (hP.sub [0, 1, 2, 3, 4, 5] rfl) (hD.sub [0, 1, 2, 3, 4, 5] (by decide) rfl) hS

set_option maxRecDepth 100000 in
set_option maxHeartbeats 4000000 in
theorem c_rtP_2 (l : Launch) (D : va_G) (cI cB : ClassId) (sz : Nat) (kk : KT) (h0 : Nat) (tx : Nat) (tp : Nat) (N : Nat) (P : Nat) (fa : Int32) (by_ : Nat) (T : Nat) (fb : Nat → Int32) (lw : Nat) (l1 : Nat) (l2 : Nat) (l3 : Nat) (l4 : Nat) (l5 : Nat) (l6 : Nat) (l7 : Nat) (z : Nat) (k : Nat) (q1 : Nat → Int32) (hT : T ≤ 260) (hNT : N ≤ T) (hPN : P ≤ N) (hN2 : N ≤ 240) (hfa : fa = 0 ∨ fa < 0) (hbr : BR N fb) (hz : z ≤ 240) (hk : k ≤ 16) : MVk (S := ((Nat) × (Int32) × (Nat) × (Nat → Int32))) l D cI cB kk yX2_readTerm cX2_readTerm 4 (rm 18 407) [.ref h0, .int 2] [(h0, .inr (2, [.ref tx, .ref lw])), (tx, .inr (6, [.ref tp, .int (nI N), .int (nI P), .int fa])), (tp, .inr (5, [.ref by_, .int (nI T)])), (by_, .inl (cI, 260, .inl fb)), (lw, .inr (1, [.ref l1, .ref l2, .ref l3, .ref l4, .ref l5, .ref l6, .ref l7, .int (nI z), .int (nI k)])), (l1, .inl (cI, 240, .inl q1))] sz (fun u => u.2.2.1 ≤ 240 ∧ FCQ fb N 4 P u.1 fa u.2.1 ∧ (u.2.1 = 0 → ¬ MU3 (chF fb N u.1))) (fun u : ((Nat) × (Int32) × (Nat) × (Nat → Int32)) => [(h0, .inr (2, [.ref tx, .ref lw])), (tx, .inr (6, [.ref tp, .int (nI N), .int (nI u.1), .int u.2.1])), (tp, .inr (5, [.ref by_, .int (nI T)])), (by_, .inl (cI, 260, .inl fb)), (lw, .inr (1, [.ref l1, .ref l2, .ref l3, .ref l4, .ref l5, .ref l6, .ref l7, .int (nI u.2.2.1), .int (nI k)])), (l1, .inl (cI, 240, .inl u.2.2.2))]) := by
  refine MVk.of (by decide) (Nat.le_of_ble_eq_true rfl) ?_
  intro p e s m below meth c Q ls A X hin hN hKO hP hK hD hA hl ret
  have hS : va_S A s.heap s.heap [] := va_S.rf
  obtain ⟨hx, hb, hml, hown, htb⟩ := id X
  have hl : lv_has ls 4 [(0, .ref h0), (1, .int 2)] := hl
  refine lv_aload_n hx hb dX2_readTerm_0 rfl (lv_at hl 0 rfl) ?_
  refine lv_iload_n hx hb dX2_readTerm_1 rfl (lv_at hl 1 rfl) ?_
  refine cVVk (As := [.int 2]) (rest := []) (n := 1) (ci := 2) (q0 := 0) (wr := []) X hN hKO hK hP hD hS hA (c_rfP_2 l D cI cB _ kk h0 tx tp N P fa by_ T fb lw l1 l2 l3 l4 l5 l6 l7 z k q1 hT hNT hPN hN2 hfa hbr hz hk) (gV k_589 k_591 k_4 k_99 k_592) (by decide +kernel) ⟨Nat.le_of_ble_eq_true rfl, Nat.le_of_ble_eq_true rfl⟩ ⟨rfl, rfl⟩ [0, 1, 2, 3, 4, 5] [] rfl rfl (by decide) (by decide) rfl rfl rfl rfl rfl hl.1 (Nat.le_of_ble_eq_true rfl) dX2_readTerm_2 ⟨Nat.le_of_ble_eq_true rfl, Nat.le_of_ble_eq_true rfl⟩ (fun u H locs hw_6 hP hD hS => ?_)
  obtain ⟨Po_2, fo_3, zo_4, l1o_5⟩ := u
  try dsimp only at hw_6
  have hP : va_P D vwCl [(h0, .inr (2, [.ref tx, .ref lw])), (tx, .inr (6, [.ref tp, .int (nI N), .int (nI Po_2), .int fo_3])), (tp, .inr (5, [.ref by_, .int (nI T)])), (by_, .inl (cI, 260, .inl fb)), (lw, .inr (1, [.ref l1, .ref l2, .ref l3, .ref l4, .ref l5, .ref l6, .ref l7, .int (nI zo_4), .int (nI k)])), (l1, .inl (cI, 240, .inl l1o_5))] H := hP
  have hD : va_D A [(h0, .inr (2, [.ref tx, .ref lw])), (tx, .inr (6, [.ref tp, .int (nI N), .int (nI Po_2), .int fo_3])), (tp, .inr (5, [.ref by_, .int (nI T)])), (by_, .inl (cI, 260, .inl fb)), (lw, .inr (1, [.ref l1, .ref l2, .ref l3, .ref l4, .ref l5, .ref l6, .ref l7, .int (nI zo_4), .int (nI k)])), (l1, .inl (cI, 240, .inl l1o_5))] := hD
  refine lv_iconst (v := 0) hx hb dX2_readTerm_5 (by decide) ?_
  refine lv_istore_n (lv' := [(2, .int 0), (0, .ref h0), (1, .int 2)]) hx hb dX2_readTerm_6 rfl hl (by decide) rfl (fun ls hl => ?_)
  have loop_7 : ∀ (n i : Nat) (Pa : Nat) (fv : Int32) (za : Nat) (qa : Nat → Int32), n + i = 240 → (za ≤ 240) → (FCQ fb N 4 P Pa fa fv) → (fv = 0 → fa = 0 → i < Pa) → ∀ (H : Heap) (locs : List Loc), va_P D vwCl [(h0, .inr (2, [.ref tx, .ref lw])), (tx, .inr (6, [.ref tp, .int (nI N), .int (nI Pa), .int fv])), (tp, .inr (5, [.ref by_, .int (nI T)])), (by_, .inl (cI, 260, .inl fb)), (lw, .inr (1, [.ref l1, .ref l2, .ref l3, .ref l4, .ref l5, .ref l6, .ref l7, .int (nI za), .int (nI k)])), (l1, .inl (cI, 240, .inl qa))] H → va_D A [(h0, .inr (2, [.ref tx, .ref lw])), (tx, .inr (6, [.ref tp, .int (nI N), .int (nI Pa), .int fv])), (tp, .inr (5, [.ref by_, .int (nI T)])), (by_, .inl (cI, 260, .inl fb)), (lw, .inr (1, [.ref l1, .ref l2, .ref l3, .ref l4, .ref l5, .ref l6, .ref l7, .int (nI za), .int (nI k)])), (l1, .inl (cI, 240, .inl qa))] → va_S A s.heap H locs → ∀ (ls : Array Slot), lv_has ls 4 [(0, .ref h0), (1, .int 2), (2, .int (nI i))] → W p l e (rm 18 407) s m ([.ref h0, .int 2] : List Value).toArray below meth c H locs 0 0 Q (F0 m 7 ls []) := by
    intro n
    induction n with
    | zero =>
      intro i Pa fv za qa hni hza hq hiP H locs hP hD hS ls hl
      have hni_7 := hni
      have hi : i = 240 := by omega
      refine lv_iload_n hx hb dX2_readTerm_7 rfl (lv_at hl 2 rfl) ?_
      refine lv_sipush (v := 240) hx hb dX2_readTerm_8 (by decide) ?_
      refine lv_icmp_ge (tgt := 60) hx hb dX2_readTerm_11 (by decide) (fun _ => ?_) (fun c_11 => absurd (by rw [hi]; decide) c_11)
      exact ret _ _ _ _ (Pa, fv, za, qa) dX2_readTerm_60 (⟨hza, ⟨hq, fun z => absurd z (fun z => by have h2 := hq.2.1; have h4 := hq.2.2.2.1; exact (Classical.em (fa = 0)).elim (fun w => by have := hiP z w; omega) (fun w => w ((h2 w).symm.trans z)))⟩⟩) (hP.sub [0, 1, 2, 3, 4, 5] rfl) (hD.sub [0, 1, 2, 3, 4, 5] (by decide) rfl) hS
    | succ n ih_7 =>
      intro i Pa fv za qa hni hza hq hiP H locs hP hD hS ls hl
      have hni_7 := hni
      have hi : i < 240 := by omega
      refine lv_iload_n hx hb dX2_readTerm_7 rfl (lv_at hl 2 rfl) ?_
      refine lv_sipush (v := 240) hx hb dX2_readTerm_8 (by decide) ?_
      refine lv_icmp_ge (tgt := 60) hx hb dX2_readTerm_11 (by decide) (fun c_11 => absurd c_11 (nI_ge hi (by decide))) (fun _ => ?_)
      refine lv_aload_n hx hb dX2_readTerm_14 rfl (lv_at hl 0 rfl) ?_
      refine cVR (As := []) (rest := []) (n := 0) (ci := 2) (q0 := 0) X hN hK hP (c_factorStepP l D cI cB h0 lw tx tp N Pa fv by_ T fb hT hNT hq.2.2.2.1) (gV k_620 k_622 k_6 k_99 k_623) (by decide +kernel) ⟨Nat.le_of_ble_eq_true rfl, Nat.le_of_ble_eq_true rfl⟩ ⟨rfl, rfl⟩ [0, 1, 2, 3] rfl rfl rfl rfl rfl rfl hl.1 (Nat.le_of_ble_eq_true rfl) dX2_readTerm_15 ⟨Nat.le_of_ble_eq_true rfl, Nat.le_of_ble_eq_true rfl⟩ (fun rfs hrfs => ?_)
      refine lv_iconst (v := (-1)) hx hb dX2_readTerm_18 (by decide) ?_
      refine lv_icmp_eq (tgt := 60) hx hb dX2_readTerm_19 (by decide) (fun c_19 => ?_) (fun c_19 => ?_)
      · exact ret _ _ _ _ (Pa, fv, za, qa) dX2_readTerm_60 (⟨hza, ⟨hq, fun (z : fv = 0) => by have w := hrfs.1 c_19; rw [z, sQ0] at w; exact w⟩⟩) (hP.sub [0, 1, 2, 3, 4, 5] rfl) (hD.sub [0, 1, 2, 3, 4, 5] (by decide) rfl) hS
      · obtain ⟨hf0, hlt, hs5⟩ := sQs (sgM (hrfs.2 c_19))
        subst hf0
        refine lv_aload_n hx hb dX2_readTerm_22 rfl (lv_at hl 0 rfl) ?_
        refine cVR (As := []) (rest := []) (n := 0) (ci := 2) (q0 := 0) X hN hK hP (c_factorStepP l D cI cB h0 lw tx tp N Pa 0 by_ T fb hT hNT hq.2.2.2.1) (gV k_620 k_622 k_6 k_99 k_623) (by decide +kernel) ⟨Nat.le_of_ble_eq_true rfl, Nat.le_of_ble_eq_true rfl⟩ ⟨rfl, rfl⟩ [0, 1, 2, 3] rfl rfl rfl rfl rfl rfl hl.1 (Nat.le_of_ble_eq_true rfl) dX2_readTerm_23 ⟨Nat.le_of_ble_eq_true rfl, Nat.le_of_ble_eq_true rfl⟩ (fun r_7 hr_7 => ?_)
        refine lv_istore_n (lv' := [(3, .int r_7), (0, .ref h0), (1, .int 2), (2, .int (nI i))]) hx hb dX2_readTerm_26 rfl hl (by decide) rfl (fun ls hl => ?_)
        refine lv_aload_n hx hb dX2_readTerm_27 rfl (lv_at hl 1 rfl) ?_
        refine va_get (D := D) (ci := 2) (v := .ref tx) (C := RX2) (T := TX2) (N := 2) hx hb htb itX2 hown hK hP 0 rfl rfl 0 (by decide) (htb _ k_288) (fun _ h9 => h9) rfl dX2_readTerm_28 ?_
        refine lv_dup hx hb dX2_readTerm_31 rfl ?_
        refine va_getN (D := D) (ci := 6) (v := .int (nI Pa)) (C := RX6) (T := TX6) (N := 4) hx hb htb itX6 hown hK hP 1 rfl rfl 2 (by decide) (va_Nw.use rfl (hN _ n_264 rfl)) (fun _ h9 => h9) rfl dX2_readTerm_32 ?_
        refine lv_iconst (v := 1) hx hb dX2_readTerm_35 (by decide) ?_
        refine lv_iadd hx hb dX2_readTerm_36 ?_
        refine tv (z := (nI (Pa + 1))) (nI_1 Pa) ?_
        refine va_putN (D := D) (ci := 6) (v := .int (nI (Pa + 1))) (ty := .int) (C := RX6) (T := TX6) (N := 4) hx hb htb itX6 tyX6 tyX6_ok nmX6 hown hK hP hD hS 1 rfl rfl 2 (by decide) (va_Nw.use rfl (hN _ n_264 rfl)) (fun _ h9 => h9) rfl (tyX6_ok 2 (by decide)) rfl rfl (Nat.le_of_ble_eq_true rfl) dX2_readTerm_37 (fun H locs hP hD hS => ?_)
        have hP : va_P D vwCl [(h0, .inr (2, [.ref tx, .ref lw])), (tx, .inr (6, [.ref tp, .int (nI N), .int (nI (Pa + 1)), .int 0])), (tp, .inr (5, [.ref by_, .int (nI T)])), (by_, .inl (cI, 260, .inl fb)), (lw, .inr (1, [.ref l1, .ref l2, .ref l3, .ref l4, .ref l5, .ref l6, .ref l7, .int (nI za), .int (nI k)])), (l1, .inl (cI, 240, .inl qa))] H := hP
        have hD : va_D A [(h0, .inr (2, [.ref tx, .ref lw])), (tx, .inr (6, [.ref tp, .int (nI N), .int (nI (Pa + 1)), .int 0])), (tp, .inr (5, [.ref by_, .int (nI T)])), (by_, .inl (cI, 260, .inl fb)), (lw, .inr (1, [.ref l1, .ref l2, .ref l3, .ref l4, .ref l5, .ref l6, .ref l7, .int (nI za), .int (nI k)])), (l1, .inl (cI, 240, .inl qa))] := hD
        refine lv_aload_n hx hb dX2_readTerm_40 rfl (lv_at hl 1 rfl) ?_
        refine lv_iload_n hx hb dX2_readTerm_41 rfl (lv_at hl 2 rfl) ?_
        refine cVVk (As := [.int 2]) (rest := []) (n := 1) (ci := 2) (q0 := 0) (wr := []) X hN hKO hK hP hD hS hA (c_rfP_2 l D cI cB _ kk h0 tx tp N (Pa + 1) 0 by_ T fb lw l1 l2 l3 l4 l5 l6 l7 za k qa hT hNT (by omega) hN2 (Or.inl rfl) hbr hza hk) (gV k_589 k_591 k_4 k_99 k_592) (by decide +kernel) ⟨Nat.le_of_ble_eq_true rfl, Nat.le_of_ble_eq_true rfl⟩ ⟨rfl, rfl⟩ [0, 1, 2, 3, 4, 5] [] rfl rfl (by decide) (by decide) rfl rfl rfl rfl rfl hl.1 (Nat.le_of_ble_eq_true rfl) dX2_readTerm_42 ⟨Nat.le_of_ble_eq_true rfl, Nat.le_of_ble_eq_true rfl⟩ (fun u H locs hw_13 hP hD hS => ?_)
        obtain ⟨Po_9, fo_10, zo_11, l1o_12⟩ := u
        try dsimp only at hw_13
        have hP : va_P D vwCl [(h0, .inr (2, [.ref tx, .ref lw])), (tx, .inr (6, [.ref tp, .int (nI N), .int (nI Po_9), .int fo_10])), (tp, .inr (5, [.ref by_, .int (nI T)])), (by_, .inl (cI, 260, .inl fb)), (lw, .inr (1, [.ref l1, .ref l2, .ref l3, .ref l4, .ref l5, .ref l6, .ref l7, .int (nI zo_11), .int (nI k)])), (l1, .inl (cI, 240, .inl l1o_12))] H := hP
        have hD : va_D A [(h0, .inr (2, [.ref tx, .ref lw])), (tx, .inr (6, [.ref tp, .int (nI N), .int (nI Po_9), .int fo_10])), (tp, .inr (5, [.ref by_, .int (nI T)])), (by_, .inl (cI, 260, .inl fb)), (lw, .inr (1, [.ref l1, .ref l2, .ref l3, .ref l4, .ref l5, .ref l6, .ref l7, .int (nI zo_11), .int (nI k)])), (l1, .inl (cI, 240, .inl l1o_12))] := hD
        refine lv_aload_n hx hb dX2_readTerm_45 rfl (lv_at hl 1 rfl) ?_
        refine va_get (D := D) (ci := 2) (v := .ref lw) (C := RX2) (T := TX2) (N := 2) hx hb htb itX2 hown hK hP 0 rfl rfl 1 (by decide) (htb _ k_289) (fun _ h9 => h9) rfl dX2_readTerm_46 ?_
        refine lv_iload_n hx hb dX2_readTerm_49 rfl (lv_at hl 0 rfl) ?_
        refine lv_iconst (v := 0) hx hb dX2_readTerm_50 (by decide) ?_
        refine cVV (As := [.int r_7, .int 0]) (rest := []) (n := 2) (ci := 1) (q0 := 0) (wr := [(h0, .inr (2, [.ref tx, .ref lw])), (tx, .inr (6, [.ref tp, .int (nI N), .int (nI Po_9), .int fo_10])), (tp, .inr (5, [.ref by_, .int (nI T)])), (by_, .inl (cI, 260, .inl fb))]) X hN hK hP hD hS hA (c_X1_addStep l D cI cB _ lw l1 l2 l3 l4 l5 l6 l7 zo_11 k r_7 0 l1o_12 hw_13.1 hk) (gV k_594 k_595 k_596 k_97 k_597) (by decide +kernel) ⟨Nat.le_of_ble_eq_true rfl, Nat.le_of_ble_eq_true rfl⟩ ⟨rfl, rfl⟩ [4, 5] [0, 1, 2, 3] rfl rfl (by decide) (by decide) rfl rfl rfl rfl rfl hl.1 (Nat.le_of_ble_eq_true rfl) dX2_readTerm_51 ⟨Nat.le_of_ble_eq_true rfl, Nat.le_of_ble_eq_true rfl⟩ (fun u H locs hw_17 hP hD hS => ?_)
        obtain ⟨zo_15, l1_fo_16⟩ := u
        try dsimp only at hw_17
        have hP : va_P D vwCl [(h0, .inr (2, [.ref tx, .ref lw])), (tx, .inr (6, [.ref tp, .int (nI N), .int (nI Po_9), .int fo_10])), (tp, .inr (5, [.ref by_, .int (nI T)])), (by_, .inl (cI, 260, .inl fb)), (lw, .inr (1, [.ref l1, .ref l2, .ref l3, .ref l4, .ref l5, .ref l6, .ref l7, .int (nI zo_15), .int (nI k)])), (l1, .inl (cI, 240, .inl l1_fo_16))] H := hP
        have hD : va_D A [(h0, .inr (2, [.ref tx, .ref lw])), (tx, .inr (6, [.ref tp, .int (nI N), .int (nI Po_9), .int fo_10])), (tp, .inr (5, [.ref by_, .int (nI T)])), (by_, .inl (cI, 260, .inl fb)), (lw, .inr (1, [.ref l1, .ref l2, .ref l3, .ref l4, .ref l5, .ref l6, .ref l7, .int (nI zo_15), .int (nI k)])), (l1, .inl (cI, 240, .inl l1_fo_16))] := hD
        refine lv_iinc (v := (nI (i + 1))) (lv' := [(2, .int (nI (i + 1))), (3, .int r_7), (0, .ref h0), (1, .int 2)]) hx hb dX2_readTerm_54 hl (k := 3) rfl (nI_1 i) (by decide) rfl (fun ls hl => ?_)
        refine lv_goto (tgt := 7) hx hb dX2_readTerm_57 (by decide) ?_
        exact ih_7 (i + 1) Po_9 fo_10 zo_15 l1_fo_16 (by omega) hw_17 (hq.more hs5 hw_13.2) (fun z w => by have := (((hw_13.2.2.2.2.2 rfl).1 z).1); have := hiP rfl w; omega) _ _ (hP.sub [0, 1, 2, 3, 4, 5] rfl) (hD.sub [0, 1, 2, 3, 4, 5] (by decide) rfl) hS _ (lv_sub hl [2, 3, 0] rfl)
  exact loop_7 240 0 Po_2 fo_3 zo_4 l1o_5 (by omega) hw_6.1 hw_6.2 (fun z w => (((hw_6.2.2.2.2.2 w).1 z).1 |> fun y => by omega)) _ _ (hP.sub [0, 1, 2, 3, 4, 5] rfl) (hD.sub [0, 1, 2, 3, 4, 5] (by decide) rfl) hS _ (lv_sub hl [1, 2, 0] rfl)

set_option maxRecDepth 100000 in
set_option maxHeartbeats 4000000 in
theorem c_rsP_2 (l : Launch) (D : va_G) (cI cB : ClassId) (sz : Nat) (kk : KT) (h0 : Nat) (tx : Nat) (tp : Nat) (N : Nat) (P : Nat) (fa : Int32) (by_ : Nat) (T : Nat) (fb : Nat → Int32) (lw : Nat) (l1 : Nat) (l2 : Nat) (l3 : Nat) (l4 : Nat) (l5 : Nat) (l6 : Nat) (l7 : Nat) (z : Nat) (k : Nat) (q1 : Nat → Int32) (hT : T ≤ 260) (hNT : N ≤ T) (hPN : P ≤ N) (hN2 : N ≤ 240) (hfa : fa = 0 ∨ fa < 0) (hbr : BR N fb) (hz : z ≤ 240) (hk : k ≤ 16) : MVk (S := ((Nat) × (Int32) × (Nat) × (Nat → Int32))) l D cI cB kk yX2_readSum cX2_readSum 4 (rm 19 430) [.ref h0, .int 2] [(h0, .inr (2, [.ref tx, .ref lw])), (tx, .inr (6, [.ref tp, .int (nI N), .int (nI P), .int fa])), (tp, .inr (5, [.ref by_, .int (nI T)])), (by_, .inl (cI, 260, .inl fb)), (lw, .inr (1, [.ref l1, .ref l2, .ref l3, .ref l4, .ref l5, .ref l6, .ref l7, .int (nI z), .int (nI k)])), (l1, .inl (cI, 240, .inl q1))] sz (fun u => u.2.2.1 ≤ 240 ∧ FCQ fb N 4 P u.1 fa u.2.1 ∧ (u.2.1 = 0 → ¬ SG5 (chF fb N u.1))) (fun u : ((Nat) × (Int32) × (Nat) × (Nat → Int32)) => [(h0, .inr (2, [.ref tx, .ref lw])), (tx, .inr (6, [.ref tp, .int (nI N), .int (nI u.1), .int u.2.1])), (tp, .inr (5, [.ref by_, .int (nI T)])), (by_, .inl (cI, 260, .inl fb)), (lw, .inr (1, [.ref l1, .ref l2, .ref l3, .ref l4, .ref l5, .ref l6, .ref l7, .int (nI u.2.2.1), .int (nI k)])), (l1, .inl (cI, 240, .inl u.2.2.2))]) := by
  refine MVk.of (by decide) (Nat.le_of_ble_eq_true rfl) ?_
  intro p e s m below meth c Q ls A X hin hN hKO hP hK hD hA hl ret
  have hS : va_S A s.heap s.heap [] := va_S.rf
  obtain ⟨hx, hb, hml, hown, htb⟩ := id X
  have hl : lv_has ls 4 [(0, .ref h0), (1, .int 2)] := hl
  refine lv_aload_n hx hb dX2_readSum_0 rfl (lv_at hl 0 rfl) ?_
  refine lv_iload_n hx hb dX2_readSum_1 rfl (lv_at hl 1 rfl) ?_
  refine cVVk (As := [.int 2]) (rest := []) (n := 1) (ci := 2) (q0 := 0) (wr := []) X hN hKO hK hP hD hS hA (c_rtP_2 l D cI cB _ kk h0 tx tp N P fa by_ T fb lw l1 l2 l3 l4 l5 l6 l7 z k q1 hT hNT hPN hN2 hfa hbr hz hk) (gV k_585 k_587 k_3 k_99 k_588) (by decide +kernel) ⟨Nat.le_of_ble_eq_true rfl, Nat.le_of_ble_eq_true rfl⟩ ⟨rfl, rfl⟩ [0, 1, 2, 3, 4, 5] [] rfl rfl (by decide) (by decide) rfl rfl rfl rfl rfl hl.1 (Nat.le_of_ble_eq_true rfl) dX2_readSum_2 ⟨Nat.le_of_ble_eq_true rfl, Nat.le_of_ble_eq_true rfl⟩ (fun u H locs hw_6 hP hD hS => ?_)
  obtain ⟨Po_2, fo_3, zo_4, l1o_5⟩ := u
  try dsimp only at hw_6
  have hP : va_P D vwCl [(h0, .inr (2, [.ref tx, .ref lw])), (tx, .inr (6, [.ref tp, .int (nI N), .int (nI Po_2), .int fo_3])), (tp, .inr (5, [.ref by_, .int (nI T)])), (by_, .inl (cI, 260, .inl fb)), (lw, .inr (1, [.ref l1, .ref l2, .ref l3, .ref l4, .ref l5, .ref l6, .ref l7, .int (nI zo_4), .int (nI k)])), (l1, .inl (cI, 240, .inl l1o_5))] H := hP
  have hD : va_D A [(h0, .inr (2, [.ref tx, .ref lw])), (tx, .inr (6, [.ref tp, .int (nI N), .int (nI Po_2), .int fo_3])), (tp, .inr (5, [.ref by_, .int (nI T)])), (by_, .inl (cI, 260, .inl fb)), (lw, .inr (1, [.ref l1, .ref l2, .ref l3, .ref l4, .ref l5, .ref l6, .ref l7, .int (nI zo_4), .int (nI k)])), (l1, .inl (cI, 240, .inl l1o_5))] := hD
  refine lv_iconst (v := 0) hx hb dX2_readSum_5 (by decide) ?_
  refine lv_istore_n (lv' := [(2, .int 0), (0, .ref h0), (1, .int 2)]) hx hb dX2_readSum_6 rfl hl (by decide) rfl (fun ls hl => ?_)
  have loop_7 : ∀ (n i : Nat) (Pa : Nat) (fv : Int32) (za : Nat) (qa : Nat → Int32), n + i = 240 → (za ≤ 240) → (FCQ fb N 4 P Pa fa fv) → (fv = 0 → fa = 0 → i < Pa) → (fv = 0 → ¬ MU3 (chF fb N Pa)) → ∀ (H : Heap) (locs : List Loc), va_P D vwCl [(h0, .inr (2, [.ref tx, .ref lw])), (tx, .inr (6, [.ref tp, .int (nI N), .int (nI Pa), .int fv])), (tp, .inr (5, [.ref by_, .int (nI T)])), (by_, .inl (cI, 260, .inl fb)), (lw, .inr (1, [.ref l1, .ref l2, .ref l3, .ref l4, .ref l5, .ref l6, .ref l7, .int (nI za), .int (nI k)])), (l1, .inl (cI, 240, .inl qa))] H → va_D A [(h0, .inr (2, [.ref tx, .ref lw])), (tx, .inr (6, [.ref tp, .int (nI N), .int (nI Pa), .int fv])), (tp, .inr (5, [.ref by_, .int (nI T)])), (by_, .inl (cI, 260, .inl fb)), (lw, .inr (1, [.ref l1, .ref l2, .ref l3, .ref l4, .ref l5, .ref l6, .ref l7, .int (nI za), .int (nI k)])), (l1, .inl (cI, 240, .inl qa))] → va_S A s.heap H locs → ∀ (ls : Array Slot), lv_has ls 4 [(0, .ref h0), (1, .int 2), (2, .int (nI i))] → W p l e (rm 19 430) s m ([.ref h0, .int 2] : List Value).toArray below meth c H locs 0 0 Q (F0 m 7 ls []) := by
    intro n
    induction n with
    | zero =>
      intro i Pa fv za qa hni hza hq hiP hmu H locs hP hD hS ls hl
      have hni_7 := hni
      have hi : i = 240 := by omega
      refine lv_iload_n hx hb dX2_readSum_7 rfl (lv_at hl 2 rfl) ?_
      refine lv_sipush (v := 240) hx hb dX2_readSum_8 (by decide) ?_
      refine lv_icmp_ge (tgt := 90) hx hb dX2_readSum_11 (by decide) (fun _ => ?_) (fun c_11 => absurd (by rw [hi]; decide) c_11)
      exact ret _ _ _ _ (Pa, fv, za, qa) dX2_readSum_90 (⟨hza, ⟨hq, fun z => absurd z (fun z => by have h2 := hq.2.1; have h4 := hq.2.2.2.1; exact (Classical.em (fa = 0)).elim (fun w => by have := hiP z w; omega) (fun w => w ((h2 w).symm.trans z)))⟩⟩) (hP.sub [0, 1, 2, 3, 4, 5] rfl) (hD.sub [0, 1, 2, 3, 4, 5] (by decide) rfl) hS
    | succ n ih_7 =>
      intro i Pa fv za qa hni hza hq hiP hmu H locs hP hD hS ls hl
      have hni_7 := hni
      have hi : i < 240 := by omega
      refine lv_iload_n hx hb dX2_readSum_7 rfl (lv_at hl 2 rfl) ?_
      refine lv_sipush (v := 240) hx hb dX2_readSum_8 (by decide) ?_
      refine lv_icmp_ge (tgt := 90) hx hb dX2_readSum_11 (by decide) (fun c_11 => absurd c_11 (nI_ge hi (by decide))) (fun _ => ?_)
      refine lv_aload_n hx hb dX2_readSum_14 rfl (lv_at hl 0 rfl) ?_
      refine va_get (D := D) (ci := 2) (v := .ref tx) (C := RX2) (T := TX2) (N := 2) hx hb htb itX2 hown hK hP 0 rfl rfl 0 (by decide) (htb _ k_288) (fun _ h9 => h9) rfl dX2_readSum_15 ?_
      refine cVR (As := []) (rest := []) (n := 0) (ci := 6) (q0 := 0) X hN hK hP (c_signP l D cI cB tx tp N Pa fv by_ T fb hT hNT hq.2.2.2.1) (gV k_483 k_484 k_485 k_98 k_486) (by decide +kernel) ⟨Nat.le_of_ble_eq_true rfl, Nat.le_of_ble_eq_true rfl⟩ ⟨rfl, rfl⟩ [1, 2, 3] rfl rfl rfl rfl rfl rfl hl.1 (Nat.le_of_ble_eq_true rfl) dX2_readSum_18 ⟨Nat.le_of_ble_eq_true rfl, Nat.le_of_ble_eq_true rfl⟩ (fun r_7 hr_7 => ?_)
      subst hr_7
      refine lv_bipush (v := 43) hx hb dX2_readSum_21 (by decide) ?_
      refine lv_icmp_eq (tgt := 38) hx hb dX2_readSum_23 (by decide) (fun c_23 => ?_) (fun c_23 => ?_)
      · obtain ⟨hf0, hlt, hs5⟩ := sQs (sgA (Or.inl c_23))
        subst hf0
        refine lv_aload_n hx hb dX2_readSum_38 rfl (lv_at hl 0 rfl) ?_
        refine va_get (D := D) (ci := 2) (v := .ref tx) (C := RX2) (T := TX2) (N := 2) hx hb htb itX2 hown hK hP 0 rfl rfl 0 (by decide) (htb _ k_288) (fun _ h9 => h9) rfl dX2_readSum_39 ?_
        refine cVR (As := []) (rest := []) (n := 0) (ci := 6) (q0 := 0) X hN hK hP (c_signP l D cI cB tx tp N Pa 0 by_ T fb hT hNT hq.2.2.2.1) (gV k_483 k_484 k_485 k_98 k_486) (by decide +kernel) ⟨Nat.le_of_ble_eq_true rfl, Nat.le_of_ble_eq_true rfl⟩ ⟨rfl, rfl⟩ [1, 2, 3] rfl rfl rfl rfl rfl rfl hl.1 (Nat.le_of_ble_eq_true rfl) dX2_readSum_42 ⟨Nat.le_of_ble_eq_true rfl, Nat.le_of_ble_eq_true rfl⟩ (fun r_8 hr_8 => ?_)
        subst hr_8
        refine lv_bipush (v := 43) hx hb dX2_readSum_45 (by decide) ?_
        refine lv_icmp_ne (tgt := 54) hx hb dX2_readSum_47 (by decide) (fun c_47 => ?_) (fun c_47 => ?_)
        · refine lv_bipush (v := 6) hx hb dX2_readSum_54 (by decide) ?_
          refine lv_istore_n (lv' := [(3, .int 6), (0, .ref h0), (1, .int 2), (2, .int (nI i))]) hx hb dX2_readSum_56 rfl hl (by decide) rfl (fun ls hl => ?_)
          refine lv_aload_n hx hb dX2_readSum_57 rfl (lv_at hl 1 rfl) ?_
          refine va_get (D := D) (ci := 2) (v := .ref tx) (C := RX2) (T := TX2) (N := 2) hx hb htb itX2 hown hK hP 0 rfl rfl 0 (by decide) (htb _ k_288) (fun _ h9 => h9) rfl dX2_readSum_58 ?_
          refine lv_dup hx hb dX2_readSum_61 rfl ?_
          refine va_getN (D := D) (ci := 6) (v := .int (nI Pa)) (C := RX6) (T := TX6) (N := 4) hx hb htb itX6 hown hK hP 1 rfl rfl 2 (by decide) (va_Nw.use rfl (hN _ n_264 rfl)) (fun _ h9 => h9) rfl dX2_readSum_62 ?_
          refine lv_iconst (v := 1) hx hb dX2_readSum_65 (by decide) ?_
          refine lv_iadd hx hb dX2_readSum_66 ?_
          refine tv (z := (nI (Pa + 1))) (nI_1 Pa) ?_
          refine va_putN (D := D) (ci := 6) (v := .int (nI (Pa + 1))) (ty := .int) (C := RX6) (T := TX6) (N := 4) hx hb htb itX6 tyX6 tyX6_ok nmX6 hown hK hP hD hS 1 rfl rfl 2 (by decide) (va_Nw.use rfl (hN _ n_264 rfl)) (fun _ h9 => h9) rfl (tyX6_ok 2 (by decide)) rfl rfl (Nat.le_of_ble_eq_true rfl) dX2_readSum_67 (fun H locs hP hD hS => ?_)
          have hP : va_P D vwCl [(h0, .inr (2, [.ref tx, .ref lw])), (tx, .inr (6, [.ref tp, .int (nI N), .int (nI (Pa + 1)), .int 0])), (tp, .inr (5, [.ref by_, .int (nI T)])), (by_, .inl (cI, 260, .inl fb)), (lw, .inr (1, [.ref l1, .ref l2, .ref l3, .ref l4, .ref l5, .ref l6, .ref l7, .int (nI za), .int (nI k)])), (l1, .inl (cI, 240, .inl qa))] H := hP
          have hD : va_D A [(h0, .inr (2, [.ref tx, .ref lw])), (tx, .inr (6, [.ref tp, .int (nI N), .int (nI (Pa + 1)), .int 0])), (tp, .inr (5, [.ref by_, .int (nI T)])), (by_, .inl (cI, 260, .inl fb)), (lw, .inr (1, [.ref l1, .ref l2, .ref l3, .ref l4, .ref l5, .ref l6, .ref l7, .int (nI za), .int (nI k)])), (l1, .inl (cI, 240, .inl qa))] := hD
          refine lv_aload_n hx hb dX2_readSum_70 rfl (lv_at hl 1 rfl) ?_
          refine lv_iload_n hx hb dX2_readSum_71 rfl (lv_at hl 2 rfl) ?_
          refine cVVk (As := [.int 2]) (rest := []) (n := 1) (ci := 2) (q0 := 0) (wr := []) X hN hKO hK hP hD hS hA (c_rtP_2 l D cI cB _ kk h0 tx tp N (Pa + 1) 0 by_ T fb lw l1 l2 l3 l4 l5 l6 l7 za k qa hT hNT (by omega) hN2 (Or.inl rfl) hbr hza hk) (gV k_585 k_587 k_3 k_99 k_588) (by decide +kernel) ⟨Nat.le_of_ble_eq_true rfl, Nat.le_of_ble_eq_true rfl⟩ ⟨rfl, rfl⟩ [0, 1, 2, 3, 4, 5] [] rfl rfl (by decide) (by decide) rfl rfl rfl rfl rfl hl.1 (Nat.le_of_ble_eq_true rfl) dX2_readSum_72 ⟨Nat.le_of_ble_eq_true rfl, Nat.le_of_ble_eq_true rfl⟩ (fun u H locs hw_14 hP hD hS => ?_)
          obtain ⟨Po_10, fo_11, zo_12, l1o_13⟩ := u
          try dsimp only at hw_14
          have hP : va_P D vwCl [(h0, .inr (2, [.ref tx, .ref lw])), (tx, .inr (6, [.ref tp, .int (nI N), .int (nI Po_10), .int fo_11])), (tp, .inr (5, [.ref by_, .int (nI T)])), (by_, .inl (cI, 260, .inl fb)), (lw, .inr (1, [.ref l1, .ref l2, .ref l3, .ref l4, .ref l5, .ref l6, .ref l7, .int (nI zo_12), .int (nI k)])), (l1, .inl (cI, 240, .inl l1o_13))] H := hP
          have hD : va_D A [(h0, .inr (2, [.ref tx, .ref lw])), (tx, .inr (6, [.ref tp, .int (nI N), .int (nI Po_10), .int fo_11])), (tp, .inr (5, [.ref by_, .int (nI T)])), (by_, .inl (cI, 260, .inl fb)), (lw, .inr (1, [.ref l1, .ref l2, .ref l3, .ref l4, .ref l5, .ref l6, .ref l7, .int (nI zo_12), .int (nI k)])), (l1, .inl (cI, 240, .inl l1o_13))] := hD
          refine lv_aload_n hx hb dX2_readSum_75 rfl (lv_at hl 1 rfl) ?_
          refine va_get (D := D) (ci := 2) (v := .ref lw) (C := RX2) (T := TX2) (N := 2) hx hb htb itX2 hown hK hP 0 rfl rfl 1 (by decide) (htb _ k_289) (fun _ h9 => h9) rfl dX2_readSum_76 ?_
          refine lv_iload_n hx hb dX2_readSum_79 rfl (lv_at hl 0 rfl) ?_
          refine lv_iconst (v := 0) hx hb dX2_readSum_80 (by decide) ?_
          refine cVV (As := [.int 6, .int 0]) (rest := []) (n := 2) (ci := 1) (q0 := 0) (wr := [(h0, .inr (2, [.ref tx, .ref lw])), (tx, .inr (6, [.ref tp, .int (nI N), .int (nI Po_10), .int fo_11])), (tp, .inr (5, [.ref by_, .int (nI T)])), (by_, .inl (cI, 260, .inl fb))]) X hN hK hP hD hS hA (c_X1_addStep l D cI cB _ lw l1 l2 l3 l4 l5 l6 l7 zo_12 k 6 0 l1o_13 hw_14.1 hk) (gV k_594 k_595 k_596 k_97 k_597) (by decide +kernel) ⟨Nat.le_of_ble_eq_true rfl, Nat.le_of_ble_eq_true rfl⟩ ⟨rfl, rfl⟩ [4, 5] [0, 1, 2, 3] rfl rfl (by decide) (by decide) rfl rfl rfl rfl rfl hl.1 (Nat.le_of_ble_eq_true rfl) dX2_readSum_81 ⟨Nat.le_of_ble_eq_true rfl, Nat.le_of_ble_eq_true rfl⟩ (fun u H locs hw_18 hP hD hS => ?_)
          obtain ⟨zo_16, l1_fo_17⟩ := u
          try dsimp only at hw_18
          have hP : va_P D vwCl [(h0, .inr (2, [.ref tx, .ref lw])), (tx, .inr (6, [.ref tp, .int (nI N), .int (nI Po_10), .int fo_11])), (tp, .inr (5, [.ref by_, .int (nI T)])), (by_, .inl (cI, 260, .inl fb)), (lw, .inr (1, [.ref l1, .ref l2, .ref l3, .ref l4, .ref l5, .ref l6, .ref l7, .int (nI zo_16), .int (nI k)])), (l1, .inl (cI, 240, .inl l1_fo_17))] H := hP
          have hD : va_D A [(h0, .inr (2, [.ref tx, .ref lw])), (tx, .inr (6, [.ref tp, .int (nI N), .int (nI Po_10), .int fo_11])), (tp, .inr (5, [.ref by_, .int (nI T)])), (by_, .inl (cI, 260, .inl fb)), (lw, .inr (1, [.ref l1, .ref l2, .ref l3, .ref l4, .ref l5, .ref l6, .ref l7, .int (nI zo_16), .int (nI k)])), (l1, .inl (cI, 240, .inl l1_fo_17))] := hD
          refine lv_iinc (v := (nI (i + 1))) (lv' := [(2, .int (nI (i + 1))), (3, .int 6), (0, .ref h0), (1, .int 2)]) hx hb dX2_readSum_84 hl (k := 3) rfl (nI_1 i) (by decide) rfl (fun ls hl => ?_)
          refine lv_goto (tgt := 7) hx hb dX2_readSum_87 (by decide) ?_
          exact ih_7 (i + 1) Po_10 fo_11 zo_16 l1_fo_17 (by omega) hw_18 (hq.more hs5 hw_14.2.1) (fun z w => by have := (((hw_14.2.1.2.2.2.2 rfl).1 z).1); have := hiP rfl w; omega) hw_14.2.2 _ _ (hP.sub [0, 1, 2, 3, 4, 5] rfl) (hD.sub [0, 1, 2, 3, 4, 5] (by decide) rfl) hS _ (lv_sub hl [2, 3, 0] rfl)
        · refine lv_iconst (v := 5) hx hb dX2_readSum_50 (by decide) ?_
          refine lv_goto (tgt := 56) hx hb dX2_readSum_51 (by decide) ?_
          refine lv_istore_n (lv' := [(3, .int 5), (0, .ref h0), (1, .int 2), (2, .int (nI i))]) hx hb dX2_readSum_56 rfl hl (by decide) rfl (fun ls hl => ?_)
          refine lv_aload_n hx hb dX2_readSum_57 rfl (lv_at hl 1 rfl) ?_
          refine va_get (D := D) (ci := 2) (v := .ref tx) (C := RX2) (T := TX2) (N := 2) hx hb htb itX2 hown hK hP 0 rfl rfl 0 (by decide) (htb _ k_288) (fun _ h9 => h9) rfl dX2_readSum_58 ?_
          refine lv_dup hx hb dX2_readSum_61 rfl ?_
          refine va_getN (D := D) (ci := 6) (v := .int (nI Pa)) (C := RX6) (T := TX6) (N := 4) hx hb htb itX6 hown hK hP 1 rfl rfl 2 (by decide) (va_Nw.use rfl (hN _ n_264 rfl)) (fun _ h9 => h9) rfl dX2_readSum_62 ?_
          refine lv_iconst (v := 1) hx hb dX2_readSum_65 (by decide) ?_
          refine lv_iadd hx hb dX2_readSum_66 ?_
          refine tv (z := (nI (Pa + 1))) (nI_1 Pa) ?_
          refine va_putN (D := D) (ci := 6) (v := .int (nI (Pa + 1))) (ty := .int) (C := RX6) (T := TX6) (N := 4) hx hb htb itX6 tyX6 tyX6_ok nmX6 hown hK hP hD hS 1 rfl rfl 2 (by decide) (va_Nw.use rfl (hN _ n_264 rfl)) (fun _ h9 => h9) rfl (tyX6_ok 2 (by decide)) rfl rfl (Nat.le_of_ble_eq_true rfl) dX2_readSum_67 (fun H locs hP hD hS => ?_)
          have hP : va_P D vwCl [(h0, .inr (2, [.ref tx, .ref lw])), (tx, .inr (6, [.ref tp, .int (nI N), .int (nI (Pa + 1)), .int 0])), (tp, .inr (5, [.ref by_, .int (nI T)])), (by_, .inl (cI, 260, .inl fb)), (lw, .inr (1, [.ref l1, .ref l2, .ref l3, .ref l4, .ref l5, .ref l6, .ref l7, .int (nI za), .int (nI k)])), (l1, .inl (cI, 240, .inl qa))] H := hP
          have hD : va_D A [(h0, .inr (2, [.ref tx, .ref lw])), (tx, .inr (6, [.ref tp, .int (nI N), .int (nI (Pa + 1)), .int 0])), (tp, .inr (5, [.ref by_, .int (nI T)])), (by_, .inl (cI, 260, .inl fb)), (lw, .inr (1, [.ref l1, .ref l2, .ref l3, .ref l4, .ref l5, .ref l6, .ref l7, .int (nI za), .int (nI k)])), (l1, .inl (cI, 240, .inl qa))] := hD
          refine lv_aload_n hx hb dX2_readSum_70 rfl (lv_at hl 1 rfl) ?_
          refine lv_iload_n hx hb dX2_readSum_71 rfl (lv_at hl 2 rfl) ?_
          refine cVVk (As := [.int 2]) (rest := []) (n := 1) (ci := 2) (q0 := 0) (wr := []) X hN hKO hK hP hD hS hA (c_rtP_2 l D cI cB _ kk h0 tx tp N (Pa + 1) 0 by_ T fb lw l1 l2 l3 l4 l5 l6 l7 za k qa hT hNT (by omega) hN2 (Or.inl rfl) hbr hza hk) (gV k_585 k_587 k_3 k_99 k_588) (by decide +kernel) ⟨Nat.le_of_ble_eq_true rfl, Nat.le_of_ble_eq_true rfl⟩ ⟨rfl, rfl⟩ [0, 1, 2, 3, 4, 5] [] rfl rfl (by decide) (by decide) rfl rfl rfl rfl rfl hl.1 (Nat.le_of_ble_eq_true rfl) dX2_readSum_72 ⟨Nat.le_of_ble_eq_true rfl, Nat.le_of_ble_eq_true rfl⟩ (fun u H locs hw_24 hP hD hS => ?_)
          obtain ⟨Po_20, fo_21, zo_22, l1o_23⟩ := u
          try dsimp only at hw_24
          have hP : va_P D vwCl [(h0, .inr (2, [.ref tx, .ref lw])), (tx, .inr (6, [.ref tp, .int (nI N), .int (nI Po_20), .int fo_21])), (tp, .inr (5, [.ref by_, .int (nI T)])), (by_, .inl (cI, 260, .inl fb)), (lw, .inr (1, [.ref l1, .ref l2, .ref l3, .ref l4, .ref l5, .ref l6, .ref l7, .int (nI zo_22), .int (nI k)])), (l1, .inl (cI, 240, .inl l1o_23))] H := hP
          have hD : va_D A [(h0, .inr (2, [.ref tx, .ref lw])), (tx, .inr (6, [.ref tp, .int (nI N), .int (nI Po_20), .int fo_21])), (tp, .inr (5, [.ref by_, .int (nI T)])), (by_, .inl (cI, 260, .inl fb)), (lw, .inr (1, [.ref l1, .ref l2, .ref l3, .ref l4, .ref l5, .ref l6, .ref l7, .int (nI zo_22), .int (nI k)])), (l1, .inl (cI, 240, .inl l1o_23))] := hD
          refine lv_aload_n hx hb dX2_readSum_75 rfl (lv_at hl 1 rfl) ?_
          refine va_get (D := D) (ci := 2) (v := .ref lw) (C := RX2) (T := TX2) (N := 2) hx hb htb itX2 hown hK hP 0 rfl rfl 1 (by decide) (htb _ k_289) (fun _ h9 => h9) rfl dX2_readSum_76 ?_
          refine lv_iload_n hx hb dX2_readSum_79 rfl (lv_at hl 0 rfl) ?_
          refine lv_iconst (v := 0) hx hb dX2_readSum_80 (by decide) ?_
          refine cVV (As := [.int 5, .int 0]) (rest := []) (n := 2) (ci := 1) (q0 := 0) (wr := [(h0, .inr (2, [.ref tx, .ref lw])), (tx, .inr (6, [.ref tp, .int (nI N), .int (nI Po_20), .int fo_21])), (tp, .inr (5, [.ref by_, .int (nI T)])), (by_, .inl (cI, 260, .inl fb))]) X hN hK hP hD hS hA (c_X1_addStep l D cI cB _ lw l1 l2 l3 l4 l5 l6 l7 zo_22 k 5 0 l1o_23 hw_24.1 hk) (gV k_594 k_595 k_596 k_97 k_597) (by decide +kernel) ⟨Nat.le_of_ble_eq_true rfl, Nat.le_of_ble_eq_true rfl⟩ ⟨rfl, rfl⟩ [4, 5] [0, 1, 2, 3] rfl rfl (by decide) (by decide) rfl rfl rfl rfl rfl hl.1 (Nat.le_of_ble_eq_true rfl) dX2_readSum_81 ⟨Nat.le_of_ble_eq_true rfl, Nat.le_of_ble_eq_true rfl⟩ (fun u H locs hw_28 hP hD hS => ?_)
          obtain ⟨zo_26, l1_fo_27⟩ := u
          try dsimp only at hw_28
          have hP : va_P D vwCl [(h0, .inr (2, [.ref tx, .ref lw])), (tx, .inr (6, [.ref tp, .int (nI N), .int (nI Po_20), .int fo_21])), (tp, .inr (5, [.ref by_, .int (nI T)])), (by_, .inl (cI, 260, .inl fb)), (lw, .inr (1, [.ref l1, .ref l2, .ref l3, .ref l4, .ref l5, .ref l6, .ref l7, .int (nI zo_26), .int (nI k)])), (l1, .inl (cI, 240, .inl l1_fo_27))] H := hP
          have hD : va_D A [(h0, .inr (2, [.ref tx, .ref lw])), (tx, .inr (6, [.ref tp, .int (nI N), .int (nI Po_20), .int fo_21])), (tp, .inr (5, [.ref by_, .int (nI T)])), (by_, .inl (cI, 260, .inl fb)), (lw, .inr (1, [.ref l1, .ref l2, .ref l3, .ref l4, .ref l5, .ref l6, .ref l7, .int (nI zo_26), .int (nI k)])), (l1, .inl (cI, 240, .inl l1_fo_27))] := hD
          refine lv_iinc (v := (nI (i + 1))) (lv' := [(2, .int (nI (i + 1))), (3, .int 5), (0, .ref h0), (1, .int 2)]) hx hb dX2_readSum_84 hl (k := 3) rfl (nI_1 i) (by decide) rfl (fun ls hl => ?_)
          refine lv_goto (tgt := 7) hx hb dX2_readSum_87 (by decide) ?_
          exact ih_7 (i + 1) Po_20 fo_21 zo_26 l1_fo_27 (by omega) hw_28 (hq.more hs5 hw_24.2.1) (fun z w => by have := (((hw_24.2.1.2.2.2.2 rfl).1 z).1); have := hiP rfl w; omega) hw_24.2.2 _ _ (hP.sub [0, 1, 2, 3, 4, 5] rfl) (hD.sub [0, 1, 2, 3, 4, 5] (by decide) rfl) hS _ (lv_sub hl [2, 3, 0] rfl)
      · refine lv_aload_n hx hb dX2_readSum_26 rfl (lv_at hl 0 rfl) ?_
        refine va_get (D := D) (ci := 2) (v := .ref tx) (C := RX2) (T := TX2) (N := 2) hx hb htb itX2 hown hK hP 0 rfl rfl 0 (by decide) (htb _ k_288) (fun _ h9 => h9) rfl dX2_readSum_27 ?_
        refine cVR (As := []) (rest := []) (n := 0) (ci := 6) (q0 := 0) X hN hK hP (c_signP l D cI cB tx tp N Pa fv by_ T fb hT hNT hq.2.2.2.1) (gV k_483 k_484 k_485 k_98 k_486) (by decide +kernel) ⟨Nat.le_of_ble_eq_true rfl, Nat.le_of_ble_eq_true rfl⟩ ⟨rfl, rfl⟩ [1, 2, 3] rfl rfl rfl rfl rfl rfl hl.1 (Nat.le_of_ble_eq_true rfl) dX2_readSum_30 ⟨Nat.le_of_ble_eq_true rfl, Nat.le_of_ble_eq_true rfl⟩ (fun r_29 hr_29 => ?_)
        subst hr_29
        refine lv_bipush (v := 45) hx hb dX2_readSum_33 (by decide) ?_
        refine lv_icmp_ne (tgt := 90) hx hb dX2_readSum_35 (by decide) (fun c_35 => ?_) (fun c_35 => ?_)
        · exact ret _ _ _ _ (Pa, fv, za, qa) dX2_readSum_90 (⟨hza, ⟨hq, fun (z : fv = 0) => by have w1 := c_23; have w2 := c_35; rw [z, sQ0] at w1 w2; exact fun y => y.elim (fun a => a.elim w1 w2) (hmu z)⟩⟩) (hP.sub [0, 1, 2, 3, 4, 5] rfl) (hD.sub [0, 1, 2, 3, 4, 5] (by decide) rfl) hS
        · obtain ⟨hf0, hlt, hs5⟩ := sQs (sgA (Or.inr c_35))
          subst hf0
          refine lv_aload_n hx hb dX2_readSum_38 rfl (lv_at hl 0 rfl) ?_
          refine va_get (D := D) (ci := 2) (v := .ref tx) (C := RX2) (T := TX2) (N := 2) hx hb htb itX2 hown hK hP 0 rfl rfl 0 (by decide) (htb _ k_288) (fun _ h9 => h9) rfl dX2_readSum_39 ?_
          refine cVR (As := []) (rest := []) (n := 0) (ci := 6) (q0 := 0) X hN hK hP (c_signP l D cI cB tx tp N Pa 0 by_ T fb hT hNT hq.2.2.2.1) (gV k_483 k_484 k_485 k_98 k_486) (by decide +kernel) ⟨Nat.le_of_ble_eq_true rfl, Nat.le_of_ble_eq_true rfl⟩ ⟨rfl, rfl⟩ [1, 2, 3] rfl rfl rfl rfl rfl rfl hl.1 (Nat.le_of_ble_eq_true rfl) dX2_readSum_42 ⟨Nat.le_of_ble_eq_true rfl, Nat.le_of_ble_eq_true rfl⟩ (fun r_30 hr_30 => ?_)
          subst hr_30
          refine lv_bipush (v := 43) hx hb dX2_readSum_45 (by decide) ?_
          refine lv_icmp_ne (tgt := 54) hx hb dX2_readSum_47 (by decide) (fun c_47 => ?_) (fun c_47 => ?_)
          · refine lv_bipush (v := 6) hx hb dX2_readSum_54 (by decide) ?_
            refine lv_istore_n (lv' := [(3, .int 6), (0, .ref h0), (1, .int 2), (2, .int (nI i))]) hx hb dX2_readSum_56 rfl hl (by decide) rfl (fun ls hl => ?_)
            refine lv_aload_n hx hb dX2_readSum_57 rfl (lv_at hl 1 rfl) ?_
            refine va_get (D := D) (ci := 2) (v := .ref tx) (C := RX2) (T := TX2) (N := 2) hx hb htb itX2 hown hK hP 0 rfl rfl 0 (by decide) (htb _ k_288) (fun _ h9 => h9) rfl dX2_readSum_58 ?_
            refine lv_dup hx hb dX2_readSum_61 rfl ?_
            refine va_getN (D := D) (ci := 6) (v := .int (nI Pa)) (C := RX6) (T := TX6) (N := 4) hx hb htb itX6 hown hK hP 1 rfl rfl 2 (by decide) (va_Nw.use rfl (hN _ n_264 rfl)) (fun _ h9 => h9) rfl dX2_readSum_62 ?_
            refine lv_iconst (v := 1) hx hb dX2_readSum_65 (by decide) ?_
            refine lv_iadd hx hb dX2_readSum_66 ?_
            refine tv (z := (nI (Pa + 1))) (nI_1 Pa) ?_
            refine va_putN (D := D) (ci := 6) (v := .int (nI (Pa + 1))) (ty := .int) (C := RX6) (T := TX6) (N := 4) hx hb htb itX6 tyX6 tyX6_ok nmX6 hown hK hP hD hS 1 rfl rfl 2 (by decide) (va_Nw.use rfl (hN _ n_264 rfl)) (fun _ h9 => h9) rfl (tyX6_ok 2 (by decide)) rfl rfl (Nat.le_of_ble_eq_true rfl) dX2_readSum_67 (fun H locs hP hD hS => ?_)
            have hP : va_P D vwCl [(h0, .inr (2, [.ref tx, .ref lw])), (tx, .inr (6, [.ref tp, .int (nI N), .int (nI (Pa + 1)), .int 0])), (tp, .inr (5, [.ref by_, .int (nI T)])), (by_, .inl (cI, 260, .inl fb)), (lw, .inr (1, [.ref l1, .ref l2, .ref l3, .ref l4, .ref l5, .ref l6, .ref l7, .int (nI za), .int (nI k)])), (l1, .inl (cI, 240, .inl qa))] H := hP
            have hD : va_D A [(h0, .inr (2, [.ref tx, .ref lw])), (tx, .inr (6, [.ref tp, .int (nI N), .int (nI (Pa + 1)), .int 0])), (tp, .inr (5, [.ref by_, .int (nI T)])), (by_, .inl (cI, 260, .inl fb)), (lw, .inr (1, [.ref l1, .ref l2, .ref l3, .ref l4, .ref l5, .ref l6, .ref l7, .int (nI za), .int (nI k)])), (l1, .inl (cI, 240, .inl qa))] := hD
            refine lv_aload_n hx hb dX2_readSum_70 rfl (lv_at hl 1 rfl) ?_
            refine lv_iload_n hx hb dX2_readSum_71 rfl (lv_at hl 2 rfl) ?_
            refine cVVk (As := [.int 2]) (rest := []) (n := 1) (ci := 2) (q0 := 0) (wr := []) X hN hKO hK hP hD hS hA (c_rtP_2 l D cI cB _ kk h0 tx tp N (Pa + 1) 0 by_ T fb lw l1 l2 l3 l4 l5 l6 l7 za k qa hT hNT (by omega) hN2 (Or.inl rfl) hbr hza hk) (gV k_585 k_587 k_3 k_99 k_588) (by decide +kernel) ⟨Nat.le_of_ble_eq_true rfl, Nat.le_of_ble_eq_true rfl⟩ ⟨rfl, rfl⟩ [0, 1, 2, 3, 4, 5] [] rfl rfl (by decide) (by decide) rfl rfl rfl rfl rfl hl.1 (Nat.le_of_ble_eq_true rfl) dX2_readSum_72 ⟨Nat.le_of_ble_eq_true rfl, Nat.le_of_ble_eq_true rfl⟩ (fun u H locs hw_36 hP hD hS => ?_)
            obtain ⟨Po_32, fo_33, zo_34, l1o_35⟩ := u
            try dsimp only at hw_36
            have hP : va_P D vwCl [(h0, .inr (2, [.ref tx, .ref lw])), (tx, .inr (6, [.ref tp, .int (nI N), .int (nI Po_32), .int fo_33])), (tp, .inr (5, [.ref by_, .int (nI T)])), (by_, .inl (cI, 260, .inl fb)), (lw, .inr (1, [.ref l1, .ref l2, .ref l3, .ref l4, .ref l5, .ref l6, .ref l7, .int (nI zo_34), .int (nI k)])), (l1, .inl (cI, 240, .inl l1o_35))] H := hP
            have hD : va_D A [(h0, .inr (2, [.ref tx, .ref lw])), (tx, .inr (6, [.ref tp, .int (nI N), .int (nI Po_32), .int fo_33])), (tp, .inr (5, [.ref by_, .int (nI T)])), (by_, .inl (cI, 260, .inl fb)), (lw, .inr (1, [.ref l1, .ref l2, .ref l3, .ref l4, .ref l5, .ref l6, .ref l7, .int (nI zo_34), .int (nI k)])), (l1, .inl (cI, 240, .inl l1o_35))] := hD
            refine lv_aload_n hx hb dX2_readSum_75 rfl (lv_at hl 1 rfl) ?_
            refine va_get (D := D) (ci := 2) (v := .ref lw) (C := RX2) (T := TX2) (N := 2) hx hb htb itX2 hown hK hP 0 rfl rfl 1 (by decide) (htb _ k_289) (fun _ h9 => h9) rfl dX2_readSum_76 ?_
            refine lv_iload_n hx hb dX2_readSum_79 rfl (lv_at hl 0 rfl) ?_
            refine lv_iconst (v := 0) hx hb dX2_readSum_80 (by decide) ?_
            refine cVV (As := [.int 6, .int 0]) (rest := []) (n := 2) (ci := 1) (q0 := 0) (wr := [(h0, .inr (2, [.ref tx, .ref lw])), (tx, .inr (6, [.ref tp, .int (nI N), .int (nI Po_32), .int fo_33])), (tp, .inr (5, [.ref by_, .int (nI T)])), (by_, .inl (cI, 260, .inl fb))]) X hN hK hP hD hS hA (c_X1_addStep l D cI cB _ lw l1 l2 l3 l4 l5 l6 l7 zo_34 k 6 0 l1o_35 hw_36.1 hk) (gV k_594 k_595 k_596 k_97 k_597) (by decide +kernel) ⟨Nat.le_of_ble_eq_true rfl, Nat.le_of_ble_eq_true rfl⟩ ⟨rfl, rfl⟩ [4, 5] [0, 1, 2, 3] rfl rfl (by decide) (by decide) rfl rfl rfl rfl rfl hl.1 (Nat.le_of_ble_eq_true rfl) dX2_readSum_81 ⟨Nat.le_of_ble_eq_true rfl, Nat.le_of_ble_eq_true rfl⟩ (fun u H locs hw_40 hP hD hS => ?_)
            obtain ⟨zo_38, l1_fo_39⟩ := u
            try dsimp only at hw_40
            have hP : va_P D vwCl [(h0, .inr (2, [.ref tx, .ref lw])), (tx, .inr (6, [.ref tp, .int (nI N), .int (nI Po_32), .int fo_33])), (tp, .inr (5, [.ref by_, .int (nI T)])), (by_, .inl (cI, 260, .inl fb)), (lw, .inr (1, [.ref l1, .ref l2, .ref l3, .ref l4, .ref l5, .ref l6, .ref l7, .int (nI zo_38), .int (nI k)])), (l1, .inl (cI, 240, .inl l1_fo_39))] H := hP
            have hD : va_D A [(h0, .inr (2, [.ref tx, .ref lw])), (tx, .inr (6, [.ref tp, .int (nI N), .int (nI Po_32), .int fo_33])), (tp, .inr (5, [.ref by_, .int (nI T)])), (by_, .inl (cI, 260, .inl fb)), (lw, .inr (1, [.ref l1, .ref l2, .ref l3, .ref l4, .ref l5, .ref l6, .ref l7, .int (nI zo_38), .int (nI k)])), (l1, .inl (cI, 240, .inl l1_fo_39))] := hD
            refine lv_iinc (v := (nI (i + 1))) (lv' := [(2, .int (nI (i + 1))), (3, .int 6), (0, .ref h0), (1, .int 2)]) hx hb dX2_readSum_84 hl (k := 3) rfl (nI_1 i) (by decide) rfl (fun ls hl => ?_)
            refine lv_goto (tgt := 7) hx hb dX2_readSum_87 (by decide) ?_
            exact ih_7 (i + 1) Po_32 fo_33 zo_38 l1_fo_39 (by omega) hw_40 (hq.more hs5 hw_36.2.1) (fun z w => by have := (((hw_36.2.1.2.2.2.2 rfl).1 z).1); have := hiP rfl w; omega) hw_36.2.2 _ _ (hP.sub [0, 1, 2, 3, 4, 5] rfl) (hD.sub [0, 1, 2, 3, 4, 5] (by decide) rfl) hS _ (lv_sub hl [2, 3, 0] rfl)
          · refine lv_iconst (v := 5) hx hb dX2_readSum_50 (by decide) ?_
            refine lv_goto (tgt := 56) hx hb dX2_readSum_51 (by decide) ?_
            refine lv_istore_n (lv' := [(3, .int 5), (0, .ref h0), (1, .int 2), (2, .int (nI i))]) hx hb dX2_readSum_56 rfl hl (by decide) rfl (fun ls hl => ?_)
            refine lv_aload_n hx hb dX2_readSum_57 rfl (lv_at hl 1 rfl) ?_
            refine va_get (D := D) (ci := 2) (v := .ref tx) (C := RX2) (T := TX2) (N := 2) hx hb htb itX2 hown hK hP 0 rfl rfl 0 (by decide) (htb _ k_288) (fun _ h9 => h9) rfl dX2_readSum_58 ?_
            refine lv_dup hx hb dX2_readSum_61 rfl ?_
            refine va_getN (D := D) (ci := 6) (v := .int (nI Pa)) (C := RX6) (T := TX6) (N := 4) hx hb htb itX6 hown hK hP 1 rfl rfl 2 (by decide) (va_Nw.use rfl (hN _ n_264 rfl)) (fun _ h9 => h9) rfl dX2_readSum_62 ?_
            refine lv_iconst (v := 1) hx hb dX2_readSum_65 (by decide) ?_
            refine lv_iadd hx hb dX2_readSum_66 ?_
            refine tv (z := (nI (Pa + 1))) (nI_1 Pa) ?_
            refine va_putN (D := D) (ci := 6) (v := .int (nI (Pa + 1))) (ty := .int) (C := RX6) (T := TX6) (N := 4) hx hb htb itX6 tyX6 tyX6_ok nmX6 hown hK hP hD hS 1 rfl rfl 2 (by decide) (va_Nw.use rfl (hN _ n_264 rfl)) (fun _ h9 => h9) rfl (tyX6_ok 2 (by decide)) rfl rfl (Nat.le_of_ble_eq_true rfl) dX2_readSum_67 (fun H locs hP hD hS => ?_)
            have hP : va_P D vwCl [(h0, .inr (2, [.ref tx, .ref lw])), (tx, .inr (6, [.ref tp, .int (nI N), .int (nI (Pa + 1)), .int 0])), (tp, .inr (5, [.ref by_, .int (nI T)])), (by_, .inl (cI, 260, .inl fb)), (lw, .inr (1, [.ref l1, .ref l2, .ref l3, .ref l4, .ref l5, .ref l6, .ref l7, .int (nI za), .int (nI k)])), (l1, .inl (cI, 240, .inl qa))] H := hP
            have hD : va_D A [(h0, .inr (2, [.ref tx, .ref lw])), (tx, .inr (6, [.ref tp, .int (nI N), .int (nI (Pa + 1)), .int 0])), (tp, .inr (5, [.ref by_, .int (nI T)])), (by_, .inl (cI, 260, .inl fb)), (lw, .inr (1, [.ref l1, .ref l2, .ref l3, .ref l4, .ref l5, .ref l6, .ref l7, .int (nI za), .int (nI k)])), (l1, .inl (cI, 240, .inl qa))] := hD
            refine lv_aload_n hx hb dX2_readSum_70 rfl (lv_at hl 1 rfl) ?_
            refine lv_iload_n hx hb dX2_readSum_71 rfl (lv_at hl 2 rfl) ?_
            refine cVVk (As := [.int 2]) (rest := []) (n := 1) (ci := 2) (q0 := 0) (wr := []) X hN hKO hK hP hD hS hA (c_rtP_2 l D cI cB _ kk h0 tx tp N (Pa + 1) 0 by_ T fb lw l1 l2 l3 l4 l5 l6 l7 za k qa hT hNT (by omega) hN2 (Or.inl rfl) hbr hza hk) (gV k_585 k_587 k_3 k_99 k_588) (by decide +kernel) ⟨Nat.le_of_ble_eq_true rfl, Nat.le_of_ble_eq_true rfl⟩ ⟨rfl, rfl⟩ [0, 1, 2, 3, 4, 5] [] rfl rfl (by decide) (by decide) rfl rfl rfl rfl rfl hl.1 (Nat.le_of_ble_eq_true rfl) dX2_readSum_72 ⟨Nat.le_of_ble_eq_true rfl, Nat.le_of_ble_eq_true rfl⟩ (fun u H locs hw_46 hP hD hS => ?_)
            obtain ⟨Po_42, fo_43, zo_44, l1o_45⟩ := u
            try dsimp only at hw_46
            have hP : va_P D vwCl [(h0, .inr (2, [.ref tx, .ref lw])), (tx, .inr (6, [.ref tp, .int (nI N), .int (nI Po_42), .int fo_43])), (tp, .inr (5, [.ref by_, .int (nI T)])), (by_, .inl (cI, 260, .inl fb)), (lw, .inr (1, [.ref l1, .ref l2, .ref l3, .ref l4, .ref l5, .ref l6, .ref l7, .int (nI zo_44), .int (nI k)])), (l1, .inl (cI, 240, .inl l1o_45))] H := hP
            have hD : va_D A [(h0, .inr (2, [.ref tx, .ref lw])), (tx, .inr (6, [.ref tp, .int (nI N), .int (nI Po_42), .int fo_43])), (tp, .inr (5, [.ref by_, .int (nI T)])), (by_, .inl (cI, 260, .inl fb)), (lw, .inr (1, [.ref l1, .ref l2, .ref l3, .ref l4, .ref l5, .ref l6, .ref l7, .int (nI zo_44), .int (nI k)])), (l1, .inl (cI, 240, .inl l1o_45))] := hD
            refine lv_aload_n hx hb dX2_readSum_75 rfl (lv_at hl 1 rfl) ?_
            refine va_get (D := D) (ci := 2) (v := .ref lw) (C := RX2) (T := TX2) (N := 2) hx hb htb itX2 hown hK hP 0 rfl rfl 1 (by decide) (htb _ k_289) (fun _ h9 => h9) rfl dX2_readSum_76 ?_
            refine lv_iload_n hx hb dX2_readSum_79 rfl (lv_at hl 0 rfl) ?_
            refine lv_iconst (v := 0) hx hb dX2_readSum_80 (by decide) ?_
            refine cVV (As := [.int 5, .int 0]) (rest := []) (n := 2) (ci := 1) (q0 := 0) (wr := [(h0, .inr (2, [.ref tx, .ref lw])), (tx, .inr (6, [.ref tp, .int (nI N), .int (nI Po_42), .int fo_43])), (tp, .inr (5, [.ref by_, .int (nI T)])), (by_, .inl (cI, 260, .inl fb))]) X hN hK hP hD hS hA (c_X1_addStep l D cI cB _ lw l1 l2 l3 l4 l5 l6 l7 zo_44 k 5 0 l1o_45 hw_46.1 hk) (gV k_594 k_595 k_596 k_97 k_597) (by decide +kernel) ⟨Nat.le_of_ble_eq_true rfl, Nat.le_of_ble_eq_true rfl⟩ ⟨rfl, rfl⟩ [4, 5] [0, 1, 2, 3] rfl rfl (by decide) (by decide) rfl rfl rfl rfl rfl hl.1 (Nat.le_of_ble_eq_true rfl) dX2_readSum_81 ⟨Nat.le_of_ble_eq_true rfl, Nat.le_of_ble_eq_true rfl⟩ (fun u H locs hw_50 hP hD hS => ?_)
            obtain ⟨zo_48, l1_fo_49⟩ := u
            try dsimp only at hw_50
            have hP : va_P D vwCl [(h0, .inr (2, [.ref tx, .ref lw])), (tx, .inr (6, [.ref tp, .int (nI N), .int (nI Po_42), .int fo_43])), (tp, .inr (5, [.ref by_, .int (nI T)])), (by_, .inl (cI, 260, .inl fb)), (lw, .inr (1, [.ref l1, .ref l2, .ref l3, .ref l4, .ref l5, .ref l6, .ref l7, .int (nI zo_48), .int (nI k)])), (l1, .inl (cI, 240, .inl l1_fo_49))] H := hP
            have hD : va_D A [(h0, .inr (2, [.ref tx, .ref lw])), (tx, .inr (6, [.ref tp, .int (nI N), .int (nI Po_42), .int fo_43])), (tp, .inr (5, [.ref by_, .int (nI T)])), (by_, .inl (cI, 260, .inl fb)), (lw, .inr (1, [.ref l1, .ref l2, .ref l3, .ref l4, .ref l5, .ref l6, .ref l7, .int (nI zo_48), .int (nI k)])), (l1, .inl (cI, 240, .inl l1_fo_49))] := hD
            refine lv_iinc (v := (nI (i + 1))) (lv' := [(2, .int (nI (i + 1))), (3, .int 5), (0, .ref h0), (1, .int 2)]) hx hb dX2_readSum_84 hl (k := 3) rfl (nI_1 i) (by decide) rfl (fun ls hl => ?_)
            refine lv_goto (tgt := 7) hx hb dX2_readSum_87 (by decide) ?_
            exact ih_7 (i + 1) Po_42 fo_43 zo_48 l1_fo_49 (by omega) hw_50 (hq.more hs5 hw_46.2.1) (fun z w => by have := (((hw_46.2.1.2.2.2.2 rfl).1 z).1); have := hiP rfl w; omega) hw_46.2.2 _ _ (hP.sub [0, 1, 2, 3, 4, 5] rfl) (hD.sub [0, 1, 2, 3, 4, 5] (by decide) rfl) hS _ (lv_sub hl [2, 3, 0] rfl)
  exact loop_7 240 0 Po_2 fo_3 zo_4 l1o_5 (by omega) hw_6.1 hw_6.2.1 (fun z w => (((hw_6.2.1.2.2.2.2 w).1 z).1 |> fun y => by omega)) hw_6.2.2 _ _ (hP.sub [0, 1, 2, 3, 4, 5] rfl) (hD.sub [0, 1, 2, 3, 4, 5] (by decide) rfl) hS _ (lv_sub hl [1, 2, 0] rfl)

set_option maxRecDepth 100000 in
set_option maxHeartbeats 4000000 in
theorem c_rfP_1 (l : Launch) (D : va_G) (cI cB : ClassId) (sz : Nat) (kk : KT) (h0 : Nat) (tx : Nat) (tp : Nat) (N : Nat) (P : Nat) (fa : Int32) (by_ : Nat) (T : Nat) (fb : Nat → Int32) (lw : Nat) (l1 : Nat) (l2 : Nat) (l3 : Nat) (l4 : Nat) (l5 : Nat) (l6 : Nat) (l7 : Nat) (z : Nat) (k : Nat) (q1 : Nat → Int32) (hT : T ≤ 260) (hNT : N ≤ T) (hPN : P ≤ N) (hN2 : N ≤ 240) (hfa : fa = 0 ∨ fa < 0) (hbr : BR N fb) (hz : z ≤ 240) (hk : k ≤ 16) : MVk (S := ((Nat) × (Int32) × (Nat) × (Nat → Int32))) l D cI cB kk yX2_readFactor cX2_readFactor 3 (rm 20 453) [.ref h0, .int 1] [(h0, .inr (2, [.ref tx, .ref lw])), (tx, .inr (6, [.ref tp, .int (nI N), .int (nI P), .int fa])), (tp, .inr (5, [.ref by_, .int (nI T)])), (by_, .inl (cI, 260, .inl fb)), (lw, .inr (1, [.ref l1, .ref l2, .ref l3, .ref l4, .ref l5, .ref l6, .ref l7, .int (nI z), .int (nI k)])), (l1, .inl (cI, 240, .inl q1))] sz (fun u => u.2.2.1 ≤ 240 ∧ FCQ fb N 5 P u.1 fa u.2.1) (fun u : ((Nat) × (Int32) × (Nat) × (Nat → Int32)) => [(h0, .inr (2, [.ref tx, .ref lw])), (tx, .inr (6, [.ref tp, .int (nI N), .int (nI u.1), .int u.2.1])), (tp, .inr (5, [.ref by_, .int (nI T)])), (by_, .inl (cI, 260, .inl fb)), (lw, .inr (1, [.ref l1, .ref l2, .ref l3, .ref l4, .ref l5, .ref l6, .ref l7, .int (nI u.2.2.1), .int (nI k)])), (l1, .inl (cI, 240, .inl u.2.2.2))]) := by
  refine MVk.of (by decide) (Nat.le_of_ble_eq_true rfl) ?_
  intro p e s m below meth c Q ls A X hin hN hKO hP hK hD hA hl ret
  have hS : va_S A s.heap s.heap [] := va_S.rf
  obtain ⟨hx, hb, hml, hown, htb⟩ := id X
  have hl : lv_has ls 3 [(0, .ref h0), (1, .int 1)] := hl
  refine lv_aload_n hx hb dX2_readFactor_0 rfl (lv_at hl 0 rfl) ?_
  refine va_ldcS hx hb hown hKO.2.2.2.2.2 dX2_readFactor_1 ?_
  refine cVRk (As := [.ref (kk.2.1 1)]) (rest := []) (n := 1) (ci := 2) (q0 := 0) X hN hKO hS hK hP (c_placeInP1 l D cI cB kk h0 lw tx tp N P fa by_ T fb hT hNT hPN hbr) (gV k_479 k_481 k_1 k_99 k_482) (by decide +kernel) ⟨Nat.le_of_ble_eq_true rfl, Nat.le_of_ble_eq_true rfl⟩ ⟨rfl, rfl⟩ [0, 1, 2, 3] rfl rfl rfl rfl rfl rfl hl.1 (Nat.le_of_ble_eq_true rfl) dX2_readFactor_3 ⟨Nat.le_of_ble_eq_true rfl, Nat.le_of_ble_eq_true rfl⟩ (fun r_1 hr_1 => ?_)
  subst hr_1
  refine lv_topi (fun x_2 ex_2 => ?_)
  refine lv_istore_n (lv' := [(2, .int x_2), (0, .ref h0), (1, .int 1)]) hx hb dX2_readFactor_6 rfl hl (by decide) rfl (fun ls hl => ?_)
  refine lv_iload_n hx hb dX2_readFactor_7 rfl (lv_at hl 0 rfl) ?_
  refine lv_if_lt (tgt := 36) hx hb dX2_readFactor_8 (by decide) (fun c_8 => ?_) (fun c_8 => ?_)
  · refine lv_aload_n hx hb dX2_readFactor_36 rfl (lv_at hl 1 rfl) ?_
    refine va_get (D := D) (ci := 2) (v := .ref tx) (C := RX2) (T := TX2) (N := 2) hx hb htb itX2 hown hK hP 0 rfl rfl 0 (by decide) (htb _ k_288) (fun _ h9 => h9) rfl dX2_readFactor_37 ?_
    refine cVR (As := []) (rest := []) (n := 0) (ci := 6) (q0 := 0) X hN hK hP (c_signP l D cI cB tx tp N P fa by_ T fb hT hNT hPN) (gV k_483 k_484 k_485 k_98 k_486) (by decide +kernel) ⟨Nat.le_of_ble_eq_true rfl, Nat.le_of_ble_eq_true rfl⟩ ⟨rfl, rfl⟩ [1, 2, 3] rfl rfl rfl rfl rfl rfl hl.1 (Nat.le_of_ble_eq_true rfl) dX2_readFactor_40 ⟨Nat.le_of_ble_eq_true rfl, Nat.le_of_ble_eq_true rfl⟩ (fun r_3 hr_3 => ?_)
    subst hr_3
    refine lv_bipush (v := 91) hx hb dX2_readFactor_43 (by decide) ?_
    refine lv_icmp_ne (tgt := 75) hx hb dX2_readFactor_45 (by decide) (fun c_45 => ?_) (fun c_45 => ?_)
    · refine lv_aload_n hx hb dX2_readFactor_75 rfl (lv_at hl 1 rfl) ?_
      refine va_get (D := D) (ci := 2) (v := .ref lw) (C := RX2) (T := TX2) (N := 2) hx hb htb itX2 hown hK hP 0 rfl rfl 1 (by decide) (htb _ k_289) (fun _ h9 => h9) rfl dX2_readFactor_76 ?_
      refine lv_iconst (v := 0) hx hb dX2_readFactor_79 (by decide) ?_
      refine lv_aload_n hx hb dX2_readFactor_80 rfl (lv_at hl 1 rfl) ?_
      refine va_get (D := D) (ci := 2) (v := .ref tx) (C := RX2) (T := TX2) (N := 2) hx hb htb itX2 hown hK hP 0 rfl rfl 0 (by decide) (htb _ k_288) (fun _ h9 => h9) rfl dX2_readFactor_81 ?_
      refine lv_iconst (v := 5) hx hb dX2_readFactor_84 (by decide) ?_
      refine lv_iconst (v := 2) hx hb dX2_readFactor_85 (by decide) ?_
      refine cVI (As := [.int 5, .int 2]) (rest := [.int 0, .ref lw]) (n := 2) (ci := 6) (q0 := 0) (wr := [(h0, .inr (2, [.ref tx, .ref lw])), (lw, .inr (1, [.ref l1, .ref l2, .ref l3, .ref l4, .ref l5, .ref l6, .ref l7, .int (nI z), .int (nI k)])), (l1, .inl (cI, 240, .inl q1))]) X hN hK hP hD hS hA (c_numberP l D cI cB _ tx tp N P fa by_ T fb 5 2 hT hNT hPN (by decide)) (gV k_612 k_613 k_614 k_98 k_615) (by decide +kernel) ⟨Nat.le_of_ble_eq_true rfl, Nat.le_of_ble_eq_true rfl⟩ ⟨rfl, rfl⟩ [1, 2, 3] [0, 4, 5] rfl rfl (by decide) (by decide) rfl rfl rfl rfl rfl hl.1 (Nat.le_of_ble_eq_true rfl) dX2_readFactor_86 ⟨Nat.le_of_ble_eq_true rfl, Nat.le_of_ble_eq_true rfl⟩ (fun r_4 u H locs hw_7 hP hD hS => ?_)
      obtain ⟨Po_5, fo_6⟩ := u
      try dsimp only at hw_7
      have hP : va_P D vwCl [(h0, .inr (2, [.ref tx, .ref lw])), (lw, .inr (1, [.ref l1, .ref l2, .ref l3, .ref l4, .ref l5, .ref l6, .ref l7, .int (nI z), .int (nI k)])), (l1, .inl (cI, 240, .inl q1)), (tx, .inr (6, [.ref tp, .int (nI N), .int (nI Po_5), .int fo_6])), (tp, .inr (5, [.ref by_, .int (nI T)])), (by_, .inl (cI, 260, .inl fb))] H := hP
      have hD : va_D A [(h0, .inr (2, [.ref tx, .ref lw])), (lw, .inr (1, [.ref l1, .ref l2, .ref l3, .ref l4, .ref l5, .ref l6, .ref l7, .int (nI z), .int (nI k)])), (l1, .inl (cI, 240, .inl q1)), (tx, .inr (6, [.ref tp, .int (nI N), .int (nI Po_5), .int fo_6])), (tp, .inr (5, [.ref by_, .int (nI T)])), (by_, .inl (cI, 260, .inl fb))] := hD
      refine cVV (As := [.int 0, .int r_4]) (rest := []) (n := 2) (ci := 1) (q0 := 0) (wr := [(h0, .inr (2, [.ref tx, .ref lw])), (tx, .inr (6, [.ref tp, .int (nI N), .int (nI Po_5), .int fo_6])), (tp, .inr (5, [.ref by_, .int (nI T)])), (by_, .inl (cI, 260, .inl fb))]) X hN hK hP hD hS hA (c_X1_addStep l D cI cB _ lw l1 l2 l3 l4 l5 l6 l7 z k 0 r_4 q1 hz hk) (gV k_594 k_595 k_596 k_97 k_597) (by decide +kernel) ⟨Nat.le_of_ble_eq_true rfl, Nat.le_of_ble_eq_true rfl⟩ ⟨rfl, rfl⟩ [1, 2] [0, 3, 4, 5] rfl rfl (by decide) (by decide) rfl rfl rfl rfl rfl hl.1 (Nat.le_of_ble_eq_true rfl) dX2_readFactor_89 ⟨Nat.le_of_ble_eq_true rfl, Nat.le_of_ble_eq_true rfl⟩ (fun u H locs hw_11 hP hD hS => ?_)
      obtain ⟨zo_9, l1_fo_10⟩ := u
      try dsimp only at hw_11
      have hP : va_P D vwCl [(h0, .inr (2, [.ref tx, .ref lw])), (tx, .inr (6, [.ref tp, .int (nI N), .int (nI Po_5), .int fo_6])), (tp, .inr (5, [.ref by_, .int (nI T)])), (by_, .inl (cI, 260, .inl fb)), (lw, .inr (1, [.ref l1, .ref l2, .ref l3, .ref l4, .ref l5, .ref l6, .ref l7, .int (nI zo_9), .int (nI k)])), (l1, .inl (cI, 240, .inl l1_fo_10))] H := hP
      have hD : va_D A [(h0, .inr (2, [.ref tx, .ref lw])), (tx, .inr (6, [.ref tp, .int (nI N), .int (nI Po_5), .int fo_6])), (tp, .inr (5, [.ref by_, .int (nI T)])), (by_, .inl (cI, 260, .inl fb)), (lw, .inr (1, [.ref l1, .ref l2, .ref l3, .ref l4, .ref l5, .ref l6, .ref l7, .int (nI zo_9), .int (nI k)])), (l1, .inl (cI, 240, .inl l1_fo_10))] := hD
      exact ret _ _ _ _ (Po_5, fo_6, zo_9, l1_fo_10) dX2_readFactor_92 (⟨hw_11, by have q := FCQ.num (k := 5) (f := fb) (N := N) (p := P) (fa := fa) (by omega) hPN hfa (kp1_lt (by rw [← ex_2]; exact c_8)) c_45 (by rw [← hw_7.1]; exact hw_7.2.2.2); rw [← hw_7.1, ← hw_7.2.2.1] at q; exact q⟩) (hP.sub [0, 1, 2, 3, 4, 5] rfl) (hD.sub [0, 1, 2, 3, 4, 5] (by decide) rfl) hS
    · have h91 := c_45
      obtain ⟨hf0, hlt⟩ := sQz (fun z => absurd (z.symm.trans h91) (by decide))
      subst hf0
      rw [sQ0] at h91
      refine lv_aload_n hx hb dX2_readFactor_48 rfl (lv_at hl 1 rfl) ?_
      refine lv_iload_n hx hb dX2_readFactor_49 rfl (lv_at hl 2 rfl) ?_
      refine cVI (As := [.int 1]) (rest := []) (n := 1) (ci := 2) (q0 := 0) (wr := [(tp, .inr (5, [.ref by_, .int (nI T)])), (by_, .inl (cI, 260, .inl fb)), (lw, .inr (1, [.ref l1, .ref l2, .ref l3, .ref l4, .ref l5, .ref l6, .ref l7, .int (nI z), .int (nI k)])), (l1, .inl (cI, 240, .inl q1))]) X hN hK hP hD hS hA (c_opensP l D cI cB _ h0 lw tx tp N P 0 1 hlt) (gV k_598 k_600 k_5 k_99 k_601) (by decide +kernel) ⟨Nat.le_of_ble_eq_true rfl, Nat.le_of_ble_eq_true rfl⟩ ⟨rfl, rfl⟩ [0, 1] [2, 3, 4, 5] rfl rfl (by decide) (by decide) rfl rfl rfl rfl rfl hl.1 (Nat.le_of_ble_eq_true rfl) dX2_readFactor_50 ⟨Nat.le_of_ble_eq_true rfl, Nat.le_of_ble_eq_true rfl⟩ (fun r_12 u H locs hw_15 hP hD hS => ?_)
      obtain ⟨Po_13, fo_14⟩ := u
      try dsimp only at hw_15
      have hP : va_P D vwCl [(tp, .inr (5, [.ref by_, .int (nI T)])), (by_, .inl (cI, 260, .inl fb)), (lw, .inr (1, [.ref l1, .ref l2, .ref l3, .ref l4, .ref l5, .ref l6, .ref l7, .int (nI z), .int (nI k)])), (l1, .inl (cI, 240, .inl q1)), (h0, .inr (2, [.ref tx, .ref lw])), (tx, .inr (6, [.ref tp, .int (nI N), .int (nI Po_13), .int fo_14]))] H := hP
      have hD : va_D A [(tp, .inr (5, [.ref by_, .int (nI T)])), (by_, .inl (cI, 260, .inl fb)), (lw, .inr (1, [.ref l1, .ref l2, .ref l3, .ref l4, .ref l5, .ref l6, .ref l7, .int (nI z), .int (nI k)])), (l1, .inl (cI, 240, .inl q1)), (h0, .inr (2, [.ref tx, .ref lw])), (tx, .inr (6, [.ref tp, .int (nI N), .int (nI Po_13), .int fo_14]))] := hD
      obtain rfl : r_12 = 1 := hw_15.1.trans (by decide)
      obtain ⟨eo1, eo2⟩ := hw_15.2.1 (by decide)
      rw [eo1, eo2] at hP hD
      have hP : va_P D vwCl [(tp, .inr (5, [.ref by_, .int (nI T)])), (by_, .inl (cI, 260, .inl fb)), (lw, .inr (1, [.ref l1, .ref l2, .ref l3, .ref l4, .ref l5, .ref l6, .ref l7, .int (nI z), .int (nI k)])), (l1, .inl (cI, 240, .inl q1)), (h0, .inr (2, [.ref tx, .ref lw])), (tx, .inr (6, [.ref tp, .int (nI N), .int (nI (P + 1)), .int 0]))] H := hP
      have hD : va_D A [(tp, .inr (5, [.ref by_, .int (nI T)])), (by_, .inl (cI, 260, .inl fb)), (lw, .inr (1, [.ref l1, .ref l2, .ref l3, .ref l4, .ref l5, .ref l6, .ref l7, .int (nI z), .int (nI k)])), (l1, .inl (cI, 240, .inl q1)), (h0, .inr (2, [.ref tx, .ref lw])), (tx, .inr (6, [.ref tp, .int (nI N), .int (nI (P + 1)), .int 0]))] := hD
      refine lv_if_eq (tgt := 92) hx hb dX2_readFactor_53 (by decide) (fun c_53 => absurd c_53 (by decide)) (fun _ => ?_)
      refine lv_aload_n hx hb dX2_readFactor_56 rfl (lv_at hl 1 rfl) ?_
      refine lv_iload_n hx hb dX2_readFactor_57 rfl (lv_at hl 2 rfl) ?_
      refine lv_iconst (v := 1) hx hb dX2_readFactor_58 (by decide) ?_
      refine lv_iadd hx hb dX2_readFactor_59 ?_
      refine tv (z := 2) (by decide) ?_
      refine cVVk (As := [.int 2]) (rest := []) (n := 1) (ci := 2) (q0 := 0) (wr := []) X hN hKO hK hP hD hS hA (c_rsP_2 l D cI cB _ kk h0 tx tp N (P + 1) 0 by_ T fb lw l1 l2 l3 l4 l5 l6 l7 z k q1 hT hNT (by omega) hN2 (Or.inl rfl) hbr hz hk) (gV k_581 k_583 k_2 k_99 k_584) (by decide +kernel) ⟨Nat.le_of_ble_eq_true rfl, Nat.le_of_ble_eq_true rfl⟩ ⟨rfl, rfl⟩ [4, 5, 0, 1, 2, 3] [] rfl rfl (by decide) (by decide) rfl rfl rfl rfl rfl hl.1 (Nat.le_of_ble_eq_true rfl) dX2_readFactor_60 ⟨Nat.le_of_ble_eq_true rfl, Nat.le_of_ble_eq_true rfl⟩ (fun u H locs hw_21 hP hD hS => ?_)
      obtain ⟨Po_17, fo_18, zo_19, l1o_20⟩ := u
      try dsimp only at hw_21
      have hP : va_P D vwCl [(h0, .inr (2, [.ref tx, .ref lw])), (tx, .inr (6, [.ref tp, .int (nI N), .int (nI Po_17), .int fo_18])), (tp, .inr (5, [.ref by_, .int (nI T)])), (by_, .inl (cI, 260, .inl fb)), (lw, .inr (1, [.ref l1, .ref l2, .ref l3, .ref l4, .ref l5, .ref l6, .ref l7, .int (nI zo_19), .int (nI k)])), (l1, .inl (cI, 240, .inl l1o_20))] H := hP
      have hD : va_D A [(h0, .inr (2, [.ref tx, .ref lw])), (tx, .inr (6, [.ref tp, .int (nI N), .int (nI Po_17), .int fo_18])), (tp, .inr (5, [.ref by_, .int (nI T)])), (by_, .inl (cI, 260, .inl fb)), (lw, .inr (1, [.ref l1, .ref l2, .ref l3, .ref l4, .ref l5, .ref l6, .ref l7, .int (nI zo_19), .int (nI k)])), (l1, .inl (cI, 240, .inl l1o_20))] := hD
      refine lv_aload_n hx hb dX2_readFactor_63 rfl (lv_at hl 1 rfl) ?_
      refine va_get (D := D) (ci := 2) (v := .ref tx) (C := RX2) (T := TX2) (N := 2) hx hb htb itX2 hown hK hP 0 rfl rfl 0 (by decide) (htb _ k_288) (fun _ h9 => h9) rfl dX2_readFactor_64 ?_
      refine lv_bipush (v := 93) hx hb dX2_readFactor_67 (by decide) ?_
      refine cVV (As := [.int 93]) (rest := []) (n := 1) (ci := 6) (q0 := 0) (wr := [(h0, .inr (2, [.ref tx, .ref lw])), (lw, .inr (1, [.ref l1, .ref l2, .ref l3, .ref l4, .ref l5, .ref l6, .ref l7, .int (nI zo_19), .int (nI k)])), (l1, .inl (cI, 240, .inl l1o_20))]) X hN hK hP hD hS hA (c_expectP l D cI cB _ tx tp N Po_17 fo_18 by_ T fb 93 hT hNT hw_21.2.1.2.2.2.1 (by decide)) (gV k_602 k_603 k_604 k_98 k_605) (by decide +kernel) ⟨Nat.le_of_ble_eq_true rfl, Nat.le_of_ble_eq_true rfl⟩ ⟨rfl, rfl⟩ [1, 2, 3] [0, 4, 5] rfl rfl (by decide) (by decide) rfl rfl rfl rfl rfl hl.1 (Nat.le_of_ble_eq_true rfl) dX2_readFactor_69 ⟨Nat.le_of_ble_eq_true rfl, Nat.le_of_ble_eq_true rfl⟩ (fun u H locs hw_25 hP hD hS => ?_)
      obtain ⟨Po_23, fo_24⟩ := u
      try dsimp only at hw_25
      have hP : va_P D vwCl [(h0, .inr (2, [.ref tx, .ref lw])), (lw, .inr (1, [.ref l1, .ref l2, .ref l3, .ref l4, .ref l5, .ref l6, .ref l7, .int (nI zo_19), .int (nI k)])), (l1, .inl (cI, 240, .inl l1o_20)), (tx, .inr (6, [.ref tp, .int (nI N), .int (nI Po_23), .int fo_24])), (tp, .inr (5, [.ref by_, .int (nI T)])), (by_, .inl (cI, 260, .inl fb))] H := hP
      have hD : va_D A [(h0, .inr (2, [.ref tx, .ref lw])), (lw, .inr (1, [.ref l1, .ref l2, .ref l3, .ref l4, .ref l5, .ref l6, .ref l7, .int (nI zo_19), .int (nI k)])), (l1, .inl (cI, 240, .inl l1o_20)), (tx, .inr (6, [.ref tp, .int (nI N), .int (nI Po_23), .int fo_24])), (tp, .inr (5, [.ref by_, .int (nI T)])), (by_, .inl (cI, 260, .inl fb))] := hD
      refine lv_goto (tgt := 92) hx hb dX2_readFactor_72 (by decide) ?_
      exact ret _ _ _ _ (Po_23, fo_24, zo_19, l1o_20) dX2_readFactor_92 (⟨hw_21.1, FCQ.brk (by omega) h91 hw_21.2.1 hw_21.2.2 hw_25.1 hw_25.2.1 hw_25.2.2.2⟩) (hP.sub [0, 3, 4, 5, 1, 2] rfl) (hD.sub [0, 3, 4, 5, 1, 2] (by decide) rfl) hS
  · obtain ⟨hf0, hlt, hfq⟩ := FCQ.letter (k := 5) (fun z => c_8 (by rw [ex_2, z]; decide))
    refine lv_aload_n hx hb dX2_readFactor_11 rfl (lv_at hl 1 rfl) ?_
    refine va_get (D := D) (ci := 2) (v := .ref tx) (C := RX2) (T := TX2) (N := 2) hx hb htb itX2 hown hK hP 0 rfl rfl 0 (by decide) (htb _ k_288) (fun _ h9 => h9) rfl dX2_readFactor_12 ?_
    refine lv_dup hx hb dX2_readFactor_15 rfl ?_
    refine va_getN (D := D) (ci := 6) (v := .int (nI P)) (C := RX6) (T := TX6) (N := 4) hx hb htb itX6 hown hK hP 1 rfl rfl 2 (by decide) (va_Nw.use rfl (hN _ n_264 rfl)) (fun _ h9 => h9) rfl dX2_readFactor_16 ?_
    refine lv_iconst (v := 1) hx hb dX2_readFactor_19 (by decide) ?_
    refine lv_iadd hx hb dX2_readFactor_20 ?_
    refine tv (z := (nI (P + 1))) (nI_1 P) ?_
    refine va_putN (D := D) (ci := 6) (v := .int (nI (P + 1))) (ty := .int) (C := RX6) (T := TX6) (N := 4) hx hb htb itX6 tyX6 tyX6_ok nmX6 hown hK hP hD hS 1 rfl rfl 2 (by decide) (va_Nw.use rfl (hN _ n_264 rfl)) (fun _ h9 => h9) rfl (tyX6_ok 2 (by decide)) rfl rfl (Nat.le_of_ble_eq_true rfl) dX2_readFactor_21 (fun H locs hP hD hS => ?_)
    have hP : va_P D vwCl [(h0, .inr (2, [.ref tx, .ref lw])), (tx, .inr (6, [.ref tp, .int (nI N), .int (nI (P + 1)), .int fa])), (tp, .inr (5, [.ref by_, .int (nI T)])), (by_, .inl (cI, 260, .inl fb)), (lw, .inr (1, [.ref l1, .ref l2, .ref l3, .ref l4, .ref l5, .ref l6, .ref l7, .int (nI z), .int (nI k)])), (l1, .inl (cI, 240, .inl q1))] H := hP
    have hD : va_D A [(h0, .inr (2, [.ref tx, .ref lw])), (tx, .inr (6, [.ref tp, .int (nI N), .int (nI (P + 1)), .int fa])), (tp, .inr (5, [.ref by_, .int (nI T)])), (by_, .inl (cI, 260, .inl fb)), (lw, .inr (1, [.ref l1, .ref l2, .ref l3, .ref l4, .ref l5, .ref l6, .ref l7, .int (nI z), .int (nI k)])), (l1, .inl (cI, 240, .inl q1))] := hD
    refine lv_aload_n hx hb dX2_readFactor_24 rfl (lv_at hl 1 rfl) ?_
    refine va_get (D := D) (ci := 2) (v := .ref lw) (C := RX2) (T := TX2) (N := 2) hx hb htb itX2 hown hK hP 0 rfl rfl 1 (by decide) (htb _ k_289) (fun _ h9 => h9) rfl dX2_readFactor_25 ?_
    refine lv_iconst (v := 1) hx hb dX2_readFactor_28 (by decide) ?_
    refine lv_iload_n hx hb dX2_readFactor_29 rfl (lv_at hl 0 rfl) ?_
    refine cVV (As := [.int 1, .int x_2]) (rest := []) (n := 2) (ci := 1) (q0 := 0) (wr := [(h0, .inr (2, [.ref tx, .ref lw])), (tx, .inr (6, [.ref tp, .int (nI N), .int (nI (P + 1)), .int fa])), (tp, .inr (5, [.ref by_, .int (nI T)])), (by_, .inl (cI, 260, .inl fb))]) X hN hK hP hD hS hA (c_X1_addStep l D cI cB _ lw l1 l2 l3 l4 l5 l6 l7 z k 1 x_2 q1 hz hk) (gV k_594 k_595 k_596 k_97 k_597) (by decide +kernel) ⟨Nat.le_of_ble_eq_true rfl, Nat.le_of_ble_eq_true rfl⟩ ⟨rfl, rfl⟩ [4, 5] [0, 1, 2, 3] rfl rfl (by decide) (by decide) rfl rfl rfl rfl rfl hl.1 (Nat.le_of_ble_eq_true rfl) dX2_readFactor_30 ⟨Nat.le_of_ble_eq_true rfl, Nat.le_of_ble_eq_true rfl⟩ (fun u H locs hw_29 hP hD hS => ?_)
    obtain ⟨zo_27, l1_fo_28⟩ := u
    try dsimp only at hw_29
    have hP : va_P D vwCl [(h0, .inr (2, [.ref tx, .ref lw])), (tx, .inr (6, [.ref tp, .int (nI N), .int (nI (P + 1)), .int fa])), (tp, .inr (5, [.ref by_, .int (nI T)])), (by_, .inl (cI, 260, .inl fb)), (lw, .inr (1, [.ref l1, .ref l2, .ref l3, .ref l4, .ref l5, .ref l6, .ref l7, .int (nI zo_27), .int (nI k)])), (l1, .inl (cI, 240, .inl l1_fo_28))] H := hP
    have hD : va_D A [(h0, .inr (2, [.ref tx, .ref lw])), (tx, .inr (6, [.ref tp, .int (nI N), .int (nI (P + 1)), .int fa])), (tp, .inr (5, [.ref by_, .int (nI T)])), (by_, .inl (cI, 260, .inl fb)), (lw, .inr (1, [.ref l1, .ref l2, .ref l3, .ref l4, .ref l5, .ref l6, .ref l7, .int (nI zo_27), .int (nI k)])), (l1, .inl (cI, 240, .inl l1_fo_28))] := hD
    refine lv_goto (tgt := 92) hx hb dX2_readFactor_33 (by decide) ?_
    exact ret _ _ _ _ ((P + 1), fa, zo_27, l1_fo_28) dX2_readFactor_92 (⟨hw_29, hfq⟩) (hP.sub [0, 1, 2, 3, 4, 5] rfl) (hD.sub [0, 1, 2, 3, 4, 5] (by decide) rfl) hS

set_option maxRecDepth 100000 in
set_option maxHeartbeats 4000000 in
theorem c_rtP_1 (l : Launch) (D : va_G) (cI cB : ClassId) (sz : Nat) (kk : KT) (h0 : Nat) (tx : Nat) (tp : Nat) (N : Nat) (P : Nat) (fa : Int32) (by_ : Nat) (T : Nat) (fb : Nat → Int32) (lw : Nat) (l1 : Nat) (l2 : Nat) (l3 : Nat) (l4 : Nat) (l5 : Nat) (l6 : Nat) (l7 : Nat) (z : Nat) (k : Nat) (q1 : Nat → Int32) (hT : T ≤ 260) (hNT : N ≤ T) (hPN : P ≤ N) (hN2 : N ≤ 240) (hfa : fa = 0 ∨ fa < 0) (hbr : BR N fb) (hz : z ≤ 240) (hk : k ≤ 16) : MVk (S := ((Nat) × (Int32) × (Nat) × (Nat → Int32))) l D cI cB kk yX2_readTerm cX2_readTerm 4 (rm 21 475) [.ref h0, .int 1] [(h0, .inr (2, [.ref tx, .ref lw])), (tx, .inr (6, [.ref tp, .int (nI N), .int (nI P), .int fa])), (tp, .inr (5, [.ref by_, .int (nI T)])), (by_, .inl (cI, 260, .inl fb)), (lw, .inr (1, [.ref l1, .ref l2, .ref l3, .ref l4, .ref l5, .ref l6, .ref l7, .int (nI z), .int (nI k)])), (l1, .inl (cI, 240, .inl q1))] sz (fun u => u.2.2.1 ≤ 240 ∧ FCQ fb N 5 P u.1 fa u.2.1 ∧ (u.2.1 = 0 → ¬ MU3 (chF fb N u.1))) (fun u : ((Nat) × (Int32) × (Nat) × (Nat → Int32)) => [(h0, .inr (2, [.ref tx, .ref lw])), (tx, .inr (6, [.ref tp, .int (nI N), .int (nI u.1), .int u.2.1])), (tp, .inr (5, [.ref by_, .int (nI T)])), (by_, .inl (cI, 260, .inl fb)), (lw, .inr (1, [.ref l1, .ref l2, .ref l3, .ref l4, .ref l5, .ref l6, .ref l7, .int (nI u.2.2.1), .int (nI k)])), (l1, .inl (cI, 240, .inl u.2.2.2))]) := by
  refine MVk.of (by decide) (Nat.le_of_ble_eq_true rfl) ?_
  intro p e s m below meth c Q ls A X hin hN hKO hP hK hD hA hl ret
  have hS : va_S A s.heap s.heap [] := va_S.rf
  obtain ⟨hx, hb, hml, hown, htb⟩ := id X
  have hl : lv_has ls 4 [(0, .ref h0), (1, .int 1)] := hl
  refine lv_aload_n hx hb dX2_readTerm_0 rfl (lv_at hl 0 rfl) ?_
  refine lv_iload_n hx hb dX2_readTerm_1 rfl (lv_at hl 1 rfl) ?_
  refine cVVk (As := [.int 1]) (rest := []) (n := 1) (ci := 2) (q0 := 0) (wr := []) X hN hKO hK hP hD hS hA (c_rfP_1 l D cI cB _ kk h0 tx tp N P fa by_ T fb lw l1 l2 l3 l4 l5 l6 l7 z k q1 hT hNT hPN hN2 hfa hbr hz hk) (gV k_589 k_591 k_4 k_99 k_592) (by decide +kernel) ⟨Nat.le_of_ble_eq_true rfl, Nat.le_of_ble_eq_true rfl⟩ ⟨rfl, rfl⟩ [0, 1, 2, 3, 4, 5] [] rfl rfl (by decide) (by decide) rfl rfl rfl rfl rfl hl.1 (Nat.le_of_ble_eq_true rfl) dX2_readTerm_2 ⟨Nat.le_of_ble_eq_true rfl, Nat.le_of_ble_eq_true rfl⟩ (fun u H locs hw_6 hP hD hS => ?_)
  obtain ⟨Po_2, fo_3, zo_4, l1o_5⟩ := u
  try dsimp only at hw_6
  have hP : va_P D vwCl [(h0, .inr (2, [.ref tx, .ref lw])), (tx, .inr (6, [.ref tp, .int (nI N), .int (nI Po_2), .int fo_3])), (tp, .inr (5, [.ref by_, .int (nI T)])), (by_, .inl (cI, 260, .inl fb)), (lw, .inr (1, [.ref l1, .ref l2, .ref l3, .ref l4, .ref l5, .ref l6, .ref l7, .int (nI zo_4), .int (nI k)])), (l1, .inl (cI, 240, .inl l1o_5))] H := hP
  have hD : va_D A [(h0, .inr (2, [.ref tx, .ref lw])), (tx, .inr (6, [.ref tp, .int (nI N), .int (nI Po_2), .int fo_3])), (tp, .inr (5, [.ref by_, .int (nI T)])), (by_, .inl (cI, 260, .inl fb)), (lw, .inr (1, [.ref l1, .ref l2, .ref l3, .ref l4, .ref l5, .ref l6, .ref l7, .int (nI zo_4), .int (nI k)])), (l1, .inl (cI, 240, .inl l1o_5))] := hD
  refine lv_iconst (v := 0) hx hb dX2_readTerm_5 (by decide) ?_
  refine lv_istore_n (lv' := [(2, .int 0), (0, .ref h0), (1, .int 1)]) hx hb dX2_readTerm_6 rfl hl (by decide) rfl (fun ls hl => ?_)
  have loop_7 : ∀ (n i : Nat) (Pa : Nat) (fv : Int32) (za : Nat) (qa : Nat → Int32), n + i = 240 → (za ≤ 240) → (FCQ fb N 5 P Pa fa fv) → (fv = 0 → fa = 0 → i < Pa) → ∀ (H : Heap) (locs : List Loc), va_P D vwCl [(h0, .inr (2, [.ref tx, .ref lw])), (tx, .inr (6, [.ref tp, .int (nI N), .int (nI Pa), .int fv])), (tp, .inr (5, [.ref by_, .int (nI T)])), (by_, .inl (cI, 260, .inl fb)), (lw, .inr (1, [.ref l1, .ref l2, .ref l3, .ref l4, .ref l5, .ref l6, .ref l7, .int (nI za), .int (nI k)])), (l1, .inl (cI, 240, .inl qa))] H → va_D A [(h0, .inr (2, [.ref tx, .ref lw])), (tx, .inr (6, [.ref tp, .int (nI N), .int (nI Pa), .int fv])), (tp, .inr (5, [.ref by_, .int (nI T)])), (by_, .inl (cI, 260, .inl fb)), (lw, .inr (1, [.ref l1, .ref l2, .ref l3, .ref l4, .ref l5, .ref l6, .ref l7, .int (nI za), .int (nI k)])), (l1, .inl (cI, 240, .inl qa))] → va_S A s.heap H locs → ∀ (ls : Array Slot), lv_has ls 4 [(0, .ref h0), (1, .int 1), (2, .int (nI i))] → W p l e (rm 21 475) s m ([.ref h0, .int 1] : List Value).toArray below meth c H locs 0 0 Q (F0 m 7 ls []) := by
    intro n
    induction n with
    | zero =>
      intro i Pa fv za qa hni hza hq hiP H locs hP hD hS ls hl
      have hni_7 := hni
      have hi : i = 240 := by omega
      refine lv_iload_n hx hb dX2_readTerm_7 rfl (lv_at hl 2 rfl) ?_
      refine lv_sipush (v := 240) hx hb dX2_readTerm_8 (by decide) ?_
      refine lv_icmp_ge (tgt := 60) hx hb dX2_readTerm_11 (by decide) (fun _ => ?_) (fun c_11 => absurd (by rw [hi]; decide) c_11)
      exact ret _ _ _ _ (Pa, fv, za, qa) dX2_readTerm_60 (⟨hza, ⟨hq, fun z => absurd z (fun z => by have h2 := hq.2.1; have h4 := hq.2.2.2.1; exact (Classical.em (fa = 0)).elim (fun w => by have := hiP z w; omega) (fun w => w ((h2 w).symm.trans z)))⟩⟩) (hP.sub [0, 1, 2, 3, 4, 5] rfl) (hD.sub [0, 1, 2, 3, 4, 5] (by decide) rfl) hS
    | succ n ih_7 =>
      intro i Pa fv za qa hni hza hq hiP H locs hP hD hS ls hl
      have hni_7 := hni
      have hi : i < 240 := by omega
      refine lv_iload_n hx hb dX2_readTerm_7 rfl (lv_at hl 2 rfl) ?_
      refine lv_sipush (v := 240) hx hb dX2_readTerm_8 (by decide) ?_
      refine lv_icmp_ge (tgt := 60) hx hb dX2_readTerm_11 (by decide) (fun c_11 => absurd c_11 (nI_ge hi (by decide))) (fun _ => ?_)
      refine lv_aload_n hx hb dX2_readTerm_14 rfl (lv_at hl 0 rfl) ?_
      refine cVR (As := []) (rest := []) (n := 0) (ci := 2) (q0 := 0) X hN hK hP (c_factorStepP l D cI cB h0 lw tx tp N Pa fv by_ T fb hT hNT hq.2.2.2.1) (gV k_620 k_622 k_6 k_99 k_623) (by decide +kernel) ⟨Nat.le_of_ble_eq_true rfl, Nat.le_of_ble_eq_true rfl⟩ ⟨rfl, rfl⟩ [0, 1, 2, 3] rfl rfl rfl rfl rfl rfl hl.1 (Nat.le_of_ble_eq_true rfl) dX2_readTerm_15 ⟨Nat.le_of_ble_eq_true rfl, Nat.le_of_ble_eq_true rfl⟩ (fun rfs hrfs => ?_)
      refine lv_iconst (v := (-1)) hx hb dX2_readTerm_18 (by decide) ?_
      refine lv_icmp_eq (tgt := 60) hx hb dX2_readTerm_19 (by decide) (fun c_19 => ?_) (fun c_19 => ?_)
      · exact ret _ _ _ _ (Pa, fv, za, qa) dX2_readTerm_60 (⟨hza, ⟨hq, fun (z : fv = 0) => by have w := hrfs.1 c_19; rw [z, sQ0] at w; exact w⟩⟩) (hP.sub [0, 1, 2, 3, 4, 5] rfl) (hD.sub [0, 1, 2, 3, 4, 5] (by decide) rfl) hS
      · obtain ⟨hf0, hlt, hs5⟩ := sQs (sgM (hrfs.2 c_19))
        subst hf0
        refine lv_aload_n hx hb dX2_readTerm_22 rfl (lv_at hl 0 rfl) ?_
        refine cVR (As := []) (rest := []) (n := 0) (ci := 2) (q0 := 0) X hN hK hP (c_factorStepP l D cI cB h0 lw tx tp N Pa 0 by_ T fb hT hNT hq.2.2.2.1) (gV k_620 k_622 k_6 k_99 k_623) (by decide +kernel) ⟨Nat.le_of_ble_eq_true rfl, Nat.le_of_ble_eq_true rfl⟩ ⟨rfl, rfl⟩ [0, 1, 2, 3] rfl rfl rfl rfl rfl rfl hl.1 (Nat.le_of_ble_eq_true rfl) dX2_readTerm_23 ⟨Nat.le_of_ble_eq_true rfl, Nat.le_of_ble_eq_true rfl⟩ (fun r_7 hr_7 => ?_)
        refine lv_istore_n (lv' := [(3, .int r_7), (0, .ref h0), (1, .int 1), (2, .int (nI i))]) hx hb dX2_readTerm_26 rfl hl (by decide) rfl (fun ls hl => ?_)
        refine lv_aload_n hx hb dX2_readTerm_27 rfl (lv_at hl 1 rfl) ?_
        refine va_get (D := D) (ci := 2) (v := .ref tx) (C := RX2) (T := TX2) (N := 2) hx hb htb itX2 hown hK hP 0 rfl rfl 0 (by decide) (htb _ k_288) (fun _ h9 => h9) rfl dX2_readTerm_28 ?_
        refine lv_dup hx hb dX2_readTerm_31 rfl ?_
        refine va_getN (D := D) (ci := 6) (v := .int (nI Pa)) (C := RX6) (T := TX6) (N := 4) hx hb htb itX6 hown hK hP 1 rfl rfl 2 (by decide) (va_Nw.use rfl (hN _ n_264 rfl)) (fun _ h9 => h9) rfl dX2_readTerm_32 ?_
        refine lv_iconst (v := 1) hx hb dX2_readTerm_35 (by decide) ?_
        refine lv_iadd hx hb dX2_readTerm_36 ?_
        refine tv (z := (nI (Pa + 1))) (nI_1 Pa) ?_
        refine va_putN (D := D) (ci := 6) (v := .int (nI (Pa + 1))) (ty := .int) (C := RX6) (T := TX6) (N := 4) hx hb htb itX6 tyX6 tyX6_ok nmX6 hown hK hP hD hS 1 rfl rfl 2 (by decide) (va_Nw.use rfl (hN _ n_264 rfl)) (fun _ h9 => h9) rfl (tyX6_ok 2 (by decide)) rfl rfl (Nat.le_of_ble_eq_true rfl) dX2_readTerm_37 (fun H locs hP hD hS => ?_)
        have hP : va_P D vwCl [(h0, .inr (2, [.ref tx, .ref lw])), (tx, .inr (6, [.ref tp, .int (nI N), .int (nI (Pa + 1)), .int 0])), (tp, .inr (5, [.ref by_, .int (nI T)])), (by_, .inl (cI, 260, .inl fb)), (lw, .inr (1, [.ref l1, .ref l2, .ref l3, .ref l4, .ref l5, .ref l6, .ref l7, .int (nI za), .int (nI k)])), (l1, .inl (cI, 240, .inl qa))] H := hP
        have hD : va_D A [(h0, .inr (2, [.ref tx, .ref lw])), (tx, .inr (6, [.ref tp, .int (nI N), .int (nI (Pa + 1)), .int 0])), (tp, .inr (5, [.ref by_, .int (nI T)])), (by_, .inl (cI, 260, .inl fb)), (lw, .inr (1, [.ref l1, .ref l2, .ref l3, .ref l4, .ref l5, .ref l6, .ref l7, .int (nI za), .int (nI k)])), (l1, .inl (cI, 240, .inl qa))] := hD
        refine lv_aload_n hx hb dX2_readTerm_40 rfl (lv_at hl 1 rfl) ?_
        refine lv_iload_n hx hb dX2_readTerm_41 rfl (lv_at hl 2 rfl) ?_
        refine cVVk (As := [.int 1]) (rest := []) (n := 1) (ci := 2) (q0 := 0) (wr := []) X hN hKO hK hP hD hS hA (c_rfP_1 l D cI cB _ kk h0 tx tp N (Pa + 1) 0 by_ T fb lw l1 l2 l3 l4 l5 l6 l7 za k qa hT hNT (by omega) hN2 (Or.inl rfl) hbr hza hk) (gV k_589 k_591 k_4 k_99 k_592) (by decide +kernel) ⟨Nat.le_of_ble_eq_true rfl, Nat.le_of_ble_eq_true rfl⟩ ⟨rfl, rfl⟩ [0, 1, 2, 3, 4, 5] [] rfl rfl (by decide) (by decide) rfl rfl rfl rfl rfl hl.1 (Nat.le_of_ble_eq_true rfl) dX2_readTerm_42 ⟨Nat.le_of_ble_eq_true rfl, Nat.le_of_ble_eq_true rfl⟩ (fun u H locs hw_13 hP hD hS => ?_)
        obtain ⟨Po_9, fo_10, zo_11, l1o_12⟩ := u
        try dsimp only at hw_13
        have hP : va_P D vwCl [(h0, .inr (2, [.ref tx, .ref lw])), (tx, .inr (6, [.ref tp, .int (nI N), .int (nI Po_9), .int fo_10])), (tp, .inr (5, [.ref by_, .int (nI T)])), (by_, .inl (cI, 260, .inl fb)), (lw, .inr (1, [.ref l1, .ref l2, .ref l3, .ref l4, .ref l5, .ref l6, .ref l7, .int (nI zo_11), .int (nI k)])), (l1, .inl (cI, 240, .inl l1o_12))] H := hP
        have hD : va_D A [(h0, .inr (2, [.ref tx, .ref lw])), (tx, .inr (6, [.ref tp, .int (nI N), .int (nI Po_9), .int fo_10])), (tp, .inr (5, [.ref by_, .int (nI T)])), (by_, .inl (cI, 260, .inl fb)), (lw, .inr (1, [.ref l1, .ref l2, .ref l3, .ref l4, .ref l5, .ref l6, .ref l7, .int (nI zo_11), .int (nI k)])), (l1, .inl (cI, 240, .inl l1o_12))] := hD
        refine lv_aload_n hx hb dX2_readTerm_45 rfl (lv_at hl 1 rfl) ?_
        refine va_get (D := D) (ci := 2) (v := .ref lw) (C := RX2) (T := TX2) (N := 2) hx hb htb itX2 hown hK hP 0 rfl rfl 1 (by decide) (htb _ k_289) (fun _ h9 => h9) rfl dX2_readTerm_46 ?_
        refine lv_iload_n hx hb dX2_readTerm_49 rfl (lv_at hl 0 rfl) ?_
        refine lv_iconst (v := 0) hx hb dX2_readTerm_50 (by decide) ?_
        refine cVV (As := [.int r_7, .int 0]) (rest := []) (n := 2) (ci := 1) (q0 := 0) (wr := [(h0, .inr (2, [.ref tx, .ref lw])), (tx, .inr (6, [.ref tp, .int (nI N), .int (nI Po_9), .int fo_10])), (tp, .inr (5, [.ref by_, .int (nI T)])), (by_, .inl (cI, 260, .inl fb))]) X hN hK hP hD hS hA (c_X1_addStep l D cI cB _ lw l1 l2 l3 l4 l5 l6 l7 zo_11 k r_7 0 l1o_12 hw_13.1 hk) (gV k_594 k_595 k_596 k_97 k_597) (by decide +kernel) ⟨Nat.le_of_ble_eq_true rfl, Nat.le_of_ble_eq_true rfl⟩ ⟨rfl, rfl⟩ [4, 5] [0, 1, 2, 3] rfl rfl (by decide) (by decide) rfl rfl rfl rfl rfl hl.1 (Nat.le_of_ble_eq_true rfl) dX2_readTerm_51 ⟨Nat.le_of_ble_eq_true rfl, Nat.le_of_ble_eq_true rfl⟩ (fun u H locs hw_17 hP hD hS => ?_)
        obtain ⟨zo_15, l1_fo_16⟩ := u
        try dsimp only at hw_17
        have hP : va_P D vwCl [(h0, .inr (2, [.ref tx, .ref lw])), (tx, .inr (6, [.ref tp, .int (nI N), .int (nI Po_9), .int fo_10])), (tp, .inr (5, [.ref by_, .int (nI T)])), (by_, .inl (cI, 260, .inl fb)), (lw, .inr (1, [.ref l1, .ref l2, .ref l3, .ref l4, .ref l5, .ref l6, .ref l7, .int (nI zo_15), .int (nI k)])), (l1, .inl (cI, 240, .inl l1_fo_16))] H := hP
        have hD : va_D A [(h0, .inr (2, [.ref tx, .ref lw])), (tx, .inr (6, [.ref tp, .int (nI N), .int (nI Po_9), .int fo_10])), (tp, .inr (5, [.ref by_, .int (nI T)])), (by_, .inl (cI, 260, .inl fb)), (lw, .inr (1, [.ref l1, .ref l2, .ref l3, .ref l4, .ref l5, .ref l6, .ref l7, .int (nI zo_15), .int (nI k)])), (l1, .inl (cI, 240, .inl l1_fo_16))] := hD
        refine lv_iinc (v := (nI (i + 1))) (lv' := [(2, .int (nI (i + 1))), (3, .int r_7), (0, .ref h0), (1, .int 1)]) hx hb dX2_readTerm_54 hl (k := 3) rfl (nI_1 i) (by decide) rfl (fun ls hl => ?_)
        refine lv_goto (tgt := 7) hx hb dX2_readTerm_57 (by decide) ?_
        exact ih_7 (i + 1) Po_9 fo_10 zo_15 l1_fo_16 (by omega) hw_17 (hq.more hs5 hw_13.2) (fun z w => by have := (((hw_13.2.2.2.2.2 rfl).1 z).1); have := hiP rfl w; omega) _ _ (hP.sub [0, 1, 2, 3, 4, 5] rfl) (hD.sub [0, 1, 2, 3, 4, 5] (by decide) rfl) hS _ (lv_sub hl [2, 3, 0] rfl)
  exact loop_7 240 0 Po_2 fo_3 zo_4 l1o_5 (by omega) hw_6.1 hw_6.2 (fun z w => (((hw_6.2.2.2.2.2 w).1 z).1 |> fun y => by omega)) _ _ (hP.sub [0, 1, 2, 3, 4, 5] rfl) (hD.sub [0, 1, 2, 3, 4, 5] (by decide) rfl) hS _ (lv_sub hl [1, 2, 0] rfl)

set_option maxRecDepth 100000 in
set_option maxHeartbeats 4000000 in
theorem c_rsP_1 (l : Launch) (D : va_G) (cI cB : ClassId) (sz : Nat) (kk : KT) (h0 : Nat) (tx : Nat) (tp : Nat) (N : Nat) (P : Nat) (fa : Int32) (by_ : Nat) (T : Nat) (fb : Nat → Int32) (lw : Nat) (l1 : Nat) (l2 : Nat) (l3 : Nat) (l4 : Nat) (l5 : Nat) (l6 : Nat) (l7 : Nat) (z : Nat) (k : Nat) (q1 : Nat → Int32) (hT : T ≤ 260) (hNT : N ≤ T) (hPN : P ≤ N) (hN2 : N ≤ 240) (hfa : fa = 0 ∨ fa < 0) (hbr : BR N fb) (hz : z ≤ 240) (hk : k ≤ 16) : MVk (S := ((Nat) × (Int32) × (Nat) × (Nat → Int32))) l D cI cB kk yX2_readSum cX2_readSum 4 (rm 22 498) [.ref h0, .int 1] [(h0, .inr (2, [.ref tx, .ref lw])), (tx, .inr (6, [.ref tp, .int (nI N), .int (nI P), .int fa])), (tp, .inr (5, [.ref by_, .int (nI T)])), (by_, .inl (cI, 260, .inl fb)), (lw, .inr (1, [.ref l1, .ref l2, .ref l3, .ref l4, .ref l5, .ref l6, .ref l7, .int (nI z), .int (nI k)])), (l1, .inl (cI, 240, .inl q1))] sz (fun u => u.2.2.1 ≤ 240 ∧ FCQ fb N 5 P u.1 fa u.2.1 ∧ (u.2.1 = 0 → ¬ SG5 (chF fb N u.1))) (fun u : ((Nat) × (Int32) × (Nat) × (Nat → Int32)) => [(h0, .inr (2, [.ref tx, .ref lw])), (tx, .inr (6, [.ref tp, .int (nI N), .int (nI u.1), .int u.2.1])), (tp, .inr (5, [.ref by_, .int (nI T)])), (by_, .inl (cI, 260, .inl fb)), (lw, .inr (1, [.ref l1, .ref l2, .ref l3, .ref l4, .ref l5, .ref l6, .ref l7, .int (nI u.2.2.1), .int (nI k)])), (l1, .inl (cI, 240, .inl u.2.2.2))]) := by
  refine MVk.of (by decide) (Nat.le_of_ble_eq_true rfl) ?_
  intro p e s m below meth c Q ls A X hin hN hKO hP hK hD hA hl ret
  have hS : va_S A s.heap s.heap [] := va_S.rf
  obtain ⟨hx, hb, hml, hown, htb⟩ := id X
  have hl : lv_has ls 4 [(0, .ref h0), (1, .int 1)] := hl
  refine lv_aload_n hx hb dX2_readSum_0 rfl (lv_at hl 0 rfl) ?_
  refine lv_iload_n hx hb dX2_readSum_1 rfl (lv_at hl 1 rfl) ?_
  refine cVVk (As := [.int 1]) (rest := []) (n := 1) (ci := 2) (q0 := 0) (wr := []) X hN hKO hK hP hD hS hA (c_rtP_1 l D cI cB _ kk h0 tx tp N P fa by_ T fb lw l1 l2 l3 l4 l5 l6 l7 z k q1 hT hNT hPN hN2 hfa hbr hz hk) (gV k_585 k_587 k_3 k_99 k_588) (by decide +kernel) ⟨Nat.le_of_ble_eq_true rfl, Nat.le_of_ble_eq_true rfl⟩ ⟨rfl, rfl⟩ [0, 1, 2, 3, 4, 5] [] rfl rfl (by decide) (by decide) rfl rfl rfl rfl rfl hl.1 (Nat.le_of_ble_eq_true rfl) dX2_readSum_2 ⟨Nat.le_of_ble_eq_true rfl, Nat.le_of_ble_eq_true rfl⟩ (fun u H locs hw_6 hP hD hS => ?_)
  obtain ⟨Po_2, fo_3, zo_4, l1o_5⟩ := u
  try dsimp only at hw_6
  have hP : va_P D vwCl [(h0, .inr (2, [.ref tx, .ref lw])), (tx, .inr (6, [.ref tp, .int (nI N), .int (nI Po_2), .int fo_3])), (tp, .inr (5, [.ref by_, .int (nI T)])), (by_, .inl (cI, 260, .inl fb)), (lw, .inr (1, [.ref l1, .ref l2, .ref l3, .ref l4, .ref l5, .ref l6, .ref l7, .int (nI zo_4), .int (nI k)])), (l1, .inl (cI, 240, .inl l1o_5))] H := hP
  have hD : va_D A [(h0, .inr (2, [.ref tx, .ref lw])), (tx, .inr (6, [.ref tp, .int (nI N), .int (nI Po_2), .int fo_3])), (tp, .inr (5, [.ref by_, .int (nI T)])), (by_, .inl (cI, 260, .inl fb)), (lw, .inr (1, [.ref l1, .ref l2, .ref l3, .ref l4, .ref l5, .ref l6, .ref l7, .int (nI zo_4), .int (nI k)])), (l1, .inl (cI, 240, .inl l1o_5))] := hD
  refine lv_iconst (v := 0) hx hb dX2_readSum_5 (by decide) ?_
  refine lv_istore_n (lv' := [(2, .int 0), (0, .ref h0), (1, .int 1)]) hx hb dX2_readSum_6 rfl hl (by decide) rfl (fun ls hl => ?_)
  have loop_7 : ∀ (n i : Nat) (Pa : Nat) (fv : Int32) (za : Nat) (qa : Nat → Int32), n + i = 240 → (za ≤ 240) → (FCQ fb N 5 P Pa fa fv) → (fv = 0 → fa = 0 → i < Pa) → (fv = 0 → ¬ MU3 (chF fb N Pa)) → ∀ (H : Heap) (locs : List Loc), va_P D vwCl [(h0, .inr (2, [.ref tx, .ref lw])), (tx, .inr (6, [.ref tp, .int (nI N), .int (nI Pa), .int fv])), (tp, .inr (5, [.ref by_, .int (nI T)])), (by_, .inl (cI, 260, .inl fb)), (lw, .inr (1, [.ref l1, .ref l2, .ref l3, .ref l4, .ref l5, .ref l6, .ref l7, .int (nI za), .int (nI k)])), (l1, .inl (cI, 240, .inl qa))] H → va_D A [(h0, .inr (2, [.ref tx, .ref lw])), (tx, .inr (6, [.ref tp, .int (nI N), .int (nI Pa), .int fv])), (tp, .inr (5, [.ref by_, .int (nI T)])), (by_, .inl (cI, 260, .inl fb)), (lw, .inr (1, [.ref l1, .ref l2, .ref l3, .ref l4, .ref l5, .ref l6, .ref l7, .int (nI za), .int (nI k)])), (l1, .inl (cI, 240, .inl qa))] → va_S A s.heap H locs → ∀ (ls : Array Slot), lv_has ls 4 [(0, .ref h0), (1, .int 1), (2, .int (nI i))] → W p l e (rm 22 498) s m ([.ref h0, .int 1] : List Value).toArray below meth c H locs 0 0 Q (F0 m 7 ls []) := by
    intro n
    induction n with
    | zero =>
      intro i Pa fv za qa hni hza hq hiP hmu H locs hP hD hS ls hl
      have hni_7 := hni
      have hi : i = 240 := by omega
      refine lv_iload_n hx hb dX2_readSum_7 rfl (lv_at hl 2 rfl) ?_
      refine lv_sipush (v := 240) hx hb dX2_readSum_8 (by decide) ?_
      refine lv_icmp_ge (tgt := 90) hx hb dX2_readSum_11 (by decide) (fun _ => ?_) (fun c_11 => absurd (by rw [hi]; decide) c_11)
      exact ret _ _ _ _ (Pa, fv, za, qa) dX2_readSum_90 (⟨hza, ⟨hq, fun z => absurd z (fun z => by have h2 := hq.2.1; have h4 := hq.2.2.2.1; exact (Classical.em (fa = 0)).elim (fun w => by have := hiP z w; omega) (fun w => w ((h2 w).symm.trans z)))⟩⟩) (hP.sub [0, 1, 2, 3, 4, 5] rfl) (hD.sub [0, 1, 2, 3, 4, 5] (by decide) rfl) hS
    | succ n ih_7 =>
      intro i Pa fv za qa hni hza hq hiP hmu H locs hP hD hS ls hl
      have hni_7 := hni
      have hi : i < 240 := by omega
      refine lv_iload_n hx hb dX2_readSum_7 rfl (lv_at hl 2 rfl) ?_
      refine lv_sipush (v := 240) hx hb dX2_readSum_8 (by decide) ?_
      refine lv_icmp_ge (tgt := 90) hx hb dX2_readSum_11 (by decide) (fun c_11 => absurd c_11 (nI_ge hi (by decide))) (fun _ => ?_)
      refine lv_aload_n hx hb dX2_readSum_14 rfl (lv_at hl 0 rfl) ?_
      refine va_get (D := D) (ci := 2) (v := .ref tx) (C := RX2) (T := TX2) (N := 2) hx hb htb itX2 hown hK hP 0 rfl rfl 0 (by decide) (htb _ k_288) (fun _ h9 => h9) rfl dX2_readSum_15 ?_
      refine cVR (As := []) (rest := []) (n := 0) (ci := 6) (q0 := 0) X hN hK hP (c_signP l D cI cB tx tp N Pa fv by_ T fb hT hNT hq.2.2.2.1) (gV k_483 k_484 k_485 k_98 k_486) (by decide +kernel) ⟨Nat.le_of_ble_eq_true rfl, Nat.le_of_ble_eq_true rfl⟩ ⟨rfl, rfl⟩ [1, 2, 3] rfl rfl rfl rfl rfl rfl hl.1 (Nat.le_of_ble_eq_true rfl) dX2_readSum_18 ⟨Nat.le_of_ble_eq_true rfl, Nat.le_of_ble_eq_true rfl⟩ (fun r_7 hr_7 => ?_)
      subst hr_7
      refine lv_bipush (v := 43) hx hb dX2_readSum_21 (by decide) ?_
      refine lv_icmp_eq (tgt := 38) hx hb dX2_readSum_23 (by decide) (fun c_23 => ?_) (fun c_23 => ?_)
      · obtain ⟨hf0, hlt, hs5⟩ := sQs (sgA (Or.inl c_23))
        subst hf0
        refine lv_aload_n hx hb dX2_readSum_38 rfl (lv_at hl 0 rfl) ?_
        refine va_get (D := D) (ci := 2) (v := .ref tx) (C := RX2) (T := TX2) (N := 2) hx hb htb itX2 hown hK hP 0 rfl rfl 0 (by decide) (htb _ k_288) (fun _ h9 => h9) rfl dX2_readSum_39 ?_
        refine cVR (As := []) (rest := []) (n := 0) (ci := 6) (q0 := 0) X hN hK hP (c_signP l D cI cB tx tp N Pa 0 by_ T fb hT hNT hq.2.2.2.1) (gV k_483 k_484 k_485 k_98 k_486) (by decide +kernel) ⟨Nat.le_of_ble_eq_true rfl, Nat.le_of_ble_eq_true rfl⟩ ⟨rfl, rfl⟩ [1, 2, 3] rfl rfl rfl rfl rfl rfl hl.1 (Nat.le_of_ble_eq_true rfl) dX2_readSum_42 ⟨Nat.le_of_ble_eq_true rfl, Nat.le_of_ble_eq_true rfl⟩ (fun r_8 hr_8 => ?_)
        subst hr_8
        refine lv_bipush (v := 43) hx hb dX2_readSum_45 (by decide) ?_
        refine lv_icmp_ne (tgt := 54) hx hb dX2_readSum_47 (by decide) (fun c_47 => ?_) (fun c_47 => ?_)
        · refine lv_bipush (v := 6) hx hb dX2_readSum_54 (by decide) ?_
          refine lv_istore_n (lv' := [(3, .int 6), (0, .ref h0), (1, .int 1), (2, .int (nI i))]) hx hb dX2_readSum_56 rfl hl (by decide) rfl (fun ls hl => ?_)
          refine lv_aload_n hx hb dX2_readSum_57 rfl (lv_at hl 1 rfl) ?_
          refine va_get (D := D) (ci := 2) (v := .ref tx) (C := RX2) (T := TX2) (N := 2) hx hb htb itX2 hown hK hP 0 rfl rfl 0 (by decide) (htb _ k_288) (fun _ h9 => h9) rfl dX2_readSum_58 ?_
          refine lv_dup hx hb dX2_readSum_61 rfl ?_
          refine va_getN (D := D) (ci := 6) (v := .int (nI Pa)) (C := RX6) (T := TX6) (N := 4) hx hb htb itX6 hown hK hP 1 rfl rfl 2 (by decide) (va_Nw.use rfl (hN _ n_264 rfl)) (fun _ h9 => h9) rfl dX2_readSum_62 ?_
          refine lv_iconst (v := 1) hx hb dX2_readSum_65 (by decide) ?_
          refine lv_iadd hx hb dX2_readSum_66 ?_
          refine tv (z := (nI (Pa + 1))) (nI_1 Pa) ?_
          refine va_putN (D := D) (ci := 6) (v := .int (nI (Pa + 1))) (ty := .int) (C := RX6) (T := TX6) (N := 4) hx hb htb itX6 tyX6 tyX6_ok nmX6 hown hK hP hD hS 1 rfl rfl 2 (by decide) (va_Nw.use rfl (hN _ n_264 rfl)) (fun _ h9 => h9) rfl (tyX6_ok 2 (by decide)) rfl rfl (Nat.le_of_ble_eq_true rfl) dX2_readSum_67 (fun H locs hP hD hS => ?_)
          have hP : va_P D vwCl [(h0, .inr (2, [.ref tx, .ref lw])), (tx, .inr (6, [.ref tp, .int (nI N), .int (nI (Pa + 1)), .int 0])), (tp, .inr (5, [.ref by_, .int (nI T)])), (by_, .inl (cI, 260, .inl fb)), (lw, .inr (1, [.ref l1, .ref l2, .ref l3, .ref l4, .ref l5, .ref l6, .ref l7, .int (nI za), .int (nI k)])), (l1, .inl (cI, 240, .inl qa))] H := hP
          have hD : va_D A [(h0, .inr (2, [.ref tx, .ref lw])), (tx, .inr (6, [.ref tp, .int (nI N), .int (nI (Pa + 1)), .int 0])), (tp, .inr (5, [.ref by_, .int (nI T)])), (by_, .inl (cI, 260, .inl fb)), (lw, .inr (1, [.ref l1, .ref l2, .ref l3, .ref l4, .ref l5, .ref l6, .ref l7, .int (nI za), .int (nI k)])), (l1, .inl (cI, 240, .inl qa))] := hD
          refine lv_aload_n hx hb dX2_readSum_70 rfl (lv_at hl 1 rfl) ?_
          refine lv_iload_n hx hb dX2_readSum_71 rfl (lv_at hl 2 rfl) ?_
          refine cVVk (As := [.int 1]) (rest := []) (n := 1) (ci := 2) (q0 := 0) (wr := []) X hN hKO hK hP hD hS hA (c_rtP_1 l D cI cB _ kk h0 tx tp N (Pa + 1) 0 by_ T fb lw l1 l2 l3 l4 l5 l6 l7 za k qa hT hNT (by omega) hN2 (Or.inl rfl) hbr hza hk) (gV k_585 k_587 k_3 k_99 k_588) (by decide +kernel) ⟨Nat.le_of_ble_eq_true rfl, Nat.le_of_ble_eq_true rfl⟩ ⟨rfl, rfl⟩ [0, 1, 2, 3, 4, 5] [] rfl rfl (by decide) (by decide) rfl rfl rfl rfl rfl hl.1 (Nat.le_of_ble_eq_true rfl) dX2_readSum_72 ⟨Nat.le_of_ble_eq_true rfl, Nat.le_of_ble_eq_true rfl⟩ (fun u H locs hw_14 hP hD hS => ?_)
          obtain ⟨Po_10, fo_11, zo_12, l1o_13⟩ := u
          try dsimp only at hw_14
          have hP : va_P D vwCl [(h0, .inr (2, [.ref tx, .ref lw])), (tx, .inr (6, [.ref tp, .int (nI N), .int (nI Po_10), .int fo_11])), (tp, .inr (5, [.ref by_, .int (nI T)])), (by_, .inl (cI, 260, .inl fb)), (lw, .inr (1, [.ref l1, .ref l2, .ref l3, .ref l4, .ref l5, .ref l6, .ref l7, .int (nI zo_12), .int (nI k)])), (l1, .inl (cI, 240, .inl l1o_13))] H := hP
          have hD : va_D A [(h0, .inr (2, [.ref tx, .ref lw])), (tx, .inr (6, [.ref tp, .int (nI N), .int (nI Po_10), .int fo_11])), (tp, .inr (5, [.ref by_, .int (nI T)])), (by_, .inl (cI, 260, .inl fb)), (lw, .inr (1, [.ref l1, .ref l2, .ref l3, .ref l4, .ref l5, .ref l6, .ref l7, .int (nI zo_12), .int (nI k)])), (l1, .inl (cI, 240, .inl l1o_13))] := hD
          refine lv_aload_n hx hb dX2_readSum_75 rfl (lv_at hl 1 rfl) ?_
          refine va_get (D := D) (ci := 2) (v := .ref lw) (C := RX2) (T := TX2) (N := 2) hx hb htb itX2 hown hK hP 0 rfl rfl 1 (by decide) (htb _ k_289) (fun _ h9 => h9) rfl dX2_readSum_76 ?_
          refine lv_iload_n hx hb dX2_readSum_79 rfl (lv_at hl 0 rfl) ?_
          refine lv_iconst (v := 0) hx hb dX2_readSum_80 (by decide) ?_
          refine cVV (As := [.int 6, .int 0]) (rest := []) (n := 2) (ci := 1) (q0 := 0) (wr := [(h0, .inr (2, [.ref tx, .ref lw])), (tx, .inr (6, [.ref tp, .int (nI N), .int (nI Po_10), .int fo_11])), (tp, .inr (5, [.ref by_, .int (nI T)])), (by_, .inl (cI, 260, .inl fb))]) X hN hK hP hD hS hA (c_X1_addStep l D cI cB _ lw l1 l2 l3 l4 l5 l6 l7 zo_12 k 6 0 l1o_13 hw_14.1 hk) (gV k_594 k_595 k_596 k_97 k_597) (by decide +kernel) ⟨Nat.le_of_ble_eq_true rfl, Nat.le_of_ble_eq_true rfl⟩ ⟨rfl, rfl⟩ [4, 5] [0, 1, 2, 3] rfl rfl (by decide) (by decide) rfl rfl rfl rfl rfl hl.1 (Nat.le_of_ble_eq_true rfl) dX2_readSum_81 ⟨Nat.le_of_ble_eq_true rfl, Nat.le_of_ble_eq_true rfl⟩ (fun u H locs hw_18 hP hD hS => ?_)
          obtain ⟨zo_16, l1_fo_17⟩ := u
          try dsimp only at hw_18
          have hP : va_P D vwCl [(h0, .inr (2, [.ref tx, .ref lw])), (tx, .inr (6, [.ref tp, .int (nI N), .int (nI Po_10), .int fo_11])), (tp, .inr (5, [.ref by_, .int (nI T)])), (by_, .inl (cI, 260, .inl fb)), (lw, .inr (1, [.ref l1, .ref l2, .ref l3, .ref l4, .ref l5, .ref l6, .ref l7, .int (nI zo_16), .int (nI k)])), (l1, .inl (cI, 240, .inl l1_fo_17))] H := hP
          have hD : va_D A [(h0, .inr (2, [.ref tx, .ref lw])), (tx, .inr (6, [.ref tp, .int (nI N), .int (nI Po_10), .int fo_11])), (tp, .inr (5, [.ref by_, .int (nI T)])), (by_, .inl (cI, 260, .inl fb)), (lw, .inr (1, [.ref l1, .ref l2, .ref l3, .ref l4, .ref l5, .ref l6, .ref l7, .int (nI zo_16), .int (nI k)])), (l1, .inl (cI, 240, .inl l1_fo_17))] := hD
          refine lv_iinc (v := (nI (i + 1))) (lv' := [(2, .int (nI (i + 1))), (3, .int 6), (0, .ref h0), (1, .int 1)]) hx hb dX2_readSum_84 hl (k := 3) rfl (nI_1 i) (by decide) rfl (fun ls hl => ?_)
          refine lv_goto (tgt := 7) hx hb dX2_readSum_87 (by decide) ?_
          exact ih_7 (i + 1) Po_10 fo_11 zo_16 l1_fo_17 (by omega) hw_18 (hq.more hs5 hw_14.2.1) (fun z w => by have := (((hw_14.2.1.2.2.2.2 rfl).1 z).1); have := hiP rfl w; omega) hw_14.2.2 _ _ (hP.sub [0, 1, 2, 3, 4, 5] rfl) (hD.sub [0, 1, 2, 3, 4, 5] (by decide) rfl) hS _ (lv_sub hl [2, 3, 0] rfl)
        · refine lv_iconst (v := 5) hx hb dX2_readSum_50 (by decide) ?_
          refine lv_goto (tgt := 56) hx hb dX2_readSum_51 (by decide) ?_
          refine lv_istore_n (lv' := [(3, .int 5), (0, .ref h0), (1, .int 1), (2, .int (nI i))]) hx hb dX2_readSum_56 rfl hl (by decide) rfl (fun ls hl => ?_)
          refine lv_aload_n hx hb dX2_readSum_57 rfl (lv_at hl 1 rfl) ?_
          refine va_get (D := D) (ci := 2) (v := .ref tx) (C := RX2) (T := TX2) (N := 2) hx hb htb itX2 hown hK hP 0 rfl rfl 0 (by decide) (htb _ k_288) (fun _ h9 => h9) rfl dX2_readSum_58 ?_
          refine lv_dup hx hb dX2_readSum_61 rfl ?_
          refine va_getN (D := D) (ci := 6) (v := .int (nI Pa)) (C := RX6) (T := TX6) (N := 4) hx hb htb itX6 hown hK hP 1 rfl rfl 2 (by decide) (va_Nw.use rfl (hN _ n_264 rfl)) (fun _ h9 => h9) rfl dX2_readSum_62 ?_
          refine lv_iconst (v := 1) hx hb dX2_readSum_65 (by decide) ?_
          refine lv_iadd hx hb dX2_readSum_66 ?_
          refine tv (z := (nI (Pa + 1))) (nI_1 Pa) ?_
          refine va_putN (D := D) (ci := 6) (v := .int (nI (Pa + 1))) (ty := .int) (C := RX6) (T := TX6) (N := 4) hx hb htb itX6 tyX6 tyX6_ok nmX6 hown hK hP hD hS 1 rfl rfl 2 (by decide) (va_Nw.use rfl (hN _ n_264 rfl)) (fun _ h9 => h9) rfl (tyX6_ok 2 (by decide)) rfl rfl (Nat.le_of_ble_eq_true rfl) dX2_readSum_67 (fun H locs hP hD hS => ?_)
          have hP : va_P D vwCl [(h0, .inr (2, [.ref tx, .ref lw])), (tx, .inr (6, [.ref tp, .int (nI N), .int (nI (Pa + 1)), .int 0])), (tp, .inr (5, [.ref by_, .int (nI T)])), (by_, .inl (cI, 260, .inl fb)), (lw, .inr (1, [.ref l1, .ref l2, .ref l3, .ref l4, .ref l5, .ref l6, .ref l7, .int (nI za), .int (nI k)])), (l1, .inl (cI, 240, .inl qa))] H := hP
          have hD : va_D A [(h0, .inr (2, [.ref tx, .ref lw])), (tx, .inr (6, [.ref tp, .int (nI N), .int (nI (Pa + 1)), .int 0])), (tp, .inr (5, [.ref by_, .int (nI T)])), (by_, .inl (cI, 260, .inl fb)), (lw, .inr (1, [.ref l1, .ref l2, .ref l3, .ref l4, .ref l5, .ref l6, .ref l7, .int (nI za), .int (nI k)])), (l1, .inl (cI, 240, .inl qa))] := hD
          refine lv_aload_n hx hb dX2_readSum_70 rfl (lv_at hl 1 rfl) ?_
          refine lv_iload_n hx hb dX2_readSum_71 rfl (lv_at hl 2 rfl) ?_
          refine cVVk (As := [.int 1]) (rest := []) (n := 1) (ci := 2) (q0 := 0) (wr := []) X hN hKO hK hP hD hS hA (c_rtP_1 l D cI cB _ kk h0 tx tp N (Pa + 1) 0 by_ T fb lw l1 l2 l3 l4 l5 l6 l7 za k qa hT hNT (by omega) hN2 (Or.inl rfl) hbr hza hk) (gV k_585 k_587 k_3 k_99 k_588) (by decide +kernel) ⟨Nat.le_of_ble_eq_true rfl, Nat.le_of_ble_eq_true rfl⟩ ⟨rfl, rfl⟩ [0, 1, 2, 3, 4, 5] [] rfl rfl (by decide) (by decide) rfl rfl rfl rfl rfl hl.1 (Nat.le_of_ble_eq_true rfl) dX2_readSum_72 ⟨Nat.le_of_ble_eq_true rfl, Nat.le_of_ble_eq_true rfl⟩ (fun u H locs hw_24 hP hD hS => ?_)
          obtain ⟨Po_20, fo_21, zo_22, l1o_23⟩ := u
          try dsimp only at hw_24
          have hP : va_P D vwCl [(h0, .inr (2, [.ref tx, .ref lw])), (tx, .inr (6, [.ref tp, .int (nI N), .int (nI Po_20), .int fo_21])), (tp, .inr (5, [.ref by_, .int (nI T)])), (by_, .inl (cI, 260, .inl fb)), (lw, .inr (1, [.ref l1, .ref l2, .ref l3, .ref l4, .ref l5, .ref l6, .ref l7, .int (nI zo_22), .int (nI k)])), (l1, .inl (cI, 240, .inl l1o_23))] H := hP
          have hD : va_D A [(h0, .inr (2, [.ref tx, .ref lw])), (tx, .inr (6, [.ref tp, .int (nI N), .int (nI Po_20), .int fo_21])), (tp, .inr (5, [.ref by_, .int (nI T)])), (by_, .inl (cI, 260, .inl fb)), (lw, .inr (1, [.ref l1, .ref l2, .ref l3, .ref l4, .ref l5, .ref l6, .ref l7, .int (nI zo_22), .int (nI k)])), (l1, .inl (cI, 240, .inl l1o_23))] := hD
          refine lv_aload_n hx hb dX2_readSum_75 rfl (lv_at hl 1 rfl) ?_
          refine va_get (D := D) (ci := 2) (v := .ref lw) (C := RX2) (T := TX2) (N := 2) hx hb htb itX2 hown hK hP 0 rfl rfl 1 (by decide) (htb _ k_289) (fun _ h9 => h9) rfl dX2_readSum_76 ?_
          refine lv_iload_n hx hb dX2_readSum_79 rfl (lv_at hl 0 rfl) ?_
          refine lv_iconst (v := 0) hx hb dX2_readSum_80 (by decide) ?_
          refine cVV (As := [.int 5, .int 0]) (rest := []) (n := 2) (ci := 1) (q0 := 0) (wr := [(h0, .inr (2, [.ref tx, .ref lw])), (tx, .inr (6, [.ref tp, .int (nI N), .int (nI Po_20), .int fo_21])), (tp, .inr (5, [.ref by_, .int (nI T)])), (by_, .inl (cI, 260, .inl fb))]) X hN hK hP hD hS hA (c_X1_addStep l D cI cB _ lw l1 l2 l3 l4 l5 l6 l7 zo_22 k 5 0 l1o_23 hw_24.1 hk) (gV k_594 k_595 k_596 k_97 k_597) (by decide +kernel) ⟨Nat.le_of_ble_eq_true rfl, Nat.le_of_ble_eq_true rfl⟩ ⟨rfl, rfl⟩ [4, 5] [0, 1, 2, 3] rfl rfl (by decide) (by decide) rfl rfl rfl rfl rfl hl.1 (Nat.le_of_ble_eq_true rfl) dX2_readSum_81 ⟨Nat.le_of_ble_eq_true rfl, Nat.le_of_ble_eq_true rfl⟩ (fun u H locs hw_28 hP hD hS => ?_)
          obtain ⟨zo_26, l1_fo_27⟩ := u
          try dsimp only at hw_28
          have hP : va_P D vwCl [(h0, .inr (2, [.ref tx, .ref lw])), (tx, .inr (6, [.ref tp, .int (nI N), .int (nI Po_20), .int fo_21])), (tp, .inr (5, [.ref by_, .int (nI T)])), (by_, .inl (cI, 260, .inl fb)), (lw, .inr (1, [.ref l1, .ref l2, .ref l3, .ref l4, .ref l5, .ref l6, .ref l7, .int (nI zo_26), .int (nI k)])), (l1, .inl (cI, 240, .inl l1_fo_27))] H := hP
          have hD : va_D A [(h0, .inr (2, [.ref tx, .ref lw])), (tx, .inr (6, [.ref tp, .int (nI N), .int (nI Po_20), .int fo_21])), (tp, .inr (5, [.ref by_, .int (nI T)])), (by_, .inl (cI, 260, .inl fb)), (lw, .inr (1, [.ref l1, .ref l2, .ref l3, .ref l4, .ref l5, .ref l6, .ref l7, .int (nI zo_26), .int (nI k)])), (l1, .inl (cI, 240, .inl l1_fo_27))] := hD
          refine lv_iinc (v := (nI (i + 1))) (lv' := [(2, .int (nI (i + 1))), (3, .int 5), (0, .ref h0), (1, .int 1)]) hx hb dX2_readSum_84 hl (k := 3) rfl (nI_1 i) (by decide) rfl (fun ls hl => ?_)
          refine lv_goto (tgt := 7) hx hb dX2_readSum_87 (by decide) ?_
          exact ih_7 (i + 1) Po_20 fo_21 zo_26 l1_fo_27 (by omega) hw_28 (hq.more hs5 hw_24.2.1) (fun z w => by have := (((hw_24.2.1.2.2.2.2 rfl).1 z).1); have := hiP rfl w; omega) hw_24.2.2 _ _ (hP.sub [0, 1, 2, 3, 4, 5] rfl) (hD.sub [0, 1, 2, 3, 4, 5] (by decide) rfl) hS _ (lv_sub hl [2, 3, 0] rfl)
      · refine lv_aload_n hx hb dX2_readSum_26 rfl (lv_at hl 0 rfl) ?_
        refine va_get (D := D) (ci := 2) (v := .ref tx) (C := RX2) (T := TX2) (N := 2) hx hb htb itX2 hown hK hP 0 rfl rfl 0 (by decide) (htb _ k_288) (fun _ h9 => h9) rfl dX2_readSum_27 ?_
        refine cVR (As := []) (rest := []) (n := 0) (ci := 6) (q0 := 0) X hN hK hP (c_signP l D cI cB tx tp N Pa fv by_ T fb hT hNT hq.2.2.2.1) (gV k_483 k_484 k_485 k_98 k_486) (by decide +kernel) ⟨Nat.le_of_ble_eq_true rfl, Nat.le_of_ble_eq_true rfl⟩ ⟨rfl, rfl⟩ [1, 2, 3] rfl rfl rfl rfl rfl rfl hl.1 (Nat.le_of_ble_eq_true rfl) dX2_readSum_30 ⟨Nat.le_of_ble_eq_true rfl, Nat.le_of_ble_eq_true rfl⟩ (fun r_29 hr_29 => ?_)
        subst hr_29
        refine lv_bipush (v := 45) hx hb dX2_readSum_33 (by decide) ?_
        refine lv_icmp_ne (tgt := 90) hx hb dX2_readSum_35 (by decide) (fun c_35 => ?_) (fun c_35 => ?_)
        · exact ret _ _ _ _ (Pa, fv, za, qa) dX2_readSum_90 (⟨hza, ⟨hq, fun (z : fv = 0) => by have w1 := c_23; have w2 := c_35; rw [z, sQ0] at w1 w2; exact fun y => y.elim (fun a => a.elim w1 w2) (hmu z)⟩⟩) (hP.sub [0, 1, 2, 3, 4, 5] rfl) (hD.sub [0, 1, 2, 3, 4, 5] (by decide) rfl) hS
        · obtain ⟨hf0, hlt, hs5⟩ := sQs (sgA (Or.inr c_35))
          subst hf0
          refine lv_aload_n hx hb dX2_readSum_38 rfl (lv_at hl 0 rfl) ?_
          refine va_get (D := D) (ci := 2) (v := .ref tx) (C := RX2) (T := TX2) (N := 2) hx hb htb itX2 hown hK hP 0 rfl rfl 0 (by decide) (htb _ k_288) (fun _ h9 => h9) rfl dX2_readSum_39 ?_
          refine cVR (As := []) (rest := []) (n := 0) (ci := 6) (q0 := 0) X hN hK hP (c_signP l D cI cB tx tp N Pa 0 by_ T fb hT hNT hq.2.2.2.1) (gV k_483 k_484 k_485 k_98 k_486) (by decide +kernel) ⟨Nat.le_of_ble_eq_true rfl, Nat.le_of_ble_eq_true rfl⟩ ⟨rfl, rfl⟩ [1, 2, 3] rfl rfl rfl rfl rfl rfl hl.1 (Nat.le_of_ble_eq_true rfl) dX2_readSum_42 ⟨Nat.le_of_ble_eq_true rfl, Nat.le_of_ble_eq_true rfl⟩ (fun r_30 hr_30 => ?_)
          subst hr_30
          refine lv_bipush (v := 43) hx hb dX2_readSum_45 (by decide) ?_
          refine lv_icmp_ne (tgt := 54) hx hb dX2_readSum_47 (by decide) (fun c_47 => ?_) (fun c_47 => ?_)
          · refine lv_bipush (v := 6) hx hb dX2_readSum_54 (by decide) ?_
            refine lv_istore_n (lv' := [(3, .int 6), (0, .ref h0), (1, .int 1), (2, .int (nI i))]) hx hb dX2_readSum_56 rfl hl (by decide) rfl (fun ls hl => ?_)
            refine lv_aload_n hx hb dX2_readSum_57 rfl (lv_at hl 1 rfl) ?_
            refine va_get (D := D) (ci := 2) (v := .ref tx) (C := RX2) (T := TX2) (N := 2) hx hb htb itX2 hown hK hP 0 rfl rfl 0 (by decide) (htb _ k_288) (fun _ h9 => h9) rfl dX2_readSum_58 ?_
            refine lv_dup hx hb dX2_readSum_61 rfl ?_
            refine va_getN (D := D) (ci := 6) (v := .int (nI Pa)) (C := RX6) (T := TX6) (N := 4) hx hb htb itX6 hown hK hP 1 rfl rfl 2 (by decide) (va_Nw.use rfl (hN _ n_264 rfl)) (fun _ h9 => h9) rfl dX2_readSum_62 ?_
            refine lv_iconst (v := 1) hx hb dX2_readSum_65 (by decide) ?_
            refine lv_iadd hx hb dX2_readSum_66 ?_
            refine tv (z := (nI (Pa + 1))) (nI_1 Pa) ?_
            refine va_putN (D := D) (ci := 6) (v := .int (nI (Pa + 1))) (ty := .int) (C := RX6) (T := TX6) (N := 4) hx hb htb itX6 tyX6 tyX6_ok nmX6 hown hK hP hD hS 1 rfl rfl 2 (by decide) (va_Nw.use rfl (hN _ n_264 rfl)) (fun _ h9 => h9) rfl (tyX6_ok 2 (by decide)) rfl rfl (Nat.le_of_ble_eq_true rfl) dX2_readSum_67 (fun H locs hP hD hS => ?_)
            have hP : va_P D vwCl [(h0, .inr (2, [.ref tx, .ref lw])), (tx, .inr (6, [.ref tp, .int (nI N), .int (nI (Pa + 1)), .int 0])), (tp, .inr (5, [.ref by_, .int (nI T)])), (by_, .inl (cI, 260, .inl fb)), (lw, .inr (1, [.ref l1, .ref l2, .ref l3, .ref l4, .ref l5, .ref l6, .ref l7, .int (nI za), .int (nI k)])), (l1, .inl (cI, 240, .inl qa))] H := hP
            have hD : va_D A [(h0, .inr (2, [.ref tx, .ref lw])), (tx, .inr (6, [.ref tp, .int (nI N), .int (nI (Pa + 1)), .int 0])), (tp, .inr (5, [.ref by_, .int (nI T)])), (by_, .inl (cI, 260, .inl fb)), (lw, .inr (1, [.ref l1, .ref l2, .ref l3, .ref l4, .ref l5, .ref l6, .ref l7, .int (nI za), .int (nI k)])), (l1, .inl (cI, 240, .inl qa))] := hD
            refine lv_aload_n hx hb dX2_readSum_70 rfl (lv_at hl 1 rfl) ?_
            refine lv_iload_n hx hb dX2_readSum_71 rfl (lv_at hl 2 rfl) ?_
            refine cVVk (As := [.int 1]) (rest := []) (n := 1) (ci := 2) (q0 := 0) (wr := []) X hN hKO hK hP hD hS hA (c_rtP_1 l D cI cB _ kk h0 tx tp N (Pa + 1) 0 by_ T fb lw l1 l2 l3 l4 l5 l6 l7 za k qa hT hNT (by omega) hN2 (Or.inl rfl) hbr hza hk) (gV k_585 k_587 k_3 k_99 k_588) (by decide +kernel) ⟨Nat.le_of_ble_eq_true rfl, Nat.le_of_ble_eq_true rfl⟩ ⟨rfl, rfl⟩ [0, 1, 2, 3, 4, 5] [] rfl rfl (by decide) (by decide) rfl rfl rfl rfl rfl hl.1 (Nat.le_of_ble_eq_true rfl) dX2_readSum_72 ⟨Nat.le_of_ble_eq_true rfl, Nat.le_of_ble_eq_true rfl⟩ (fun u H locs hw_36 hP hD hS => ?_)
            obtain ⟨Po_32, fo_33, zo_34, l1o_35⟩ := u
            try dsimp only at hw_36
            have hP : va_P D vwCl [(h0, .inr (2, [.ref tx, .ref lw])), (tx, .inr (6, [.ref tp, .int (nI N), .int (nI Po_32), .int fo_33])), (tp, .inr (5, [.ref by_, .int (nI T)])), (by_, .inl (cI, 260, .inl fb)), (lw, .inr (1, [.ref l1, .ref l2, .ref l3, .ref l4, .ref l5, .ref l6, .ref l7, .int (nI zo_34), .int (nI k)])), (l1, .inl (cI, 240, .inl l1o_35))] H := hP
            have hD : va_D A [(h0, .inr (2, [.ref tx, .ref lw])), (tx, .inr (6, [.ref tp, .int (nI N), .int (nI Po_32), .int fo_33])), (tp, .inr (5, [.ref by_, .int (nI T)])), (by_, .inl (cI, 260, .inl fb)), (lw, .inr (1, [.ref l1, .ref l2, .ref l3, .ref l4, .ref l5, .ref l6, .ref l7, .int (nI zo_34), .int (nI k)])), (l1, .inl (cI, 240, .inl l1o_35))] := hD
            refine lv_aload_n hx hb dX2_readSum_75 rfl (lv_at hl 1 rfl) ?_
            refine va_get (D := D) (ci := 2) (v := .ref lw) (C := RX2) (T := TX2) (N := 2) hx hb htb itX2 hown hK hP 0 rfl rfl 1 (by decide) (htb _ k_289) (fun _ h9 => h9) rfl dX2_readSum_76 ?_
            refine lv_iload_n hx hb dX2_readSum_79 rfl (lv_at hl 0 rfl) ?_
            refine lv_iconst (v := 0) hx hb dX2_readSum_80 (by decide) ?_
            refine cVV (As := [.int 6, .int 0]) (rest := []) (n := 2) (ci := 1) (q0 := 0) (wr := [(h0, .inr (2, [.ref tx, .ref lw])), (tx, .inr (6, [.ref tp, .int (nI N), .int (nI Po_32), .int fo_33])), (tp, .inr (5, [.ref by_, .int (nI T)])), (by_, .inl (cI, 260, .inl fb))]) X hN hK hP hD hS hA (c_X1_addStep l D cI cB _ lw l1 l2 l3 l4 l5 l6 l7 zo_34 k 6 0 l1o_35 hw_36.1 hk) (gV k_594 k_595 k_596 k_97 k_597) (by decide +kernel) ⟨Nat.le_of_ble_eq_true rfl, Nat.le_of_ble_eq_true rfl⟩ ⟨rfl, rfl⟩ [4, 5] [0, 1, 2, 3] rfl rfl (by decide) (by decide) rfl rfl rfl rfl rfl hl.1 (Nat.le_of_ble_eq_true rfl) dX2_readSum_81 ⟨Nat.le_of_ble_eq_true rfl, Nat.le_of_ble_eq_true rfl⟩ (fun u H locs hw_40 hP hD hS => ?_)
            obtain ⟨zo_38, l1_fo_39⟩ := u
            try dsimp only at hw_40
            have hP : va_P D vwCl [(h0, .inr (2, [.ref tx, .ref lw])), (tx, .inr (6, [.ref tp, .int (nI N), .int (nI Po_32), .int fo_33])), (tp, .inr (5, [.ref by_, .int (nI T)])), (by_, .inl (cI, 260, .inl fb)), (lw, .inr (1, [.ref l1, .ref l2, .ref l3, .ref l4, .ref l5, .ref l6, .ref l7, .int (nI zo_38), .int (nI k)])), (l1, .inl (cI, 240, .inl l1_fo_39))] H := hP
            have hD : va_D A [(h0, .inr (2, [.ref tx, .ref lw])), (tx, .inr (6, [.ref tp, .int (nI N), .int (nI Po_32), .int fo_33])), (tp, .inr (5, [.ref by_, .int (nI T)])), (by_, .inl (cI, 260, .inl fb)), (lw, .inr (1, [.ref l1, .ref l2, .ref l3, .ref l4, .ref l5, .ref l6, .ref l7, .int (nI zo_38), .int (nI k)])), (l1, .inl (cI, 240, .inl l1_fo_39))] := hD
            refine lv_iinc (v := (nI (i + 1))) (lv' := [(2, .int (nI (i + 1))), (3, .int 6), (0, .ref h0), (1, .int 1)]) hx hb dX2_readSum_84 hl (k := 3) rfl (nI_1 i) (by decide) rfl (fun ls hl => ?_)
            refine lv_goto (tgt := 7) hx hb dX2_readSum_87 (by decide) ?_
            exact ih_7 (i + 1) Po_32 fo_33 zo_38 l1_fo_39 (by omega) hw_40 (hq.more hs5 hw_36.2.1) (fun z w => by have := (((hw_36.2.1.2.2.2.2 rfl).1 z).1); have := hiP rfl w; omega) hw_36.2.2 _ _ (hP.sub [0, 1, 2, 3, 4, 5] rfl) (hD.sub [0, 1, 2, 3, 4, 5] (by decide) rfl) hS _ (lv_sub hl [2, 3, 0] rfl)
          · refine lv_iconst (v := 5) hx hb dX2_readSum_50 (by decide) ?_
            refine lv_goto (tgt := 56) hx hb dX2_readSum_51 (by decide) ?_
            refine lv_istore_n (lv' := [(3, .int 5), (0, .ref h0), (1, .int 1), (2, .int (nI i))]) hx hb dX2_readSum_56 rfl hl (by decide) rfl (fun ls hl => ?_)
            refine lv_aload_n hx hb dX2_readSum_57 rfl (lv_at hl 1 rfl) ?_
            refine va_get (D := D) (ci := 2) (v := .ref tx) (C := RX2) (T := TX2) (N := 2) hx hb htb itX2 hown hK hP 0 rfl rfl 0 (by decide) (htb _ k_288) (fun _ h9 => h9) rfl dX2_readSum_58 ?_
            refine lv_dup hx hb dX2_readSum_61 rfl ?_
            refine va_getN (D := D) (ci := 6) (v := .int (nI Pa)) (C := RX6) (T := TX6) (N := 4) hx hb htb itX6 hown hK hP 1 rfl rfl 2 (by decide) (va_Nw.use rfl (hN _ n_264 rfl)) (fun _ h9 => h9) rfl dX2_readSum_62 ?_
            refine lv_iconst (v := 1) hx hb dX2_readSum_65 (by decide) ?_
            refine lv_iadd hx hb dX2_readSum_66 ?_
            refine tv (z := (nI (Pa + 1))) (nI_1 Pa) ?_
            refine va_putN (D := D) (ci := 6) (v := .int (nI (Pa + 1))) (ty := .int) (C := RX6) (T := TX6) (N := 4) hx hb htb itX6 tyX6 tyX6_ok nmX6 hown hK hP hD hS 1 rfl rfl 2 (by decide) (va_Nw.use rfl (hN _ n_264 rfl)) (fun _ h9 => h9) rfl (tyX6_ok 2 (by decide)) rfl rfl (Nat.le_of_ble_eq_true rfl) dX2_readSum_67 (fun H locs hP hD hS => ?_)
            have hP : va_P D vwCl [(h0, .inr (2, [.ref tx, .ref lw])), (tx, .inr (6, [.ref tp, .int (nI N), .int (nI (Pa + 1)), .int 0])), (tp, .inr (5, [.ref by_, .int (nI T)])), (by_, .inl (cI, 260, .inl fb)), (lw, .inr (1, [.ref l1, .ref l2, .ref l3, .ref l4, .ref l5, .ref l6, .ref l7, .int (nI za), .int (nI k)])), (l1, .inl (cI, 240, .inl qa))] H := hP
            have hD : va_D A [(h0, .inr (2, [.ref tx, .ref lw])), (tx, .inr (6, [.ref tp, .int (nI N), .int (nI (Pa + 1)), .int 0])), (tp, .inr (5, [.ref by_, .int (nI T)])), (by_, .inl (cI, 260, .inl fb)), (lw, .inr (1, [.ref l1, .ref l2, .ref l3, .ref l4, .ref l5, .ref l6, .ref l7, .int (nI za), .int (nI k)])), (l1, .inl (cI, 240, .inl qa))] := hD
            refine lv_aload_n hx hb dX2_readSum_70 rfl (lv_at hl 1 rfl) ?_
            refine lv_iload_n hx hb dX2_readSum_71 rfl (lv_at hl 2 rfl) ?_
            refine cVVk (As := [.int 1]) (rest := []) (n := 1) (ci := 2) (q0 := 0) (wr := []) X hN hKO hK hP hD hS hA (c_rtP_1 l D cI cB _ kk h0 tx tp N (Pa + 1) 0 by_ T fb lw l1 l2 l3 l4 l5 l6 l7 za k qa hT hNT (by omega) hN2 (Or.inl rfl) hbr hza hk) (gV k_585 k_587 k_3 k_99 k_588) (by decide +kernel) ⟨Nat.le_of_ble_eq_true rfl, Nat.le_of_ble_eq_true rfl⟩ ⟨rfl, rfl⟩ [0, 1, 2, 3, 4, 5] [] rfl rfl (by decide) (by decide) rfl rfl rfl rfl rfl hl.1 (Nat.le_of_ble_eq_true rfl) dX2_readSum_72 ⟨Nat.le_of_ble_eq_true rfl, Nat.le_of_ble_eq_true rfl⟩ (fun u H locs hw_46 hP hD hS => ?_)
            obtain ⟨Po_42, fo_43, zo_44, l1o_45⟩ := u
            try dsimp only at hw_46
            have hP : va_P D vwCl [(h0, .inr (2, [.ref tx, .ref lw])), (tx, .inr (6, [.ref tp, .int (nI N), .int (nI Po_42), .int fo_43])), (tp, .inr (5, [.ref by_, .int (nI T)])), (by_, .inl (cI, 260, .inl fb)), (lw, .inr (1, [.ref l1, .ref l2, .ref l3, .ref l4, .ref l5, .ref l6, .ref l7, .int (nI zo_44), .int (nI k)])), (l1, .inl (cI, 240, .inl l1o_45))] H := hP
            have hD : va_D A [(h0, .inr (2, [.ref tx, .ref lw])), (tx, .inr (6, [.ref tp, .int (nI N), .int (nI Po_42), .int fo_43])), (tp, .inr (5, [.ref by_, .int (nI T)])), (by_, .inl (cI, 260, .inl fb)), (lw, .inr (1, [.ref l1, .ref l2, .ref l3, .ref l4, .ref l5, .ref l6, .ref l7, .int (nI zo_44), .int (nI k)])), (l1, .inl (cI, 240, .inl l1o_45))] := hD
            refine lv_aload_n hx hb dX2_readSum_75 rfl (lv_at hl 1 rfl) ?_
            refine va_get (D := D) (ci := 2) (v := .ref lw) (C := RX2) (T := TX2) (N := 2) hx hb htb itX2 hown hK hP 0 rfl rfl 1 (by decide) (htb _ k_289) (fun _ h9 => h9) rfl dX2_readSum_76 ?_
            refine lv_iload_n hx hb dX2_readSum_79 rfl (lv_at hl 0 rfl) ?_
            refine lv_iconst (v := 0) hx hb dX2_readSum_80 (by decide) ?_
            refine cVV (As := [.int 5, .int 0]) (rest := []) (n := 2) (ci := 1) (q0 := 0) (wr := [(h0, .inr (2, [.ref tx, .ref lw])), (tx, .inr (6, [.ref tp, .int (nI N), .int (nI Po_42), .int fo_43])), (tp, .inr (5, [.ref by_, .int (nI T)])), (by_, .inl (cI, 260, .inl fb))]) X hN hK hP hD hS hA (c_X1_addStep l D cI cB _ lw l1 l2 l3 l4 l5 l6 l7 zo_44 k 5 0 l1o_45 hw_46.1 hk) (gV k_594 k_595 k_596 k_97 k_597) (by decide +kernel) ⟨Nat.le_of_ble_eq_true rfl, Nat.le_of_ble_eq_true rfl⟩ ⟨rfl, rfl⟩ [4, 5] [0, 1, 2, 3] rfl rfl (by decide) (by decide) rfl rfl rfl rfl rfl hl.1 (Nat.le_of_ble_eq_true rfl) dX2_readSum_81 ⟨Nat.le_of_ble_eq_true rfl, Nat.le_of_ble_eq_true rfl⟩ (fun u H locs hw_50 hP hD hS => ?_)
            obtain ⟨zo_48, l1_fo_49⟩ := u
            try dsimp only at hw_50
            have hP : va_P D vwCl [(h0, .inr (2, [.ref tx, .ref lw])), (tx, .inr (6, [.ref tp, .int (nI N), .int (nI Po_42), .int fo_43])), (tp, .inr (5, [.ref by_, .int (nI T)])), (by_, .inl (cI, 260, .inl fb)), (lw, .inr (1, [.ref l1, .ref l2, .ref l3, .ref l4, .ref l5, .ref l6, .ref l7, .int (nI zo_48), .int (nI k)])), (l1, .inl (cI, 240, .inl l1_fo_49))] H := hP
            have hD : va_D A [(h0, .inr (2, [.ref tx, .ref lw])), (tx, .inr (6, [.ref tp, .int (nI N), .int (nI Po_42), .int fo_43])), (tp, .inr (5, [.ref by_, .int (nI T)])), (by_, .inl (cI, 260, .inl fb)), (lw, .inr (1, [.ref l1, .ref l2, .ref l3, .ref l4, .ref l5, .ref l6, .ref l7, .int (nI zo_48), .int (nI k)])), (l1, .inl (cI, 240, .inl l1_fo_49))] := hD
            refine lv_iinc (v := (nI (i + 1))) (lv' := [(2, .int (nI (i + 1))), (3, .int 5), (0, .ref h0), (1, .int 1)]) hx hb dX2_readSum_84 hl (k := 3) rfl (nI_1 i) (by decide) rfl (fun ls hl => ?_)
            refine lv_goto (tgt := 7) hx hb dX2_readSum_87 (by decide) ?_
            exact ih_7 (i + 1) Po_42 fo_43 zo_48 l1_fo_49 (by omega) hw_50 (hq.more hs5 hw_46.2.1) (fun z w => by have := (((hw_46.2.1.2.2.2.2 rfl).1 z).1); have := hiP rfl w; omega) hw_46.2.2 _ _ (hP.sub [0, 1, 2, 3, 4, 5] rfl) (hD.sub [0, 1, 2, 3, 4, 5] (by decide) rfl) hS _ (lv_sub hl [2, 3, 0] rfl)
  exact loop_7 240 0 Po_2 fo_3 zo_4 l1o_5 (by omega) hw_6.1 hw_6.2.1 (fun z w => (((hw_6.2.1.2.2.2.2 w).1 z).1 |> fun y => by omega)) hw_6.2.2 _ _ (hP.sub [0, 1, 2, 3, 4, 5] rfl) (hD.sub [0, 1, 2, 3, 4, 5] (by decide) rfl) hS _ (lv_sub hl [1, 2, 0] rfl)

set_option maxRecDepth 100000 in
set_option maxHeartbeats 4000000 in
theorem c_rfP_0 (l : Launch) (D : va_G) (cI cB : ClassId) (sz : Nat) (kk : KT) (h0 : Nat) (tx : Nat) (tp : Nat) (N : Nat) (P : Nat) (fa : Int32) (by_ : Nat) (T : Nat) (fb : Nat → Int32) (lw : Nat) (l1 : Nat) (l2 : Nat) (l3 : Nat) (l4 : Nat) (l5 : Nat) (l6 : Nat) (l7 : Nat) (z : Nat) (k : Nat) (q1 : Nat → Int32) (hT : T ≤ 260) (hNT : N ≤ T) (hPN : P ≤ N) (hN2 : N ≤ 240) (hfa : fa = 0 ∨ fa < 0) (hbr : BR N fb) (hz : z ≤ 240) (hk : k ≤ 16) : MVk (S := ((Nat) × (Int32) × (Nat) × (Nat → Int32))) l D cI cB kk yX2_readFactor cX2_readFactor 3 (rm 23 521) [.ref h0, .int 0] [(h0, .inr (2, [.ref tx, .ref lw])), (tx, .inr (6, [.ref tp, .int (nI N), .int (nI P), .int fa])), (tp, .inr (5, [.ref by_, .int (nI T)])), (by_, .inl (cI, 260, .inl fb)), (lw, .inr (1, [.ref l1, .ref l2, .ref l3, .ref l4, .ref l5, .ref l6, .ref l7, .int (nI z), .int (nI k)])), (l1, .inl (cI, 240, .inl q1))] sz (fun u => u.2.2.1 ≤ 240 ∧ FCQ fb N 6 P u.1 fa u.2.1) (fun u : ((Nat) × (Int32) × (Nat) × (Nat → Int32)) => [(h0, .inr (2, [.ref tx, .ref lw])), (tx, .inr (6, [.ref tp, .int (nI N), .int (nI u.1), .int u.2.1])), (tp, .inr (5, [.ref by_, .int (nI T)])), (by_, .inl (cI, 260, .inl fb)), (lw, .inr (1, [.ref l1, .ref l2, .ref l3, .ref l4, .ref l5, .ref l6, .ref l7, .int (nI u.2.2.1), .int (nI k)])), (l1, .inl (cI, 240, .inl u.2.2.2))]) := by
  refine MVk.of (by decide) (Nat.le_of_ble_eq_true rfl) ?_
  intro p e s m below meth c Q ls A X hin hN hKO hP hK hD hA hl ret
  have hS : va_S A s.heap s.heap [] := va_S.rf
  obtain ⟨hx, hb, hml, hown, htb⟩ := id X
  have hl : lv_has ls 3 [(0, .ref h0), (1, .int 0)] := hl
  refine lv_aload_n hx hb dX2_readFactor_0 rfl (lv_at hl 0 rfl) ?_
  refine va_ldcS hx hb hown hKO.2.2.2.2.2 dX2_readFactor_1 ?_
  refine cVRk (As := [.ref (kk.2.1 1)]) (rest := []) (n := 1) (ci := 2) (q0 := 0) X hN hKO hS hK hP (c_placeInP1 l D cI cB kk h0 lw tx tp N P fa by_ T fb hT hNT hPN hbr) (gV k_479 k_481 k_1 k_99 k_482) (by decide +kernel) ⟨Nat.le_of_ble_eq_true rfl, Nat.le_of_ble_eq_true rfl⟩ ⟨rfl, rfl⟩ [0, 1, 2, 3] rfl rfl rfl rfl rfl rfl hl.1 (Nat.le_of_ble_eq_true rfl) dX2_readFactor_3 ⟨Nat.le_of_ble_eq_true rfl, Nat.le_of_ble_eq_true rfl⟩ (fun r_1 hr_1 => ?_)
  subst hr_1
  refine lv_topi (fun x_2 ex_2 => ?_)
  refine lv_istore_n (lv' := [(2, .int x_2), (0, .ref h0), (1, .int 0)]) hx hb dX2_readFactor_6 rfl hl (by decide) rfl (fun ls hl => ?_)
  refine lv_iload_n hx hb dX2_readFactor_7 rfl (lv_at hl 0 rfl) ?_
  refine lv_if_lt (tgt := 36) hx hb dX2_readFactor_8 (by decide) (fun c_8 => ?_) (fun c_8 => ?_)
  · refine lv_aload_n hx hb dX2_readFactor_36 rfl (lv_at hl 1 rfl) ?_
    refine va_get (D := D) (ci := 2) (v := .ref tx) (C := RX2) (T := TX2) (N := 2) hx hb htb itX2 hown hK hP 0 rfl rfl 0 (by decide) (htb _ k_288) (fun _ h9 => h9) rfl dX2_readFactor_37 ?_
    refine cVR (As := []) (rest := []) (n := 0) (ci := 6) (q0 := 0) X hN hK hP (c_signP l D cI cB tx tp N P fa by_ T fb hT hNT hPN) (gV k_483 k_484 k_485 k_98 k_486) (by decide +kernel) ⟨Nat.le_of_ble_eq_true rfl, Nat.le_of_ble_eq_true rfl⟩ ⟨rfl, rfl⟩ [1, 2, 3] rfl rfl rfl rfl rfl rfl hl.1 (Nat.le_of_ble_eq_true rfl) dX2_readFactor_40 ⟨Nat.le_of_ble_eq_true rfl, Nat.le_of_ble_eq_true rfl⟩ (fun r_3 hr_3 => ?_)
    subst hr_3
    refine lv_bipush (v := 91) hx hb dX2_readFactor_43 (by decide) ?_
    refine lv_icmp_ne (tgt := 75) hx hb dX2_readFactor_45 (by decide) (fun c_45 => ?_) (fun c_45 => ?_)
    · refine lv_aload_n hx hb dX2_readFactor_75 rfl (lv_at hl 1 rfl) ?_
      refine va_get (D := D) (ci := 2) (v := .ref lw) (C := RX2) (T := TX2) (N := 2) hx hb htb itX2 hown hK hP 0 rfl rfl 1 (by decide) (htb _ k_289) (fun _ h9 => h9) rfl dX2_readFactor_76 ?_
      refine lv_iconst (v := 0) hx hb dX2_readFactor_79 (by decide) ?_
      refine lv_aload_n hx hb dX2_readFactor_80 rfl (lv_at hl 1 rfl) ?_
      refine va_get (D := D) (ci := 2) (v := .ref tx) (C := RX2) (T := TX2) (N := 2) hx hb htb itX2 hown hK hP 0 rfl rfl 0 (by decide) (htb _ k_288) (fun _ h9 => h9) rfl dX2_readFactor_81 ?_
      refine lv_iconst (v := 5) hx hb dX2_readFactor_84 (by decide) ?_
      refine lv_iconst (v := 2) hx hb dX2_readFactor_85 (by decide) ?_
      refine cVI (As := [.int 5, .int 2]) (rest := [.int 0, .ref lw]) (n := 2) (ci := 6) (q0 := 0) (wr := [(h0, .inr (2, [.ref tx, .ref lw])), (lw, .inr (1, [.ref l1, .ref l2, .ref l3, .ref l4, .ref l5, .ref l6, .ref l7, .int (nI z), .int (nI k)])), (l1, .inl (cI, 240, .inl q1))]) X hN hK hP hD hS hA (c_numberP l D cI cB _ tx tp N P fa by_ T fb 5 2 hT hNT hPN (by decide)) (gV k_612 k_613 k_614 k_98 k_615) (by decide +kernel) ⟨Nat.le_of_ble_eq_true rfl, Nat.le_of_ble_eq_true rfl⟩ ⟨rfl, rfl⟩ [1, 2, 3] [0, 4, 5] rfl rfl (by decide) (by decide) rfl rfl rfl rfl rfl hl.1 (Nat.le_of_ble_eq_true rfl) dX2_readFactor_86 ⟨Nat.le_of_ble_eq_true rfl, Nat.le_of_ble_eq_true rfl⟩ (fun r_4 u H locs hw_7 hP hD hS => ?_)
      obtain ⟨Po_5, fo_6⟩ := u
      try dsimp only at hw_7
      have hP : va_P D vwCl [(h0, .inr (2, [.ref tx, .ref lw])), (lw, .inr (1, [.ref l1, .ref l2, .ref l3, .ref l4, .ref l5, .ref l6, .ref l7, .int (nI z), .int (nI k)])), (l1, .inl (cI, 240, .inl q1)), (tx, .inr (6, [.ref tp, .int (nI N), .int (nI Po_5), .int fo_6])), (tp, .inr (5, [.ref by_, .int (nI T)])), (by_, .inl (cI, 260, .inl fb))] H := hP
      have hD : va_D A [(h0, .inr (2, [.ref tx, .ref lw])), (lw, .inr (1, [.ref l1, .ref l2, .ref l3, .ref l4, .ref l5, .ref l6, .ref l7, .int (nI z), .int (nI k)])), (l1, .inl (cI, 240, .inl q1)), (tx, .inr (6, [.ref tp, .int (nI N), .int (nI Po_5), .int fo_6])), (tp, .inr (5, [.ref by_, .int (nI T)])), (by_, .inl (cI, 260, .inl fb))] := hD
      refine cVV (As := [.int 0, .int r_4]) (rest := []) (n := 2) (ci := 1) (q0 := 0) (wr := [(h0, .inr (2, [.ref tx, .ref lw])), (tx, .inr (6, [.ref tp, .int (nI N), .int (nI Po_5), .int fo_6])), (tp, .inr (5, [.ref by_, .int (nI T)])), (by_, .inl (cI, 260, .inl fb))]) X hN hK hP hD hS hA (c_X1_addStep l D cI cB _ lw l1 l2 l3 l4 l5 l6 l7 z k 0 r_4 q1 hz hk) (gV k_594 k_595 k_596 k_97 k_597) (by decide +kernel) ⟨Nat.le_of_ble_eq_true rfl, Nat.le_of_ble_eq_true rfl⟩ ⟨rfl, rfl⟩ [1, 2] [0, 3, 4, 5] rfl rfl (by decide) (by decide) rfl rfl rfl rfl rfl hl.1 (Nat.le_of_ble_eq_true rfl) dX2_readFactor_89 ⟨Nat.le_of_ble_eq_true rfl, Nat.le_of_ble_eq_true rfl⟩ (fun u H locs hw_11 hP hD hS => ?_)
      obtain ⟨zo_9, l1_fo_10⟩ := u
      try dsimp only at hw_11
      have hP : va_P D vwCl [(h0, .inr (2, [.ref tx, .ref lw])), (tx, .inr (6, [.ref tp, .int (nI N), .int (nI Po_5), .int fo_6])), (tp, .inr (5, [.ref by_, .int (nI T)])), (by_, .inl (cI, 260, .inl fb)), (lw, .inr (1, [.ref l1, .ref l2, .ref l3, .ref l4, .ref l5, .ref l6, .ref l7, .int (nI zo_9), .int (nI k)])), (l1, .inl (cI, 240, .inl l1_fo_10))] H := hP
      have hD : va_D A [(h0, .inr (2, [.ref tx, .ref lw])), (tx, .inr (6, [.ref tp, .int (nI N), .int (nI Po_5), .int fo_6])), (tp, .inr (5, [.ref by_, .int (nI T)])), (by_, .inl (cI, 260, .inl fb)), (lw, .inr (1, [.ref l1, .ref l2, .ref l3, .ref l4, .ref l5, .ref l6, .ref l7, .int (nI zo_9), .int (nI k)])), (l1, .inl (cI, 240, .inl l1_fo_10))] := hD
      exact ret _ _ _ _ (Po_5, fo_6, zo_9, l1_fo_10) dX2_readFactor_92 (⟨hw_11, by have q := FCQ.num (k := 6) (f := fb) (N := N) (p := P) (fa := fa) (by omega) hPN hfa (kp1_lt (by rw [← ex_2]; exact c_8)) c_45 (by rw [← hw_7.1]; exact hw_7.2.2.2); rw [← hw_7.1, ← hw_7.2.2.1] at q; exact q⟩) (hP.sub [0, 1, 2, 3, 4, 5] rfl) (hD.sub [0, 1, 2, 3, 4, 5] (by decide) rfl) hS
    · have h91 := c_45
      obtain ⟨hf0, hlt⟩ := sQz (fun z => absurd (z.symm.trans h91) (by decide))
      subst hf0
      rw [sQ0] at h91
      refine lv_aload_n hx hb dX2_readFactor_48 rfl (lv_at hl 1 rfl) ?_
      refine lv_iload_n hx hb dX2_readFactor_49 rfl (lv_at hl 2 rfl) ?_
      refine cVI (As := [.int 0]) (rest := []) (n := 1) (ci := 2) (q0 := 0) (wr := [(tp, .inr (5, [.ref by_, .int (nI T)])), (by_, .inl (cI, 260, .inl fb)), (lw, .inr (1, [.ref l1, .ref l2, .ref l3, .ref l4, .ref l5, .ref l6, .ref l7, .int (nI z), .int (nI k)])), (l1, .inl (cI, 240, .inl q1))]) X hN hK hP hD hS hA (c_opensP l D cI cB _ h0 lw tx tp N P 0 0 hlt) (gV k_598 k_600 k_5 k_99 k_601) (by decide +kernel) ⟨Nat.le_of_ble_eq_true rfl, Nat.le_of_ble_eq_true rfl⟩ ⟨rfl, rfl⟩ [0, 1] [2, 3, 4, 5] rfl rfl (by decide) (by decide) rfl rfl rfl rfl rfl hl.1 (Nat.le_of_ble_eq_true rfl) dX2_readFactor_50 ⟨Nat.le_of_ble_eq_true rfl, Nat.le_of_ble_eq_true rfl⟩ (fun r_12 u H locs hw_15 hP hD hS => ?_)
      obtain ⟨Po_13, fo_14⟩ := u
      try dsimp only at hw_15
      have hP : va_P D vwCl [(tp, .inr (5, [.ref by_, .int (nI T)])), (by_, .inl (cI, 260, .inl fb)), (lw, .inr (1, [.ref l1, .ref l2, .ref l3, .ref l4, .ref l5, .ref l6, .ref l7, .int (nI z), .int (nI k)])), (l1, .inl (cI, 240, .inl q1)), (h0, .inr (2, [.ref tx, .ref lw])), (tx, .inr (6, [.ref tp, .int (nI N), .int (nI Po_13), .int fo_14]))] H := hP
      have hD : va_D A [(tp, .inr (5, [.ref by_, .int (nI T)])), (by_, .inl (cI, 260, .inl fb)), (lw, .inr (1, [.ref l1, .ref l2, .ref l3, .ref l4, .ref l5, .ref l6, .ref l7, .int (nI z), .int (nI k)])), (l1, .inl (cI, 240, .inl q1)), (h0, .inr (2, [.ref tx, .ref lw])), (tx, .inr (6, [.ref tp, .int (nI N), .int (nI Po_13), .int fo_14]))] := hD
      obtain rfl : r_12 = 1 := hw_15.1.trans (by decide)
      obtain ⟨eo1, eo2⟩ := hw_15.2.1 (by decide)
      rw [eo1, eo2] at hP hD
      have hP : va_P D vwCl [(tp, .inr (5, [.ref by_, .int (nI T)])), (by_, .inl (cI, 260, .inl fb)), (lw, .inr (1, [.ref l1, .ref l2, .ref l3, .ref l4, .ref l5, .ref l6, .ref l7, .int (nI z), .int (nI k)])), (l1, .inl (cI, 240, .inl q1)), (h0, .inr (2, [.ref tx, .ref lw])), (tx, .inr (6, [.ref tp, .int (nI N), .int (nI (P + 1)), .int 0]))] H := hP
      have hD : va_D A [(tp, .inr (5, [.ref by_, .int (nI T)])), (by_, .inl (cI, 260, .inl fb)), (lw, .inr (1, [.ref l1, .ref l2, .ref l3, .ref l4, .ref l5, .ref l6, .ref l7, .int (nI z), .int (nI k)])), (l1, .inl (cI, 240, .inl q1)), (h0, .inr (2, [.ref tx, .ref lw])), (tx, .inr (6, [.ref tp, .int (nI N), .int (nI (P + 1)), .int 0]))] := hD
      refine lv_if_eq (tgt := 92) hx hb dX2_readFactor_53 (by decide) (fun c_53 => absurd c_53 (by decide)) (fun _ => ?_)
      refine lv_aload_n hx hb dX2_readFactor_56 rfl (lv_at hl 1 rfl) ?_
      refine lv_iload_n hx hb dX2_readFactor_57 rfl (lv_at hl 2 rfl) ?_
      refine lv_iconst (v := 1) hx hb dX2_readFactor_58 (by decide) ?_
      refine lv_iadd hx hb dX2_readFactor_59 ?_
      refine tv (z := 1) (by decide) ?_
      refine cVVk (As := [.int 1]) (rest := []) (n := 1) (ci := 2) (q0 := 0) (wr := []) X hN hKO hK hP hD hS hA (c_rsP_1 l D cI cB _ kk h0 tx tp N (P + 1) 0 by_ T fb lw l1 l2 l3 l4 l5 l6 l7 z k q1 hT hNT (by omega) hN2 (Or.inl rfl) hbr hz hk) (gV k_581 k_583 k_2 k_99 k_584) (by decide +kernel) ⟨Nat.le_of_ble_eq_true rfl, Nat.le_of_ble_eq_true rfl⟩ ⟨rfl, rfl⟩ [4, 5, 0, 1, 2, 3] [] rfl rfl (by decide) (by decide) rfl rfl rfl rfl rfl hl.1 (Nat.le_of_ble_eq_true rfl) dX2_readFactor_60 ⟨Nat.le_of_ble_eq_true rfl, Nat.le_of_ble_eq_true rfl⟩ (fun u H locs hw_21 hP hD hS => ?_)
      obtain ⟨Po_17, fo_18, zo_19, l1o_20⟩ := u
      try dsimp only at hw_21
      have hP : va_P D vwCl [(h0, .inr (2, [.ref tx, .ref lw])), (tx, .inr (6, [.ref tp, .int (nI N), .int (nI Po_17), .int fo_18])), (tp, .inr (5, [.ref by_, .int (nI T)])), (by_, .inl (cI, 260, .inl fb)), (lw, .inr (1, [.ref l1, .ref l2, .ref l3, .ref l4, .ref l5, .ref l6, .ref l7, .int (nI zo_19), .int (nI k)])), (l1, .inl (cI, 240, .inl l1o_20))] H := hP
      have hD : va_D A [(h0, .inr (2, [.ref tx, .ref lw])), (tx, .inr (6, [.ref tp, .int (nI N), .int (nI Po_17), .int fo_18])), (tp, .inr (5, [.ref by_, .int (nI T)])), (by_, .inl (cI, 260, .inl fb)), (lw, .inr (1, [.ref l1, .ref l2, .ref l3, .ref l4, .ref l5, .ref l6, .ref l7, .int (nI zo_19), .int (nI k)])), (l1, .inl (cI, 240, .inl l1o_20))] := hD
      refine lv_aload_n hx hb dX2_readFactor_63 rfl (lv_at hl 1 rfl) ?_
      refine va_get (D := D) (ci := 2) (v := .ref tx) (C := RX2) (T := TX2) (N := 2) hx hb htb itX2 hown hK hP 0 rfl rfl 0 (by decide) (htb _ k_288) (fun _ h9 => h9) rfl dX2_readFactor_64 ?_
      refine lv_bipush (v := 93) hx hb dX2_readFactor_67 (by decide) ?_
      refine cVV (As := [.int 93]) (rest := []) (n := 1) (ci := 6) (q0 := 0) (wr := [(h0, .inr (2, [.ref tx, .ref lw])), (lw, .inr (1, [.ref l1, .ref l2, .ref l3, .ref l4, .ref l5, .ref l6, .ref l7, .int (nI zo_19), .int (nI k)])), (l1, .inl (cI, 240, .inl l1o_20))]) X hN hK hP hD hS hA (c_expectP l D cI cB _ tx tp N Po_17 fo_18 by_ T fb 93 hT hNT hw_21.2.1.2.2.2.1 (by decide)) (gV k_602 k_603 k_604 k_98 k_605) (by decide +kernel) ⟨Nat.le_of_ble_eq_true rfl, Nat.le_of_ble_eq_true rfl⟩ ⟨rfl, rfl⟩ [1, 2, 3] [0, 4, 5] rfl rfl (by decide) (by decide) rfl rfl rfl rfl rfl hl.1 (Nat.le_of_ble_eq_true rfl) dX2_readFactor_69 ⟨Nat.le_of_ble_eq_true rfl, Nat.le_of_ble_eq_true rfl⟩ (fun u H locs hw_25 hP hD hS => ?_)
      obtain ⟨Po_23, fo_24⟩ := u
      try dsimp only at hw_25
      have hP : va_P D vwCl [(h0, .inr (2, [.ref tx, .ref lw])), (lw, .inr (1, [.ref l1, .ref l2, .ref l3, .ref l4, .ref l5, .ref l6, .ref l7, .int (nI zo_19), .int (nI k)])), (l1, .inl (cI, 240, .inl l1o_20)), (tx, .inr (6, [.ref tp, .int (nI N), .int (nI Po_23), .int fo_24])), (tp, .inr (5, [.ref by_, .int (nI T)])), (by_, .inl (cI, 260, .inl fb))] H := hP
      have hD : va_D A [(h0, .inr (2, [.ref tx, .ref lw])), (lw, .inr (1, [.ref l1, .ref l2, .ref l3, .ref l4, .ref l5, .ref l6, .ref l7, .int (nI zo_19), .int (nI k)])), (l1, .inl (cI, 240, .inl l1o_20)), (tx, .inr (6, [.ref tp, .int (nI N), .int (nI Po_23), .int fo_24])), (tp, .inr (5, [.ref by_, .int (nI T)])), (by_, .inl (cI, 260, .inl fb))] := hD
      refine lv_goto (tgt := 92) hx hb dX2_readFactor_72 (by decide) ?_
      exact ret _ _ _ _ (Po_23, fo_24, zo_19, l1o_20) dX2_readFactor_92 (⟨hw_21.1, FCQ.brk (by omega) h91 hw_21.2.1 hw_21.2.2 hw_25.1 hw_25.2.1 hw_25.2.2.2⟩) (hP.sub [0, 3, 4, 5, 1, 2] rfl) (hD.sub [0, 3, 4, 5, 1, 2] (by decide) rfl) hS
  · obtain ⟨hf0, hlt, hfq⟩ := FCQ.letter (k := 6) (fun z => c_8 (by rw [ex_2, z]; decide))
    refine lv_aload_n hx hb dX2_readFactor_11 rfl (lv_at hl 1 rfl) ?_
    refine va_get (D := D) (ci := 2) (v := .ref tx) (C := RX2) (T := TX2) (N := 2) hx hb htb itX2 hown hK hP 0 rfl rfl 0 (by decide) (htb _ k_288) (fun _ h9 => h9) rfl dX2_readFactor_12 ?_
    refine lv_dup hx hb dX2_readFactor_15 rfl ?_
    refine va_getN (D := D) (ci := 6) (v := .int (nI P)) (C := RX6) (T := TX6) (N := 4) hx hb htb itX6 hown hK hP 1 rfl rfl 2 (by decide) (va_Nw.use rfl (hN _ n_264 rfl)) (fun _ h9 => h9) rfl dX2_readFactor_16 ?_
    refine lv_iconst (v := 1) hx hb dX2_readFactor_19 (by decide) ?_
    refine lv_iadd hx hb dX2_readFactor_20 ?_
    refine tv (z := (nI (P + 1))) (nI_1 P) ?_
    refine va_putN (D := D) (ci := 6) (v := .int (nI (P + 1))) (ty := .int) (C := RX6) (T := TX6) (N := 4) hx hb htb itX6 tyX6 tyX6_ok nmX6 hown hK hP hD hS 1 rfl rfl 2 (by decide) (va_Nw.use rfl (hN _ n_264 rfl)) (fun _ h9 => h9) rfl (tyX6_ok 2 (by decide)) rfl rfl (Nat.le_of_ble_eq_true rfl) dX2_readFactor_21 (fun H locs hP hD hS => ?_)
    have hP : va_P D vwCl [(h0, .inr (2, [.ref tx, .ref lw])), (tx, .inr (6, [.ref tp, .int (nI N), .int (nI (P + 1)), .int fa])), (tp, .inr (5, [.ref by_, .int (nI T)])), (by_, .inl (cI, 260, .inl fb)), (lw, .inr (1, [.ref l1, .ref l2, .ref l3, .ref l4, .ref l5, .ref l6, .ref l7, .int (nI z), .int (nI k)])), (l1, .inl (cI, 240, .inl q1))] H := hP
    have hD : va_D A [(h0, .inr (2, [.ref tx, .ref lw])), (tx, .inr (6, [.ref tp, .int (nI N), .int (nI (P + 1)), .int fa])), (tp, .inr (5, [.ref by_, .int (nI T)])), (by_, .inl (cI, 260, .inl fb)), (lw, .inr (1, [.ref l1, .ref l2, .ref l3, .ref l4, .ref l5, .ref l6, .ref l7, .int (nI z), .int (nI k)])), (l1, .inl (cI, 240, .inl q1))] := hD
    refine lv_aload_n hx hb dX2_readFactor_24 rfl (lv_at hl 1 rfl) ?_
    refine va_get (D := D) (ci := 2) (v := .ref lw) (C := RX2) (T := TX2) (N := 2) hx hb htb itX2 hown hK hP 0 rfl rfl 1 (by decide) (htb _ k_289) (fun _ h9 => h9) rfl dX2_readFactor_25 ?_
    refine lv_iconst (v := 1) hx hb dX2_readFactor_28 (by decide) ?_
    refine lv_iload_n hx hb dX2_readFactor_29 rfl (lv_at hl 0 rfl) ?_
    refine cVV (As := [.int 1, .int x_2]) (rest := []) (n := 2) (ci := 1) (q0 := 0) (wr := [(h0, .inr (2, [.ref tx, .ref lw])), (tx, .inr (6, [.ref tp, .int (nI N), .int (nI (P + 1)), .int fa])), (tp, .inr (5, [.ref by_, .int (nI T)])), (by_, .inl (cI, 260, .inl fb))]) X hN hK hP hD hS hA (c_X1_addStep l D cI cB _ lw l1 l2 l3 l4 l5 l6 l7 z k 1 x_2 q1 hz hk) (gV k_594 k_595 k_596 k_97 k_597) (by decide +kernel) ⟨Nat.le_of_ble_eq_true rfl, Nat.le_of_ble_eq_true rfl⟩ ⟨rfl, rfl⟩ [4, 5] [0, 1, 2, 3] rfl rfl (by decide) (by decide) rfl rfl rfl rfl rfl hl.1 (Nat.le_of_ble_eq_true rfl) dX2_readFactor_30 ⟨Nat.le_of_ble_eq_true rfl, Nat.le_of_ble_eq_true rfl⟩ (fun u H locs hw_29 hP hD hS => ?_)
    obtain ⟨zo_27, l1_fo_28⟩ := u
    try dsimp only at hw_29
    have hP : va_P D vwCl [(h0, .inr (2, [.ref tx, .ref lw])), (tx, .inr (6, [.ref tp, .int (nI N), .int (nI (P + 1)), .int fa])), (tp, .inr (5, [.ref by_, .int (nI T)])), (by_, .inl (cI, 260, .inl fb)), (lw, .inr (1, [.ref l1, .ref l2, .ref l3, .ref l4, .ref l5, .ref l6, .ref l7, .int (nI zo_27), .int (nI k)])), (l1, .inl (cI, 240, .inl l1_fo_28))] H := hP
    have hD : va_D A [(h0, .inr (2, [.ref tx, .ref lw])), (tx, .inr (6, [.ref tp, .int (nI N), .int (nI (P + 1)), .int fa])), (tp, .inr (5, [.ref by_, .int (nI T)])), (by_, .inl (cI, 260, .inl fb)), (lw, .inr (1, [.ref l1, .ref l2, .ref l3, .ref l4, .ref l5, .ref l6, .ref l7, .int (nI zo_27), .int (nI k)])), (l1, .inl (cI, 240, .inl l1_fo_28))] := hD
    refine lv_goto (tgt := 92) hx hb dX2_readFactor_33 (by decide) ?_
    exact ret _ _ _ _ ((P + 1), fa, zo_27, l1_fo_28) dX2_readFactor_92 (⟨hw_29, hfq⟩) (hP.sub [0, 1, 2, 3, 4, 5] rfl) (hD.sub [0, 1, 2, 3, 4, 5] (by decide) rfl) hS

set_option maxRecDepth 100000 in
set_option maxHeartbeats 4000000 in
theorem c_rtP_0 (l : Launch) (D : va_G) (cI cB : ClassId) (sz : Nat) (kk : KT) (h0 : Nat) (tx : Nat) (tp : Nat) (N : Nat) (P : Nat) (fa : Int32) (by_ : Nat) (T : Nat) (fb : Nat → Int32) (lw : Nat) (l1 : Nat) (l2 : Nat) (l3 : Nat) (l4 : Nat) (l5 : Nat) (l6 : Nat) (l7 : Nat) (z : Nat) (k : Nat) (q1 : Nat → Int32) (hT : T ≤ 260) (hNT : N ≤ T) (hPN : P ≤ N) (hN2 : N ≤ 240) (hfa : fa = 0 ∨ fa < 0) (hbr : BR N fb) (hz : z ≤ 240) (hk : k ≤ 16) : MVk (S := ((Nat) × (Int32) × (Nat) × (Nat → Int32))) l D cI cB kk yX2_readTerm cX2_readTerm 4 (rm 24 543) [.ref h0, .int 0] [(h0, .inr (2, [.ref tx, .ref lw])), (tx, .inr (6, [.ref tp, .int (nI N), .int (nI P), .int fa])), (tp, .inr (5, [.ref by_, .int (nI T)])), (by_, .inl (cI, 260, .inl fb)), (lw, .inr (1, [.ref l1, .ref l2, .ref l3, .ref l4, .ref l5, .ref l6, .ref l7, .int (nI z), .int (nI k)])), (l1, .inl (cI, 240, .inl q1))] sz (fun u => u.2.2.1 ≤ 240 ∧ FCQ fb N 6 P u.1 fa u.2.1 ∧ (u.2.1 = 0 → ¬ MU3 (chF fb N u.1))) (fun u : ((Nat) × (Int32) × (Nat) × (Nat → Int32)) => [(h0, .inr (2, [.ref tx, .ref lw])), (tx, .inr (6, [.ref tp, .int (nI N), .int (nI u.1), .int u.2.1])), (tp, .inr (5, [.ref by_, .int (nI T)])), (by_, .inl (cI, 260, .inl fb)), (lw, .inr (1, [.ref l1, .ref l2, .ref l3, .ref l4, .ref l5, .ref l6, .ref l7, .int (nI u.2.2.1), .int (nI k)])), (l1, .inl (cI, 240, .inl u.2.2.2))]) := by
  refine MVk.of (by decide) (Nat.le_of_ble_eq_true rfl) ?_
  intro p e s m below meth c Q ls A X hin hN hKO hP hK hD hA hl ret
  have hS : va_S A s.heap s.heap [] := va_S.rf
  obtain ⟨hx, hb, hml, hown, htb⟩ := id X
  have hl : lv_has ls 4 [(0, .ref h0), (1, .int 0)] := hl
  refine lv_aload_n hx hb dX2_readTerm_0 rfl (lv_at hl 0 rfl) ?_
  refine lv_iload_n hx hb dX2_readTerm_1 rfl (lv_at hl 1 rfl) ?_
  refine cVVk (As := [.int 0]) (rest := []) (n := 1) (ci := 2) (q0 := 0) (wr := []) X hN hKO hK hP hD hS hA (c_rfP_0 l D cI cB _ kk h0 tx tp N P fa by_ T fb lw l1 l2 l3 l4 l5 l6 l7 z k q1 hT hNT hPN hN2 hfa hbr hz hk) (gV k_589 k_591 k_4 k_99 k_592) (by decide +kernel) ⟨Nat.le_of_ble_eq_true rfl, Nat.le_of_ble_eq_true rfl⟩ ⟨rfl, rfl⟩ [0, 1, 2, 3, 4, 5] [] rfl rfl (by decide) (by decide) rfl rfl rfl rfl rfl hl.1 (Nat.le_of_ble_eq_true rfl) dX2_readTerm_2 ⟨Nat.le_of_ble_eq_true rfl, Nat.le_of_ble_eq_true rfl⟩ (fun u H locs hw_6 hP hD hS => ?_)
  obtain ⟨Po_2, fo_3, zo_4, l1o_5⟩ := u
  try dsimp only at hw_6
  have hP : va_P D vwCl [(h0, .inr (2, [.ref tx, .ref lw])), (tx, .inr (6, [.ref tp, .int (nI N), .int (nI Po_2), .int fo_3])), (tp, .inr (5, [.ref by_, .int (nI T)])), (by_, .inl (cI, 260, .inl fb)), (lw, .inr (1, [.ref l1, .ref l2, .ref l3, .ref l4, .ref l5, .ref l6, .ref l7, .int (nI zo_4), .int (nI k)])), (l1, .inl (cI, 240, .inl l1o_5))] H := hP
  have hD : va_D A [(h0, .inr (2, [.ref tx, .ref lw])), (tx, .inr (6, [.ref tp, .int (nI N), .int (nI Po_2), .int fo_3])), (tp, .inr (5, [.ref by_, .int (nI T)])), (by_, .inl (cI, 260, .inl fb)), (lw, .inr (1, [.ref l1, .ref l2, .ref l3, .ref l4, .ref l5, .ref l6, .ref l7, .int (nI zo_4), .int (nI k)])), (l1, .inl (cI, 240, .inl l1o_5))] := hD
  refine lv_iconst (v := 0) hx hb dX2_readTerm_5 (by decide) ?_
  refine lv_istore_n (lv' := [(2, .int 0), (0, .ref h0), (1, .int 0)]) hx hb dX2_readTerm_6 rfl hl (by decide) rfl (fun ls hl => ?_)
  have loop_7 : ∀ (n i : Nat) (Pa : Nat) (fv : Int32) (za : Nat) (qa : Nat → Int32), n + i = 240 → (za ≤ 240) → (FCQ fb N 6 P Pa fa fv) → (fv = 0 → fa = 0 → i < Pa) → ∀ (H : Heap) (locs : List Loc), va_P D vwCl [(h0, .inr (2, [.ref tx, .ref lw])), (tx, .inr (6, [.ref tp, .int (nI N), .int (nI Pa), .int fv])), (tp, .inr (5, [.ref by_, .int (nI T)])), (by_, .inl (cI, 260, .inl fb)), (lw, .inr (1, [.ref l1, .ref l2, .ref l3, .ref l4, .ref l5, .ref l6, .ref l7, .int (nI za), .int (nI k)])), (l1, .inl (cI, 240, .inl qa))] H → va_D A [(h0, .inr (2, [.ref tx, .ref lw])), (tx, .inr (6, [.ref tp, .int (nI N), .int (nI Pa), .int fv])), (tp, .inr (5, [.ref by_, .int (nI T)])), (by_, .inl (cI, 260, .inl fb)), (lw, .inr (1, [.ref l1, .ref l2, .ref l3, .ref l4, .ref l5, .ref l6, .ref l7, .int (nI za), .int (nI k)])), (l1, .inl (cI, 240, .inl qa))] → va_S A s.heap H locs → ∀ (ls : Array Slot), lv_has ls 4 [(0, .ref h0), (1, .int 0), (2, .int (nI i))] → W p l e (rm 24 543) s m ([.ref h0, .int 0] : List Value).toArray below meth c H locs 0 0 Q (F0 m 7 ls []) := by
    intro n
    induction n with
    | zero =>
      intro i Pa fv za qa hni hza hq hiP H locs hP hD hS ls hl
      have hni_7 := hni
      have hi : i = 240 := by omega
      refine lv_iload_n hx hb dX2_readTerm_7 rfl (lv_at hl 2 rfl) ?_
      refine lv_sipush (v := 240) hx hb dX2_readTerm_8 (by decide) ?_
      refine lv_icmp_ge (tgt := 60) hx hb dX2_readTerm_11 (by decide) (fun _ => ?_) (fun c_11 => absurd (by rw [hi]; decide) c_11)
      exact ret _ _ _ _ (Pa, fv, za, qa) dX2_readTerm_60 (⟨hza, ⟨hq, fun z => absurd z (fun z => by have h2 := hq.2.1; have h4 := hq.2.2.2.1; exact (Classical.em (fa = 0)).elim (fun w => by have := hiP z w; omega) (fun w => w ((h2 w).symm.trans z)))⟩⟩) (hP.sub [0, 1, 2, 3, 4, 5] rfl) (hD.sub [0, 1, 2, 3, 4, 5] (by decide) rfl) hS
    | succ n ih_7 =>
      intro i Pa fv za qa hni hza hq hiP H locs hP hD hS ls hl
      have hni_7 := hni
      have hi : i < 240 := by omega
      refine lv_iload_n hx hb dX2_readTerm_7 rfl (lv_at hl 2 rfl) ?_
      refine lv_sipush (v := 240) hx hb dX2_readTerm_8 (by decide) ?_
      refine lv_icmp_ge (tgt := 60) hx hb dX2_readTerm_11 (by decide) (fun c_11 => absurd c_11 (nI_ge hi (by decide))) (fun _ => ?_)
      refine lv_aload_n hx hb dX2_readTerm_14 rfl (lv_at hl 0 rfl) ?_
      refine cVR (As := []) (rest := []) (n := 0) (ci := 2) (q0 := 0) X hN hK hP (c_factorStepP l D cI cB h0 lw tx tp N Pa fv by_ T fb hT hNT hq.2.2.2.1) (gV k_620 k_622 k_6 k_99 k_623) (by decide +kernel) ⟨Nat.le_of_ble_eq_true rfl, Nat.le_of_ble_eq_true rfl⟩ ⟨rfl, rfl⟩ [0, 1, 2, 3] rfl rfl rfl rfl rfl rfl hl.1 (Nat.le_of_ble_eq_true rfl) dX2_readTerm_15 ⟨Nat.le_of_ble_eq_true rfl, Nat.le_of_ble_eq_true rfl⟩ (fun rfs hrfs => ?_)
      refine lv_iconst (v := (-1)) hx hb dX2_readTerm_18 (by decide) ?_
      refine lv_icmp_eq (tgt := 60) hx hb dX2_readTerm_19 (by decide) (fun c_19 => ?_) (fun c_19 => ?_)
      · exact ret _ _ _ _ (Pa, fv, za, qa) dX2_readTerm_60 (⟨hza, ⟨hq, fun (z : fv = 0) => by have w := hrfs.1 c_19; rw [z, sQ0] at w; exact w⟩⟩) (hP.sub [0, 1, 2, 3, 4, 5] rfl) (hD.sub [0, 1, 2, 3, 4, 5] (by decide) rfl) hS
      · obtain ⟨hf0, hlt, hs5⟩ := sQs (sgM (hrfs.2 c_19))
        subst hf0
        refine lv_aload_n hx hb dX2_readTerm_22 rfl (lv_at hl 0 rfl) ?_
        refine cVR (As := []) (rest := []) (n := 0) (ci := 2) (q0 := 0) X hN hK hP (c_factorStepP l D cI cB h0 lw tx tp N Pa 0 by_ T fb hT hNT hq.2.2.2.1) (gV k_620 k_622 k_6 k_99 k_623) (by decide +kernel) ⟨Nat.le_of_ble_eq_true rfl, Nat.le_of_ble_eq_true rfl⟩ ⟨rfl, rfl⟩ [0, 1, 2, 3] rfl rfl rfl rfl rfl rfl hl.1 (Nat.le_of_ble_eq_true rfl) dX2_readTerm_23 ⟨Nat.le_of_ble_eq_true rfl, Nat.le_of_ble_eq_true rfl⟩ (fun r_7 hr_7 => ?_)
        refine lv_istore_n (lv' := [(3, .int r_7), (0, .ref h0), (1, .int 0), (2, .int (nI i))]) hx hb dX2_readTerm_26 rfl hl (by decide) rfl (fun ls hl => ?_)
        refine lv_aload_n hx hb dX2_readTerm_27 rfl (lv_at hl 1 rfl) ?_
        refine va_get (D := D) (ci := 2) (v := .ref tx) (C := RX2) (T := TX2) (N := 2) hx hb htb itX2 hown hK hP 0 rfl rfl 0 (by decide) (htb _ k_288) (fun _ h9 => h9) rfl dX2_readTerm_28 ?_
        refine lv_dup hx hb dX2_readTerm_31 rfl ?_
        refine va_getN (D := D) (ci := 6) (v := .int (nI Pa)) (C := RX6) (T := TX6) (N := 4) hx hb htb itX6 hown hK hP 1 rfl rfl 2 (by decide) (va_Nw.use rfl (hN _ n_264 rfl)) (fun _ h9 => h9) rfl dX2_readTerm_32 ?_
        refine lv_iconst (v := 1) hx hb dX2_readTerm_35 (by decide) ?_
        refine lv_iadd hx hb dX2_readTerm_36 ?_
        refine tv (z := (nI (Pa + 1))) (nI_1 Pa) ?_
        refine va_putN (D := D) (ci := 6) (v := .int (nI (Pa + 1))) (ty := .int) (C := RX6) (T := TX6) (N := 4) hx hb htb itX6 tyX6 tyX6_ok nmX6 hown hK hP hD hS 1 rfl rfl 2 (by decide) (va_Nw.use rfl (hN _ n_264 rfl)) (fun _ h9 => h9) rfl (tyX6_ok 2 (by decide)) rfl rfl (Nat.le_of_ble_eq_true rfl) dX2_readTerm_37 (fun H locs hP hD hS => ?_)
        have hP : va_P D vwCl [(h0, .inr (2, [.ref tx, .ref lw])), (tx, .inr (6, [.ref tp, .int (nI N), .int (nI (Pa + 1)), .int 0])), (tp, .inr (5, [.ref by_, .int (nI T)])), (by_, .inl (cI, 260, .inl fb)), (lw, .inr (1, [.ref l1, .ref l2, .ref l3, .ref l4, .ref l5, .ref l6, .ref l7, .int (nI za), .int (nI k)])), (l1, .inl (cI, 240, .inl qa))] H := hP
        have hD : va_D A [(h0, .inr (2, [.ref tx, .ref lw])), (tx, .inr (6, [.ref tp, .int (nI N), .int (nI (Pa + 1)), .int 0])), (tp, .inr (5, [.ref by_, .int (nI T)])), (by_, .inl (cI, 260, .inl fb)), (lw, .inr (1, [.ref l1, .ref l2, .ref l3, .ref l4, .ref l5, .ref l6, .ref l7, .int (nI za), .int (nI k)])), (l1, .inl (cI, 240, .inl qa))] := hD
        refine lv_aload_n hx hb dX2_readTerm_40 rfl (lv_at hl 1 rfl) ?_
        refine lv_iload_n hx hb dX2_readTerm_41 rfl (lv_at hl 2 rfl) ?_
        refine cVVk (As := [.int 0]) (rest := []) (n := 1) (ci := 2) (q0 := 0) (wr := []) X hN hKO hK hP hD hS hA (c_rfP_0 l D cI cB _ kk h0 tx tp N (Pa + 1) 0 by_ T fb lw l1 l2 l3 l4 l5 l6 l7 za k qa hT hNT (by omega) hN2 (Or.inl rfl) hbr hza hk) (gV k_589 k_591 k_4 k_99 k_592) (by decide +kernel) ⟨Nat.le_of_ble_eq_true rfl, Nat.le_of_ble_eq_true rfl⟩ ⟨rfl, rfl⟩ [0, 1, 2, 3, 4, 5] [] rfl rfl (by decide) (by decide) rfl rfl rfl rfl rfl hl.1 (Nat.le_of_ble_eq_true rfl) dX2_readTerm_42 ⟨Nat.le_of_ble_eq_true rfl, Nat.le_of_ble_eq_true rfl⟩ (fun u H locs hw_13 hP hD hS => ?_)
        obtain ⟨Po_9, fo_10, zo_11, l1o_12⟩ := u
        try dsimp only at hw_13
        have hP : va_P D vwCl [(h0, .inr (2, [.ref tx, .ref lw])), (tx, .inr (6, [.ref tp, .int (nI N), .int (nI Po_9), .int fo_10])), (tp, .inr (5, [.ref by_, .int (nI T)])), (by_, .inl (cI, 260, .inl fb)), (lw, .inr (1, [.ref l1, .ref l2, .ref l3, .ref l4, .ref l5, .ref l6, .ref l7, .int (nI zo_11), .int (nI k)])), (l1, .inl (cI, 240, .inl l1o_12))] H := hP
        have hD : va_D A [(h0, .inr (2, [.ref tx, .ref lw])), (tx, .inr (6, [.ref tp, .int (nI N), .int (nI Po_9), .int fo_10])), (tp, .inr (5, [.ref by_, .int (nI T)])), (by_, .inl (cI, 260, .inl fb)), (lw, .inr (1, [.ref l1, .ref l2, .ref l3, .ref l4, .ref l5, .ref l6, .ref l7, .int (nI zo_11), .int (nI k)])), (l1, .inl (cI, 240, .inl l1o_12))] := hD
        refine lv_aload_n hx hb dX2_readTerm_45 rfl (lv_at hl 1 rfl) ?_
        refine va_get (D := D) (ci := 2) (v := .ref lw) (C := RX2) (T := TX2) (N := 2) hx hb htb itX2 hown hK hP 0 rfl rfl 1 (by decide) (htb _ k_289) (fun _ h9 => h9) rfl dX2_readTerm_46 ?_
        refine lv_iload_n hx hb dX2_readTerm_49 rfl (lv_at hl 0 rfl) ?_
        refine lv_iconst (v := 0) hx hb dX2_readTerm_50 (by decide) ?_
        refine cVV (As := [.int r_7, .int 0]) (rest := []) (n := 2) (ci := 1) (q0 := 0) (wr := [(h0, .inr (2, [.ref tx, .ref lw])), (tx, .inr (6, [.ref tp, .int (nI N), .int (nI Po_9), .int fo_10])), (tp, .inr (5, [.ref by_, .int (nI T)])), (by_, .inl (cI, 260, .inl fb))]) X hN hK hP hD hS hA (c_X1_addStep l D cI cB _ lw l1 l2 l3 l4 l5 l6 l7 zo_11 k r_7 0 l1o_12 hw_13.1 hk) (gV k_594 k_595 k_596 k_97 k_597) (by decide +kernel) ⟨Nat.le_of_ble_eq_true rfl, Nat.le_of_ble_eq_true rfl⟩ ⟨rfl, rfl⟩ [4, 5] [0, 1, 2, 3] rfl rfl (by decide) (by decide) rfl rfl rfl rfl rfl hl.1 (Nat.le_of_ble_eq_true rfl) dX2_readTerm_51 ⟨Nat.le_of_ble_eq_true rfl, Nat.le_of_ble_eq_true rfl⟩ (fun u H locs hw_17 hP hD hS => ?_)
        obtain ⟨zo_15, l1_fo_16⟩ := u
        try dsimp only at hw_17
        have hP : va_P D vwCl [(h0, .inr (2, [.ref tx, .ref lw])), (tx, .inr (6, [.ref tp, .int (nI N), .int (nI Po_9), .int fo_10])), (tp, .inr (5, [.ref by_, .int (nI T)])), (by_, .inl (cI, 260, .inl fb)), (lw, .inr (1, [.ref l1, .ref l2, .ref l3, .ref l4, .ref l5, .ref l6, .ref l7, .int (nI zo_15), .int (nI k)])), (l1, .inl (cI, 240, .inl l1_fo_16))] H := hP
        have hD : va_D A [(h0, .inr (2, [.ref tx, .ref lw])), (tx, .inr (6, [.ref tp, .int (nI N), .int (nI Po_9), .int fo_10])), (tp, .inr (5, [.ref by_, .int (nI T)])), (by_, .inl (cI, 260, .inl fb)), (lw, .inr (1, [.ref l1, .ref l2, .ref l3, .ref l4, .ref l5, .ref l6, .ref l7, .int (nI zo_15), .int (nI k)])), (l1, .inl (cI, 240, .inl l1_fo_16))] := hD
        refine lv_iinc (v := (nI (i + 1))) (lv' := [(2, .int (nI (i + 1))), (3, .int r_7), (0, .ref h0), (1, .int 0)]) hx hb dX2_readTerm_54 hl (k := 3) rfl (nI_1 i) (by decide) rfl (fun ls hl => ?_)
        refine lv_goto (tgt := 7) hx hb dX2_readTerm_57 (by decide) ?_
        exact ih_7 (i + 1) Po_9 fo_10 zo_15 l1_fo_16 (by omega) hw_17 (hq.more hs5 hw_13.2) (fun z w => by have := (((hw_13.2.2.2.2.2 rfl).1 z).1); have := hiP rfl w; omega) _ _ (hP.sub [0, 1, 2, 3, 4, 5] rfl) (hD.sub [0, 1, 2, 3, 4, 5] (by decide) rfl) hS _ (lv_sub hl [2, 3, 0] rfl)
  exact loop_7 240 0 Po_2 fo_3 zo_4 l1o_5 (by omega) hw_6.1 hw_6.2 (fun z w => (((hw_6.2.2.2.2.2 w).1 z).1 |> fun y => by omega)) _ _ (hP.sub [0, 1, 2, 3, 4, 5] rfl) (hD.sub [0, 1, 2, 3, 4, 5] (by decide) rfl) hS _ (lv_sub hl [1, 2, 0] rfl)

set_option maxRecDepth 100000 in
set_option maxHeartbeats 4000000 in
theorem c_rsP_0 (l : Launch) (D : va_G) (cI cB : ClassId) (sz : Nat) (kk : KT) (h0 : Nat) (tx : Nat) (tp : Nat) (N : Nat) (P : Nat) (fa : Int32) (by_ : Nat) (T : Nat) (fb : Nat → Int32) (lw : Nat) (l1 : Nat) (l2 : Nat) (l3 : Nat) (l4 : Nat) (l5 : Nat) (l6 : Nat) (l7 : Nat) (z : Nat) (k : Nat) (q1 : Nat → Int32) (hT : T ≤ 260) (hNT : N ≤ T) (hPN : P ≤ N) (hN2 : N ≤ 240) (hfa : fa = 0 ∨ fa < 0) (hbr : BR N fb) (hz : z ≤ 240) (hk : k ≤ 16) : MVk (S := ((Nat) × (Int32) × (Nat) × (Nat → Int32))) l D cI cB kk yX2_readSum cX2_readSum 4 (rm 25 566) [.ref h0, .int 0] [(h0, .inr (2, [.ref tx, .ref lw])), (tx, .inr (6, [.ref tp, .int (nI N), .int (nI P), .int fa])), (tp, .inr (5, [.ref by_, .int (nI T)])), (by_, .inl (cI, 260, .inl fb)), (lw, .inr (1, [.ref l1, .ref l2, .ref l3, .ref l4, .ref l5, .ref l6, .ref l7, .int (nI z), .int (nI k)])), (l1, .inl (cI, 240, .inl q1))] sz (fun u => u.2.2.1 ≤ 240 ∧ FCQ fb N 6 P u.1 fa u.2.1 ∧ (u.2.1 = 0 → ¬ SG5 (chF fb N u.1))) (fun u : ((Nat) × (Int32) × (Nat) × (Nat → Int32)) => [(h0, .inr (2, [.ref tx, .ref lw])), (tx, .inr (6, [.ref tp, .int (nI N), .int (nI u.1), .int u.2.1])), (tp, .inr (5, [.ref by_, .int (nI T)])), (by_, .inl (cI, 260, .inl fb)), (lw, .inr (1, [.ref l1, .ref l2, .ref l3, .ref l4, .ref l5, .ref l6, .ref l7, .int (nI u.2.2.1), .int (nI k)])), (l1, .inl (cI, 240, .inl u.2.2.2))]) := by
  refine MVk.of (by decide) (Nat.le_of_ble_eq_true rfl) ?_
  intro p e s m below meth c Q ls A X hin hN hKO hP hK hD hA hl ret
  have hS : va_S A s.heap s.heap [] := va_S.rf
  obtain ⟨hx, hb, hml, hown, htb⟩ := id X
  have hl : lv_has ls 4 [(0, .ref h0), (1, .int 0)] := hl
  refine lv_aload_n hx hb dX2_readSum_0 rfl (lv_at hl 0 rfl) ?_
  refine lv_iload_n hx hb dX2_readSum_1 rfl (lv_at hl 1 rfl) ?_
  refine cVVk (As := [.int 0]) (rest := []) (n := 1) (ci := 2) (q0 := 0) (wr := []) X hN hKO hK hP hD hS hA (c_rtP_0 l D cI cB _ kk h0 tx tp N P fa by_ T fb lw l1 l2 l3 l4 l5 l6 l7 z k q1 hT hNT hPN hN2 hfa hbr hz hk) (gV k_585 k_587 k_3 k_99 k_588) (by decide +kernel) ⟨Nat.le_of_ble_eq_true rfl, Nat.le_of_ble_eq_true rfl⟩ ⟨rfl, rfl⟩ [0, 1, 2, 3, 4, 5] [] rfl rfl (by decide) (by decide) rfl rfl rfl rfl rfl hl.1 (Nat.le_of_ble_eq_true rfl) dX2_readSum_2 ⟨Nat.le_of_ble_eq_true rfl, Nat.le_of_ble_eq_true rfl⟩ (fun u H locs hw_6 hP hD hS => ?_)
  obtain ⟨Po_2, fo_3, zo_4, l1o_5⟩ := u
  try dsimp only at hw_6
  have hP : va_P D vwCl [(h0, .inr (2, [.ref tx, .ref lw])), (tx, .inr (6, [.ref tp, .int (nI N), .int (nI Po_2), .int fo_3])), (tp, .inr (5, [.ref by_, .int (nI T)])), (by_, .inl (cI, 260, .inl fb)), (lw, .inr (1, [.ref l1, .ref l2, .ref l3, .ref l4, .ref l5, .ref l6, .ref l7, .int (nI zo_4), .int (nI k)])), (l1, .inl (cI, 240, .inl l1o_5))] H := hP
  have hD : va_D A [(h0, .inr (2, [.ref tx, .ref lw])), (tx, .inr (6, [.ref tp, .int (nI N), .int (nI Po_2), .int fo_3])), (tp, .inr (5, [.ref by_, .int (nI T)])), (by_, .inl (cI, 260, .inl fb)), (lw, .inr (1, [.ref l1, .ref l2, .ref l3, .ref l4, .ref l5, .ref l6, .ref l7, .int (nI zo_4), .int (nI k)])), (l1, .inl (cI, 240, .inl l1o_5))] := hD
  refine lv_iconst (v := 0) hx hb dX2_readSum_5 (by decide) ?_
  refine lv_istore_n (lv' := [(2, .int 0), (0, .ref h0), (1, .int 0)]) hx hb dX2_readSum_6 rfl hl (by decide) rfl (fun ls hl => ?_)
  have loop_7 : ∀ (n i : Nat) (Pa : Nat) (fv : Int32) (za : Nat) (qa : Nat → Int32), n + i = 240 → (za ≤ 240) → (FCQ fb N 6 P Pa fa fv) → (fv = 0 → fa = 0 → i < Pa) → (fv = 0 → ¬ MU3 (chF fb N Pa)) → ∀ (H : Heap) (locs : List Loc), va_P D vwCl [(h0, .inr (2, [.ref tx, .ref lw])), (tx, .inr (6, [.ref tp, .int (nI N), .int (nI Pa), .int fv])), (tp, .inr (5, [.ref by_, .int (nI T)])), (by_, .inl (cI, 260, .inl fb)), (lw, .inr (1, [.ref l1, .ref l2, .ref l3, .ref l4, .ref l5, .ref l6, .ref l7, .int (nI za), .int (nI k)])), (l1, .inl (cI, 240, .inl qa))] H → va_D A [(h0, .inr (2, [.ref tx, .ref lw])), (tx, .inr (6, [.ref tp, .int (nI N), .int (nI Pa), .int fv])), (tp, .inr (5, [.ref by_, .int (nI T)])), (by_, .inl (cI, 260, .inl fb)), (lw, .inr (1, [.ref l1, .ref l2, .ref l3, .ref l4, .ref l5, .ref l6, .ref l7, .int (nI za), .int (nI k)])), (l1, .inl (cI, 240, .inl qa))] → va_S A s.heap H locs → ∀ (ls : Array Slot), lv_has ls 4 [(0, .ref h0), (1, .int 0), (2, .int (nI i))] → W p l e (rm 25 566) s m ([.ref h0, .int 0] : List Value).toArray below meth c H locs 0 0 Q (F0 m 7 ls []) := by
    intro n
    induction n with
    | zero =>
      intro i Pa fv za qa hni hza hq hiP hmu H locs hP hD hS ls hl
      have hni_7 := hni
      have hi : i = 240 := by omega
      refine lv_iload_n hx hb dX2_readSum_7 rfl (lv_at hl 2 rfl) ?_
      refine lv_sipush (v := 240) hx hb dX2_readSum_8 (by decide) ?_
      refine lv_icmp_ge (tgt := 90) hx hb dX2_readSum_11 (by decide) (fun _ => ?_) (fun c_11 => absurd (by rw [hi]; decide) c_11)
      exact ret _ _ _ _ (Pa, fv, za, qa) dX2_readSum_90 (⟨hza, ⟨hq, fun z => absurd z (fun z => by have h2 := hq.2.1; have h4 := hq.2.2.2.1; exact (Classical.em (fa = 0)).elim (fun w => by have := hiP z w; omega) (fun w => w ((h2 w).symm.trans z)))⟩⟩) (hP.sub [0, 1, 2, 3, 4, 5] rfl) (hD.sub [0, 1, 2, 3, 4, 5] (by decide) rfl) hS
    | succ n ih_7 =>
      intro i Pa fv za qa hni hza hq hiP hmu H locs hP hD hS ls hl
      have hni_7 := hni
      have hi : i < 240 := by omega
      refine lv_iload_n hx hb dX2_readSum_7 rfl (lv_at hl 2 rfl) ?_
      refine lv_sipush (v := 240) hx hb dX2_readSum_8 (by decide) ?_
      refine lv_icmp_ge (tgt := 90) hx hb dX2_readSum_11 (by decide) (fun c_11 => absurd c_11 (nI_ge hi (by decide))) (fun _ => ?_)
      refine lv_aload_n hx hb dX2_readSum_14 rfl (lv_at hl 0 rfl) ?_
      refine va_get (D := D) (ci := 2) (v := .ref tx) (C := RX2) (T := TX2) (N := 2) hx hb htb itX2 hown hK hP 0 rfl rfl 0 (by decide) (htb _ k_288) (fun _ h9 => h9) rfl dX2_readSum_15 ?_
      refine cVR (As := []) (rest := []) (n := 0) (ci := 6) (q0 := 0) X hN hK hP (c_signP l D cI cB tx tp N Pa fv by_ T fb hT hNT hq.2.2.2.1) (gV k_483 k_484 k_485 k_98 k_486) (by decide +kernel) ⟨Nat.le_of_ble_eq_true rfl, Nat.le_of_ble_eq_true rfl⟩ ⟨rfl, rfl⟩ [1, 2, 3] rfl rfl rfl rfl rfl rfl hl.1 (Nat.le_of_ble_eq_true rfl) dX2_readSum_18 ⟨Nat.le_of_ble_eq_true rfl, Nat.le_of_ble_eq_true rfl⟩ (fun r_7 hr_7 => ?_)
      subst hr_7
      refine lv_bipush (v := 43) hx hb dX2_readSum_21 (by decide) ?_
      refine lv_icmp_eq (tgt := 38) hx hb dX2_readSum_23 (by decide) (fun c_23 => ?_) (fun c_23 => ?_)
      · obtain ⟨hf0, hlt, hs5⟩ := sQs (sgA (Or.inl c_23))
        subst hf0
        refine lv_aload_n hx hb dX2_readSum_38 rfl (lv_at hl 0 rfl) ?_
        refine va_get (D := D) (ci := 2) (v := .ref tx) (C := RX2) (T := TX2) (N := 2) hx hb htb itX2 hown hK hP 0 rfl rfl 0 (by decide) (htb _ k_288) (fun _ h9 => h9) rfl dX2_readSum_39 ?_
        refine cVR (As := []) (rest := []) (n := 0) (ci := 6) (q0 := 0) X hN hK hP (c_signP l D cI cB tx tp N Pa 0 by_ T fb hT hNT hq.2.2.2.1) (gV k_483 k_484 k_485 k_98 k_486) (by decide +kernel) ⟨Nat.le_of_ble_eq_true rfl, Nat.le_of_ble_eq_true rfl⟩ ⟨rfl, rfl⟩ [1, 2, 3] rfl rfl rfl rfl rfl rfl hl.1 (Nat.le_of_ble_eq_true rfl) dX2_readSum_42 ⟨Nat.le_of_ble_eq_true rfl, Nat.le_of_ble_eq_true rfl⟩ (fun r_8 hr_8 => ?_)
        subst hr_8
        refine lv_bipush (v := 43) hx hb dX2_readSum_45 (by decide) ?_
        refine lv_icmp_ne (tgt := 54) hx hb dX2_readSum_47 (by decide) (fun c_47 => ?_) (fun c_47 => ?_)
        · refine lv_bipush (v := 6) hx hb dX2_readSum_54 (by decide) ?_
          refine lv_istore_n (lv' := [(3, .int 6), (0, .ref h0), (1, .int 0), (2, .int (nI i))]) hx hb dX2_readSum_56 rfl hl (by decide) rfl (fun ls hl => ?_)
          refine lv_aload_n hx hb dX2_readSum_57 rfl (lv_at hl 1 rfl) ?_
          refine va_get (D := D) (ci := 2) (v := .ref tx) (C := RX2) (T := TX2) (N := 2) hx hb htb itX2 hown hK hP 0 rfl rfl 0 (by decide) (htb _ k_288) (fun _ h9 => h9) rfl dX2_readSum_58 ?_
          refine lv_dup hx hb dX2_readSum_61 rfl ?_
          refine va_getN (D := D) (ci := 6) (v := .int (nI Pa)) (C := RX6) (T := TX6) (N := 4) hx hb htb itX6 hown hK hP 1 rfl rfl 2 (by decide) (va_Nw.use rfl (hN _ n_264 rfl)) (fun _ h9 => h9) rfl dX2_readSum_62 ?_
          refine lv_iconst (v := 1) hx hb dX2_readSum_65 (by decide) ?_
          refine lv_iadd hx hb dX2_readSum_66 ?_
          refine tv (z := (nI (Pa + 1))) (nI_1 Pa) ?_
          refine va_putN (D := D) (ci := 6) (v := .int (nI (Pa + 1))) (ty := .int) (C := RX6) (T := TX6) (N := 4) hx hb htb itX6 tyX6 tyX6_ok nmX6 hown hK hP hD hS 1 rfl rfl 2 (by decide) (va_Nw.use rfl (hN _ n_264 rfl)) (fun _ h9 => h9) rfl (tyX6_ok 2 (by decide)) rfl rfl (Nat.le_of_ble_eq_true rfl) dX2_readSum_67 (fun H locs hP hD hS => ?_)
          have hP : va_P D vwCl [(h0, .inr (2, [.ref tx, .ref lw])), (tx, .inr (6, [.ref tp, .int (nI N), .int (nI (Pa + 1)), .int 0])), (tp, .inr (5, [.ref by_, .int (nI T)])), (by_, .inl (cI, 260, .inl fb)), (lw, .inr (1, [.ref l1, .ref l2, .ref l3, .ref l4, .ref l5, .ref l6, .ref l7, .int (nI za), .int (nI k)])), (l1, .inl (cI, 240, .inl qa))] H := hP
          have hD : va_D A [(h0, .inr (2, [.ref tx, .ref lw])), (tx, .inr (6, [.ref tp, .int (nI N), .int (nI (Pa + 1)), .int 0])), (tp, .inr (5, [.ref by_, .int (nI T)])), (by_, .inl (cI, 260, .inl fb)), (lw, .inr (1, [.ref l1, .ref l2, .ref l3, .ref l4, .ref l5, .ref l6, .ref l7, .int (nI za), .int (nI k)])), (l1, .inl (cI, 240, .inl qa))] := hD
          refine lv_aload_n hx hb dX2_readSum_70 rfl (lv_at hl 1 rfl) ?_
          refine lv_iload_n hx hb dX2_readSum_71 rfl (lv_at hl 2 rfl) ?_
          refine cVVk (As := [.int 0]) (rest := []) (n := 1) (ci := 2) (q0 := 0) (wr := []) X hN hKO hK hP hD hS hA (c_rtP_0 l D cI cB _ kk h0 tx tp N (Pa + 1) 0 by_ T fb lw l1 l2 l3 l4 l5 l6 l7 za k qa hT hNT (by omega) hN2 (Or.inl rfl) hbr hza hk) (gV k_585 k_587 k_3 k_99 k_588) (by decide +kernel) ⟨Nat.le_of_ble_eq_true rfl, Nat.le_of_ble_eq_true rfl⟩ ⟨rfl, rfl⟩ [0, 1, 2, 3, 4, 5] [] rfl rfl (by decide) (by decide) rfl rfl rfl rfl rfl hl.1 (Nat.le_of_ble_eq_true rfl) dX2_readSum_72 ⟨Nat.le_of_ble_eq_true rfl, Nat.le_of_ble_eq_true rfl⟩ (fun u H locs hw_14 hP hD hS => ?_)
          obtain ⟨Po_10, fo_11, zo_12, l1o_13⟩ := u
          try dsimp only at hw_14
          have hP : va_P D vwCl [(h0, .inr (2, [.ref tx, .ref lw])), (tx, .inr (6, [.ref tp, .int (nI N), .int (nI Po_10), .int fo_11])), (tp, .inr (5, [.ref by_, .int (nI T)])), (by_, .inl (cI, 260, .inl fb)), (lw, .inr (1, [.ref l1, .ref l2, .ref l3, .ref l4, .ref l5, .ref l6, .ref l7, .int (nI zo_12), .int (nI k)])), (l1, .inl (cI, 240, .inl l1o_13))] H := hP
          have hD : va_D A [(h0, .inr (2, [.ref tx, .ref lw])), (tx, .inr (6, [.ref tp, .int (nI N), .int (nI Po_10), .int fo_11])), (tp, .inr (5, [.ref by_, .int (nI T)])), (by_, .inl (cI, 260, .inl fb)), (lw, .inr (1, [.ref l1, .ref l2, .ref l3, .ref l4, .ref l5, .ref l6, .ref l7, .int (nI zo_12), .int (nI k)])), (l1, .inl (cI, 240, .inl l1o_13))] := hD
          refine lv_aload_n hx hb dX2_readSum_75 rfl (lv_at hl 1 rfl) ?_
          refine va_get (D := D) (ci := 2) (v := .ref lw) (C := RX2) (T := TX2) (N := 2) hx hb htb itX2 hown hK hP 0 rfl rfl 1 (by decide) (htb _ k_289) (fun _ h9 => h9) rfl dX2_readSum_76 ?_
          refine lv_iload_n hx hb dX2_readSum_79 rfl (lv_at hl 0 rfl) ?_
          refine lv_iconst (v := 0) hx hb dX2_readSum_80 (by decide) ?_
          refine cVV (As := [.int 6, .int 0]) (rest := []) (n := 2) (ci := 1) (q0 := 0) (wr := [(h0, .inr (2, [.ref tx, .ref lw])), (tx, .inr (6, [.ref tp, .int (nI N), .int (nI Po_10), .int fo_11])), (tp, .inr (5, [.ref by_, .int (nI T)])), (by_, .inl (cI, 260, .inl fb))]) X hN hK hP hD hS hA (c_X1_addStep l D cI cB _ lw l1 l2 l3 l4 l5 l6 l7 zo_12 k 6 0 l1o_13 hw_14.1 hk) (gV k_594 k_595 k_596 k_97 k_597) (by decide +kernel) ⟨Nat.le_of_ble_eq_true rfl, Nat.le_of_ble_eq_true rfl⟩ ⟨rfl, rfl⟩ [4, 5] [0, 1, 2, 3] rfl rfl (by decide) (by decide) rfl rfl rfl rfl rfl hl.1 (Nat.le_of_ble_eq_true rfl) dX2_readSum_81 ⟨Nat.le_of_ble_eq_true rfl, Nat.le_of_ble_eq_true rfl⟩ (fun u H locs hw_18 hP hD hS => ?_)
          obtain ⟨zo_16, l1_fo_17⟩ := u
          try dsimp only at hw_18
          have hP : va_P D vwCl [(h0, .inr (2, [.ref tx, .ref lw])), (tx, .inr (6, [.ref tp, .int (nI N), .int (nI Po_10), .int fo_11])), (tp, .inr (5, [.ref by_, .int (nI T)])), (by_, .inl (cI, 260, .inl fb)), (lw, .inr (1, [.ref l1, .ref l2, .ref l3, .ref l4, .ref l5, .ref l6, .ref l7, .int (nI zo_16), .int (nI k)])), (l1, .inl (cI, 240, .inl l1_fo_17))] H := hP
          have hD : va_D A [(h0, .inr (2, [.ref tx, .ref lw])), (tx, .inr (6, [.ref tp, .int (nI N), .int (nI Po_10), .int fo_11])), (tp, .inr (5, [.ref by_, .int (nI T)])), (by_, .inl (cI, 260, .inl fb)), (lw, .inr (1, [.ref l1, .ref l2, .ref l3, .ref l4, .ref l5, .ref l6, .ref l7, .int (nI zo_16), .int (nI k)])), (l1, .inl (cI, 240, .inl l1_fo_17))] := hD
          refine lv_iinc (v := (nI (i + 1))) (lv' := [(2, .int (nI (i + 1))), (3, .int 6), (0, .ref h0), (1, .int 0)]) hx hb dX2_readSum_84 hl (k := 3) rfl (nI_1 i) (by decide) rfl (fun ls hl => ?_)
          refine lv_goto (tgt := 7) hx hb dX2_readSum_87 (by decide) ?_
          exact ih_7 (i + 1) Po_10 fo_11 zo_16 l1_fo_17 (by omega) hw_18 (hq.more hs5 hw_14.2.1) (fun z w => by have := (((hw_14.2.1.2.2.2.2 rfl).1 z).1); have := hiP rfl w; omega) hw_14.2.2 _ _ (hP.sub [0, 1, 2, 3, 4, 5] rfl) (hD.sub [0, 1, 2, 3, 4, 5] (by decide) rfl) hS _ (lv_sub hl [2, 3, 0] rfl)
        · refine lv_iconst (v := 5) hx hb dX2_readSum_50 (by decide) ?_
          refine lv_goto (tgt := 56) hx hb dX2_readSum_51 (by decide) ?_
          refine lv_istore_n (lv' := [(3, .int 5), (0, .ref h0), (1, .int 0), (2, .int (nI i))]) hx hb dX2_readSum_56 rfl hl (by decide) rfl (fun ls hl => ?_)
          refine lv_aload_n hx hb dX2_readSum_57 rfl (lv_at hl 1 rfl) ?_
          refine va_get (D := D) (ci := 2) (v := .ref tx) (C := RX2) (T := TX2) (N := 2) hx hb htb itX2 hown hK hP 0 rfl rfl 0 (by decide) (htb _ k_288) (fun _ h9 => h9) rfl dX2_readSum_58 ?_
          refine lv_dup hx hb dX2_readSum_61 rfl ?_
          refine va_getN (D := D) (ci := 6) (v := .int (nI Pa)) (C := RX6) (T := TX6) (N := 4) hx hb htb itX6 hown hK hP 1 rfl rfl 2 (by decide) (va_Nw.use rfl (hN _ n_264 rfl)) (fun _ h9 => h9) rfl dX2_readSum_62 ?_
          refine lv_iconst (v := 1) hx hb dX2_readSum_65 (by decide) ?_
          refine lv_iadd hx hb dX2_readSum_66 ?_
          refine tv (z := (nI (Pa + 1))) (nI_1 Pa) ?_
          refine va_putN (D := D) (ci := 6) (v := .int (nI (Pa + 1))) (ty := .int) (C := RX6) (T := TX6) (N := 4) hx hb htb itX6 tyX6 tyX6_ok nmX6 hown hK hP hD hS 1 rfl rfl 2 (by decide) (va_Nw.use rfl (hN _ n_264 rfl)) (fun _ h9 => h9) rfl (tyX6_ok 2 (by decide)) rfl rfl (Nat.le_of_ble_eq_true rfl) dX2_readSum_67 (fun H locs hP hD hS => ?_)
          have hP : va_P D vwCl [(h0, .inr (2, [.ref tx, .ref lw])), (tx, .inr (6, [.ref tp, .int (nI N), .int (nI (Pa + 1)), .int 0])), (tp, .inr (5, [.ref by_, .int (nI T)])), (by_, .inl (cI, 260, .inl fb)), (lw, .inr (1, [.ref l1, .ref l2, .ref l3, .ref l4, .ref l5, .ref l6, .ref l7, .int (nI za), .int (nI k)])), (l1, .inl (cI, 240, .inl qa))] H := hP
          have hD : va_D A [(h0, .inr (2, [.ref tx, .ref lw])), (tx, .inr (6, [.ref tp, .int (nI N), .int (nI (Pa + 1)), .int 0])), (tp, .inr (5, [.ref by_, .int (nI T)])), (by_, .inl (cI, 260, .inl fb)), (lw, .inr (1, [.ref l1, .ref l2, .ref l3, .ref l4, .ref l5, .ref l6, .ref l7, .int (nI za), .int (nI k)])), (l1, .inl (cI, 240, .inl qa))] := hD
          refine lv_aload_n hx hb dX2_readSum_70 rfl (lv_at hl 1 rfl) ?_
          refine lv_iload_n hx hb dX2_readSum_71 rfl (lv_at hl 2 rfl) ?_
          refine cVVk (As := [.int 0]) (rest := []) (n := 1) (ci := 2) (q0 := 0) (wr := []) X hN hKO hK hP hD hS hA (c_rtP_0 l D cI cB _ kk h0 tx tp N (Pa + 1) 0 by_ T fb lw l1 l2 l3 l4 l5 l6 l7 za k qa hT hNT (by omega) hN2 (Or.inl rfl) hbr hza hk) (gV k_585 k_587 k_3 k_99 k_588) (by decide +kernel) ⟨Nat.le_of_ble_eq_true rfl, Nat.le_of_ble_eq_true rfl⟩ ⟨rfl, rfl⟩ [0, 1, 2, 3, 4, 5] [] rfl rfl (by decide) (by decide) rfl rfl rfl rfl rfl hl.1 (Nat.le_of_ble_eq_true rfl) dX2_readSum_72 ⟨Nat.le_of_ble_eq_true rfl, Nat.le_of_ble_eq_true rfl⟩ (fun u H locs hw_24 hP hD hS => ?_)
          obtain ⟨Po_20, fo_21, zo_22, l1o_23⟩ := u
          try dsimp only at hw_24
          have hP : va_P D vwCl [(h0, .inr (2, [.ref tx, .ref lw])), (tx, .inr (6, [.ref tp, .int (nI N), .int (nI Po_20), .int fo_21])), (tp, .inr (5, [.ref by_, .int (nI T)])), (by_, .inl (cI, 260, .inl fb)), (lw, .inr (1, [.ref l1, .ref l2, .ref l3, .ref l4, .ref l5, .ref l6, .ref l7, .int (nI zo_22), .int (nI k)])), (l1, .inl (cI, 240, .inl l1o_23))] H := hP
          have hD : va_D A [(h0, .inr (2, [.ref tx, .ref lw])), (tx, .inr (6, [.ref tp, .int (nI N), .int (nI Po_20), .int fo_21])), (tp, .inr (5, [.ref by_, .int (nI T)])), (by_, .inl (cI, 260, .inl fb)), (lw, .inr (1, [.ref l1, .ref l2, .ref l3, .ref l4, .ref l5, .ref l6, .ref l7, .int (nI zo_22), .int (nI k)])), (l1, .inl (cI, 240, .inl l1o_23))] := hD
          refine lv_aload_n hx hb dX2_readSum_75 rfl (lv_at hl 1 rfl) ?_
          refine va_get (D := D) (ci := 2) (v := .ref lw) (C := RX2) (T := TX2) (N := 2) hx hb htb itX2 hown hK hP 0 rfl rfl 1 (by decide) (htb _ k_289) (fun _ h9 => h9) rfl dX2_readSum_76 ?_
          refine lv_iload_n hx hb dX2_readSum_79 rfl (lv_at hl 0 rfl) ?_
          refine lv_iconst (v := 0) hx hb dX2_readSum_80 (by decide) ?_
          refine cVV (As := [.int 5, .int 0]) (rest := []) (n := 2) (ci := 1) (q0 := 0) (wr := [(h0, .inr (2, [.ref tx, .ref lw])), (tx, .inr (6, [.ref tp, .int (nI N), .int (nI Po_20), .int fo_21])), (tp, .inr (5, [.ref by_, .int (nI T)])), (by_, .inl (cI, 260, .inl fb))]) X hN hK hP hD hS hA (c_X1_addStep l D cI cB _ lw l1 l2 l3 l4 l5 l6 l7 zo_22 k 5 0 l1o_23 hw_24.1 hk) (gV k_594 k_595 k_596 k_97 k_597) (by decide +kernel) ⟨Nat.le_of_ble_eq_true rfl, Nat.le_of_ble_eq_true rfl⟩ ⟨rfl, rfl⟩ [4, 5] [0, 1, 2, 3] rfl rfl (by decide) (by decide) rfl rfl rfl rfl rfl hl.1 (Nat.le_of_ble_eq_true rfl) dX2_readSum_81 ⟨Nat.le_of_ble_eq_true rfl, Nat.le_of_ble_eq_true rfl⟩ (fun u H locs hw_28 hP hD hS => ?_)
          obtain ⟨zo_26, l1_fo_27⟩ := u
          try dsimp only at hw_28
          have hP : va_P D vwCl [(h0, .inr (2, [.ref tx, .ref lw])), (tx, .inr (6, [.ref tp, .int (nI N), .int (nI Po_20), .int fo_21])), (tp, .inr (5, [.ref by_, .int (nI T)])), (by_, .inl (cI, 260, .inl fb)), (lw, .inr (1, [.ref l1, .ref l2, .ref l3, .ref l4, .ref l5, .ref l6, .ref l7, .int (nI zo_26), .int (nI k)])), (l1, .inl (cI, 240, .inl l1_fo_27))] H := hP
          have hD : va_D A [(h0, .inr (2, [.ref tx, .ref lw])), (tx, .inr (6, [.ref tp, .int (nI N), .int (nI Po_20), .int fo_21])), (tp, .inr (5, [.ref by_, .int (nI T)])), (by_, .inl (cI, 260, .inl fb)), (lw, .inr (1, [.ref l1, .ref l2, .ref l3, .ref l4, .ref l5, .ref l6, .ref l7, .int (nI zo_26), .int (nI k)])), (l1, .inl (cI, 240, .inl l1_fo_27))] := hD
          refine lv_iinc (v := (nI (i + 1))) (lv' := [(2, .int (nI (i + 1))), (3, .int 5), (0, .ref h0), (1, .int 0)]) hx hb dX2_readSum_84 hl (k := 3) rfl (nI_1 i) (by decide) rfl (fun ls hl => ?_)
          refine lv_goto (tgt := 7) hx hb dX2_readSum_87 (by decide) ?_
          exact ih_7 (i + 1) Po_20 fo_21 zo_26 l1_fo_27 (by omega) hw_28 (hq.more hs5 hw_24.2.1) (fun z w => by have := (((hw_24.2.1.2.2.2.2 rfl).1 z).1); have := hiP rfl w; omega) hw_24.2.2 _ _ (hP.sub [0, 1, 2, 3, 4, 5] rfl) (hD.sub [0, 1, 2, 3, 4, 5] (by decide) rfl) hS _ (lv_sub hl [2, 3, 0] rfl)
      · refine lv_aload_n hx hb dX2_readSum_26 rfl (lv_at hl 0 rfl) ?_
        refine va_get (D := D) (ci := 2) (v := .ref tx) (C := RX2) (T := TX2) (N := 2) hx hb htb itX2 hown hK hP 0 rfl rfl 0 (by decide) (htb _ k_288) (fun _ h9 => h9) rfl dX2_readSum_27 ?_
        refine cVR (As := []) (rest := []) (n := 0) (ci := 6) (q0 := 0) X hN hK hP (c_signP l D cI cB tx tp N Pa fv by_ T fb hT hNT hq.2.2.2.1) (gV k_483 k_484 k_485 k_98 k_486) (by decide +kernel) ⟨Nat.le_of_ble_eq_true rfl, Nat.le_of_ble_eq_true rfl⟩ ⟨rfl, rfl⟩ [1, 2, 3] rfl rfl rfl rfl rfl rfl hl.1 (Nat.le_of_ble_eq_true rfl) dX2_readSum_30 ⟨Nat.le_of_ble_eq_true rfl, Nat.le_of_ble_eq_true rfl⟩ (fun r_29 hr_29 => ?_)
        subst hr_29
        refine lv_bipush (v := 45) hx hb dX2_readSum_33 (by decide) ?_
        refine lv_icmp_ne (tgt := 90) hx hb dX2_readSum_35 (by decide) (fun c_35 => ?_) (fun c_35 => ?_)
        · exact ret _ _ _ _ (Pa, fv, za, qa) dX2_readSum_90 (⟨hza, ⟨hq, fun (z : fv = 0) => by have w1 := c_23; have w2 := c_35; rw [z, sQ0] at w1 w2; exact fun y => y.elim (fun a => a.elim w1 w2) (hmu z)⟩⟩) (hP.sub [0, 1, 2, 3, 4, 5] rfl) (hD.sub [0, 1, 2, 3, 4, 5] (by decide) rfl) hS
        · obtain ⟨hf0, hlt, hs5⟩ := sQs (sgA (Or.inr c_35))
          subst hf0
          refine lv_aload_n hx hb dX2_readSum_38 rfl (lv_at hl 0 rfl) ?_
          refine va_get (D := D) (ci := 2) (v := .ref tx) (C := RX2) (T := TX2) (N := 2) hx hb htb itX2 hown hK hP 0 rfl rfl 0 (by decide) (htb _ k_288) (fun _ h9 => h9) rfl dX2_readSum_39 ?_
          refine cVR (As := []) (rest := []) (n := 0) (ci := 6) (q0 := 0) X hN hK hP (c_signP l D cI cB tx tp N Pa 0 by_ T fb hT hNT hq.2.2.2.1) (gV k_483 k_484 k_485 k_98 k_486) (by decide +kernel) ⟨Nat.le_of_ble_eq_true rfl, Nat.le_of_ble_eq_true rfl⟩ ⟨rfl, rfl⟩ [1, 2, 3] rfl rfl rfl rfl rfl rfl hl.1 (Nat.le_of_ble_eq_true rfl) dX2_readSum_42 ⟨Nat.le_of_ble_eq_true rfl, Nat.le_of_ble_eq_true rfl⟩ (fun r_30 hr_30 => ?_)
          subst hr_30
          refine lv_bipush (v := 43) hx hb dX2_readSum_45 (by decide) ?_
          refine lv_icmp_ne (tgt := 54) hx hb dX2_readSum_47 (by decide) (fun c_47 => ?_) (fun c_47 => ?_)
          · refine lv_bipush (v := 6) hx hb dX2_readSum_54 (by decide) ?_
            refine lv_istore_n (lv' := [(3, .int 6), (0, .ref h0), (1, .int 0), (2, .int (nI i))]) hx hb dX2_readSum_56 rfl hl (by decide) rfl (fun ls hl => ?_)
            refine lv_aload_n hx hb dX2_readSum_57 rfl (lv_at hl 1 rfl) ?_
            refine va_get (D := D) (ci := 2) (v := .ref tx) (C := RX2) (T := TX2) (N := 2) hx hb htb itX2 hown hK hP 0 rfl rfl 0 (by decide) (htb _ k_288) (fun _ h9 => h9) rfl dX2_readSum_58 ?_
            refine lv_dup hx hb dX2_readSum_61 rfl ?_
            refine va_getN (D := D) (ci := 6) (v := .int (nI Pa)) (C := RX6) (T := TX6) (N := 4) hx hb htb itX6 hown hK hP 1 rfl rfl 2 (by decide) (va_Nw.use rfl (hN _ n_264 rfl)) (fun _ h9 => h9) rfl dX2_readSum_62 ?_
            refine lv_iconst (v := 1) hx hb dX2_readSum_65 (by decide) ?_
            refine lv_iadd hx hb dX2_readSum_66 ?_
            refine tv (z := (nI (Pa + 1))) (nI_1 Pa) ?_
            refine va_putN (D := D) (ci := 6) (v := .int (nI (Pa + 1))) (ty := .int) (C := RX6) (T := TX6) (N := 4) hx hb htb itX6 tyX6 tyX6_ok nmX6 hown hK hP hD hS 1 rfl rfl 2 (by decide) (va_Nw.use rfl (hN _ n_264 rfl)) (fun _ h9 => h9) rfl (tyX6_ok 2 (by decide)) rfl rfl (Nat.le_of_ble_eq_true rfl) dX2_readSum_67 (fun H locs hP hD hS => ?_)
            have hP : va_P D vwCl [(h0, .inr (2, [.ref tx, .ref lw])), (tx, .inr (6, [.ref tp, .int (nI N), .int (nI (Pa + 1)), .int 0])), (tp, .inr (5, [.ref by_, .int (nI T)])), (by_, .inl (cI, 260, .inl fb)), (lw, .inr (1, [.ref l1, .ref l2, .ref l3, .ref l4, .ref l5, .ref l6, .ref l7, .int (nI za), .int (nI k)])), (l1, .inl (cI, 240, .inl qa))] H := hP
            have hD : va_D A [(h0, .inr (2, [.ref tx, .ref lw])), (tx, .inr (6, [.ref tp, .int (nI N), .int (nI (Pa + 1)), .int 0])), (tp, .inr (5, [.ref by_, .int (nI T)])), (by_, .inl (cI, 260, .inl fb)), (lw, .inr (1, [.ref l1, .ref l2, .ref l3, .ref l4, .ref l5, .ref l6, .ref l7, .int (nI za), .int (nI k)])), (l1, .inl (cI, 240, .inl qa))] := hD
            refine lv_aload_n hx hb dX2_readSum_70 rfl (lv_at hl 1 rfl) ?_
            refine lv_iload_n hx hb dX2_readSum_71 rfl (lv_at hl 2 rfl) ?_
            refine cVVk (As := [.int 0]) (rest := []) (n := 1) (ci := 2) (q0 := 0) (wr := []) X hN hKO hK hP hD hS hA (c_rtP_0 l D cI cB _ kk h0 tx tp N (Pa + 1) 0 by_ T fb lw l1 l2 l3 l4 l5 l6 l7 za k qa hT hNT (by omega) hN2 (Or.inl rfl) hbr hza hk) (gV k_585 k_587 k_3 k_99 k_588) (by decide +kernel) ⟨Nat.le_of_ble_eq_true rfl, Nat.le_of_ble_eq_true rfl⟩ ⟨rfl, rfl⟩ [0, 1, 2, 3, 4, 5] [] rfl rfl (by decide) (by decide) rfl rfl rfl rfl rfl hl.1 (Nat.le_of_ble_eq_true rfl) dX2_readSum_72 ⟨Nat.le_of_ble_eq_true rfl, Nat.le_of_ble_eq_true rfl⟩ (fun u H locs hw_36 hP hD hS => ?_)
            obtain ⟨Po_32, fo_33, zo_34, l1o_35⟩ := u
            try dsimp only at hw_36
            have hP : va_P D vwCl [(h0, .inr (2, [.ref tx, .ref lw])), (tx, .inr (6, [.ref tp, .int (nI N), .int (nI Po_32), .int fo_33])), (tp, .inr (5, [.ref by_, .int (nI T)])), (by_, .inl (cI, 260, .inl fb)), (lw, .inr (1, [.ref l1, .ref l2, .ref l3, .ref l4, .ref l5, .ref l6, .ref l7, .int (nI zo_34), .int (nI k)])), (l1, .inl (cI, 240, .inl l1o_35))] H := hP
            have hD : va_D A [(h0, .inr (2, [.ref tx, .ref lw])), (tx, .inr (6, [.ref tp, .int (nI N), .int (nI Po_32), .int fo_33])), (tp, .inr (5, [.ref by_, .int (nI T)])), (by_, .inl (cI, 260, .inl fb)), (lw, .inr (1, [.ref l1, .ref l2, .ref l3, .ref l4, .ref l5, .ref l6, .ref l7, .int (nI zo_34), .int (nI k)])), (l1, .inl (cI, 240, .inl l1o_35))] := hD
            refine lv_aload_n hx hb dX2_readSum_75 rfl (lv_at hl 1 rfl) ?_
            refine va_get (D := D) (ci := 2) (v := .ref lw) (C := RX2) (T := TX2) (N := 2) hx hb htb itX2 hown hK hP 0 rfl rfl 1 (by decide) (htb _ k_289) (fun _ h9 => h9) rfl dX2_readSum_76 ?_
            refine lv_iload_n hx hb dX2_readSum_79 rfl (lv_at hl 0 rfl) ?_
            refine lv_iconst (v := 0) hx hb dX2_readSum_80 (by decide) ?_
            refine cVV (As := [.int 6, .int 0]) (rest := []) (n := 2) (ci := 1) (q0 := 0) (wr := [(h0, .inr (2, [.ref tx, .ref lw])), (tx, .inr (6, [.ref tp, .int (nI N), .int (nI Po_32), .int fo_33])), (tp, .inr (5, [.ref by_, .int (nI T)])), (by_, .inl (cI, 260, .inl fb))]) X hN hK hP hD hS hA (c_X1_addStep l D cI cB _ lw l1 l2 l3 l4 l5 l6 l7 zo_34 k 6 0 l1o_35 hw_36.1 hk) (gV k_594 k_595 k_596 k_97 k_597) (by decide +kernel) ⟨Nat.le_of_ble_eq_true rfl, Nat.le_of_ble_eq_true rfl⟩ ⟨rfl, rfl⟩ [4, 5] [0, 1, 2, 3] rfl rfl (by decide) (by decide) rfl rfl rfl rfl rfl hl.1 (Nat.le_of_ble_eq_true rfl) dX2_readSum_81 ⟨Nat.le_of_ble_eq_true rfl, Nat.le_of_ble_eq_true rfl⟩ (fun u H locs hw_40 hP hD hS => ?_)
            obtain ⟨zo_38, l1_fo_39⟩ := u
            try dsimp only at hw_40
            have hP : va_P D vwCl [(h0, .inr (2, [.ref tx, .ref lw])), (tx, .inr (6, [.ref tp, .int (nI N), .int (nI Po_32), .int fo_33])), (tp, .inr (5, [.ref by_, .int (nI T)])), (by_, .inl (cI, 260, .inl fb)), (lw, .inr (1, [.ref l1, .ref l2, .ref l3, .ref l4, .ref l5, .ref l6, .ref l7, .int (nI zo_38), .int (nI k)])), (l1, .inl (cI, 240, .inl l1_fo_39))] H := hP
            have hD : va_D A [(h0, .inr (2, [.ref tx, .ref lw])), (tx, .inr (6, [.ref tp, .int (nI N), .int (nI Po_32), .int fo_33])), (tp, .inr (5, [.ref by_, .int (nI T)])), (by_, .inl (cI, 260, .inl fb)), (lw, .inr (1, [.ref l1, .ref l2, .ref l3, .ref l4, .ref l5, .ref l6, .ref l7, .int (nI zo_38), .int (nI k)])), (l1, .inl (cI, 240, .inl l1_fo_39))] := hD
            refine lv_iinc (v := (nI (i + 1))) (lv' := [(2, .int (nI (i + 1))), (3, .int 6), (0, .ref h0), (1, .int 0)]) hx hb dX2_readSum_84 hl (k := 3) rfl (nI_1 i) (by decide) rfl (fun ls hl => ?_)
            refine lv_goto (tgt := 7) hx hb dX2_readSum_87 (by decide) ?_
            exact ih_7 (i + 1) Po_32 fo_33 zo_38 l1_fo_39 (by omega) hw_40 (hq.more hs5 hw_36.2.1) (fun z w => by have := (((hw_36.2.1.2.2.2.2 rfl).1 z).1); have := hiP rfl w; omega) hw_36.2.2 _ _ (hP.sub [0, 1, 2, 3, 4, 5] rfl) (hD.sub [0, 1, 2, 3, 4, 5] (by decide) rfl) hS _ (lv_sub hl [2, 3, 0] rfl)
          · refine lv_iconst (v := 5) hx hb dX2_readSum_50 (by decide) ?_
            refine lv_goto (tgt := 56) hx hb dX2_readSum_51 (by decide) ?_
            refine lv_istore_n (lv' := [(3, .int 5), (0, .ref h0), (1, .int 0), (2, .int (nI i))]) hx hb dX2_readSum_56 rfl hl (by decide) rfl (fun ls hl => ?_)
            refine lv_aload_n hx hb dX2_readSum_57 rfl (lv_at hl 1 rfl) ?_
            refine va_get (D := D) (ci := 2) (v := .ref tx) (C := RX2) (T := TX2) (N := 2) hx hb htb itX2 hown hK hP 0 rfl rfl 0 (by decide) (htb _ k_288) (fun _ h9 => h9) rfl dX2_readSum_58 ?_
            refine lv_dup hx hb dX2_readSum_61 rfl ?_
            refine va_getN (D := D) (ci := 6) (v := .int (nI Pa)) (C := RX6) (T := TX6) (N := 4) hx hb htb itX6 hown hK hP 1 rfl rfl 2 (by decide) (va_Nw.use rfl (hN _ n_264 rfl)) (fun _ h9 => h9) rfl dX2_readSum_62 ?_
            refine lv_iconst (v := 1) hx hb dX2_readSum_65 (by decide) ?_
            refine lv_iadd hx hb dX2_readSum_66 ?_
            refine tv (z := (nI (Pa + 1))) (nI_1 Pa) ?_
            refine va_putN (D := D) (ci := 6) (v := .int (nI (Pa + 1))) (ty := .int) (C := RX6) (T := TX6) (N := 4) hx hb htb itX6 tyX6 tyX6_ok nmX6 hown hK hP hD hS 1 rfl rfl 2 (by decide) (va_Nw.use rfl (hN _ n_264 rfl)) (fun _ h9 => h9) rfl (tyX6_ok 2 (by decide)) rfl rfl (Nat.le_of_ble_eq_true rfl) dX2_readSum_67 (fun H locs hP hD hS => ?_)
            have hP : va_P D vwCl [(h0, .inr (2, [.ref tx, .ref lw])), (tx, .inr (6, [.ref tp, .int (nI N), .int (nI (Pa + 1)), .int 0])), (tp, .inr (5, [.ref by_, .int (nI T)])), (by_, .inl (cI, 260, .inl fb)), (lw, .inr (1, [.ref l1, .ref l2, .ref l3, .ref l4, .ref l5, .ref l6, .ref l7, .int (nI za), .int (nI k)])), (l1, .inl (cI, 240, .inl qa))] H := hP
            have hD : va_D A [(h0, .inr (2, [.ref tx, .ref lw])), (tx, .inr (6, [.ref tp, .int (nI N), .int (nI (Pa + 1)), .int 0])), (tp, .inr (5, [.ref by_, .int (nI T)])), (by_, .inl (cI, 260, .inl fb)), (lw, .inr (1, [.ref l1, .ref l2, .ref l3, .ref l4, .ref l5, .ref l6, .ref l7, .int (nI za), .int (nI k)])), (l1, .inl (cI, 240, .inl qa))] := hD
            refine lv_aload_n hx hb dX2_readSum_70 rfl (lv_at hl 1 rfl) ?_
            refine lv_iload_n hx hb dX2_readSum_71 rfl (lv_at hl 2 rfl) ?_
            refine cVVk (As := [.int 0]) (rest := []) (n := 1) (ci := 2) (q0 := 0) (wr := []) X hN hKO hK hP hD hS hA (c_rtP_0 l D cI cB _ kk h0 tx tp N (Pa + 1) 0 by_ T fb lw l1 l2 l3 l4 l5 l6 l7 za k qa hT hNT (by omega) hN2 (Or.inl rfl) hbr hza hk) (gV k_585 k_587 k_3 k_99 k_588) (by decide +kernel) ⟨Nat.le_of_ble_eq_true rfl, Nat.le_of_ble_eq_true rfl⟩ ⟨rfl, rfl⟩ [0, 1, 2, 3, 4, 5] [] rfl rfl (by decide) (by decide) rfl rfl rfl rfl rfl hl.1 (Nat.le_of_ble_eq_true rfl) dX2_readSum_72 ⟨Nat.le_of_ble_eq_true rfl, Nat.le_of_ble_eq_true rfl⟩ (fun u H locs hw_46 hP hD hS => ?_)
            obtain ⟨Po_42, fo_43, zo_44, l1o_45⟩ := u
            try dsimp only at hw_46
            have hP : va_P D vwCl [(h0, .inr (2, [.ref tx, .ref lw])), (tx, .inr (6, [.ref tp, .int (nI N), .int (nI Po_42), .int fo_43])), (tp, .inr (5, [.ref by_, .int (nI T)])), (by_, .inl (cI, 260, .inl fb)), (lw, .inr (1, [.ref l1, .ref l2, .ref l3, .ref l4, .ref l5, .ref l6, .ref l7, .int (nI zo_44), .int (nI k)])), (l1, .inl (cI, 240, .inl l1o_45))] H := hP
            have hD : va_D A [(h0, .inr (2, [.ref tx, .ref lw])), (tx, .inr (6, [.ref tp, .int (nI N), .int (nI Po_42), .int fo_43])), (tp, .inr (5, [.ref by_, .int (nI T)])), (by_, .inl (cI, 260, .inl fb)), (lw, .inr (1, [.ref l1, .ref l2, .ref l3, .ref l4, .ref l5, .ref l6, .ref l7, .int (nI zo_44), .int (nI k)])), (l1, .inl (cI, 240, .inl l1o_45))] := hD
            refine lv_aload_n hx hb dX2_readSum_75 rfl (lv_at hl 1 rfl) ?_
            refine va_get (D := D) (ci := 2) (v := .ref lw) (C := RX2) (T := TX2) (N := 2) hx hb htb itX2 hown hK hP 0 rfl rfl 1 (by decide) (htb _ k_289) (fun _ h9 => h9) rfl dX2_readSum_76 ?_
            refine lv_iload_n hx hb dX2_readSum_79 rfl (lv_at hl 0 rfl) ?_
            refine lv_iconst (v := 0) hx hb dX2_readSum_80 (by decide) ?_
            refine cVV (As := [.int 5, .int 0]) (rest := []) (n := 2) (ci := 1) (q0 := 0) (wr := [(h0, .inr (2, [.ref tx, .ref lw])), (tx, .inr (6, [.ref tp, .int (nI N), .int (nI Po_42), .int fo_43])), (tp, .inr (5, [.ref by_, .int (nI T)])), (by_, .inl (cI, 260, .inl fb))]) X hN hK hP hD hS hA (c_X1_addStep l D cI cB _ lw l1 l2 l3 l4 l5 l6 l7 zo_44 k 5 0 l1o_45 hw_46.1 hk) (gV k_594 k_595 k_596 k_97 k_597) (by decide +kernel) ⟨Nat.le_of_ble_eq_true rfl, Nat.le_of_ble_eq_true rfl⟩ ⟨rfl, rfl⟩ [4, 5] [0, 1, 2, 3] rfl rfl (by decide) (by decide) rfl rfl rfl rfl rfl hl.1 (Nat.le_of_ble_eq_true rfl) dX2_readSum_81 ⟨Nat.le_of_ble_eq_true rfl, Nat.le_of_ble_eq_true rfl⟩ (fun u H locs hw_50 hP hD hS => ?_)
            obtain ⟨zo_48, l1_fo_49⟩ := u
            try dsimp only at hw_50
            have hP : va_P D vwCl [(h0, .inr (2, [.ref tx, .ref lw])), (tx, .inr (6, [.ref tp, .int (nI N), .int (nI Po_42), .int fo_43])), (tp, .inr (5, [.ref by_, .int (nI T)])), (by_, .inl (cI, 260, .inl fb)), (lw, .inr (1, [.ref l1, .ref l2, .ref l3, .ref l4, .ref l5, .ref l6, .ref l7, .int (nI zo_48), .int (nI k)])), (l1, .inl (cI, 240, .inl l1_fo_49))] H := hP
            have hD : va_D A [(h0, .inr (2, [.ref tx, .ref lw])), (tx, .inr (6, [.ref tp, .int (nI N), .int (nI Po_42), .int fo_43])), (tp, .inr (5, [.ref by_, .int (nI T)])), (by_, .inl (cI, 260, .inl fb)), (lw, .inr (1, [.ref l1, .ref l2, .ref l3, .ref l4, .ref l5, .ref l6, .ref l7, .int (nI zo_48), .int (nI k)])), (l1, .inl (cI, 240, .inl l1_fo_49))] := hD
            refine lv_iinc (v := (nI (i + 1))) (lv' := [(2, .int (nI (i + 1))), (3, .int 5), (0, .ref h0), (1, .int 0)]) hx hb dX2_readSum_84 hl (k := 3) rfl (nI_1 i) (by decide) rfl (fun ls hl => ?_)
            refine lv_goto (tgt := 7) hx hb dX2_readSum_87 (by decide) ?_
            exact ih_7 (i + 1) Po_42 fo_43 zo_48 l1_fo_49 (by omega) hw_50 (hq.more hs5 hw_46.2.1) (fun z w => by have := (((hw_46.2.1.2.2.2.2 rfl).1 z).1); have := hiP rfl w; omega) hw_46.2.2 _ _ (hP.sub [0, 1, 2, 3, 4, 5] rfl) (hD.sub [0, 1, 2, 3, 4, 5] (by decide) rfl) hS _ (lv_sub hl [2, 3, 0] rfl)
  exact loop_7 240 0 Po_2 fo_3 zo_4 l1o_5 (by omega) hw_6.1 hw_6.2.1 (fun z w => (((hw_6.2.1.2.2.2.2 w).1 z).1 |> fun y => by omega)) hw_6.2.2 _ _ (hP.sub [0, 1, 2, 3, 4, 5] rfl) (hD.sub [0, 1, 2, 3, 4, 5] (by decide) rfl) hS _ (lv_sub hl [1, 2, 0] rfl)
