set_option maxRecDepth 100000 in
set_option maxHeartbeats 4000000 in
theorem c_signP (l : Launch) (D : va_G) (cI cB : ClassId) (h0 : Nat) (tp : Nat) (N : Nat) (P : Nat) (fa : Int32) (by_ : Nat) (T : Nat) (fb : Nat → Int32) (hT : T ≤ 260) (hNT : N ≤ T) (hPN : P ≤ N) : MR l D cI cB yX6_sign cX6_sign 2 .int (rm 0 0) [.ref h0] [(h0, .inr (6, [.ref tp, .int (nI N), .int (nI P), .int fa])), (tp, .inr (5, [.ref by_, .int (nI T)])), (by_, .inl (cI, 260, .inl fb))] (fun r : Int32 => r = (sQ fb N fa P)) := by
  refine MR.of (by decide) (Nat.le_of_ble_eq_true rfl) ?_
  intro p e s m below meth c Q ls X hN hP hK hl ret
  obtain ⟨hx, hb, hml, hown, htb⟩ := id X
  have hl : lv_has ls 2 [(0, .ref h0)] := hl
  refine lv_aload_n hx hb dX6_sign_0 rfl (lv_at hl 0 rfl) ?_
  refine va_get (D := D) (ci := 6) (v := .int fa) (C := RX6) (T := TX6) (N := 4) hx hb htb itX6 hown hK hP 0 rfl rfl 3 (by decide) (htb _ k_267) (fun _ h9 => h9) rfl dX6_sign_1 ?_
  refine lv_if_ne (tgt := 43) hx hb dX6_sign_4 (by decide) (fun c_4 => ?_) (fun c_4 => ?_)
  · refine lv_iconst (v := 0) hx hb dX6_sign_43 (by decide) ?_
    refine lv_istore_n (lv' := [(1, .int 0), (0, .ref h0)]) hx hb dX6_sign_44 rfl hl (by decide) rfl (fun ls hl => ?_)
    refine lv_iload_n hx hb dX6_sign_45 rfl (lv_at hl 0 rfl) ?_
    refine lv_if_eq (tgt := 64) hx hb dX6_sign_46 (by decide) (fun _ => ?_) (fun c_46 => absurd (by decide) c_46)
    refine lv_iconst (v := (-1)) hx hb dX6_sign_64 (by decide) ?_
    exact ret _ _ (-1) dX6_sign_65 rfl ((show _ = sgn T (nI N) (nI P) fa fb from (if_neg (fun h => c_4 h.1)).symm).trans (sgnP hT hNT hPN))
  · refine lv_aload_n hx hb dX6_sign_7 rfl (lv_at hl 0 rfl) ?_
    refine va_get (D := D) (ci := 6) (v := .int (nI P)) (C := RX6) (T := TX6) (N := 4) hx hb htb itX6 hown hK hP 0 rfl rfl 2 (by decide) (htb _ k_263) (fun _ h9 => h9) rfl dX6_sign_8 ?_
    refine lv_if_lt (tgt := 43) hx hb dX6_sign_11 (by decide) (fun c_11 => ?_) (fun c_11 => ?_)
    · refine lv_iconst (v := 0) hx hb dX6_sign_43 (by decide) ?_
      refine lv_istore_n (lv' := [(1, .int 0), (0, .ref h0)]) hx hb dX6_sign_44 rfl hl (by decide) rfl (fun ls hl => ?_)
      refine lv_iload_n hx hb dX6_sign_45 rfl (lv_at hl 0 rfl) ?_
      refine lv_if_eq (tgt := 64) hx hb dX6_sign_46 (by decide) (fun _ => ?_) (fun c_46 => absurd (by decide) c_46)
      refine lv_iconst (v := (-1)) hx hb dX6_sign_64 (by decide) ?_
      exact ret _ _ (-1) dX6_sign_65 rfl ((show _ = sgn T (nI N) (nI P) fa fb from (if_neg (fun h => (Int32.not_lt.mpr h.2.1) c_11)).symm).trans (sgnP hT hNT hPN))
    · refine lv_aload_n hx hb dX6_sign_14 rfl (lv_at hl 0 rfl) ?_
      refine va_get (D := D) (ci := 6) (v := .int (nI P)) (C := RX6) (T := TX6) (N := 4) hx hb htb itX6 hown hK hP 0 rfl rfl 2 (by decide) (htb _ k_263) (fun _ h9 => h9) rfl dX6_sign_15 ?_
      refine lv_aload_n hx hb dX6_sign_18 rfl (lv_at hl 0 rfl) ?_
      refine va_get (D := D) (ci := 6) (v := .int (nI N)) (C := RX6) (T := TX6) (N := 4) hx hb htb itX6 hown hK hP 0 rfl rfl 1 (by decide) (htb _ k_262) (fun _ h9 => h9) rfl dX6_sign_19 ?_
      refine lv_icmp_ge (tgt := 43) hx hb dX6_sign_22 (by decide) (fun c_22 => ?_) (fun c_22 => ?_)
      · refine lv_iconst (v := 0) hx hb dX6_sign_43 (by decide) ?_
        refine lv_istore_n (lv' := [(1, .int 0), (0, .ref h0)]) hx hb dX6_sign_44 rfl hl (by decide) rfl (fun ls hl => ?_)
        refine lv_iload_n hx hb dX6_sign_45 rfl (lv_at hl 0 rfl) ?_
        refine lv_if_eq (tgt := 64) hx hb dX6_sign_46 (by decide) (fun _ => ?_) (fun c_46 => absurd (by decide) c_46)
        refine lv_iconst (v := (-1)) hx hb dX6_sign_64 (by decide) ?_
        exact ret _ _ (-1) dX6_sign_65 rfl ((show _ = sgn T (nI N) (nI P) fa fb from (if_neg (fun h => (Int32.not_le.mpr h.2.2.1) c_22)).symm).trans (sgnP hT hNT hPN))
      · refine lv_aload_n hx hb dX6_sign_25 rfl (lv_at hl 0 rfl) ?_
        refine va_get (D := D) (ci := 6) (v := .int (nI P)) (C := RX6) (T := TX6) (N := 4) hx hb htb itX6 hown hK hP 0 rfl rfl 2 (by decide) (htb _ k_263) (fun _ h9 => h9) rfl dX6_sign_26 ?_
        refine lv_aload_n hx hb dX6_sign_29 rfl (lv_at hl 0 rfl) ?_
        refine va_get (D := D) (ci := 6) (v := .ref tp) (C := RX6) (T := TX6) (N := 4) hx hb htb itX6 hown hK hP 0 rfl rfl 0 (by decide) (htb _ k_261) (fun _ h9 => h9) rfl dX6_sign_30 ?_
        refine va_getN (D := D) (ci := 5) (v := .int (nI T)) (C := RX5) (T := TX5) (N := 2) hx hb htb itX5 hown hK hP 1 rfl rfl 1 (by decide) (va_Nw.use rfl (hN _ n_129 rfl)) (fun _ h9 => h9) rfl dX6_sign_33 ?_
        refine lv_icmp_ge (tgt := 43) hx hb dX6_sign_36 (by decide) (fun c_36 => ?_) (fun c_36 => ?_)
        · refine lv_iconst (v := 0) hx hb dX6_sign_43 (by decide) ?_
          refine lv_istore_n (lv' := [(1, .int 0), (0, .ref h0)]) hx hb dX6_sign_44 rfl hl (by decide) rfl (fun ls hl => ?_)
          refine lv_iload_n hx hb dX6_sign_45 rfl (lv_at hl 0 rfl) ?_
          refine lv_if_eq (tgt := 64) hx hb dX6_sign_46 (by decide) (fun _ => ?_) (fun c_46 => absurd (by decide) c_46)
          refine lv_iconst (v := (-1)) hx hb dX6_sign_64 (by decide) ?_
          exact ret _ _ (-1) dX6_sign_65 rfl ((show _ = sgn T (nI N) (nI P) fa fb from (if_neg (fun h => (Int32.not_le.mpr h.2.2.2) c_36)).symm).trans (sgnP hT hNT hPN))
        · refine lv_iconst (v := 1) hx hb dX6_sign_39 (by decide) ?_
          refine lv_goto (tgt := 44) hx hb dX6_sign_40 (by decide) ?_
          refine lv_istore_n (lv' := [(1, .int 1), (0, .ref h0)]) hx hb dX6_sign_44 rfl hl (by decide) rfl (fun ls hl => ?_)
          refine lv_iload_n hx hb dX6_sign_45 rfl (lv_at hl 0 rfl) ?_
          refine lv_if_eq (tgt := 64) hx hb dX6_sign_46 (by decide) (fun c_46 => absurd c_46 (by decide)) (fun _ => ?_)
          refine lv_aload_n hx hb dX6_sign_49 rfl (lv_at hl 1 rfl) ?_
          refine va_get (D := D) (ci := 6) (v := .ref tp) (C := RX6) (T := TX6) (N := 4) hx hb htb itX6 hown hK hP 0 rfl rfl 0 (by decide) (htb _ k_261) (fun _ h9 => h9) rfl dX6_sign_50 ?_
          refine va_getN (D := D) (ci := 5) (v := .ref by_) (C := RX5) (T := TX5) (N := 2) hx hb htb itX5 hown hK hP 1 rfl rfl 0 (by decide) (va_Nw.use rfl (hN _ n_127 rfl)) (fun _ h9 => h9) rfl dX6_sign_53 ?_
          refine lv_aload_n hx hb dX6_sign_56 rfl (lv_at hl 1 rfl) ?_
          refine va_get (D := D) (ci := 6) (v := .int (nI P)) (C := RX6) (T := TX6) (N := 4) hx hb htb itX6 hown hK hP 0 rfl rfl 2 (by decide) (htb _ k_263) (fun _ h9 => h9) rfl dX6_sign_57 ?_
          refine va_iald hx hb hK hP 2 0 rfl rfl (by have a0 := congrArg Int32.toInt c_4; have a1 := mt Int32.lt_iff_toInt_lt.mpr c_11; have a2 := mt Int32.le_iff_toInt_le.mpr c_22; have a3 := mt Int32.le_iff_toInt_le.mpr c_36; have a4 : (0 : Int32).toInt = 0 := (by decide); have a5 := nI_toInt (n := N) (by omega); have a6 := nI_toInt (n := P) (by omega); have a7 := nI_toInt (n := T) (by omega); exact vp_in_nI (by omega) (by decide)) dX6_sign_60 ?_
          refine lv_goto (tgt := 65) hx hb dX6_sign_61 (by decide) ?_
          exact ret _ _ (fb (Int32.toNatClampNeg (nI P))) dX6_sign_65 rfl ((show _ = sgn T (nI N) (nI P) fa fb from (if_pos ⟨c_4, Int32.not_lt.mp c_11, Int32.not_le.mp c_22, Int32.not_le.mp c_36⟩).symm).trans (sgnP hT hNT hPN))

set_option maxRecDepth 100000 in
set_option maxHeartbeats 4000000 in
theorem c_isDigitP (l : Launch) (D : va_G) (cI cB : ClassId) (h0 : Nat) (tp : Nat) (N : Nat) (P : Nat) (fa : Int32) (by_ : Nat) (T : Nat) (fb : Nat → Int32) (hT : T ≤ 260) (hNT : N ≤ T) (hPN : P ≤ N) : MR l D cI cB yX6_isDigit cX6_isDigit 2 .boolean (rm 1 21) [.ref h0] [(h0, .inr (6, [.ref tp, .int (nI N), .int (nI P), .int fa])), (tp, .inr (5, [.ref by_, .int (nI T)])), (by_, .inl (cI, 260, .inl fb))] (fun r : Int32 => r = bI (48 ≤ (sQ fb N fa P) ∧ (sQ fb N fa P) ≤ 57)) := by
  refine MR.of (by decide) (Nat.le_of_ble_eq_true rfl) ?_
  intro p e s m below meth c Q ls X hN hP hK hl ret
  obtain ⟨hx, hb, hml, hown, htb⟩ := id X
  have hl : lv_has ls 2 [(0, .ref h0)] := hl
  refine lv_aload_n hx hb dX6_isDigit_0 rfl (lv_at hl 0 rfl) ?_
  refine cVR (As := []) (rest := []) (n := 0) (ci := 6) (q0 := 0) X hN hK hP (c_signP l D cI cB h0 tp N P fa by_ T fb hT hNT hPN) (gV k_610 k_484 k_485 k_98 k_486) (by decide +kernel) ⟨Nat.le_of_ble_eq_true rfl, Nat.le_of_ble_eq_true rfl⟩ ⟨rfl, rfl⟩ [0, 1, 2] rfl rfl rfl rfl rfl rfl hl.1 (Nat.le_of_ble_eq_true rfl) dX6_isDigit_1 ⟨Nat.le_of_ble_eq_true rfl, Nat.le_of_ble_eq_true rfl⟩ (fun r_1 hr_1 => ?_)
  subst hr_1
  refine lv_topi (fun x_2 ex_2 => ?_)
  refine lv_istore_n (lv' := [(1, .int x_2), (0, .ref h0)]) hx hb dX6_isDigit_4 rfl hl (by decide) rfl (fun ls hl => ?_)
  refine lv_iload_n hx hb dX6_isDigit_5 rfl (lv_at hl 0 rfl) ?_
  refine lv_bipush (v := 48) hx hb dX6_isDigit_6 (by decide) ?_
  refine lv_icmp_lt (tgt := 21) hx hb dX6_isDigit_8 (by decide) (fun c_8 => ?_) (fun c_8 => ?_)
  · refine lv_iconst (v := 0) hx hb dX6_isDigit_21 (by decide) ?_
    exact ret _ _ 0 dX6_isDigit_22 rfl (by rw [← ex_2]; exact bI0 (fun h => (Int32.not_lt.mpr h.1) c_8))
  · refine lv_iload_n hx hb dX6_isDigit_11 rfl (lv_at hl 0 rfl) ?_
    refine lv_bipush (v := 57) hx hb dX6_isDigit_12 (by decide) ?_
    refine lv_icmp_gt (tgt := 21) hx hb dX6_isDigit_14 (by decide) (fun c_14 => ?_) (fun c_14 => ?_)
    · refine lv_iconst (v := 0) hx hb dX6_isDigit_21 (by decide) ?_
      exact ret _ _ 0 dX6_isDigit_22 rfl (by rw [← ex_2]; exact bI0 (fun h => (Int32.not_lt.mpr h.2) c_14))
    · refine lv_iconst (v := 1) hx hb dX6_isDigit_17 (by decide) ?_
      refine lv_goto (tgt := 22) hx hb dX6_isDigit_18 (by decide) ?_
      exact ret _ _ 1 dX6_isDigit_22 rfl (by rw [← ex_2]; exact bI1 ⟨Int32.not_lt.mp c_8, Int32.not_lt.mp c_14⟩)

set_option maxRecDepth 100000 in
set_option maxHeartbeats 4000000 in
theorem c_personHereP (l : Launch) (D : va_G) (cI cB : ClassId) (h0 : Nat) (tp : Nat) (N : Nat) (P : Nat) (fa : Int32) (by_ : Nat) (T : Nat) (fb : Nat → Int32) (hT : T ≤ 260) (hNT : N ≤ T) (hPN : P ≤ N) : MR l D cI cB yX6_personHere cX6_personHere 2 .int (rm 1 21) [.ref h0] [(h0, .inr (6, [.ref tp, .int (nI N), .int (nI P), .int fa])), (tp, .inr (5, [.ref by_, .int (nI T)])), (by_, .inl (cI, 260, .inl fb))] (fun r : Int32 => r = phF (sQ fb N fa P)) := by
  refine MR.of (by decide) (Nat.le_of_ble_eq_true rfl) ?_
  intro p e s m below meth c Q ls X hN hP hK hl ret
  obtain ⟨hx, hb, hml, hown, htb⟩ := id X
  have hl : lv_has ls 2 [(0, .ref h0)] := hl
  refine lv_aload_n hx hb dX6_personHere_0 rfl (lv_at hl 0 rfl) ?_
  refine cVR (As := []) (rest := []) (n := 0) (ci := 6) (q0 := 0) X hN hK hP (c_signP l D cI cB h0 tp N P fa by_ T fb hT hNT hPN) (gV k_610 k_484 k_485 k_98 k_486) (by decide +kernel) ⟨Nat.le_of_ble_eq_true rfl, Nat.le_of_ble_eq_true rfl⟩ ⟨rfl, rfl⟩ [0, 1, 2] rfl rfl rfl rfl rfl rfl hl.1 (Nat.le_of_ble_eq_true rfl) dX6_personHere_1 ⟨Nat.le_of_ble_eq_true rfl, Nat.le_of_ble_eq_true rfl⟩ (fun r_1 hr_1 => ?_)
  subst hr_1
  refine lv_topi (fun x_2 ex_2 => ?_)
  refine lv_istore_n (lv' := [(1, .int x_2), (0, .ref h0)]) hx hb dX6_personHere_4 rfl hl (by decide) rfl (fun ls hl => ?_)
  refine lv_iload_n hx hb dX6_personHere_5 rfl (lv_at hl 0 rfl) ?_
  refine lv_bipush (v := 97) hx hb dX6_personHere_6 (by decide) ?_
  refine lv_icmp_lt (tgt := 24) hx hb dX6_personHere_8 (by decide) (fun c_8 => ?_) (fun c_8 => ?_)
  · refine lv_iconst (v := (-1)) hx hb dX6_personHere_24 (by decide) ?_
    exact ret _ _ (-1) dX6_personHere_25 rfl (by rw [← ex_2]; exact (if_neg (fun h => (Int32.not_lt.mpr h.1) c_8)).symm)
  · refine lv_iload_n hx hb dX6_personHere_11 rfl (lv_at hl 0 rfl) ?_
    refine lv_bipush (v := 106) hx hb dX6_personHere_12 (by decide) ?_
    refine lv_icmp_gt (tgt := 24) hx hb dX6_personHere_14 (by decide) (fun c_14 => ?_) (fun c_14 => ?_)
    · refine lv_iconst (v := (-1)) hx hb dX6_personHere_24 (by decide) ?_
      exact ret _ _ (-1) dX6_personHere_25 rfl (by rw [← ex_2]; exact (if_neg (fun h => (Int32.not_lt.mpr h.2) c_14)).symm)
    · refine lv_iload_n hx hb dX6_personHere_17 rfl (lv_at hl 0 rfl) ?_
      refine lv_bipush (v := 97) hx hb dX6_personHere_18 (by decide) ?_
      refine lv_isub hx hb dX6_personHere_20 ?_
      refine lv_goto (tgt := 25) hx hb dX6_personHere_21 (by decide) ?_
      exact ret _ _ (x_2 - 97) dX6_personHere_25 rfl (by rw [← ex_2]; exact (if_pos ⟨Int32.not_lt.mp c_8, Int32.not_lt.mp c_14⟩).symm)

set_option maxRecDepth 100000 in
set_option maxHeartbeats 4000000 in
theorem c_failP (l : Launch) (D : va_G) (cI cB : ClassId) (sz : Nat) (h0 : Nat) (tp : Nat) (ed : Int32) (pl : Int32) (fa : Int32) (a : Int32) (b : Int32)  : MV (S := ((Int32))) l D cI cB yX6_fail cX6_fail 3 (rm 0 0) [.ref h0, .int a, .int b] [(h0, .inr (6, [.ref tp, .int ed, .int pl, .int fa]))] sz (fun u => u = flF fa a b) (fun u : ((Int32)) => [(h0, .inr (6, [.ref tp, .int ed, .int pl, .int u]))]) := by
  refine MV.of (by decide) (Nat.le_of_ble_eq_true rfl) ?_
  intro p e s m below meth c Q ls A X hin hN hP hK hD hA hl ret
  have hS : va_S A s.heap s.heap [] := va_S.rf
  obtain ⟨hx, hb, hml, hown, htb⟩ := id X
  have hl : lv_has ls 3 [(0, .ref h0), (1, .int a), (2, .int b)] := hl
  refine lv_aload_n hx hb dX6_fail_0 rfl (lv_at hl 0 rfl) ?_
  refine va_get (D := D) (ci := 6) (v := .int fa) (C := RX6) (T := TX6) (N := 4) hx hb htb itX6 hown hK hP 0 rfl rfl 3 (by decide) (htb _ k_267) (fun _ h9 => h9) rfl dX6_fail_1 ?_
  refine lv_if_ne (tgt := 18) hx hb dX6_fail_4 (by decide) (fun c_4 => ?_) (fun c_4 => ?_)
  · exact ret _ _ _ _ fa dX6_fail_18 ((flF_n c_4).symm) (hP.sub [0] rfl) (hD.sub [0] (by decide) rfl) hS
  · refine lv_aload_n hx hb dX6_fail_7 rfl (lv_at hl 0 rfl) ?_
    refine lv_sipush (v := (-1000)) hx hb dX6_fail_8 (by decide) ?_
    refine lv_iload_n hx hb dX6_fail_11 rfl (lv_at hl 1 rfl) ?_
    refine lv_imul hx hb dX6_fail_12 ?_
    refine lv_iload_n hx hb dX6_fail_13 rfl (lv_at hl 2 rfl) ?_
    refine lv_isub hx hb dX6_fail_14 ?_
    refine lv_topi (fun x_1 ex_1 => ?_)
    refine va_put (D := D) (ci := 6) (v := .int x_1) (ty := .int) (C := RX6) (T := TX6) (N := 4) hx hb htb itX6 tyX6 tyX6_ok nmX6 hown hK hP hD hS 0 rfl rfl 3 (by decide) (htb _ k_267) (fun _ h9 => h9) rfl (tyX6_ok 3 (by decide)) rfl rfl (Nat.le_of_ble_eq_true rfl) dX6_fail_15 (fun H locs hP hD hS => ?_)
    have hP : va_P D vwCl [(h0, .inr (6, [.ref tp, .int ed, .int pl, .int x_1]))] H := hP
    have hD : va_D A [(h0, .inr (6, [.ref tp, .int ed, .int pl, .int x_1]))] := hD
    exact ret _ _ _ _ x_1 dX6_fail_18 (by rw [ex_1]; exact (if_pos c_4).symm) (hP.sub [0] rfl) (hD.sub [0] (by decide) rfl) hS

set_option maxRecDepth 100000 in
set_option maxHeartbeats 4000000 in
theorem c_skipP (l : Launch) (D : va_G) (cI cB : ClassId) (sz : Nat) (h0 : Nat) (tp : Nat) (N : Nat) (P : Nat) (fa : Int32) (by_ : Nat) (T : Nat) (fb : Nat → Int32) (w : Int32) (hT : T ≤ 260) (hNT : N ≤ T) (hPN : P ≤ N) (hw1 : ¬ w = -1) : MI (S := ((Nat))) l D cI cB yX6_skip cX6_skip 3 .boolean (rm 1 21) [.ref h0, .int w] [(h0, .inr (6, [.ref tp, .int (nI N), .int (nI P), .int fa])), (tp, .inr (5, [.ref by_, .int (nI T)])), (by_, .inl (cI, 260, .inl fb))] sz (fun r u => r = bI ((sQ fb N fa P) = w) ∧ ((sQ fb N fa P) = w → u = P + 1) ∧ (¬ (sQ fb N fa P) = w → u = P) ∧ P ≤ u ∧ u ≤ N) (fun u : ((Nat)) => [(h0, .inr (6, [.ref tp, .int (nI N), .int (nI u), .int fa])), (tp, .inr (5, [.ref by_, .int (nI T)])), (by_, .inl (cI, 260, .inl fb))]) := by
  refine MI.of (by decide) (Nat.le_of_ble_eq_true rfl) ?_
  intro p e s m below meth c Q ls A X hin hN hP hK hD hA hl ret
  have hS : va_S A s.heap s.heap [] := va_S.rf
  obtain ⟨hx, hb, hml, hown, htb⟩ := id X
  have hl : lv_has ls 3 [(0, .ref h0), (1, .int w)] := hl
  refine lv_aload_n hx hb dX6_skip_0 rfl (lv_at hl 0 rfl) ?_
  refine cVR (As := []) (rest := []) (n := 0) (ci := 6) (q0 := 0) X hN hK hP (c_signP l D cI cB h0 tp N P fa by_ T fb hT hNT hPN) (gV k_610 k_484 k_485 k_98 k_486) (by decide +kernel) ⟨Nat.le_of_ble_eq_true rfl, Nat.le_of_ble_eq_true rfl⟩ ⟨rfl, rfl⟩ [0, 1, 2] rfl rfl rfl rfl rfl rfl hl.1 (Nat.le_of_ble_eq_true rfl) dX6_skip_1 ⟨Nat.le_of_ble_eq_true rfl, Nat.le_of_ble_eq_true rfl⟩ (fun r_1 hr_1 => ?_)
  subst hr_1
  refine lv_iload_n hx hb dX6_skip_4 rfl (lv_at hl 1 rfl) ?_
  refine lv_icmp_ne (tgt := 12) hx hb dX6_skip_5 (by decide) (fun c_5 => ?_) (fun c_5 => ?_)
  · refine lv_iconst (v := 0) hx hb dX6_skip_12 (by decide) ?_
    refine lv_istore_n (lv' := [(2, .int 0), (0, .ref h0), (1, .int w)]) hx hb dX6_skip_13 rfl hl (by decide) rfl (fun ls hl => ?_)
    refine lv_aload_n hx hb dX6_skip_14 rfl (lv_at hl 1 rfl) ?_
    refine lv_dup hx hb dX6_skip_15 rfl ?_
    refine va_get (D := D) (ci := 6) (v := .int (nI P)) (C := RX6) (T := TX6) (N := 4) hx hb htb itX6 hown hK hP 0 rfl rfl 2 (by decide) (htb _ k_263) (fun _ h9 => h9) rfl dX6_skip_16 ?_
    refine lv_iload_n hx hb dX6_skip_19 rfl (lv_at hl 0 rfl) ?_
    refine lv_if_eq (tgt := 27) hx hb dX6_skip_20 (by decide) (fun _ => ?_) (fun c_20 => absurd (by decide) c_20)
    refine lv_iconst (v := 0) hx hb dX6_skip_27 (by decide) ?_
    refine lv_iadd hx hb dX6_skip_28 ?_
    refine tv (z := (nI P)) (Int32.add_zero _) ?_
    refine va_put (D := D) (ci := 6) (v := .int (nI P)) (ty := .int) (C := RX6) (T := TX6) (N := 4) hx hb htb itX6 tyX6 tyX6_ok nmX6 hown hK hP hD hS 0 rfl rfl 2 (by decide) (htb _ k_263) (fun _ h9 => h9) rfl (tyX6_ok 2 (by decide)) rfl rfl (Nat.le_of_ble_eq_true rfl) dX6_skip_29 (fun H locs hP hD hS => ?_)
    have hP : va_P D vwCl [(h0, .inr (6, [.ref tp, .int (nI N), .int (nI P), .int fa])), (tp, .inr (5, [.ref by_, .int (nI T)])), (by_, .inl (cI, 260, .inl fb))] H := hP
    have hD : va_D A [(h0, .inr (6, [.ref tp, .int (nI N), .int (nI P), .int fa])), (tp, .inr (5, [.ref by_, .int (nI T)])), (by_, .inl (cI, 260, .inl fb))] := hD
    refine lv_iload_n hx hb dX6_skip_32 rfl (lv_at hl 0 rfl) ?_
    exact ret _ _ _ _ 0 P dX6_skip_33 rfl (⟨bI0 c_5, fun h => absurd h c_5, fun _ => rfl, Nat.le_refl _, hPN⟩) (hP.sub [0, 1, 2] rfl) (hD.sub [0, 1, 2] (by decide) rfl) hS
  · refine lv_iconst (v := 1) hx hb dX6_skip_8 (by decide) ?_
    refine lv_goto (tgt := 13) hx hb dX6_skip_9 (by decide) ?_
    refine lv_istore_n (lv' := [(2, .int 1), (0, .ref h0), (1, .int w)]) hx hb dX6_skip_13 rfl hl (by decide) rfl (fun ls hl => ?_)
    refine lv_aload_n hx hb dX6_skip_14 rfl (lv_at hl 1 rfl) ?_
    refine lv_dup hx hb dX6_skip_15 rfl ?_
    refine va_get (D := D) (ci := 6) (v := .int (nI P)) (C := RX6) (T := TX6) (N := 4) hx hb htb itX6 hown hK hP 0 rfl rfl 2 (by decide) (htb _ k_263) (fun _ h9 => h9) rfl dX6_skip_16 ?_
    refine lv_iload_n hx hb dX6_skip_19 rfl (lv_at hl 0 rfl) ?_
    refine lv_if_eq (tgt := 27) hx hb dX6_skip_20 (by decide) (fun c_20 => absurd c_20 (by decide)) (fun _ => ?_)
    refine lv_iconst (v := 1) hx hb dX6_skip_23 (by decide) ?_
    refine lv_goto (tgt := 28) hx hb dX6_skip_24 (by decide) ?_
    refine lv_iadd hx hb dX6_skip_28 ?_
    refine tv (z := (nI (P + 1))) (nI_1 P) ?_
    refine va_put (D := D) (ci := 6) (v := .int (nI (P + 1))) (ty := .int) (C := RX6) (T := TX6) (N := 4) hx hb htb itX6 tyX6 tyX6_ok nmX6 hown hK hP hD hS 0 rfl rfl 2 (by decide) (htb _ k_263) (fun _ h9 => h9) rfl (tyX6_ok 2 (by decide)) rfl rfl (Nat.le_of_ble_eq_true rfl) dX6_skip_29 (fun H locs hP hD hS => ?_)
    have hP : va_P D vwCl [(h0, .inr (6, [.ref tp, .int (nI N), .int (nI (P + 1)), .int fa])), (tp, .inr (5, [.ref by_, .int (nI T)])), (by_, .inl (cI, 260, .inl fb))] H := hP
    have hD : va_D A [(h0, .inr (6, [.ref tp, .int (nI N), .int (nI (P + 1)), .int fa])), (tp, .inr (5, [.ref by_, .int (nI T)])), (by_, .inl (cI, 260, .inl fb))] := hD
    refine lv_iload_n hx hb dX6_skip_32 rfl (lv_at hl 0 rfl) ?_
    exact ret _ _ _ _ 1 (P + 1) dX6_skip_33 rfl (⟨bI1 c_5, fun _ => rfl, fun h => absurd c_5 h, by omega, by have := (sQz (fun q => hw1 (c_5.symm.trans q))).2; omega⟩) (hP.sub [0, 1, 2] rfl) (hD.sub [0, 1, 2] (by decide) rfl) hS

set_option maxRecDepth 100000 in
set_option maxHeartbeats 4000000 in
theorem c_expectP (l : Launch) (D : va_G) (cI cB : ClassId) (sz : Nat) (h0 : Nat) (tp : Nat) (N : Nat) (P : Nat) (fa : Int32) (by_ : Nat) (T : Nat) (fb : Nat → Int32) (w : Int32) (hT : T ≤ 260) (hNT : N ≤ T) (hPN : P ≤ N) (hw1 : ¬ w = -1) : MV (S := ((Nat) × (Int32))) l D cI cB yX6_expect cX6_expect 2 (rm 2 43) [.ref h0, .int w] [(h0, .inr (6, [.ref tp, .int (nI N), .int (nI P), .int fa])), (tp, .inr (5, [.ref by_, .int (nI T)])), (by_, .inl (cI, 260, .inl fb))] sz (fun u => ((sQ fb N fa P) = w → u.1 = P + 1 ∧ u.2 = fa) ∧ (¬ (sQ fb N fa P) = w → u.1 = P ∧ u.2 = flF fa 1 (nI P)) ∧ P ≤ u.1 ∧ u.1 ≤ N) (fun u : ((Nat) × (Int32)) => [(h0, .inr (6, [.ref tp, .int (nI N), .int (nI u.1), .int u.2])), (tp, .inr (5, [.ref by_, .int (nI T)])), (by_, .inl (cI, 260, .inl fb))]) := by
  refine MV.of (by decide) (Nat.le_of_ble_eq_true rfl) ?_
  intro p e s m below meth c Q ls A X hin hN hP hK hD hA hl ret
  have hS : va_S A s.heap s.heap [] := va_S.rf
  obtain ⟨hx, hb, hml, hown, htb⟩ := id X
  have hl : lv_has ls 2 [(0, .ref h0), (1, .int w)] := hl
  refine lv_aload_n hx hb dX6_expect_0 rfl (lv_at hl 0 rfl) ?_
  refine lv_iload_n hx hb dX6_expect_1 rfl (lv_at hl 1 rfl) ?_
  refine cVI (As := [.int w]) (rest := []) (n := 1) (ci := 6) (q0 := 0) (wr := []) X hN hK hP hD hS hA (c_skipP l D cI cB _ h0 tp N P fa by_ T fb w hT hNT hPN hw1) (gV k_606 k_607 k_608 k_98 k_609) (by decide +kernel) ⟨Nat.le_of_ble_eq_true rfl, Nat.le_of_ble_eq_true rfl⟩ ⟨rfl, rfl⟩ [0, 1, 2] [] rfl rfl (by decide) (by decide) rfl rfl rfl rfl rfl hl.1 (Nat.le_of_ble_eq_true rfl) dX6_expect_2 ⟨Nat.le_of_ble_eq_true rfl, Nat.le_of_ble_eq_true rfl⟩ (fun r_1 u H locs hw_3 hP hD hS => ?_)
  obtain ⟨Po_2, rfl⟩ : ∃ z, z = u := ⟨_, rfl⟩
  try dsimp only at hw_3
  have hP : va_P D vwCl [(h0, .inr (6, [.ref tp, .int (nI N), .int (nI Po_2), .int fa])), (tp, .inr (5, [.ref by_, .int (nI T)])), (by_, .inl (cI, 260, .inl fb))] H := hP
  have hD : va_D A [(h0, .inr (6, [.ref tp, .int (nI N), .int (nI Po_2), .int fa])), (tp, .inr (5, [.ref by_, .int (nI T)])), (by_, .inl (cI, 260, .inl fb))] := hD
  refine lv_if_ne (tgt := 17) hx hb dX6_expect_5 (by decide) (fun c_5 => ?_) (fun c_5 => ?_)
  · exact ret _ _ _ _ (Po_2, fa) dX6_expect_17 (⟨fun q => ⟨hw_3.2.1 q, rfl⟩, fun q => absurd (bIt (fun z => c_5 (hw_3.1.trans z))) q, hw_3.2.2.2⟩) (hP.sub [0, 1, 2] rfl) (hD.sub [0, 1, 2] (by decide) rfl) hS
  · refine lv_aload_n hx hb dX6_expect_8 rfl (lv_at hl 0 rfl) ?_
    refine lv_iconst (v := 1) hx hb dX6_expect_9 (by decide) ?_
    refine lv_aload_n hx hb dX6_expect_10 rfl (lv_at hl 0 rfl) ?_
    refine va_get (D := D) (ci := 6) (v := .int (nI Po_2)) (C := RX6) (T := TX6) (N := 4) hx hb htb itX6 hown hK hP 0 rfl rfl 2 (by decide) (htb _ k_263) (fun _ h9 => h9) rfl dX6_expect_11 ?_
    refine cVV (As := [.int 1, .int (nI Po_2)]) (rest := []) (n := 2) (ci := 6) (q0 := 0) (wr := [(tp, .inr (5, [.ref by_, .int (nI T)])), (by_, .inl (cI, 260, .inl fb))]) X hN hK hP hD hS hA (c_failP l D cI cB _ h0 tp (nI N) (nI Po_2) fa 1 (nI Po_2)) (gV k_611 k_574 k_575 k_98 k_576) (by decide +kernel) ⟨Nat.le_of_ble_eq_true rfl, Nat.le_of_ble_eq_true rfl⟩ ⟨rfl, rfl⟩ [0] [1, 2] rfl rfl (by decide) (by decide) rfl rfl rfl rfl rfl hl.1 (Nat.le_of_ble_eq_true rfl) dX6_expect_14 ⟨Nat.le_of_ble_eq_true rfl, Nat.le_of_ble_eq_true rfl⟩ (fun u H locs hw_6 hP hD hS => ?_)
    obtain ⟨h0_3o_5, rfl⟩ : ∃ z, z = u := ⟨_, rfl⟩
    try dsimp only at hw_6
    have hP : va_P D vwCl [(tp, .inr (5, [.ref by_, .int (nI T)])), (by_, .inl (cI, 260, .inl fb)), (h0, .inr (6, [.ref tp, .int (nI N), .int (nI Po_2), .int h0_3o_5]))] H := hP
    have hD : va_D A [(tp, .inr (5, [.ref by_, .int (nI T)])), (by_, .inl (cI, 260, .inl fb)), (h0, .inr (6, [.ref tp, .int (nI N), .int (nI Po_2), .int h0_3o_5]))] := hD
    exact ret _ _ _ _ (Po_2, h0_3o_5) dX6_expect_17 (by have z := bIf (hw_3.1.symm.trans c_5); have z2 := hw_3.2.2.1 z; exact ⟨fun q => absurd q z, fun _ => ⟨z2, by rw [hw_6, z2]⟩, hw_3.2.2.2⟩) (hP.sub [2, 0, 1] rfl) (hD.sub [2, 0, 1] (by decide) rfl) hS

set_option maxRecDepth 100000 in
set_option maxHeartbeats 4000000 in
theorem c_numberP (l : Launch) (D : va_G) (cI cB : ClassId) (sz : Nat) (h0 : Nat) (tp : Nat) (N : Nat) (P : Nat) (fa : Int32) (by_ : Nat) (T : Nat) (fb : Nat → Int32) (M : Nat) (b : Int32) (hT : T ≤ 260) (hNT : N ≤ T) (hPN : P ≤ N) (hM : M ≤ 5) : MI (S := ((Nat) × (Int32))) l D cI cB yX6_number cX6_number 5 .int (rm 2 42) [.ref h0, .int (nI M), .int b] [(h0, .inr (6, [.ref tp, .int (nI N), .int (nI P), .int fa])), (tp, .inr (5, [.ref by_, .int (nI T)])), (by_, .inl (cI, 260, .inl fb))] sz (fun r u => u.1 = P + ndg (sQ fb N fa) M P ∧ r = nvl (sQ fb N fa) M P 0 ∧ u.2 = nf2 fb N fa M b P ∧ u.1 ≤ N) (fun u : ((Nat) × (Int32)) => [(h0, .inr (6, [.ref tp, .int (nI N), .int (nI u.1), .int u.2])), (tp, .inr (5, [.ref by_, .int (nI T)])), (by_, .inl (cI, 260, .inl fb))]) := by
  refine MI.of (by decide) (Nat.le_of_ble_eq_true rfl) ?_
  intro p e s m below meth c Q ls A X hin hN hP hK hD hA hl ret
  have hS : va_S A s.heap s.heap [] := va_S.rf
  obtain ⟨hx, hb, hml, hown, htb⟩ := id X
  have hl : lv_has ls 5 [(0, .ref h0), (1, .int (nI M)), (2, .int b)] := hl
  refine lv_iconst (v := 0) hx hb dX6_number_0 (by decide) ?_
  refine lv_istore_n (lv' := [(3, .int 0), (0, .ref h0), (1, .int (nI M)), (2, .int b)]) hx hb dX6_number_1 rfl hl (by decide) rfl (fun ls hl => ?_)
  refine lv_iconst (v := 0) hx hb dX6_number_2 (by decide) ?_
  refine lv_istore (lv' := [(4, .int 0), (3, .int 0), (0, .ref h0), (1, .int (nI M)), (2, .int b)]) hx hb dX6_number_3 hl (by decide) rfl (fun ls hl => ?_)
  have loop_5 : ∀ (n i : Nat) (v : Int32), n + i = M → (ndg (sQ fb N fa) M P = i + ndg (sQ fb N fa) n (P + i)) → (nvl (sQ fb N fa) M P 0 = nvl (sQ fb N fa) n (P + i) v) → (P + i ≤ N) → ∀ (H : Heap) (locs : List Loc), va_P D vwCl [(h0, .inr (6, [.ref tp, .int (nI N), .int (nI (P + i)), .int fa])), (tp, .inr (5, [.ref by_, .int (nI T)])), (by_, .inl (cI, 260, .inl fb))] H → va_D A [(h0, .inr (6, [.ref tp, .int (nI N), .int (nI (P + i)), .int fa])), (tp, .inr (5, [.ref by_, .int (nI T)])), (by_, .inl (cI, 260, .inl fb))] → va_S A s.heap H locs → ∀ (ls : Array Slot), lv_has ls 5 [(0, .ref h0), (1, .int (nI M)), (2, .int b), (3, .int v), (4, .int (nI i))] → W p l e (rm 2 42) s m ([.ref h0, .int (nI M), .int b] : List Value).toArray below meth c H locs 0 0 Q (F0 m 5 ls []) := by
    intro n
    induction n with
    | zero =>
      intro i v hni hd hv hPi H locs hP hD hS ls hl
      have hni_5 := hni
      have hi : i = M := by omega
      refine lv_iload hx hb dX6_number_5 (lv_at hl 4 rfl) ?_
      refine lv_iload_n hx hb dX6_number_7 rfl (lv_at hl 1 rfl) ?_
      refine lv_icmp_ge (tgt := 47) hx hb dX6_number_8 (by decide) (fun _ => ?_) (fun c_8 => absurd (by rw [hi]; exact nI_le (Nat.le_refl _) (by omega)) c_8)
      have hnd : ndg (sQ fb N fa) M P = i := by rw [hd]; rfl
      have hnv : nvl (sQ fb N fa) M P 0 = v := by rw [hv]; rfl
      refine lv_iload hx hb dX6_number_47 (lv_at hl 4 rfl) ?_
      refine lv_if_ne (tgt := 61) hx hb dX6_number_49 (by decide) (fun c_49 => ?_) (fun c_49 => ?_)
      · have hf1 : fa = nf1 fb N fa M P := by unfold nf1; rw [hnd, if_neg (fun z => c_49 (by rw [z]; rfl))]
        refine lv_iload_n hx hb dX6_number_61 rfl (lv_at hl 2 rfl) ?_
        refine lv_if_eq (tgt := 81) hx hb dX6_number_62 (by decide) (fun c_62 => ?_) (fun c_62 => ?_)
        · refine lv_iload_n hx hb dX6_number_81 rfl (lv_at hl 3 rfl) ?_
          exact ret _ _ _ _ v ((P + i), fa) dX6_number_82 rfl (⟨by rw [hnd], hnv.symm, by unfold nf2; rw [← hf1, if_neg (fun z => z.1 c_62)], hPi⟩) (hP.sub [0, 1, 2] rfl) (hD.sub [0, 1, 2] (by decide) rfl) hS
        · refine lv_aload_n hx hb dX6_number_65 rfl (lv_at hl 0 rfl) ?_
          refine cVR (As := []) (rest := []) (n := 0) (ci := 6) (q0 := 0) X hN hK hP (c_isDigitP l D cI cB h0 tp N (P + i) fa by_ T fb hT hNT hPi) (gV k_616 k_617 k_618 k_98 k_619) (by decide +kernel) ⟨Nat.le_of_ble_eq_true rfl, Nat.le_of_ble_eq_true rfl⟩ ⟨rfl, rfl⟩ [0, 1, 2] rfl rfl rfl rfl rfl rfl hl.1 (Nat.le_of_ble_eq_true rfl) dX6_number_66 ⟨Nat.le_of_ble_eq_true rfl, Nat.le_of_ble_eq_true rfl⟩ (fun r_1 hr_1 => ?_)
          subst hr_1
          refine lv_if_eq (tgt := 81) hx hb dX6_number_69 (by decide) (fun c_69 => ?_) (fun c_69 => ?_)
          · refine lv_iload_n hx hb dX6_number_81 rfl (lv_at hl 3 rfl) ?_
            exact ret _ _ _ _ v ((P + i), fa) dX6_number_82 rfl (⟨by rw [hnd], hnv.symm, by unfold nf2; rw [← hf1, hnd, if_neg (fun z => bIf c_69 z.2)], hPi⟩) (hP.sub [0, 1, 2] rfl) (hD.sub [0, 1, 2] (by decide) rfl) hS
          · refine lv_aload_n hx hb dX6_number_72 rfl (lv_at hl 0 rfl) ?_
            refine lv_iload_n hx hb dX6_number_73 rfl (lv_at hl 2 rfl) ?_
            refine lv_aload_n hx hb dX6_number_74 rfl (lv_at hl 0 rfl) ?_
            refine va_get (D := D) (ci := 6) (v := .int (nI (P + i))) (C := RX6) (T := TX6) (N := 4) hx hb htb itX6 hown hK hP 0 rfl rfl 2 (by decide) (htb _ k_263) (fun _ h9 => h9) rfl dX6_number_75 ?_
            refine cVV (As := [.int b, .int (nI (P + i))]) (rest := []) (n := 2) (ci := 6) (q0 := 0) (wr := [(tp, .inr (5, [.ref by_, .int (nI T)])), (by_, .inl (cI, 260, .inl fb))]) X hN hK hP hD hS hA (c_failP l D cI cB _ h0 tp (nI N) (nI (P + i)) fa b (nI (P + i))) (gV k_611 k_574 k_575 k_98 k_576) (by decide +kernel) ⟨Nat.le_of_ble_eq_true rfl, Nat.le_of_ble_eq_true rfl⟩ ⟨rfl, rfl⟩ [0] [1, 2] rfl rfl (by decide) (by decide) rfl rfl rfl rfl rfl hl.1 (Nat.le_of_ble_eq_true rfl) dX6_number_78 ⟨Nat.le_of_ble_eq_true rfl, Nat.le_of_ble_eq_true rfl⟩ (fun u H locs hw_4 hP hD hS => ?_)
            obtain ⟨h0_3o_3, rfl⟩ : ∃ z, z = u := ⟨_, rfl⟩
            try dsimp only at hw_4
            have hP : va_P D vwCl [(tp, .inr (5, [.ref by_, .int (nI T)])), (by_, .inl (cI, 260, .inl fb)), (h0, .inr (6, [.ref tp, .int (nI N), .int (nI (P + i)), .int h0_3o_3]))] H := hP
            have hD : va_D A [(tp, .inr (5, [.ref by_, .int (nI T)])), (by_, .inl (cI, 260, .inl fb)), (h0, .inr (6, [.ref tp, .int (nI N), .int (nI (P + i)), .int h0_3o_3]))] := hD
            refine lv_iload_n hx hb dX6_number_81 rfl (lv_at hl 3 rfl) ?_
            exact ret _ _ _ _ v ((P + i), h0_3o_3) dX6_number_82 rfl (⟨by rw [hnd], hnv.symm, by unfold nf2; rw [← hf1, hnd, if_pos ⟨c_62, bIt c_69⟩]; exact hw_4, hPi⟩) (hP.sub [2, 0, 1] rfl) (hD.sub [2, 0, 1] (by decide) rfl) hS
      · refine lv_aload_n hx hb dX6_number_52 rfl (lv_at hl 0 rfl) ?_
        refine lv_iconst (v := 1) hx hb dX6_number_53 (by decide) ?_
        refine lv_aload_n hx hb dX6_number_54 rfl (lv_at hl 0 rfl) ?_
        refine va_get (D := D) (ci := 6) (v := .int (nI (P + i))) (C := RX6) (T := TX6) (N := 4) hx hb htb itX6 hown hK hP 0 rfl rfl 2 (by decide) (htb _ k_263) (fun _ h9 => h9) rfl dX6_number_55 ?_
        refine cVV (As := [.int 1, .int (nI (P + i))]) (rest := []) (n := 2) (ci := 6) (q0 := 0) (wr := [(tp, .inr (5, [.ref by_, .int (nI T)])), (by_, .inl (cI, 260, .inl fb))]) X hN hK hP hD hS hA (c_failP l D cI cB _ h0 tp (nI N) (nI (P + i)) fa 1 (nI (P + i))) (gV k_611 k_574 k_575 k_98 k_576) (by decide +kernel) ⟨Nat.le_of_ble_eq_true rfl, Nat.le_of_ble_eq_true rfl⟩ ⟨rfl, rfl⟩ [0] [1, 2] rfl rfl (by decide) (by decide) rfl rfl rfl rfl rfl hl.1 (Nat.le_of_ble_eq_true rfl) dX6_number_58 ⟨Nat.le_of_ble_eq_true rfl, Nat.le_of_ble_eq_true rfl⟩ (fun u H locs hw_7 hP hD hS => ?_)
        obtain ⟨h0_3o_6, rfl⟩ : ∃ z, z = u := ⟨_, rfl⟩
        try dsimp only at hw_7
        have hP : va_P D vwCl [(tp, .inr (5, [.ref by_, .int (nI T)])), (by_, .inl (cI, 260, .inl fb)), (h0, .inr (6, [.ref tp, .int (nI N), .int (nI (P + i)), .int h0_3o_6]))] H := hP
        have hD : va_D A [(tp, .inr (5, [.ref by_, .int (nI T)])), (by_, .inl (cI, 260, .inl fb)), (h0, .inr (6, [.ref tp, .int (nI N), .int (nI (P + i)), .int h0_3o_6]))] := hD
        have hf1 : h0_3o_6 = nf1 fb N fa M P := by have z : i = 0 := nI0 (by omega) c_49; unfold nf1; rw [hnd, if_pos z, hw_7, z]; rfl
        refine lv_iload_n hx hb dX6_number_61 rfl (lv_at hl 2 rfl) ?_
        refine lv_if_eq (tgt := 81) hx hb dX6_number_62 (by decide) (fun c_62 => ?_) (fun c_62 => ?_)
        · refine lv_iload_n hx hb dX6_number_81 rfl (lv_at hl 3 rfl) ?_
          exact ret _ _ _ _ v ((P + i), h0_3o_6) dX6_number_82 rfl (⟨by rw [hnd], hnv.symm, by unfold nf2; rw [← hf1, if_neg (fun z => z.1 c_62)], hPi⟩) (hP.sub [2, 0, 1] rfl) (hD.sub [2, 0, 1] (by decide) rfl) hS
        · refine lv_aload_n hx hb dX6_number_65 rfl (lv_at hl 0 rfl) ?_
          refine cVR (As := []) (rest := []) (n := 0) (ci := 6) (q0 := 0) X hN hK hP (c_isDigitP l D cI cB h0 tp N (P + i) h0_3o_6 by_ T fb hT hNT hPi) (gV k_616 k_617 k_618 k_98 k_619) (by decide +kernel) ⟨Nat.le_of_ble_eq_true rfl, Nat.le_of_ble_eq_true rfl⟩ ⟨rfl, rfl⟩ [2, 0, 1] rfl rfl rfl rfl rfl rfl hl.1 (Nat.le_of_ble_eq_true rfl) dX6_number_66 ⟨Nat.le_of_ble_eq_true rfl, Nat.le_of_ble_eq_true rfl⟩ (fun r_8 hr_8 => ?_)
          subst hr_8
          refine lv_if_eq (tgt := 81) hx hb dX6_number_69 (by decide) (fun c_69 => ?_) (fun c_69 => ?_)
          · refine lv_iload_n hx hb dX6_number_81 rfl (lv_at hl 3 rfl) ?_
            exact ret _ _ _ _ v ((P + i), h0_3o_6) dX6_number_82 rfl (⟨by rw [hnd], hnv.symm, by unfold nf2; rw [← hf1, hnd, if_neg (fun z => bIf c_69 z.2)], hPi⟩) (hP.sub [2, 0, 1] rfl) (hD.sub [2, 0, 1] (by decide) rfl) hS
          · refine lv_aload_n hx hb dX6_number_72 rfl (lv_at hl 0 rfl) ?_
            refine lv_iload_n hx hb dX6_number_73 rfl (lv_at hl 2 rfl) ?_
            refine lv_aload_n hx hb dX6_number_74 rfl (lv_at hl 0 rfl) ?_
            refine va_get (D := D) (ci := 6) (v := .int (nI (P + i))) (C := RX6) (T := TX6) (N := 4) hx hb htb itX6 hown hK hP 2 rfl rfl 2 (by decide) (htb _ k_263) (fun _ h9 => h9) rfl dX6_number_75 ?_
            refine cVV (As := [.int b, .int (nI (P + i))]) (rest := []) (n := 2) (ci := 6) (q0 := 0) (wr := [(tp, .inr (5, [.ref by_, .int (nI T)])), (by_, .inl (cI, 260, .inl fb))]) X hN hK hP hD hS hA (c_failP l D cI cB _ h0 tp (nI N) (nI (P + i)) h0_3o_6 b (nI (P + i))) (gV k_611 k_574 k_575 k_98 k_576) (by decide +kernel) ⟨Nat.le_of_ble_eq_true rfl, Nat.le_of_ble_eq_true rfl⟩ ⟨rfl, rfl⟩ [2] [0, 1] rfl rfl (by decide) (by decide) rfl rfl rfl rfl rfl hl.1 (Nat.le_of_ble_eq_true rfl) dX6_number_78 ⟨Nat.le_of_ble_eq_true rfl, Nat.le_of_ble_eq_true rfl⟩ (fun u H locs hw_11 hP hD hS => ?_)
            obtain ⟨h0_3o_10, rfl⟩ : ∃ z, z = u := ⟨_, rfl⟩
            try dsimp only at hw_11
            have hP : va_P D vwCl [(tp, .inr (5, [.ref by_, .int (nI T)])), (by_, .inl (cI, 260, .inl fb)), (h0, .inr (6, [.ref tp, .int (nI N), .int (nI (P + i)), .int h0_3o_10]))] H := hP
            have hD : va_D A [(tp, .inr (5, [.ref by_, .int (nI T)])), (by_, .inl (cI, 260, .inl fb)), (h0, .inr (6, [.ref tp, .int (nI N), .int (nI (P + i)), .int h0_3o_10]))] := hD
            refine lv_iload_n hx hb dX6_number_81 rfl (lv_at hl 3 rfl) ?_
            exact ret _ _ _ _ v ((P + i), h0_3o_10) dX6_number_82 rfl (⟨by rw [hnd], hnv.symm, by unfold nf2; rw [← hf1, hnd, if_pos ⟨c_62, bIt c_69⟩]; exact hw_11, hPi⟩) (hP.sub [2, 0, 1] rfl) (hD.sub [2, 0, 1] (by decide) rfl) hS
    | succ n ih_5 =>
      intro i v hni hd hv hPi H locs hP hD hS ls hl
      have hni_5 := hni
      have hi : i < M := by omega
      refine lv_iload hx hb dX6_number_5 (lv_at hl 4 rfl) ?_
      refine lv_iload_n hx hb dX6_number_7 rfl (lv_at hl 1 rfl) ?_
      refine lv_icmp_ge (tgt := 47) hx hb dX6_number_8 (by decide) (fun c_8 => absurd c_8 (nI_ge hi (by omega))) (fun _ => ?_)
      refine lv_aload_n hx hb dX6_number_11 rfl (lv_at hl 0 rfl) ?_
      refine cVR (As := []) (rest := []) (n := 0) (ci := 6) (q0 := 0) X hN hK hP (c_isDigitP l D cI cB h0 tp N (P + i) fa by_ T fb hT hNT hPi) (gV k_616 k_617 k_618 k_98 k_619) (by decide +kernel) ⟨Nat.le_of_ble_eq_true rfl, Nat.le_of_ble_eq_true rfl⟩ ⟨rfl, rfl⟩ [0, 1, 2] rfl rfl rfl rfl rfl rfl hl.1 (Nat.le_of_ble_eq_true rfl) dX6_number_12 ⟨Nat.le_of_ble_eq_true rfl, Nat.le_of_ble_eq_true rfl⟩ (fun r_12 hr_12 => ?_)
      subst hr_12
      refine lv_if_eq (tgt := 47) hx hb dX6_number_15 (by decide) (fun c_15 => ?_) (fun c_15 => ?_)
      · have hnd : ndg (sQ fb N fa) M P = i := by rw [hd, ndg_n (bIf c_15)]; rfl
        have hnv : nvl (sQ fb N fa) M P 0 = v := by rw [hv, nvl_n (bIf c_15)]
        refine lv_iload hx hb dX6_number_47 (lv_at hl 4 rfl) ?_
        refine lv_if_ne (tgt := 61) hx hb dX6_number_49 (by decide) (fun c_49 => ?_) (fun c_49 => ?_)
        · have hf1 : fa = nf1 fb N fa M P := by unfold nf1; rw [hnd, if_neg (fun z => c_49 (by rw [z]; rfl))]
          refine lv_iload_n hx hb dX6_number_61 rfl (lv_at hl 2 rfl) ?_
          refine lv_if_eq (tgt := 81) hx hb dX6_number_62 (by decide) (fun c_62 => ?_) (fun c_62 => ?_)
          · refine lv_iload_n hx hb dX6_number_81 rfl (lv_at hl 3 rfl) ?_
            exact ret _ _ _ _ v ((P + i), fa) dX6_number_82 rfl (⟨by rw [hnd], hnv.symm, by unfold nf2; rw [← hf1, if_neg (fun z => z.1 c_62)], hPi⟩) (hP.sub [0, 1, 2] rfl) (hD.sub [0, 1, 2] (by decide) rfl) hS
          · refine lv_aload_n hx hb dX6_number_65 rfl (lv_at hl 0 rfl) ?_
            refine cVR (As := []) (rest := []) (n := 0) (ci := 6) (q0 := 0) X hN hK hP (c_isDigitP l D cI cB h0 tp N (P + i) fa by_ T fb hT hNT hPi) (gV k_616 k_617 k_618 k_98 k_619) (by decide +kernel) ⟨Nat.le_of_ble_eq_true rfl, Nat.le_of_ble_eq_true rfl⟩ ⟨rfl, rfl⟩ [0, 1, 2] rfl rfl rfl rfl rfl rfl hl.1 (Nat.le_of_ble_eq_true rfl) dX6_number_66 ⟨Nat.le_of_ble_eq_true rfl, Nat.le_of_ble_eq_true rfl⟩ (fun r_13 hr_13 => ?_)
            subst hr_13
            refine lv_if_eq (tgt := 81) hx hb dX6_number_69 (by decide) (fun c_69 => ?_) (fun c_69 => ?_)
            · refine lv_iload_n hx hb dX6_number_81 rfl (lv_at hl 3 rfl) ?_
              exact ret _ _ _ _ v ((P + i), fa) dX6_number_82 rfl (⟨by rw [hnd], hnv.symm, by unfold nf2; rw [← hf1, hnd, if_neg (fun z => bIf c_69 z.2)], hPi⟩) (hP.sub [0, 1, 2] rfl) (hD.sub [0, 1, 2] (by decide) rfl) hS
            · refine lv_aload_n hx hb dX6_number_72 rfl (lv_at hl 0 rfl) ?_
              refine lv_iload_n hx hb dX6_number_73 rfl (lv_at hl 2 rfl) ?_
              refine lv_aload_n hx hb dX6_number_74 rfl (lv_at hl 0 rfl) ?_
              refine va_get (D := D) (ci := 6) (v := .int (nI (P + i))) (C := RX6) (T := TX6) (N := 4) hx hb htb itX6 hown hK hP 0 rfl rfl 2 (by decide) (htb _ k_263) (fun _ h9 => h9) rfl dX6_number_75 ?_
              refine cVV (As := [.int b, .int (nI (P + i))]) (rest := []) (n := 2) (ci := 6) (q0 := 0) (wr := [(tp, .inr (5, [.ref by_, .int (nI T)])), (by_, .inl (cI, 260, .inl fb))]) X hN hK hP hD hS hA (c_failP l D cI cB _ h0 tp (nI N) (nI (P + i)) fa b (nI (P + i))) (gV k_611 k_574 k_575 k_98 k_576) (by decide +kernel) ⟨Nat.le_of_ble_eq_true rfl, Nat.le_of_ble_eq_true rfl⟩ ⟨rfl, rfl⟩ [0] [1, 2] rfl rfl (by decide) (by decide) rfl rfl rfl rfl rfl hl.1 (Nat.le_of_ble_eq_true rfl) dX6_number_78 ⟨Nat.le_of_ble_eq_true rfl, Nat.le_of_ble_eq_true rfl⟩ (fun u H locs hw_16 hP hD hS => ?_)
              obtain ⟨h0_3o_15, rfl⟩ : ∃ z, z = u := ⟨_, rfl⟩
              try dsimp only at hw_16
              have hP : va_P D vwCl [(tp, .inr (5, [.ref by_, .int (nI T)])), (by_, .inl (cI, 260, .inl fb)), (h0, .inr (6, [.ref tp, .int (nI N), .int (nI (P + i)), .int h0_3o_15]))] H := hP
              have hD : va_D A [(tp, .inr (5, [.ref by_, .int (nI T)])), (by_, .inl (cI, 260, .inl fb)), (h0, .inr (6, [.ref tp, .int (nI N), .int (nI (P + i)), .int h0_3o_15]))] := hD
              refine lv_iload_n hx hb dX6_number_81 rfl (lv_at hl 3 rfl) ?_
              exact ret _ _ _ _ v ((P + i), h0_3o_15) dX6_number_82 rfl (⟨by rw [hnd], hnv.symm, by unfold nf2; rw [← hf1, hnd, if_pos ⟨c_62, bIt c_69⟩]; exact hw_16, hPi⟩) (hP.sub [2, 0, 1] rfl) (hD.sub [2, 0, 1] (by decide) rfl) hS
        · refine lv_aload_n hx hb dX6_number_52 rfl (lv_at hl 0 rfl) ?_
          refine lv_iconst (v := 1) hx hb dX6_number_53 (by decide) ?_
          refine lv_aload_n hx hb dX6_number_54 rfl (lv_at hl 0 rfl) ?_
          refine va_get (D := D) (ci := 6) (v := .int (nI (P + i))) (C := RX6) (T := TX6) (N := 4) hx hb htb itX6 hown hK hP 0 rfl rfl 2 (by decide) (htb _ k_263) (fun _ h9 => h9) rfl dX6_number_55 ?_
          refine cVV (As := [.int 1, .int (nI (P + i))]) (rest := []) (n := 2) (ci := 6) (q0 := 0) (wr := [(tp, .inr (5, [.ref by_, .int (nI T)])), (by_, .inl (cI, 260, .inl fb))]) X hN hK hP hD hS hA (c_failP l D cI cB _ h0 tp (nI N) (nI (P + i)) fa 1 (nI (P + i))) (gV k_611 k_574 k_575 k_98 k_576) (by decide +kernel) ⟨Nat.le_of_ble_eq_true rfl, Nat.le_of_ble_eq_true rfl⟩ ⟨rfl, rfl⟩ [0] [1, 2] rfl rfl (by decide) (by decide) rfl rfl rfl rfl rfl hl.1 (Nat.le_of_ble_eq_true rfl) dX6_number_58 ⟨Nat.le_of_ble_eq_true rfl, Nat.le_of_ble_eq_true rfl⟩ (fun u H locs hw_19 hP hD hS => ?_)
          obtain ⟨h0_3o_18, rfl⟩ : ∃ z, z = u := ⟨_, rfl⟩
          try dsimp only at hw_19
          have hP : va_P D vwCl [(tp, .inr (5, [.ref by_, .int (nI T)])), (by_, .inl (cI, 260, .inl fb)), (h0, .inr (6, [.ref tp, .int (nI N), .int (nI (P + i)), .int h0_3o_18]))] H := hP
          have hD : va_D A [(tp, .inr (5, [.ref by_, .int (nI T)])), (by_, .inl (cI, 260, .inl fb)), (h0, .inr (6, [.ref tp, .int (nI N), .int (nI (P + i)), .int h0_3o_18]))] := hD
          have hf1 : h0_3o_18 = nf1 fb N fa M P := by have z : i = 0 := nI0 (by omega) c_49; unfold nf1; rw [hnd, if_pos z, hw_19, z]; rfl
          refine lv_iload_n hx hb dX6_number_61 rfl (lv_at hl 2 rfl) ?_
          refine lv_if_eq (tgt := 81) hx hb dX6_number_62 (by decide) (fun c_62 => ?_) (fun c_62 => ?_)
          · refine lv_iload_n hx hb dX6_number_81 rfl (lv_at hl 3 rfl) ?_
            exact ret _ _ _ _ v ((P + i), h0_3o_18) dX6_number_82 rfl (⟨by rw [hnd], hnv.symm, by unfold nf2; rw [← hf1, if_neg (fun z => z.1 c_62)], hPi⟩) (hP.sub [2, 0, 1] rfl) (hD.sub [2, 0, 1] (by decide) rfl) hS
          · refine lv_aload_n hx hb dX6_number_65 rfl (lv_at hl 0 rfl) ?_
            refine cVR (As := []) (rest := []) (n := 0) (ci := 6) (q0 := 0) X hN hK hP (c_isDigitP l D cI cB h0 tp N (P + i) h0_3o_18 by_ T fb hT hNT hPi) (gV k_616 k_617 k_618 k_98 k_619) (by decide +kernel) ⟨Nat.le_of_ble_eq_true rfl, Nat.le_of_ble_eq_true rfl⟩ ⟨rfl, rfl⟩ [2, 0, 1] rfl rfl rfl rfl rfl rfl hl.1 (Nat.le_of_ble_eq_true rfl) dX6_number_66 ⟨Nat.le_of_ble_eq_true rfl, Nat.le_of_ble_eq_true rfl⟩ (fun r_20 hr_20 => ?_)
            subst hr_20
            refine lv_if_eq (tgt := 81) hx hb dX6_number_69 (by decide) (fun c_69 => ?_) (fun c_69 => ?_)
            · refine lv_iload_n hx hb dX6_number_81 rfl (lv_at hl 3 rfl) ?_
              exact ret _ _ _ _ v ((P + i), h0_3o_18) dX6_number_82 rfl (⟨by rw [hnd], hnv.symm, by unfold nf2; rw [← hf1, hnd, if_neg (fun z => bIf c_69 z.2)], hPi⟩) (hP.sub [2, 0, 1] rfl) (hD.sub [2, 0, 1] (by decide) rfl) hS
            · refine lv_aload_n hx hb dX6_number_72 rfl (lv_at hl 0 rfl) ?_
              refine lv_iload_n hx hb dX6_number_73 rfl (lv_at hl 2 rfl) ?_
              refine lv_aload_n hx hb dX6_number_74 rfl (lv_at hl 0 rfl) ?_
              refine va_get (D := D) (ci := 6) (v := .int (nI (P + i))) (C := RX6) (T := TX6) (N := 4) hx hb htb itX6 hown hK hP 2 rfl rfl 2 (by decide) (htb _ k_263) (fun _ h9 => h9) rfl dX6_number_75 ?_
              refine cVV (As := [.int b, .int (nI (P + i))]) (rest := []) (n := 2) (ci := 6) (q0 := 0) (wr := [(tp, .inr (5, [.ref by_, .int (nI T)])), (by_, .inl (cI, 260, .inl fb))]) X hN hK hP hD hS hA (c_failP l D cI cB _ h0 tp (nI N) (nI (P + i)) h0_3o_18 b (nI (P + i))) (gV k_611 k_574 k_575 k_98 k_576) (by decide +kernel) ⟨Nat.le_of_ble_eq_true rfl, Nat.le_of_ble_eq_true rfl⟩ ⟨rfl, rfl⟩ [2] [0, 1] rfl rfl (by decide) (by decide) rfl rfl rfl rfl rfl hl.1 (Nat.le_of_ble_eq_true rfl) dX6_number_78 ⟨Nat.le_of_ble_eq_true rfl, Nat.le_of_ble_eq_true rfl⟩ (fun u H locs hw_23 hP hD hS => ?_)
              obtain ⟨h0_3o_22, rfl⟩ : ∃ z, z = u := ⟨_, rfl⟩
              try dsimp only at hw_23
              have hP : va_P D vwCl [(tp, .inr (5, [.ref by_, .int (nI T)])), (by_, .inl (cI, 260, .inl fb)), (h0, .inr (6, [.ref tp, .int (nI N), .int (nI (P + i)), .int h0_3o_22]))] H := hP
              have hD : va_D A [(tp, .inr (5, [.ref by_, .int (nI T)])), (by_, .inl (cI, 260, .inl fb)), (h0, .inr (6, [.ref tp, .int (nI N), .int (nI (P + i)), .int h0_3o_22]))] := hD
              refine lv_iload_n hx hb dX6_number_81 rfl (lv_at hl 3 rfl) ?_
              exact ret _ _ _ _ v ((P + i), h0_3o_22) dX6_number_82 rfl (⟨by rw [hnd], hnv.symm, by unfold nf2; rw [← hf1, hnd, if_pos ⟨c_62, bIt c_69⟩]; exact hw_23, hPi⟩) (hP.sub [2, 0, 1] rfl) (hD.sub [2, 0, 1] (by decide) rfl) hS
      · refine lv_iload_n hx hb dX6_number_18 rfl (lv_at hl 3 rfl) ?_
        refine lv_bipush (v := 10) hx hb dX6_number_19 (by decide) ?_
        refine lv_imul hx hb dX6_number_21 ?_
        refine lv_aload_n hx hb dX6_number_22 rfl (lv_at hl 0 rfl) ?_
        refine cVR (As := []) (rest := [.int (v * 10)]) (n := 0) (ci := 6) (q0 := 0) X hN hK hP (c_signP l D cI cB h0 tp N (P + i) fa by_ T fb hT hNT hPi) (gV k_610 k_484 k_485 k_98 k_486) (by decide +kernel) ⟨Nat.le_of_ble_eq_true rfl, Nat.le_of_ble_eq_true rfl⟩ ⟨rfl, rfl⟩ [0, 1, 2] rfl rfl rfl rfl rfl rfl hl.1 (Nat.le_of_ble_eq_true rfl) dX6_number_23 ⟨Nat.le_of_ble_eq_true rfl, Nat.le_of_ble_eq_true rfl⟩ (fun r_24 hr_24 => ?_)
        subst hr_24
        refine lv_iadd hx hb dX6_number_26 ?_
        refine lv_bipush (v := 48) hx hb dX6_number_27 (by decide) ?_
        refine lv_isub hx hb dX6_number_29 ?_
        refine lv_topi (fun x_25 ex_25 => ?_)
        refine lv_istore_n (lv' := [(3, .int x_25), (0, .ref h0), (1, .int (nI M)), (2, .int b), (4, .int (nI i))]) hx hb dX6_number_30 rfl hl (by decide) rfl (fun ls hl => ?_)
        refine lv_aload_n hx hb dX6_number_31 rfl (lv_at hl 1 rfl) ?_
        refine lv_dup hx hb dX6_number_32 rfl ?_
        refine va_get (D := D) (ci := 6) (v := .int (nI (P + i))) (C := RX6) (T := TX6) (N := 4) hx hb htb itX6 hown hK hP 0 rfl rfl 2 (by decide) (htb _ k_263) (fun _ h9 => h9) rfl dX6_number_33 ?_
        refine lv_iconst (v := 1) hx hb dX6_number_36 (by decide) ?_
        refine lv_iadd hx hb dX6_number_37 ?_
        refine tv (z := (nI (P + i + 1))) (nI_1 (P + i)) ?_
        refine va_put (D := D) (ci := 6) (v := .int (nI (P + i + 1))) (ty := .int) (C := RX6) (T := TX6) (N := 4) hx hb htb itX6 tyX6 tyX6_ok nmX6 hown hK hP hD hS 0 rfl rfl 2 (by decide) (htb _ k_263) (fun _ h9 => h9) rfl (tyX6_ok 2 (by decide)) rfl rfl (Nat.le_of_ble_eq_true rfl) dX6_number_38 (fun H locs hP hD hS => ?_)
        have hP : va_P D vwCl [(h0, .inr (6, [.ref tp, .int (nI N), .int (nI (P + i + 1)), .int fa])), (tp, .inr (5, [.ref by_, .int (nI T)])), (by_, .inl (cI, 260, .inl fb))] H := hP
        have hD : va_D A [(h0, .inr (6, [.ref tp, .int (nI N), .int (nI (P + i + 1)), .int fa])), (tp, .inr (5, [.ref by_, .int (nI T)])), (by_, .inl (cI, 260, .inl fb))] := hD
        refine lv_iinc (v := (nI (i + 1))) (lv' := [(4, .int (nI (i + 1))), (3, .int x_25), (0, .ref h0), (1, .int (nI M)), (2, .int b)]) hx hb dX6_number_41 hl (k := 4) rfl (nI_1 i) (by decide) rfl (fun ls hl => ?_)
        refine lv_goto (tgt := 5) hx hb dX6_number_44 (by decide) ?_
        exact ih_5 (i + 1) x_25 (by omega) (by rw [hd, ndg_y (bIt c_15)]; show i + (ndg (sQ fb N fa) n (P + i + 1) + 1) = i + 1 + ndg (sQ fb N fa) n (P + i + 1); omega) (by rw [hv, nvl_y (bIt c_15), ex_25]; rfl) (by have := (sQz (dgz (bIt c_15))).2; omega) _ _ (hP.sub [0, 1, 2] rfl) (hD.sub [0, 1, 2] (by decide) rfl) hS _ (lv_sub hl [2, 3, 4, 1, 0] rfl)
  exact loop_5 M 0 0 (by omega) (by rw [Nat.zero_add]; rfl) rfl hPN _ _ (hP.sub [0, 1, 2] rfl) (hD.sub [0, 1, 2] (by decide) rfl) hS _ (lv_sub hl [2, 3, 4, 1, 0] rfl)
