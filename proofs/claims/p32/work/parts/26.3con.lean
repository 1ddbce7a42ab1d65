set_option maxRecDepth 100000 in
set_option maxHeartbeats 4000000 in
theorem c_X5_canGive (l : Launch) (D : va_G) (cI cB : ClassId) (h0 : Nat) (by_ : Nat) (T : Nat) (n : Int32) (lo : Int32) (hi : Int32)  : MR l D cI cB yX5_canGive cX5_canGive 4 .boolean (rm 0 0) [.ref h0, .int n, .int lo, .int hi] [(h0, .inr (5, [.ref by_, .int (nI T)]))] (fun r : Int32 => r = bI ((lo ≤ n ∧ n ≤ hi) ∧ n ≤ nI T)) := by
  refine MR.of (by decide) (Nat.le_of_ble_eq_true rfl) ?_
  intro p e s m below meth c Q ls X hN hP hK hl ret
  obtain ⟨hx, hb, hml, hown, htb⟩ := id X
  have hl : lv_has ls 4 [(0, .ref h0), (1, .int n), (2, .int lo), (3, .int hi)] := hl
  refine lv_iload_n hx hb dX5_canGive_0 rfl (lv_at hl 1 rfl) ?_
  refine lv_iload_n hx hb dX5_canGive_1 rfl (lv_at hl 2 rfl) ?_
  refine lv_icmp_lt (tgt := 22) hx hb dX5_canGive_2 (by decide) (fun c_2 => ?_) (fun c_2 => ?_)
  · refine lv_iconst (v := 0) hx hb dX5_canGive_22 (by decide) ?_
    exact ret _ _ 0 dX5_canGive_23 rfl (bI0 (fun h => (Int32.not_lt.mpr h.1.1) c_2))
  · refine lv_iload_n hx hb dX5_canGive_5 rfl (lv_at hl 1 rfl) ?_
    refine lv_iload_n hx hb dX5_canGive_6 rfl (lv_at hl 3 rfl) ?_
    refine lv_icmp_gt (tgt := 22) hx hb dX5_canGive_7 (by decide) (fun c_7 => ?_) (fun c_7 => ?_)
    · refine lv_iconst (v := 0) hx hb dX5_canGive_22 (by decide) ?_
      exact ret _ _ 0 dX5_canGive_23 rfl (bI0 (fun h => (Int32.not_lt.mpr h.1.2) c_7))
    · refine lv_iload_n hx hb dX5_canGive_10 rfl (lv_at hl 1 rfl) ?_
      refine lv_aload_n hx hb dX5_canGive_11 rfl (lv_at hl 0 rfl) ?_
      refine va_get (D := D) (ci := 5) (v := .int (nI T)) (C := RX5) (T := TX5) (N := 2) hx hb htb itX5 hown hK hP 0 rfl rfl 1 (by decide) (htb _ k_128) (fun _ h9 => h9) rfl dX5_canGive_12 ?_
      refine lv_icmp_gt (tgt := 22) hx hb dX5_canGive_15 (by decide) (fun c_15 => ?_) (fun c_15 => ?_)
      · refine lv_iconst (v := 0) hx hb dX5_canGive_22 (by decide) ?_
        exact ret _ _ 0 dX5_canGive_23 rfl (bI0 (fun h => (Int32.not_lt.mpr h.2) c_15))
      · refine lv_iconst (v := 1) hx hb dX5_canGive_18 (by decide) ?_
        refine lv_goto (tgt := 23) hx hb dX5_canGive_19 (by decide) ?_
        exact ret _ _ 1 dX5_canGive_23 rfl (bI1 ⟨⟨Int32.not_lt.mp c_2, Int32.not_lt.mp c_7⟩, Int32.not_lt.mp c_15⟩)

set_option maxRecDepth 100000 in
set_option maxHeartbeats 4000000 in
theorem c_X5_hasRoomFor (l : Launch) (D : va_G) (cI cB : ClassId) (h0 : Nat) (by_ : Nat) (T : Nat) (fb : Nat → Int32) (hT : T ≤ 260) : MR l D cI cB yX5_hasRoomFor cX5_hasRoomFor 2 .boolean (rm 0 0) [.ref h0, .int 20] [(h0, .inr (5, [.ref by_, .int (nI T)])), (by_, .inl (cI, 260, .inl fb))] (fun r : Int32 => r = bI (T ≤ 240)) := by
  refine MR.of (by decide) (Nat.le_of_ble_eq_true rfl) ?_
  intro p e s m below meth c Q ls X hN hP hK hl ret
  obtain ⟨hx, hb, hml, hown, htb⟩ := id X
  have hl : lv_has ls 2 [(0, .ref h0), (1, .int 20)] := hl
  refine lv_aload_n hx hb dX5_hasRoomFor_0 rfl (lv_at hl 0 rfl) ?_
  refine va_get (D := D) (ci := 5) (v := .int (nI T)) (C := RX5) (T := TX5) (N := 2) hx hb htb itX5 hown hK hP 0 rfl rfl 1 (by decide) (htb _ k_128) (fun _ h9 => h9) rfl dX5_hasRoomFor_1 ?_
  refine lv_iload_n hx hb dX5_hasRoomFor_4 rfl (lv_at hl 1 rfl) ?_
  refine lv_iadd hx hb dX5_hasRoomFor_5 ?_
  refine tv (z := (nI (T + 20))) (nI_add T 20) ?_
  refine lv_aload_n hx hb dX5_hasRoomFor_6 rfl (lv_at hl 0 rfl) ?_
  refine va_get (D := D) (ci := 5) (v := .ref by_) (C := RX5) (T := TX5) (N := 2) hx hb htb itX5 hown hK hP 0 rfl rfl 0 (by decide) (htb _ k_126) (fun _ h9 => h9) rfl dX5_hasRoomFor_7 ?_
  refine va_alen hx hb hK hP 1 0 rfl rfl (v := 260) rfl dX5_hasRoomFor_10 ?_
  refine lv_icmp_gt (tgt := 18) hx hb dX5_hasRoomFor_11 (by decide) (fun c_11 => ?_) (fun c_11 => ?_)
  · refine lv_iconst (v := 0) hx hb dX5_hasRoomFor_18 (by decide) ?_
    exact ret _ _ 0 dX5_hasRoomFor_19 rfl (bI0 (by have a0 := Int32.lt_iff_toInt_lt.mp c_11; have a1 : (260 : Int32).toInt = 260 := (by decide); have a2 := nI_toInt (n := (T + 20)) (by omega); omega))
  · refine lv_iconst (v := 1) hx hb dX5_hasRoomFor_14 (by decide) ?_
    refine lv_goto (tgt := 19) hx hb dX5_hasRoomFor_15 (by decide) ?_
    exact ret _ _ 1 dX5_hasRoomFor_19 rfl (bI1 (by have a0 := mt Int32.lt_iff_toInt_lt.mpr c_11; have a1 : (260 : Int32).toInt = 260 := (by decide); have a2 := nI_toInt (n := (T + 20)) (by omega); omega))

set_option maxRecDepth 100000 in
set_option maxHeartbeats 4000000 in
theorem c_X5_addWord (l : Launch) (D : va_G) (cI cB : ClassId) (sz : Nat) (h0 : Nat) (by_ : Nat) (T : Nat) (w : Int32) (fb : Nat → Int32) (ht : T + 4 ≤ 260) : MV (S := ((Nat → Int32))) l D cI cB yX5_addWord cX5_addWord 3 (rm 0 0) [.ref h0, .int w] [(h0, .inr (5, [.ref by_, .int (nI T)])), (by_, .inl (cI, 260, .inl fb))] sz (fun u => True) (fun u : ((Nat → Int32)) => [(h0, .inr (5, [.ref by_, .int (nI (T + 4))])), (by_, .inl (cI, 260, .inl u))]) := by
  refine MV.of (by decide) (Nat.le_of_ble_eq_true rfl) ?_
  intro p e s m below meth c Q ls A X hin hN hP hK hD hA hl ret
  have hS : va_S A s.heap s.heap [] := va_S.rf
  obtain ⟨hx, hb, hml, hown, htb⟩ := id X
  have hl : lv_has ls 3 [(0, .ref h0), (1, .int w)] := hl
  refine lv_bipush (v := 24) hx hb dX5_addWord_0 (by decide) ?_
  refine lv_istore_n (lv' := [(2, .int 24), (0, .ref h0), (1, .int w)]) hx hb dX5_addWord_2 rfl hl (by decide) rfl (fun ls hl => ?_)
  refine lv_iload_n hx hb dX5_addWord_3 rfl (lv_at hl 0 rfl) ?_
  refine lv_if_lt (tgt := 51) hx hb dX5_addWord_4 (by decide) (fun c_4 => absurd c_4 (by decide)) (fun _ => ?_)
  refine lv_aload_n hx hb dX5_addWord_7 rfl (lv_at hl 1 rfl) ?_
  refine va_get (D := D) (ci := 5) (v := .int (nI T)) (C := RX5) (T := TX5) (N := 2) hx hb htb itX5 hown hK hP 0 rfl rfl 1 (by decide) (htb _ k_128) (fun _ h9 => h9) rfl dX5_addWord_8 ?_
  refine lv_aload_n hx hb dX5_addWord_11 rfl (lv_at hl 1 rfl) ?_
  refine va_get (D := D) (ci := 5) (v := .ref by_) (C := RX5) (T := TX5) (N := 2) hx hb htb itX5 hown hK hP 0 rfl rfl 0 (by decide) (htb _ k_126) (fun _ h9 => h9) rfl dX5_addWord_12 ?_
  refine va_alen hx hb hK hP 1 0 rfl rfl (v := 260) rfl dX5_addWord_15 ?_
  refine lv_icmp_ge (tgt := 45) hx hb dX5_addWord_16 (by decide) (fun c_16 => absurd c_16 (nI_ge (b := 260) (by omega) (by decide))) (fun _ => ?_)
  refine lv_aload_n hx hb dX5_addWord_19 rfl (lv_at hl 1 rfl) ?_
  refine va_get (D := D) (ci := 5) (v := .ref by_) (C := RX5) (T := TX5) (N := 2) hx hb htb itX5 hown hK hP 0 rfl rfl 0 (by decide) (htb _ k_126) (fun _ h9 => h9) rfl dX5_addWord_20 ?_
  refine lv_aload_n hx hb dX5_addWord_23 rfl (lv_at hl 1 rfl) ?_
  refine va_get (D := D) (ci := 5) (v := .int (nI T)) (C := RX5) (T := TX5) (N := 2) hx hb htb itX5 hown hK hP 0 rfl rfl 1 (by decide) (htb _ k_128) (fun _ h9 => h9) rfl dX5_addWord_24 ?_
  refine lv_iload_n hx hb dX5_addWord_27 rfl (lv_at hl 2 rfl) ?_
  refine lv_iload_n hx hb dX5_addWord_28 rfl (lv_at hl 0 rfl) ?_
  refine lv_ishr hx hb dX5_addWord_29 ?_
  refine lv_sipush (v := 255) hx hb dX5_addWord_30 (by decide) ?_
  refine lv_iand hx hb dX5_addWord_33 ?_
  refine lv_topi (fun x_1 ex_1 => ?_)
  refine va_iast hx hb hK hP hD hS 1 0 rfl rfl (vp_in_nI (by omega) (by decide)) dX5_addWord_34 (fun H locs hP hD hS => ?_)
  obtain ⟨f_2, ef_2⟩ : ∃ g : Nat → Int32, g = upd fb (Int32.toNatClampNeg (nI T)) x_1 := ⟨_, rfl⟩
  rw [← ef_2] at hP hD
  have hP : va_P D vwCl [(h0, .inr (5, [.ref by_, .int (nI T)])), (by_, .inl (cI, 260, .inl f_2))] H := hP
  have hD : va_D A [(h0, .inr (5, [.ref by_, .int (nI T)])), (by_, .inl (cI, 260, .inl f_2))] := hD
  refine lv_aload_n hx hb dX5_addWord_35 rfl (lv_at hl 1 rfl) ?_
  refine lv_dup hx hb dX5_addWord_36 rfl ?_
  refine va_get (D := D) (ci := 5) (v := .int (nI T)) (C := RX5) (T := TX5) (N := 2) hx hb htb itX5 hown hK hP 0 rfl rfl 1 (by decide) (htb _ k_128) (fun _ h9 => h9) rfl dX5_addWord_37 ?_
  refine lv_iconst (v := 1) hx hb dX5_addWord_40 (by decide) ?_
  refine lv_iadd hx hb dX5_addWord_41 ?_
  refine tv (z := (nI (T + 1))) (nI_1 T) ?_
  refine va_put (D := D) (ci := 5) (v := .int (nI (T + 1))) (ty := .int) (C := RX5) (T := TX5) (N := 2) hx hb htb itX5 tyX5 tyX5_ok nmX5 hown hK hP hD hS 0 rfl rfl 1 (by decide) (htb _ k_128) (fun _ h9 => h9) rfl (tyX5_ok 1 (by decide)) rfl rfl (Nat.le_of_ble_eq_true rfl) dX5_addWord_42 (fun H locs hP hD hS => ?_)
  have hP : va_P D vwCl [(h0, .inr (5, [.ref by_, .int (nI (T + 1))])), (by_, .inl (cI, 260, .inl f_2))] H := hP
  have hD : va_D A [(h0, .inr (5, [.ref by_, .int (nI (T + 1))])), (by_, .inl (cI, 260, .inl f_2))] := hD
  refine lv_iinc (v := 16) (lv' := [(2, .int 16), (0, .ref h0), (1, .int w)]) hx hb dX5_addWord_45 hl (k := 0) rfl (by decide) (by decide) rfl (fun ls hl => ?_)
  refine lv_goto (tgt := 3) hx hb dX5_addWord_48 (by decide) ?_
  refine lv_iload_n hx hb dX5_addWord_3 rfl (lv_at hl 0 rfl) ?_
  refine lv_if_lt (tgt := 51) hx hb dX5_addWord_4 (by decide) (fun c_4 => absurd c_4 (by decide)) (fun _ => ?_)
  refine lv_aload_n hx hb dX5_addWord_7 rfl (lv_at hl 1 rfl) ?_
  refine va_get (D := D) (ci := 5) (v := .int (nI (T + 1))) (C := RX5) (T := TX5) (N := 2) hx hb htb itX5 hown hK hP 0 rfl rfl 1 (by decide) (htb _ k_128) (fun _ h9 => h9) rfl dX5_addWord_8 ?_
  refine lv_aload_n hx hb dX5_addWord_11 rfl (lv_at hl 1 rfl) ?_
  refine va_get (D := D) (ci := 5) (v := .ref by_) (C := RX5) (T := TX5) (N := 2) hx hb htb itX5 hown hK hP 0 rfl rfl 0 (by decide) (htb _ k_126) (fun _ h9 => h9) rfl dX5_addWord_12 ?_
  refine va_alen hx hb hK hP 1 0 rfl rfl (v := 260) rfl dX5_addWord_15 ?_
  refine lv_icmp_ge (tgt := 45) hx hb dX5_addWord_16 (by decide) (fun c_16 => absurd c_16 (nI_ge (b := 260) (by omega) (by decide))) (fun _ => ?_)
  refine lv_aload_n hx hb dX5_addWord_19 rfl (lv_at hl 1 rfl) ?_
  refine va_get (D := D) (ci := 5) (v := .ref by_) (C := RX5) (T := TX5) (N := 2) hx hb htb itX5 hown hK hP 0 rfl rfl 0 (by decide) (htb _ k_126) (fun _ h9 => h9) rfl dX5_addWord_20 ?_
  refine lv_aload_n hx hb dX5_addWord_23 rfl (lv_at hl 1 rfl) ?_
  refine va_get (D := D) (ci := 5) (v := .int (nI (T + 1))) (C := RX5) (T := TX5) (N := 2) hx hb htb itX5 hown hK hP 0 rfl rfl 1 (by decide) (htb _ k_128) (fun _ h9 => h9) rfl dX5_addWord_24 ?_
  refine lv_iload_n hx hb dX5_addWord_27 rfl (lv_at hl 2 rfl) ?_
  refine lv_iload_n hx hb dX5_addWord_28 rfl (lv_at hl 0 rfl) ?_
  refine lv_ishr hx hb dX5_addWord_29 ?_
  refine lv_sipush (v := 255) hx hb dX5_addWord_30 (by decide) ?_
  refine lv_iand hx hb dX5_addWord_33 ?_
  refine lv_topi (fun x_3 ex_3 => ?_)
  refine va_iast hx hb hK hP hD hS 1 0 rfl rfl (vp_in_nI (by omega) (by decide)) dX5_addWord_34 (fun H locs hP hD hS => ?_)
  obtain ⟨f_4, ef_4⟩ : ∃ g : Nat → Int32, g = upd f_2 (Int32.toNatClampNeg (nI (T + 1))) x_3 := ⟨_, rfl⟩
  rw [← ef_4] at hP hD
  have hP : va_P D vwCl [(h0, .inr (5, [.ref by_, .int (nI (T + 1))])), (by_, .inl (cI, 260, .inl f_4))] H := hP
  have hD : va_D A [(h0, .inr (5, [.ref by_, .int (nI (T + 1))])), (by_, .inl (cI, 260, .inl f_4))] := hD
  refine lv_aload_n hx hb dX5_addWord_35 rfl (lv_at hl 1 rfl) ?_
  refine lv_dup hx hb dX5_addWord_36 rfl ?_
  refine va_get (D := D) (ci := 5) (v := .int (nI (T + 1))) (C := RX5) (T := TX5) (N := 2) hx hb htb itX5 hown hK hP 0 rfl rfl 1 (by decide) (htb _ k_128) (fun _ h9 => h9) rfl dX5_addWord_37 ?_
  refine lv_iconst (v := 1) hx hb dX5_addWord_40 (by decide) ?_
  refine lv_iadd hx hb dX5_addWord_41 ?_
  refine tv (z := (nI (T + 2))) (nI_1 (T + 1)) ?_
  refine va_put (D := D) (ci := 5) (v := .int (nI (T + 2))) (ty := .int) (C := RX5) (T := TX5) (N := 2) hx hb htb itX5 tyX5 tyX5_ok nmX5 hown hK hP hD hS 0 rfl rfl 1 (by decide) (htb _ k_128) (fun _ h9 => h9) rfl (tyX5_ok 1 (by decide)) rfl rfl (Nat.le_of_ble_eq_true rfl) dX5_addWord_42 (fun H locs hP hD hS => ?_)
  have hP : va_P D vwCl [(h0, .inr (5, [.ref by_, .int (nI (T + 2))])), (by_, .inl (cI, 260, .inl f_4))] H := hP
  have hD : va_D A [(h0, .inr (5, [.ref by_, .int (nI (T + 2))])), (by_, .inl (cI, 260, .inl f_4))] := hD
  refine lv_iinc (v := 8) (lv' := [(2, .int 8), (0, .ref h0), (1, .int w)]) hx hb dX5_addWord_45 hl (k := 0) rfl (by decide) (by decide) rfl (fun ls hl => ?_)
  refine lv_goto (tgt := 3) hx hb dX5_addWord_48 (by decide) ?_
  refine lv_iload_n hx hb dX5_addWord_3 rfl (lv_at hl 0 rfl) ?_
  refine lv_if_lt (tgt := 51) hx hb dX5_addWord_4 (by decide) (fun c_4 => absurd c_4 (by decide)) (fun _ => ?_)
  refine lv_aload_n hx hb dX5_addWord_7 rfl (lv_at hl 1 rfl) ?_
  refine va_get (D := D) (ci := 5) (v := .int (nI (T + 2))) (C := RX5) (T := TX5) (N := 2) hx hb htb itX5 hown hK hP 0 rfl rfl 1 (by decide) (htb _ k_128) (fun _ h9 => h9) rfl dX5_addWord_8 ?_
  refine lv_aload_n hx hb dX5_addWord_11 rfl (lv_at hl 1 rfl) ?_
  refine va_get (D := D) (ci := 5) (v := .ref by_) (C := RX5) (T := TX5) (N := 2) hx hb htb itX5 hown hK hP 0 rfl rfl 0 (by decide) (htb _ k_126) (fun _ h9 => h9) rfl dX5_addWord_12 ?_
  refine va_alen hx hb hK hP 1 0 rfl rfl (v := 260) rfl dX5_addWord_15 ?_
  refine lv_icmp_ge (tgt := 45) hx hb dX5_addWord_16 (by decide) (fun c_16 => absurd c_16 (nI_ge (b := 260) (by omega) (by decide))) (fun _ => ?_)
  refine lv_aload_n hx hb dX5_addWord_19 rfl (lv_at hl 1 rfl) ?_
  refine va_get (D := D) (ci := 5) (v := .ref by_) (C := RX5) (T := TX5) (N := 2) hx hb htb itX5 hown hK hP 0 rfl rfl 0 (by decide) (htb _ k_126) (fun _ h9 => h9) rfl dX5_addWord_20 ?_
  refine lv_aload_n hx hb dX5_addWord_23 rfl (lv_at hl 1 rfl) ?_
  refine va_get (D := D) (ci := 5) (v := .int (nI (T + 2))) (C := RX5) (T := TX5) (N := 2) hx hb htb itX5 hown hK hP 0 rfl rfl 1 (by decide) (htb _ k_128) (fun _ h9 => h9) rfl dX5_addWord_24 ?_
  refine lv_iload_n hx hb dX5_addWord_27 rfl (lv_at hl 2 rfl) ?_
  refine lv_iload_n hx hb dX5_addWord_28 rfl (lv_at hl 0 rfl) ?_
  refine lv_ishr hx hb dX5_addWord_29 ?_
  refine lv_sipush (v := 255) hx hb dX5_addWord_30 (by decide) ?_
  refine lv_iand hx hb dX5_addWord_33 ?_
  refine lv_topi (fun x_5 ex_5 => ?_)
  refine va_iast hx hb hK hP hD hS 1 0 rfl rfl (vp_in_nI (by omega) (by decide)) dX5_addWord_34 (fun H locs hP hD hS => ?_)
  obtain ⟨f_6, ef_6⟩ : ∃ g : Nat → Int32, g = upd f_4 (Int32.toNatClampNeg (nI (T + 2))) x_5 := ⟨_, rfl⟩
  rw [← ef_6] at hP hD
  have hP : va_P D vwCl [(h0, .inr (5, [.ref by_, .int (nI (T + 2))])), (by_, .inl (cI, 260, .inl f_6))] H := hP
  have hD : va_D A [(h0, .inr (5, [.ref by_, .int (nI (T + 2))])), (by_, .inl (cI, 260, .inl f_6))] := hD
  refine lv_aload_n hx hb dX5_addWord_35 rfl (lv_at hl 1 rfl) ?_
  refine lv_dup hx hb dX5_addWord_36 rfl ?_
  refine va_get (D := D) (ci := 5) (v := .int (nI (T + 2))) (C := RX5) (T := TX5) (N := 2) hx hb htb itX5 hown hK hP 0 rfl rfl 1 (by decide) (htb _ k_128) (fun _ h9 => h9) rfl dX5_addWord_37 ?_
  refine lv_iconst (v := 1) hx hb dX5_addWord_40 (by decide) ?_
  refine lv_iadd hx hb dX5_addWord_41 ?_
  refine tv (z := (nI (T + 3))) (nI_1 (T + 2)) ?_
  refine va_put (D := D) (ci := 5) (v := .int (nI (T + 3))) (ty := .int) (C := RX5) (T := TX5) (N := 2) hx hb htb itX5 tyX5 tyX5_ok nmX5 hown hK hP hD hS 0 rfl rfl 1 (by decide) (htb _ k_128) (fun _ h9 => h9) rfl (tyX5_ok 1 (by decide)) rfl rfl (Nat.le_of_ble_eq_true rfl) dX5_addWord_42 (fun H locs hP hD hS => ?_)
  have hP : va_P D vwCl [(h0, .inr (5, [.ref by_, .int (nI (T + 3))])), (by_, .inl (cI, 260, .inl f_6))] H := hP
  have hD : va_D A [(h0, .inr (5, [.ref by_, .int (nI (T + 3))])), (by_, .inl (cI, 260, .inl f_6))] := hD
  refine lv_iinc (v := 0) (lv' := [(2, .int 0), (0, .ref h0), (1, .int w)]) hx hb dX5_addWord_45 hl (k := 0) rfl (by decide) (by decide) rfl (fun ls hl => ?_)
  refine lv_goto (tgt := 3) hx hb dX5_addWord_48 (by decide) ?_
  refine lv_iload_n hx hb dX5_addWord_3 rfl (lv_at hl 0 rfl) ?_
  refine lv_if_lt (tgt := 51) hx hb dX5_addWord_4 (by decide) (fun c_4 => absurd c_4 (by decide)) (fun _ => ?_)
  refine lv_aload_n hx hb dX5_addWord_7 rfl (lv_at hl 1 rfl) ?_
  refine va_get (D := D) (ci := 5) (v := .int (nI (T + 3))) (C := RX5) (T := TX5) (N := 2) hx hb htb itX5 hown hK hP 0 rfl rfl 1 (by decide) (htb _ k_128) (fun _ h9 => h9) rfl dX5_addWord_8 ?_
  refine lv_aload_n hx hb dX5_addWord_11 rfl (lv_at hl 1 rfl) ?_
  refine va_get (D := D) (ci := 5) (v := .ref by_) (C := RX5) (T := TX5) (N := 2) hx hb htb itX5 hown hK hP 0 rfl rfl 0 (by decide) (htb _ k_126) (fun _ h9 => h9) rfl dX5_addWord_12 ?_
  refine va_alen hx hb hK hP 1 0 rfl rfl (v := 260) rfl dX5_addWord_15 ?_
  refine lv_icmp_ge (tgt := 45) hx hb dX5_addWord_16 (by decide) (fun c_16 => absurd c_16 (nI_ge (b := 260) (by omega) (by decide))) (fun _ => ?_)
  refine lv_aload_n hx hb dX5_addWord_19 rfl (lv_at hl 1 rfl) ?_
  refine va_get (D := D) (ci := 5) (v := .ref by_) (C := RX5) (T := TX5) (N := 2) hx hb htb itX5 hown hK hP 0 rfl rfl 0 (by decide) (htb _ k_126) (fun _ h9 => h9) rfl dX5_addWord_20 ?_
  refine lv_aload_n hx hb dX5_addWord_23 rfl (lv_at hl 1 rfl) ?_
  refine va_get (D := D) (ci := 5) (v := .int (nI (T + 3))) (C := RX5) (T := TX5) (N := 2) hx hb htb itX5 hown hK hP 0 rfl rfl 1 (by decide) (htb _ k_128) (fun _ h9 => h9) rfl dX5_addWord_24 ?_
  refine lv_iload_n hx hb dX5_addWord_27 rfl (lv_at hl 2 rfl) ?_
  refine lv_iload_n hx hb dX5_addWord_28 rfl (lv_at hl 0 rfl) ?_
  refine lv_ishr hx hb dX5_addWord_29 ?_
  refine lv_sipush (v := 255) hx hb dX5_addWord_30 (by decide) ?_
  refine lv_iand hx hb dX5_addWord_33 ?_
  refine lv_topi (fun x_7 ex_7 => ?_)
  refine va_iast hx hb hK hP hD hS 1 0 rfl rfl (vp_in_nI (by omega) (by decide)) dX5_addWord_34 (fun H locs hP hD hS => ?_)
  obtain ⟨f_8, ef_8⟩ : ∃ g : Nat → Int32, g = upd f_6 (Int32.toNatClampNeg (nI (T + 3))) x_7 := ⟨_, rfl⟩
  rw [← ef_8] at hP hD
  have hP : va_P D vwCl [(h0, .inr (5, [.ref by_, .int (nI (T + 3))])), (by_, .inl (cI, 260, .inl f_8))] H := hP
  have hD : va_D A [(h0, .inr (5, [.ref by_, .int (nI (T + 3))])), (by_, .inl (cI, 260, .inl f_8))] := hD
  refine lv_aload_n hx hb dX5_addWord_35 rfl (lv_at hl 1 rfl) ?_
  refine lv_dup hx hb dX5_addWord_36 rfl ?_
  refine va_get (D := D) (ci := 5) (v := .int (nI (T + 3))) (C := RX5) (T := TX5) (N := 2) hx hb htb itX5 hown hK hP 0 rfl rfl 1 (by decide) (htb _ k_128) (fun _ h9 => h9) rfl dX5_addWord_37 ?_
  refine lv_iconst (v := 1) hx hb dX5_addWord_40 (by decide) ?_
  refine lv_iadd hx hb dX5_addWord_41 ?_
  refine tv (z := (nI (T + 4))) (nI_1 (T + 3)) ?_
  refine va_put (D := D) (ci := 5) (v := .int (nI (T + 4))) (ty := .int) (C := RX5) (T := TX5) (N := 2) hx hb htb itX5 tyX5 tyX5_ok nmX5 hown hK hP hD hS 0 rfl rfl 1 (by decide) (htb _ k_128) (fun _ h9 => h9) rfl (tyX5_ok 1 (by decide)) rfl rfl (Nat.le_of_ble_eq_true rfl) dX5_addWord_42 (fun H locs hP hD hS => ?_)
  have hP : va_P D vwCl [(h0, .inr (5, [.ref by_, .int (nI (T + 4))])), (by_, .inl (cI, 260, .inl f_8))] H := hP
  have hD : va_D A [(h0, .inr (5, [.ref by_, .int (nI (T + 4))])), (by_, .inl (cI, 260, .inl f_8))] := hD
  refine lv_iinc (v := (-8)) (lv' := [(2, .int (-8)), (0, .ref h0), (1, .int w)]) hx hb dX5_addWord_45 hl (k := 0) rfl (by decide) (by decide) rfl (fun ls hl => ?_)
  refine lv_goto (tgt := 3) hx hb dX5_addWord_48 (by decide) ?_
  refine lv_iload_n hx hb dX5_addWord_3 rfl (lv_at hl 0 rfl) ?_
  refine lv_if_lt (tgt := 51) hx hb dX5_addWord_4 (by decide) (fun _ => ?_) (fun c_4 => absurd (by decide) c_4)
  exact ret _ _ _ _ f_8 dX5_addWord_51 trivial (hP.sub [0, 1] rfl) (hD.sub [0, 1] (by decide) rfl) hS

set_option maxRecDepth 100000 in
set_option maxHeartbeats 4000000 in
theorem c_X5_at (l : Launch) (D : va_G) (cI cB : ClassId) (h0 : Nat) (by_ : Nat) (T : Nat) (k : Int32) (fb : Nat → Int32) (hT : T ≤ 260) : MR l D cI cB yX5_at cX5_at 2 .int (rm 0 0) [.ref h0, .int k] [(h0, .inr (5, [.ref by_, .int (nI T)])), (by_, .inl (cI, 260, .inl fb))] (fun r : Int32 => True) := by
  refine MR.of (by decide) (Nat.le_of_ble_eq_true rfl) ?_
  intro p e s m below meth c Q ls X hN hP hK hl ret
  obtain ⟨hx, hb, hml, hown, htb⟩ := id X
  have hl : lv_has ls 2 [(0, .ref h0), (1, .int k)] := hl
  refine lv_iload_n hx hb dX5_at_0 rfl (lv_at hl 1 rfl) ?_
  refine lv_if_lt (tgt := 21) hx hb dX5_at_1 (by decide) (fun c_1 => ?_) (fun c_1 => ?_)
  · refine lv_iconst (v := (-1)) hx hb dX5_at_21 (by decide) ?_
    exact ret _ _ (-1) dX5_at_22 rfl trivial
  · refine lv_iload_n hx hb dX5_at_4 rfl (lv_at hl 1 rfl) ?_
    refine lv_aload_n hx hb dX5_at_5 rfl (lv_at hl 0 rfl) ?_
    refine va_get (D := D) (ci := 5) (v := .int (nI T)) (C := RX5) (T := TX5) (N := 2) hx hb htb itX5 hown hK hP 0 rfl rfl 1 (by decide) (htb _ k_128) (fun _ h9 => h9) rfl dX5_at_6 ?_
    refine lv_icmp_ge (tgt := 21) hx hb dX5_at_9 (by decide) (fun c_9 => ?_) (fun c_9 => ?_)
    · refine lv_iconst (v := (-1)) hx hb dX5_at_21 (by decide) ?_
      exact ret _ _ (-1) dX5_at_22 rfl trivial
    · refine lv_aload_n hx hb dX5_at_12 rfl (lv_at hl 0 rfl) ?_
      refine va_get (D := D) (ci := 5) (v := .ref by_) (C := RX5) (T := TX5) (N := 2) hx hb htb itX5 hown hK hP 0 rfl rfl 0 (by decide) (htb _ k_126) (fun _ h9 => h9) rfl dX5_at_13 ?_
      refine lv_iload_n hx hb dX5_at_16 rfl (lv_at hl 1 rfl) ?_
      refine va_iald hx hb hK hP 1 0 rfl rfl (by have a0 := mt Int32.lt_iff_toInt_lt.mpr c_1; have a1 := mt Int32.le_iff_toInt_le.mpr c_9; have a2 : (0 : Int32).toInt = 0 := (by decide); have a3 := nI_toInt (n := T) (by omega); exact vinT (by omega) (by omega)) dX5_at_17 ?_
      refine lv_goto (tgt := 22) hx hb dX5_at_18 (by decide) ?_
      exact ret _ _ (fb (Int32.toNatClampNeg k)) dX5_at_22 rfl trivial

set_option maxRecDepth 100000 in
set_option maxHeartbeats 4000000 in
theorem c_X6_sign (l : Launch) (D : va_G) (cI cB : ClassId) (h0 : Nat) (tp : Nat) (ed : Int32) (pl : Int32) (fa : Int32) (by_ : Nat) (T : Nat) (fb : Nat → Int32) (hT : T ≤ 260) : MR l D cI cB yX6_sign cX6_sign 2 .int (rm 0 0) [.ref h0] [(h0, .inr (6, [.ref tp, .int ed, .int pl, .int fa])), (tp, .inr (5, [.ref by_, .int (nI T)])), (by_, .inl (cI, 260, .inl fb))] (fun r : Int32 => r = (sgn T ed pl fa fb)) := by
  refine MR.of (by decide) (Nat.le_of_ble_eq_true rfl) ?_
  intro p e s m below meth c Q ls X hN hP hK hl ret
  obtain ⟨hx, hb, hml, hown, htb⟩ := id X
  have hl : lv_has ls 2 [(0, .ref h0)] := hl
  refine lv_aload_n hx hb dX6_sign_0 rfl (lv_at hl 0 rfl) ?_
  refine va_get (D := D) (ci := 6) (v := .int fa) (C := RX6) (T := TX6) (N := 4) hx hb htb itX6 hown hK hP 0 rfl rfl 3 (by decide) (htb _ k_267) (fun _ h9 => h9) rfl dX6_sign_1 ?_
  refine lv_if_ne (tgt := 43) hx hb dX6_sign_4 (by decide) (fun c_4 => ?_) (fun c_4 => ?_)
  · refine lv_iconst (v := 0) hx hb dX6_sign_43 (by decide) ?_
    refine lv_istore_n (lv' := [(1, .int 0), (0, .ref h0)]) hx hb dX6_sign_44 rfl hl (by decide) rfl (fun ls hl => ?_)
    refine lv_iload_n hx hb dX6_sign_45 rfl (lv_at hl 0 rfl) ?_
    refine lv_if_eq (tgt := 64) hx hb dX6_sign_46 (by decide) (fun _ => ?_) (fun c_46 => absurd (by decide) c_46)
    refine lv_iconst (v := (-1)) hx hb dX6_sign_64 (by decide) ?_
    exact ret _ _ (-1) dX6_sign_65 rfl ((if_neg (fun h => c_4 h.1)).symm)
  · refine lv_aload_n hx hb dX6_sign_7 rfl (lv_at hl 0 rfl) ?_
    refine va_get (D := D) (ci := 6) (v := .int pl) (C := RX6) (T := TX6) (N := 4) hx hb htb itX6 hown hK hP 0 rfl rfl 2 (by decide) (htb _ k_263) (fun _ h9 => h9) rfl dX6_sign_8 ?_
    refine lv_if_lt (tgt := 43) hx hb dX6_sign_11 (by decide) (fun c_11 => ?_) (fun c_11 => ?_)
    · refine lv_iconst (v := 0) hx hb dX6_sign_43 (by decide) ?_
      refine lv_istore_n (lv' := [(1, .int 0), (0, .ref h0)]) hx hb dX6_sign_44 rfl hl (by decide) rfl (fun ls hl => ?_)
      refine lv_iload_n hx hb dX6_sign_45 rfl (lv_at hl 0 rfl) ?_
      refine lv_if_eq (tgt := 64) hx hb dX6_sign_46 (by decide) (fun _ => ?_) (fun c_46 => absurd (by decide) c_46)
      refine lv_iconst (v := (-1)) hx hb dX6_sign_64 (by decide) ?_
      exact ret _ _ (-1) dX6_sign_65 rfl ((if_neg (fun h => (Int32.not_lt.mpr h.2.1) c_11)).symm)
    · refine lv_aload_n hx hb dX6_sign_14 rfl (lv_at hl 0 rfl) ?_
      refine va_get (D := D) (ci := 6) (v := .int pl) (C := RX6) (T := TX6) (N := 4) hx hb htb itX6 hown hK hP 0 rfl rfl 2 (by decide) (htb _ k_263) (fun _ h9 => h9) rfl dX6_sign_15 ?_
      refine lv_aload_n hx hb dX6_sign_18 rfl (lv_at hl 0 rfl) ?_
      refine va_get (D := D) (ci := 6) (v := .int ed) (C := RX6) (T := TX6) (N := 4) hx hb htb itX6 hown hK hP 0 rfl rfl 1 (by decide) (htb _ k_262) (fun _ h9 => h9) rfl dX6_sign_19 ?_
      refine lv_icmp_ge (tgt := 43) hx hb dX6_sign_22 (by decide) (fun c_22 => ?_) (fun c_22 => ?_)
      · refine lv_iconst (v := 0) hx hb dX6_sign_43 (by decide) ?_
        refine lv_istore_n (lv' := [(1, .int 0), (0, .ref h0)]) hx hb dX6_sign_44 rfl hl (by decide) rfl (fun ls hl => ?_)
        refine lv_iload_n hx hb dX6_sign_45 rfl (lv_at hl 0 rfl) ?_
        refine lv_if_eq (tgt := 64) hx hb dX6_sign_46 (by decide) (fun _ => ?_) (fun c_46 => absurd (by decide) c_46)
        refine lv_iconst (v := (-1)) hx hb dX6_sign_64 (by decide) ?_
        exact ret _ _ (-1) dX6_sign_65 rfl ((if_neg (fun h => (Int32.not_le.mpr h.2.2.1) c_22)).symm)
      · refine lv_aload_n hx hb dX6_sign_25 rfl (lv_at hl 0 rfl) ?_
        refine va_get (D := D) (ci := 6) (v := .int pl) (C := RX6) (T := TX6) (N := 4) hx hb htb itX6 hown hK hP 0 rfl rfl 2 (by decide) (htb _ k_263) (fun _ h9 => h9) rfl dX6_sign_26 ?_
        refine lv_aload_n hx hb dX6_sign_29 rfl (lv_at hl 0 rfl) ?_
        refine va_get (D := D) (ci := 6) (v := .ref tp) (C := RX6) (T := TX6) (N := 4) hx hb htb itX6 hown hK hP 0 rfl rfl 0 (by decide) (htb _ k_261) (fun _ h9 => h9) rfl dX6_sign_30 ?_
        refine va_getN (D := D) (ci := 5) (v := .int (nI T)) (C := RX5) (T := TX5) (N := 2) hx hb htb itX5 hown hK hP 1 rfl rfl 1 (by decide) (va_Nw.use rfl (hN _ n_129 rfl)) (fun _ h9 => h9) rfl dX6_sign_33 ?_
        refine lv_icmp_ge (tgt := 43) hx hb dX6_sign_36 (by decide) (fun c_36 => ?_) (fun c_36 => ?_)
        · refine lv_iconst (v := 0) hx hb dX6_sign_43 (by decide) ?_
          refine lv_istore_n (lv' := [(1, .int 0), (0, .ref h0)]) hx hb dX6_sign_44 rfl hl (by decide) rfl (fun ls hl => ?_)
          refine lv_iload_n hx hb dX6_sign_45 rfl (lv_at hl 0 rfl) ?_
          refine lv_if_eq (tgt := 64) hx hb dX6_sign_46 (by decide) (fun _ => ?_) (fun c_46 => absurd (by decide) c_46)
          refine lv_iconst (v := (-1)) hx hb dX6_sign_64 (by decide) ?_
          exact ret _ _ (-1) dX6_sign_65 rfl ((if_neg (fun h => (Int32.not_le.mpr h.2.2.2) c_36)).symm)
        · refine lv_iconst (v := 1) hx hb dX6_sign_39 (by decide) ?_
          refine lv_goto (tgt := 44) hx hb dX6_sign_40 (by decide) ?_
          refine lv_istore_n (lv' := [(1, .int 1), (0, .ref h0)]) hx hb dX6_sign_44 rfl hl (by decide) rfl (fun ls hl => ?_)
          refine lv_iload_n hx hb dX6_sign_45 rfl (lv_at hl 0 rfl) ?_
          refine lv_if_eq (tgt := 64) hx hb dX6_sign_46 (by decide) (fun c_46 => absurd c_46 (by decide)) (fun _ => ?_)
          refine lv_aload_n hx hb dX6_sign_49 rfl (lv_at hl 1 rfl) ?_
          refine va_get (D := D) (ci := 6) (v := .ref tp) (C := RX6) (T := TX6) (N := 4) hx hb htb itX6 hown hK hP 0 rfl rfl 0 (by decide) (htb _ k_261) (fun _ h9 => h9) rfl dX6_sign_50 ?_
          refine va_getN (D := D) (ci := 5) (v := .ref by_) (C := RX5) (T := TX5) (N := 2) hx hb htb itX5 hown hK hP 1 rfl rfl 0 (by decide) (va_Nw.use rfl (hN _ n_127 rfl)) (fun _ h9 => h9) rfl dX6_sign_53 ?_
          refine lv_aload_n hx hb dX6_sign_56 rfl (lv_at hl 1 rfl) ?_
          refine va_get (D := D) (ci := 6) (v := .int pl) (C := RX6) (T := TX6) (N := 4) hx hb htb itX6 hown hK hP 0 rfl rfl 2 (by decide) (htb _ k_263) (fun _ h9 => h9) rfl dX6_sign_57 ?_
          refine va_iald hx hb hK hP 2 0 rfl rfl (by have a0 := congrArg Int32.toInt c_4; have a1 := mt Int32.lt_iff_toInt_lt.mpr c_11; have a2 := mt Int32.le_iff_toInt_le.mpr c_22; have a3 := mt Int32.le_iff_toInt_le.mpr c_36; have a4 : (0 : Int32).toInt = 0 := (by decide); have a5 := nI_toInt (n := T) (by omega); exact vinT (by omega) (by omega)) dX6_sign_60 ?_
          refine lv_goto (tgt := 65) hx hb dX6_sign_61 (by decide) ?_
          exact ret _ _ (fb (Int32.toNatClampNeg pl)) dX6_sign_65 rfl ((if_pos ⟨c_4, Int32.not_lt.mp c_11, Int32.not_le.mp c_22, Int32.not_le.mp c_36⟩).symm)

set_option maxRecDepth 100000 in
set_option maxHeartbeats 4000000 in
theorem c_X6_begin (l : Launch) (D : va_G) (cI cB : ClassId) (sz : Nat) (h0 : Nat) (tp : Nat) (ed : Int32) (pl : Int32) (fa : Int32) (n : Int32)  : MV (S := ((Int32) × (Int32) × (Int32))) l D cI cB yX6_begin cX6_begin 2 (rm 0 0) [.ref h0, .int n] [(h0, .inr (6, [.ref tp, .int ed, .int pl, .int fa]))] sz (fun u => u.1 = n ∧ u.2.1 = 0 ∧ u.2.2 = 0) (fun u : ((Int32) × (Int32) × (Int32)) => [(h0, .inr (6, [.ref tp, .int u.1, .int u.2.1, .int u.2.2]))]) := by
  refine MV.of (by decide) (Nat.le_of_ble_eq_true rfl) ?_
  intro p e s m below meth c Q ls A X hin hN hP hK hD hA hl ret
  have hS : va_S A s.heap s.heap [] := va_S.rf
  obtain ⟨hx, hb, hml, hown, htb⟩ := id X
  have hl : lv_has ls 2 [(0, .ref h0), (1, .int n)] := hl
  refine lv_aload_n hx hb dX6_begin_0 rfl (lv_at hl 0 rfl) ?_
  refine lv_iload_n hx hb dX6_begin_1 rfl (lv_at hl 1 rfl) ?_
  refine va_put (D := D) (ci := 6) (v := .int n) (ty := .int) (C := RX6) (T := TX6) (N := 4) hx hb htb itX6 tyX6 tyX6_ok nmX6 hown hK hP hD hS 0 rfl rfl 1 (by decide) (htb _ k_262) (fun _ h9 => h9) rfl (tyX6_ok 1 (by decide)) rfl rfl (Nat.le_of_ble_eq_true rfl) dX6_begin_2 (fun H locs hP hD hS => ?_)
  have hP : va_P D vwCl [(h0, .inr (6, [.ref tp, .int n, .int pl, .int fa]))] H := hP
  have hD : va_D A [(h0, .inr (6, [.ref tp, .int n, .int pl, .int fa]))] := hD
  refine lv_aload_n hx hb dX6_begin_5 rfl (lv_at hl 0 rfl) ?_
  refine lv_iconst (v := 0) hx hb dX6_begin_6 (by decide) ?_
  refine va_put (D := D) (ci := 6) (v := .int 0) (ty := .int) (C := RX6) (T := TX6) (N := 4) hx hb htb itX6 tyX6 tyX6_ok nmX6 hown hK hP hD hS 0 rfl rfl 2 (by decide) (htb _ k_263) (fun _ h9 => h9) rfl (tyX6_ok 2 (by decide)) rfl rfl (Nat.le_of_ble_eq_true rfl) dX6_begin_7 (fun H locs hP hD hS => ?_)
  have hP : va_P D vwCl [(h0, .inr (6, [.ref tp, .int n, .int 0, .int fa]))] H := hP
  have hD : va_D A [(h0, .inr (6, [.ref tp, .int n, .int 0, .int fa]))] := hD
  refine lv_aload_n hx hb dX6_begin_10 rfl (lv_at hl 0 rfl) ?_
  refine lv_iconst (v := 0) hx hb dX6_begin_11 (by decide) ?_
  refine va_put (D := D) (ci := 6) (v := .int 0) (ty := .int) (C := RX6) (T := TX6) (N := 4) hx hb htb itX6 tyX6 tyX6_ok nmX6 hown hK hP hD hS 0 rfl rfl 3 (by decide) (htb _ k_267) (fun _ h9 => h9) rfl (tyX6_ok 3 (by decide)) rfl rfl (Nat.le_of_ble_eq_true rfl) dX6_begin_12 (fun H locs hP hD hS => ?_)
  have hP : va_P D vwCl [(h0, .inr (6, [.ref tp, .int n, .int 0, .int 0]))] H := hP
  have hD : va_D A [(h0, .inr (6, [.ref tp, .int n, .int 0, .int 0]))] := hD
  exact ret _ _ _ _ (n, 0, 0) dX6_begin_15 (⟨rfl, rfl, rfl⟩) (hP.sub [0] rfl) (hD.sub [0] (by decide) rfl) hS

set_option maxRecDepth 100000 in
set_option maxHeartbeats 4000000 in
theorem c_X6_isRight (l : Launch) (D : va_G) (cI cB : ClassId) (h0 : Nat) (tp : Nat) (ed : Int32) (pl : Int32) (fa : Int32)  : MR l D cI cB yX6_isRight cX6_isRight 1 .boolean (rm 0 0) [.ref h0] [(h0, .inr (6, [.ref tp, .int ed, .int pl, .int fa]))] (fun r : Int32 => r = bI (fa = 0)) := by
  refine MR.of (by decide) (Nat.le_of_ble_eq_true rfl) ?_
  intro p e s m below meth c Q ls X hN hP hK hl ret
  obtain ⟨hx, hb, hml, hown, htb⟩ := id X
  have hl : lv_has ls 1 [(0, .ref h0)] := hl
  refine lv_aload_n hx hb dX6_isRight_0 rfl (lv_at hl 0 rfl) ?_
  refine va_get (D := D) (ci := 6) (v := .int fa) (C := RX6) (T := TX6) (N := 4) hx hb htb itX6 hown hK hP 0 rfl rfl 3 (by decide) (htb _ k_267) (fun _ h9 => h9) rfl dX6_isRight_1 ?_
  refine lv_if_ne (tgt := 11) hx hb dX6_isRight_4 (by decide) (fun c_4 => ?_) (fun c_4 => ?_)
  · refine lv_iconst (v := 0) hx hb dX6_isRight_11 (by decide) ?_
    exact ret _ _ 0 dX6_isRight_12 rfl (bI0 c_4)
  · refine lv_iconst (v := 1) hx hb dX6_isRight_7 (by decide) ?_
    refine lv_goto (tgt := 12) hx hb dX6_isRight_8 (by decide) ?_
    exact ret _ _ 1 dX6_isRight_12 rfl (bI1 c_4)

set_option maxRecDepth 100000 in
set_option maxHeartbeats 4000000 in
theorem c_X6_goesOn (l : Launch) (D : va_G) (cI cB : ClassId) (h0 : Nat) (tp : Nat) (ed : Int32) (pl : Int32) (fa : Int32)  : MR l D cI cB yX6_goesOn cX6_goesOn 1 .boolean (rm 0 0) [.ref h0] [(h0, .inr (6, [.ref tp, .int ed, .int pl, .int fa]))] (fun r : Int32 => r = bI (fa = 0 ∧ pl < ed)) := by
  refine MR.of (by decide) (Nat.le_of_ble_eq_true rfl) ?_
  intro p e s m below meth c Q ls X hN hP hK hl ret
  obtain ⟨hx, hb, hml, hown, htb⟩ := id X
  have hl : lv_has ls 1 [(0, .ref h0)] := hl
  refine lv_aload_n hx hb dX6_goesOn_0 rfl (lv_at hl 0 rfl) ?_
  refine va_get (D := D) (ci := 6) (v := .int fa) (C := RX6) (T := TX6) (N := 4) hx hb htb itX6 hown hK hP 0 rfl rfl 3 (by decide) (htb _ k_267) (fun _ h9 => h9) rfl dX6_goesOn_1 ?_
  refine lv_if_ne (tgt := 22) hx hb dX6_goesOn_4 (by decide) (fun c_4 => ?_) (fun c_4 => ?_)
  · refine lv_iconst (v := 0) hx hb dX6_goesOn_22 (by decide) ?_
    exact ret _ _ 0 dX6_goesOn_23 rfl (bI0 (fun h => c_4 h.1))
  · refine lv_aload_n hx hb dX6_goesOn_7 rfl (lv_at hl 0 rfl) ?_
    refine va_get (D := D) (ci := 6) (v := .int pl) (C := RX6) (T := TX6) (N := 4) hx hb htb itX6 hown hK hP 0 rfl rfl 2 (by decide) (htb _ k_263) (fun _ h9 => h9) rfl dX6_goesOn_8 ?_
    refine lv_aload_n hx hb dX6_goesOn_11 rfl (lv_at hl 0 rfl) ?_
    refine va_get (D := D) (ci := 6) (v := .int ed) (C := RX6) (T := TX6) (N := 4) hx hb htb itX6 hown hK hP 0 rfl rfl 1 (by decide) (htb _ k_262) (fun _ h9 => h9) rfl dX6_goesOn_12 ?_
    refine lv_icmp_ge (tgt := 22) hx hb dX6_goesOn_15 (by decide) (fun c_15 => ?_) (fun c_15 => ?_)
    · refine lv_iconst (v := 0) hx hb dX6_goesOn_22 (by decide) ?_
      exact ret _ _ 0 dX6_goesOn_23 rfl (bI0 (fun h => (Int32.not_le.mpr h.2) c_15))
    · refine lv_iconst (v := 1) hx hb dX6_goesOn_18 (by decide) ?_
      refine lv_goto (tgt := 23) hx hb dX6_goesOn_19 (by decide) ?_
      exact ret _ _ 1 dX6_goesOn_23 rfl (bI1 ⟨c_4, Int32.not_le.mp c_15⟩)

set_option maxRecDepth 100000 in
set_option maxHeartbeats 4000000 in
theorem c_X6_isDigit (l : Launch) (D : va_G) (cI cB : ClassId) (h0 : Nat) (tp : Nat) (ed : Int32) (pl : Int32) (fa : Int32) (by_ : Nat) (T : Nat) (fb : Nat → Int32) (hT : T ≤ 260) : MR l D cI cB yX6_isDigit cX6_isDigit 2 .boolean (rm 1 21) [.ref h0] [(h0, .inr (6, [.ref tp, .int ed, .int pl, .int fa])), (tp, .inr (5, [.ref by_, .int (nI T)])), (by_, .inl (cI, 260, .inl fb))] (fun r : Int32 => r = bI (48 ≤ (sgn T ed pl fa fb) ∧ (sgn T ed pl fa fb) ≤ 57)) := by
  refine MR.of (by decide) (Nat.le_of_ble_eq_true rfl) ?_
  intro p e s m below meth c Q ls X hN hP hK hl ret
  obtain ⟨hx, hb, hml, hown, htb⟩ := id X
  have hl : lv_has ls 2 [(0, .ref h0)] := hl
  refine lv_aload_n hx hb dX6_isDigit_0 rfl (lv_at hl 0 rfl) ?_
  refine cVR (As := []) (rest := []) (n := 0) (ci := 6) (q0 := 0) X hN hK hP (c_X6_sign l D cI cB h0 tp ed pl fa by_ T fb hT) (gV k_610 k_484 k_485 k_98 k_486) (by decide +kernel) ⟨Nat.le_of_ble_eq_true rfl, Nat.le_of_ble_eq_true rfl⟩ ⟨rfl, rfl⟩ [0, 1, 2] rfl rfl rfl rfl rfl rfl hl.1 (Nat.le_of_ble_eq_true rfl) dX6_isDigit_1 ⟨Nat.le_of_ble_eq_true rfl, Nat.le_of_ble_eq_true rfl⟩ (fun r_1 hr_1 => ?_)
  subst hr_1
  refine lv_topi (fun x_2 ex_2 => ?_)
  refine lv_istore_n (lv' := [(1, .int x_2), (0, .ref h0)]) hx hb dX6_isDigit_4 rfl hl (by decide) rfl (fun ls hl => ?_)
  refine lv_iload_n hx hb dX6_isDigit_5 rfl (lv_at hl 0 rfl) ?_
  refine lv_bipush (v := 48) hx hb dX6_isDigit_6 (by decide) ?_
  refine lv_icmp_lt (tgt := 21) hx hb dX6_isDigit_8 (by decide) (fun c_8 => ?_) (fun c_8 => ?_)
  · refine lv_iconst (v := 0) hx hb dX6_isDigit_21 (by decide) ?_
    exact ret _ _ 0 dX6_isDigit_22 rfl (by rw [← ex_2]; exact bI0 (fun h => (Int32.not_lt.mpr h.1) c_8))
  · refine lv_iload_n hx hb dX6_isDigit_11 rfl (lv_at hl 0 rfl) ?_
    refine lv_bipush (v := 57) hx hb dX6_isDigit_12 (by decide) ?_
    refine lv_icmp_gt (tgt := 21) hx hb dX6_isDigit_14 (by decide) (fun c_14 => ?_) (fun c_14 => ?_)
    · refine lv_iconst (v := 0) hx hb dX6_isDigit_21 (by decide) ?_
      exact ret _ _ 0 dX6_isDigit_22 rfl (by rw [← ex_2]; exact bI0 (fun h => (Int32.not_lt.mpr h.2) c_14))
    · refine lv_iconst (v := 1) hx hb dX6_isDigit_17 (by decide) ?_
      refine lv_goto (tgt := 22) hx hb dX6_isDigit_18 (by decide) ?_
      exact ret _ _ 1 dX6_isDigit_22 rfl (by rw [← ex_2]; exact bI1 ⟨Int32.not_lt.mp c_8, Int32.not_lt.mp c_14⟩)

set_option maxRecDepth 100000 in
set_option maxHeartbeats 4000000 in
theorem c_X6_fail (l : Launch) (D : va_G) (cI cB : ClassId) (sz : Nat) (h0 : Nat) (tp : Nat) (ed : Int32) (pl : Int32) (fa : Int32) (a : Int32) (b : Int32)  : MV (S := ((Int32))) l D cI cB yX6_fail cX6_fail 3 (rm 0 0) [.ref h0, .int a, .int b] [(h0, .inr (6, [.ref tp, .int ed, .int pl, .int fa]))] sz (fun u => ¬ fa = 0 → u = fa) (fun u : ((Int32)) => [(h0, .inr (6, [.ref tp, .int ed, .int pl, .int u]))]) := by
  refine MV.of (by decide) (Nat.le_of_ble_eq_true rfl) ?_
  intro p e s m below meth c Q ls A X hin hN hP hK hD hA hl ret
  have hS : va_S A s.heap s.heap [] := va_S.rf
  obtain ⟨hx, hb, hml, hown, htb⟩ := id X
  have hl : lv_has ls 3 [(0, .ref h0), (1, .int a), (2, .int b)] := hl
  refine lv_aload_n hx hb dX6_fail_0 rfl (lv_at hl 0 rfl) ?_
  refine va_get (D := D) (ci := 6) (v := .int fa) (C := RX6) (T := TX6) (N := 4) hx hb htb itX6 hown hK hP 0 rfl rfl 3 (by decide) (htb _ k_267) (fun _ h9 => h9) rfl dX6_fail_1 ?_
  refine lv_if_ne (tgt := 18) hx hb dX6_fail_4 (by decide) (fun c_4 => ?_) (fun c_4 => ?_)
  · exact ret _ _ _ _ fa dX6_fail_18 (fun _ => rfl) (hP.sub [0] rfl) (hD.sub [0] (by decide) rfl) hS
  · refine lv_aload_n hx hb dX6_fail_7 rfl (lv_at hl 0 rfl) ?_
    refine lv_sipush (v := (-1000)) hx hb dX6_fail_8 (by decide) ?_
    refine lv_iload_n hx hb dX6_fail_11 rfl (lv_at hl 1 rfl) ?_
    refine lv_imul hx hb dX6_fail_12 ?_
    refine lv_iload_n hx hb dX6_fail_13 rfl (lv_at hl 2 rfl) ?_
    refine lv_isub hx hb dX6_fail_14 ?_
    refine lv_topi (fun x_1 ex_1 => ?_)
    refine va_put (D := D) (ci := 6) (v := .int x_1) (ty := .int) (C := RX6) (T := TX6) (N := 4) hx hb htb itX6 tyX6 tyX6_ok nmX6 hown hK hP hD hS 0 rfl rfl 3 (by decide) (htb _ k_267) (fun _ h9 => h9) rfl (tyX6_ok 3 (by decide)) rfl rfl (Nat.le_of_ble_eq_true rfl) dX6_fail_15 (fun H locs hP hD hS => ?_)
    have hP : va_P D vwCl [(h0, .inr (6, [.ref tp, .int ed, .int pl, .int x_1]))] H := hP
    have hD : va_D A [(h0, .inr (6, [.ref tp, .int ed, .int pl, .int x_1]))] := hD
    exact ret _ _ _ _ x_1 dX6_fail_18 (fun h => absurd c_4 h) (hP.sub [0] rfl) (hD.sub [0] (by decide) rfl) hS

set_option maxRecDepth 100000 in
set_option maxHeartbeats 4000000 in
theorem c_X6_skip (l : Launch) (D : va_G) (cI cB : ClassId) (sz : Nat) (h0 : Nat) (tp : Nat) (ed : Int32) (pl : Int32) (fa : Int32) (by_ : Nat) (T : Nat) (fb : Nat → Int32) (w : Int32) (hT : T ≤ 260) : MI (S := ((Int32))) l D cI cB yX6_skip cX6_skip 3 .boolean (rm 1 21) [.ref h0, .int w] [(h0, .inr (6, [.ref tp, .int ed, .int pl, .int fa])), (tp, .inr (5, [.ref by_, .int (nI T)])), (by_, .inl (cI, 260, .inl fb))] sz (fun r u => r = bI ((sgn T ed pl fa fb) = w)) (fun u : ((Int32)) => [(h0, .inr (6, [.ref tp, .int ed, .int u, .int fa])), (tp, .inr (5, [.ref by_, .int (nI T)])), (by_, .inl (cI, 260, .inl fb))]) := by
  refine MI.of (by decide) (Nat.le_of_ble_eq_true rfl) ?_
  intro p e s m below meth c Q ls A X hin hN hP hK hD hA hl ret
  have hS : va_S A s.heap s.heap [] := va_S.rf
  obtain ⟨hx, hb, hml, hown, htb⟩ := id X
  have hl : lv_has ls 3 [(0, .ref h0), (1, .int w)] := hl
  refine lv_aload_n hx hb dX6_skip_0 rfl (lv_at hl 0 rfl) ?_
  refine cVR (As := []) (rest := []) (n := 0) (ci := 6) (q0 := 0) X hN hK hP (c_X6_sign l D cI cB h0 tp ed pl fa by_ T fb hT) (gV k_610 k_484 k_485 k_98 k_486) (by decide +kernel) ⟨Nat.le_of_ble_eq_true rfl, Nat.le_of_ble_eq_true rfl⟩ ⟨rfl, rfl⟩ [0, 1, 2] rfl rfl rfl rfl rfl rfl hl.1 (Nat.le_of_ble_eq_true rfl) dX6_skip_1 ⟨Nat.le_of_ble_eq_true rfl, Nat.le_of_ble_eq_true rfl⟩ (fun r_1 hr_1 => ?_)
  subst hr_1
  refine lv_iload_n hx hb dX6_skip_4 rfl (lv_at hl 1 rfl) ?_
  refine lv_icmp_ne (tgt := 12) hx hb dX6_skip_5 (by decide) (fun c_5 => ?_) (fun c_5 => ?_)
  · refine lv_iconst (v := 0) hx hb dX6_skip_12 (by decide) ?_
    refine lv_istore_n (lv' := [(2, .int 0), (0, .ref h0), (1, .int w)]) hx hb dX6_skip_13 rfl hl (by decide) rfl (fun ls hl => ?_)
    refine lv_aload_n hx hb dX6_skip_14 rfl (lv_at hl 1 rfl) ?_
    refine lv_dup hx hb dX6_skip_15 rfl ?_
    refine va_get (D := D) (ci := 6) (v := .int pl) (C := RX6) (T := TX6) (N := 4) hx hb htb itX6 hown hK hP 0 rfl rfl 2 (by decide) (htb _ k_263) (fun _ h9 => h9) rfl dX6_skip_16 ?_
    refine lv_iload_n hx hb dX6_skip_19 rfl (lv_at hl 0 rfl) ?_
    refine lv_if_eq (tgt := 27) hx hb dX6_skip_20 (by decide) (fun _ => ?_) (fun c_20 => absurd (by decide) c_20)
    refine lv_iconst (v := 0) hx hb dX6_skip_27 (by decide) ?_
    refine lv_iadd hx hb dX6_skip_28 ?_
    refine lv_topi (fun x_2 ex_2 => ?_)
    refine va_put (D := D) (ci := 6) (v := .int x_2) (ty := .int) (C := RX6) (T := TX6) (N := 4) hx hb htb itX6 tyX6 tyX6_ok nmX6 hown hK hP hD hS 0 rfl rfl 2 (by decide) (htb _ k_263) (fun _ h9 => h9) rfl (tyX6_ok 2 (by decide)) rfl rfl (Nat.le_of_ble_eq_true rfl) dX6_skip_29 (fun H locs hP hD hS => ?_)
    have hP : va_P D vwCl [(h0, .inr (6, [.ref tp, .int ed, .int x_2, .int fa])), (tp, .inr (5, [.ref by_, .int (nI T)])), (by_, .inl (cI, 260, .inl fb))] H := hP
    have hD : va_D A [(h0, .inr (6, [.ref tp, .int ed, .int x_2, .int fa])), (tp, .inr (5, [.ref by_, .int (nI T)])), (by_, .inl (cI, 260, .inl fb))] := hD
    refine lv_iload_n hx hb dX6_skip_32 rfl (lv_at hl 0 rfl) ?_
    exact ret _ _ _ _ 0 x_2 dX6_skip_33 rfl (bI0 c_5) (hP.sub [0, 1, 2] rfl) (hD.sub [0, 1, 2] (by decide) rfl) hS
  · refine lv_iconst (v := 1) hx hb dX6_skip_8 (by decide) ?_
    refine lv_goto (tgt := 13) hx hb dX6_skip_9 (by decide) ?_
    refine lv_istore_n (lv' := [(2, .int 1), (0, .ref h0), (1, .int w)]) hx hb dX6_skip_13 rfl hl (by decide) rfl (fun ls hl => ?_)
    refine lv_aload_n hx hb dX6_skip_14 rfl (lv_at hl 1 rfl) ?_
    refine lv_dup hx hb dX6_skip_15 rfl ?_
    refine va_get (D := D) (ci := 6) (v := .int pl) (C := RX6) (T := TX6) (N := 4) hx hb htb itX6 hown hK hP 0 rfl rfl 2 (by decide) (htb _ k_263) (fun _ h9 => h9) rfl dX6_skip_16 ?_
    refine lv_iload_n hx hb dX6_skip_19 rfl (lv_at hl 0 rfl) ?_
    refine lv_if_eq (tgt := 27) hx hb dX6_skip_20 (by decide) (fun c_20 => absurd c_20 (by decide)) (fun _ => ?_)
    refine lv_iconst (v := 1) hx hb dX6_skip_23 (by decide) ?_
    refine lv_goto (tgt := 28) hx hb dX6_skip_24 (by decide) ?_
    refine lv_iadd hx hb dX6_skip_28 ?_
    refine lv_topi (fun x_3 ex_3 => ?_)
    refine va_put (D := D) (ci := 6) (v := .int x_3) (ty := .int) (C := RX6) (T := TX6) (N := 4) hx hb htb itX6 tyX6 tyX6_ok nmX6 hown hK hP hD hS 0 rfl rfl 2 (by decide) (htb _ k_263) (fun _ h9 => h9) rfl (tyX6_ok 2 (by decide)) rfl rfl (Nat.le_of_ble_eq_true rfl) dX6_skip_29 (fun H locs hP hD hS => ?_)
    have hP : va_P D vwCl [(h0, .inr (6, [.ref tp, .int ed, .int x_3, .int fa])), (tp, .inr (5, [.ref by_, .int (nI T)])), (by_, .inl (cI, 260, .inl fb))] H := hP
    have hD : va_D A [(h0, .inr (6, [.ref tp, .int ed, .int x_3, .int fa])), (tp, .inr (5, [.ref by_, .int (nI T)])), (by_, .inl (cI, 260, .inl fb))] := hD
    refine lv_iload_n hx hb dX6_skip_32 rfl (lv_at hl 0 rfl) ?_
    exact ret _ _ _ _ 1 x_3 dX6_skip_33 rfl (bI1 c_5) (hP.sub [0, 1, 2] rfl) (hD.sub [0, 1, 2] (by decide) rfl) hS

set_option maxRecDepth 100000 in
set_option maxHeartbeats 4000000 in
theorem c_X6_expect (l : Launch) (D : va_G) (cI cB : ClassId) (sz : Nat) (h0 : Nat) (tp : Nat) (ed : Int32) (pl : Int32) (fa : Int32) (by_ : Nat) (T : Nat) (fb : Nat → Int32) (w : Int32) (hT : T ≤ 260) : MV (S := ((Int32) × (Int32))) l D cI cB yX6_expect cX6_expect 2 (rm 2 43) [.ref h0, .int w] [(h0, .inr (6, [.ref tp, .int ed, .int pl, .int fa])), (tp, .inr (5, [.ref by_, .int (nI T)])), (by_, .inl (cI, 260, .inl fb))] sz (fun u => True) (fun u : ((Int32) × (Int32)) => [(h0, .inr (6, [.ref tp, .int ed, .int u.1, .int u.2])), (tp, .inr (5, [.ref by_, .int (nI T)])), (by_, .inl (cI, 260, .inl fb))]) := by
  refine MV.of (by decide) (Nat.le_of_ble_eq_true rfl) ?_
  intro p e s m below meth c Q ls A X hin hN hP hK hD hA hl ret
  have hS : va_S A s.heap s.heap [] := va_S.rf
  obtain ⟨hx, hb, hml, hown, htb⟩ := id X
  have hl : lv_has ls 2 [(0, .ref h0), (1, .int w)] := hl
  refine lv_aload_n hx hb dX6_expect_0 rfl (lv_at hl 0 rfl) ?_
  refine lv_iload_n hx hb dX6_expect_1 rfl (lv_at hl 1 rfl) ?_
  refine cVI (As := [.int w]) (rest := []) (n := 1) (ci := 6) (q0 := 0) (wr := []) X hN hK hP hD hS hA (c_X6_skip l D cI cB _ h0 tp ed pl fa by_ T fb w hT) (gV k_606 k_607 k_608 k_98 k_609) (by decide +kernel) ⟨Nat.le_of_ble_eq_true rfl, Nat.le_of_ble_eq_true rfl⟩ ⟨rfl, rfl⟩ [0, 1, 2] [] rfl rfl (by decide) (by decide) rfl rfl rfl rfl rfl hl.1 (Nat.le_of_ble_eq_true rfl) dX6_expect_2 ⟨Nat.le_of_ble_eq_true rfl, Nat.le_of_ble_eq_true rfl⟩ (fun rs u H locs hw_2 hP hD hS => ?_)
  obtain ⟨h0_2o_1, rfl⟩ : ∃ z, z = u := ⟨_, rfl⟩
  try dsimp only at hw_2
  have hP : va_P D vwCl [(h0, .inr (6, [.ref tp, .int ed, .int h0_2o_1, .int fa])), (tp, .inr (5, [.ref by_, .int (nI T)])), (by_, .inl (cI, 260, .inl fb))] H := hP
  have hD : va_D A [(h0, .inr (6, [.ref tp, .int ed, .int h0_2o_1, .int fa])), (tp, .inr (5, [.ref by_, .int (nI T)])), (by_, .inl (cI, 260, .inl fb))] := hD
  refine lv_if_ne (tgt := 17) hx hb dX6_expect_5 (by decide) (fun c_5 => ?_) (fun c_5 => ?_)
  · exact ret _ _ _ _ (h0_2o_1, fa) dX6_expect_17 trivial (hP.sub [0, 1, 2] rfl) (hD.sub [0, 1, 2] (by decide) rfl) hS
  · refine lv_aload_n hx hb dX6_expect_8 rfl (lv_at hl 0 rfl) ?_
    refine lv_iconst (v := 1) hx hb dX6_expect_9 (by decide) ?_
    refine lv_aload_n hx hb dX6_expect_10 rfl (lv_at hl 0 rfl) ?_
    refine va_get (D := D) (ci := 6) (v := .int h0_2o_1) (C := RX6) (T := TX6) (N := 4) hx hb htb itX6 hown hK hP 0 rfl rfl 2 (by decide) (htb _ k_263) (fun _ h9 => h9) rfl dX6_expect_11 ?_
    refine cVV (As := [.int 1, .int h0_2o_1]) (rest := []) (n := 2) (ci := 6) (q0 := 0) (wr := [(tp, .inr (5, [.ref by_, .int (nI T)])), (by_, .inl (cI, 260, .inl fb))]) X hN hK hP hD hS hA (c_X6_fail l D cI cB _ h0 tp ed h0_2o_1 fa 1 h0_2o_1) (gV k_611 k_574 k_575 k_98 k_576) (by decide +kernel) ⟨Nat.le_of_ble_eq_true rfl, Nat.le_of_ble_eq_true rfl⟩ ⟨rfl, rfl⟩ [0] [1, 2] rfl rfl (by decide) (by decide) rfl rfl rfl rfl rfl hl.1 (Nat.le_of_ble_eq_true rfl) dX6_expect_14 ⟨Nat.le_of_ble_eq_true rfl, Nat.le_of_ble_eq_true rfl⟩ (fun u H locs hw_5 hP hD hS => ?_)
    obtain ⟨h0_3o_4, rfl⟩ : ∃ z, z = u := ⟨_, rfl⟩
    try dsimp only at hw_5
    have hP : va_P D vwCl [(tp, .inr (5, [.ref by_, .int (nI T)])), (by_, .inl (cI, 260, .inl fb)), (h0, .inr (6, [.ref tp, .int ed, .int h0_2o_1, .int h0_3o_4]))] H := hP
    have hD : va_D A [(tp, .inr (5, [.ref by_, .int (nI T)])), (by_, .inl (cI, 260, .inl fb)), (h0, .inr (6, [.ref tp, .int ed, .int h0_2o_1, .int h0_3o_4]))] := hD
    exact ret _ _ _ _ (h0_2o_1, h0_3o_4) dX6_expect_17 trivial (hP.sub [2, 0, 1] rfl) (hD.sub [2, 0, 1] (by decide) rfl) hS

set_option maxRecDepth 100000 in
set_option maxHeartbeats 4000000 in
theorem c_X6_number (l : Launch) (D : va_G) (cI cB : ClassId) (sz : Nat) (h0 : Nat) (tp : Nat) (ed : Int32) (pl : Int32) (fa : Int32) (by_ : Nat) (T : Nat) (fb : Nat → Int32) (M : Nat) (b : Int32) (hT : T ≤ 260) (hM : M ≤ 5) : MI (S := ((Int32) × (Int32))) l D cI cB yX6_number cX6_number 5 .int (rm 2 42) [.ref h0, .int (nI M), .int b] [(h0, .inr (6, [.ref tp, .int ed, .int pl, .int fa])), (tp, .inr (5, [.ref by_, .int (nI T)])), (by_, .inl (cI, 260, .inl fb))] sz (fun r u => 0 ≤ r.toInt ∧ r.toInt < 10 ^ M) (fun u : ((Int32) × (Int32)) => [(h0, .inr (6, [.ref tp, .int ed, .int u.1, .int u.2])), (tp, .inr (5, [.ref by_, .int (nI T)])), (by_, .inl (cI, 260, .inl fb))]) := by
  refine MI.of (by decide) (Nat.le_of_ble_eq_true rfl) ?_
  intro p e s m below meth c Q ls A X hin hN hP hK hD hA hl ret
  have hS : va_S A s.heap s.heap [] := va_S.rf
  obtain ⟨hx, hb, hml, hown, htb⟩ := id X
  have hl : lv_has ls 5 [(0, .ref h0), (1, .int (nI M)), (2, .int b)] := hl
  refine lv_iconst (v := 0) hx hb dX6_number_0 (by decide) ?_
  refine lv_istore_n (lv' := [(3, .int 0), (0, .ref h0), (1, .int (nI M)), (2, .int b)]) hx hb dX6_number_1 rfl hl (by decide) rfl (fun ls hl => ?_)
  refine lv_iconst (v := 0) hx hb dX6_number_2 (by decide) ?_
  refine lv_istore (lv' := [(4, .int 0), (3, .int 0), (0, .ref h0), (1, .int (nI M)), (2, .int b)]) hx hb dX6_number_3 hl (by decide) rfl (fun ls hl => ?_)
  have loop_5 : ∀ (n i : Nat) (v : Int32) (pla : Int32), n + i = M → (0 ≤ v.toInt ∧ v.toInt < 10 ^ i) → ∀ (H : Heap) (locs : List Loc), va_P D vwCl [(h0, .inr (6, [.ref tp, .int ed, .int pla, .int fa])), (tp, .inr (5, [.ref by_, .int (nI T)])), (by_, .inl (cI, 260, .inl fb))] H → va_D A [(h0, .inr (6, [.ref tp, .int ed, .int pla, .int fa])), (tp, .inr (5, [.ref by_, .int (nI T)])), (by_, .inl (cI, 260, .inl fb))] → va_S A s.heap H locs → ∀ (ls : Array Slot), lv_has ls 5 [(0, .ref h0), (1, .int (nI M)), (2, .int b), (3, .int v), (4, .int (nI i))] → W p l e (rm 2 42) s m ([.ref h0, .int (nI M), .int b] : List Value).toArray below meth c H locs 0 0 Q (F0 m 5 ls []) := by
    intro n
    induction n with
    | zero =>
      intro i v pla hni hv H locs hP hD hS ls hl
      have hni_5 := hni
      have hi : i = M := by omega
      refine lv_iload hx hb dX6_number_5 (lv_at hl 4 rfl) ?_
      refine lv_iload_n hx hb dX6_number_7 rfl (lv_at hl 1 rfl) ?_
      refine lv_icmp_ge (tgt := 47) hx hb dX6_number_8 (by decide) (fun _ => ?_) (fun c_8 => absurd (by rw [hi]; exact nI_le (Nat.le_refl _) (by omega)) c_8)
      refine lv_iload hx hb dX6_number_47 (lv_at hl 4 rfl) ?_
      refine lv_if_ne (tgt := 61) hx hb dX6_number_49 (by decide) (fun c_49 => ?_) (fun c_49 => ?_)
      · refine lv_iload_n hx hb dX6_number_61 rfl (lv_at hl 2 rfl) ?_
        refine lv_if_eq (tgt := 81) hx hb dX6_number_62 (by decide) (fun c_62 => ?_) (fun c_62 => ?_)
        · refine lv_iload_n hx hb dX6_number_81 rfl (lv_at hl 3 rfl) ?_
          exact ret _ _ _ _ v (pla, fa) dX6_number_82 rfl (pw5 hv (by omega) hM) (hP.sub [0, 1, 2] rfl) (hD.sub [0, 1, 2] (by decide) rfl) hS
        · refine lv_aload_n hx hb dX6_number_65 rfl (lv_at hl 0 rfl) ?_
          refine cVR (As := []) (rest := []) (n := 0) (ci := 6) (q0 := 0) X hN hK hP (c_X6_isDigit l D cI cB h0 tp ed pla fa by_ T fb hT) (gV k_616 k_617 k_618 k_98 k_619) (by decide +kernel) ⟨Nat.le_of_ble_eq_true rfl, Nat.le_of_ble_eq_true rfl⟩ ⟨rfl, rfl⟩ [0, 1, 2] rfl rfl rfl rfl rfl rfl hl.1 (Nat.le_of_ble_eq_true rfl) dX6_number_66 ⟨Nat.le_of_ble_eq_true rfl, Nat.le_of_ble_eq_true rfl⟩ (fun r_1 hr_1 => ?_)
          subst hr_1
          refine lv_if_eq (tgt := 81) hx hb dX6_number_69 (by decide) (fun c_69 => ?_) (fun c_69 => ?_)
          · refine lv_iload_n hx hb dX6_number_81 rfl (lv_at hl 3 rfl) ?_
            exact ret _ _ _ _ v (pla, fa) dX6_number_82 rfl (pw5 hv (by omega) hM) (hP.sub [0, 1, 2] rfl) (hD.sub [0, 1, 2] (by decide) rfl) hS
          · refine lv_aload_n hx hb dX6_number_72 rfl (lv_at hl 0 rfl) ?_
            refine lv_iload_n hx hb dX6_number_73 rfl (lv_at hl 2 rfl) ?_
            refine lv_aload_n hx hb dX6_number_74 rfl (lv_at hl 0 rfl) ?_
            refine va_get (D := D) (ci := 6) (v := .int pla) (C := RX6) (T := TX6) (N := 4) hx hb htb itX6 hown hK hP 0 rfl rfl 2 (by decide) (htb _ k_263) (fun _ h9 => h9) rfl dX6_number_75 ?_
            refine cVV (As := [.int b, .int pla]) (rest := []) (n := 2) (ci := 6) (q0 := 0) (wr := [(tp, .inr (5, [.ref by_, .int (nI T)])), (by_, .inl (cI, 260, .inl fb))]) X hN hK hP hD hS hA (c_X6_fail l D cI cB _ h0 tp ed pla fa b pla) (gV k_611 k_574 k_575 k_98 k_576) (by decide +kernel) ⟨Nat.le_of_ble_eq_true rfl, Nat.le_of_ble_eq_true rfl⟩ ⟨rfl, rfl⟩ [0] [1, 2] rfl rfl (by decide) (by decide) rfl rfl rfl rfl rfl hl.1 (Nat.le_of_ble_eq_true rfl) dX6_number_78 ⟨Nat.le_of_ble_eq_true rfl, Nat.le_of_ble_eq_true rfl⟩ (fun u H locs hw_4 hP hD hS => ?_)
            obtain ⟨h0_3o_3, rfl⟩ : ∃ z, z = u := ⟨_, rfl⟩
            try dsimp only at hw_4
            have hP : va_P D vwCl [(tp, .inr (5, [.ref by_, .int (nI T)])), (by_, .inl (cI, 260, .inl fb)), (h0, .inr (6, [.ref tp, .int ed, .int pla, .int h0_3o_3]))] H := hP
            have hD : va_D A [(tp, .inr (5, [.ref by_, .int (nI T)])), (by_, .inl (cI, 260, .inl fb)), (h0, .inr (6, [.ref tp, .int ed, .int pla, .int h0_3o_3]))] := hD
            refine lv_iload_n hx hb dX6_number_81 rfl (lv_at hl 3 rfl) ?_
            exact ret _ _ _ _ v (pla, h0_3o_3) dX6_number_82 rfl (pw5 hv (by omega) hM) (hP.sub [2, 0, 1] rfl) (hD.sub [2, 0, 1] (by decide) rfl) hS
      · refine lv_aload_n hx hb dX6_number_52 rfl (lv_at hl 0 rfl) ?_
        refine lv_iconst (v := 1) hx hb dX6_number_53 (by decide) ?_
        refine lv_aload_n hx hb dX6_number_54 rfl (lv_at hl 0 rfl) ?_
        refine va_get (D := D) (ci := 6) (v := .int pla) (C := RX6) (T := TX6) (N := 4) hx hb htb itX6 hown hK hP 0 rfl rfl 2 (by decide) (htb _ k_263) (fun _ h9 => h9) rfl dX6_number_55 ?_
        refine cVV (As := [.int 1, .int pla]) (rest := []) (n := 2) (ci := 6) (q0 := 0) (wr := [(tp, .inr (5, [.ref by_, .int (nI T)])), (by_, .inl (cI, 260, .inl fb))]) X hN hK hP hD hS hA (c_X6_fail l D cI cB _ h0 tp ed pla fa 1 pla) (gV k_611 k_574 k_575 k_98 k_576) (by decide +kernel) ⟨Nat.le_of_ble_eq_true rfl, Nat.le_of_ble_eq_true rfl⟩ ⟨rfl, rfl⟩ [0] [1, 2] rfl rfl (by decide) (by decide) rfl rfl rfl rfl rfl hl.1 (Nat.le_of_ble_eq_true rfl) dX6_number_58 ⟨Nat.le_of_ble_eq_true rfl, Nat.le_of_ble_eq_true rfl⟩ (fun u H locs hw_7 hP hD hS => ?_)
        obtain ⟨h0_3o_6, rfl⟩ : ∃ z, z = u := ⟨_, rfl⟩
        try dsimp only at hw_7
        have hP : va_P D vwCl [(tp, .inr (5, [.ref by_, .int (nI T)])), (by_, .inl (cI, 260, .inl fb)), (h0, .inr (6, [.ref tp, .int ed, .int pla, .int h0_3o_6]))] H := hP
        have hD : va_D A [(tp, .inr (5, [.ref by_, .int (nI T)])), (by_, .inl (cI, 260, .inl fb)), (h0, .inr (6, [.ref tp, .int ed, .int pla, .int h0_3o_6]))] := hD
        refine lv_iload_n hx hb dX6_number_61 rfl (lv_at hl 2 rfl) ?_
        refine lv_if_eq (tgt := 81) hx hb dX6_number_62 (by decide) (fun c_62 => ?_) (fun c_62 => ?_)
        · refine lv_iload_n hx hb dX6_number_81 rfl (lv_at hl 3 rfl) ?_
          exact ret _ _ _ _ v (pla, h0_3o_6) dX6_number_82 rfl (pw5 hv (by omega) hM) (hP.sub [2, 0, 1] rfl) (hD.sub [2, 0, 1] (by decide) rfl) hS
        · refine lv_aload_n hx hb dX6_number_65 rfl (lv_at hl 0 rfl) ?_
          refine cVR (As := []) (rest := []) (n := 0) (ci := 6) (q0 := 0) X hN hK hP (c_X6_isDigit l D cI cB h0 tp ed pla h0_3o_6 by_ T fb hT) (gV k_616 k_617 k_618 k_98 k_619) (by decide +kernel) ⟨Nat.le_of_ble_eq_true rfl, Nat.le_of_ble_eq_true rfl⟩ ⟨rfl, rfl⟩ [2, 0, 1] rfl rfl rfl rfl rfl rfl hl.1 (Nat.le_of_ble_eq_true rfl) dX6_number_66 ⟨Nat.le_of_ble_eq_true rfl, Nat.le_of_ble_eq_true rfl⟩ (fun r_8 hr_8 => ?_)
          subst hr_8
          refine lv_if_eq (tgt := 81) hx hb dX6_number_69 (by decide) (fun c_69 => ?_) (fun c_69 => ?_)
          · refine lv_iload_n hx hb dX6_number_81 rfl (lv_at hl 3 rfl) ?_
            exact ret _ _ _ _ v (pla, h0_3o_6) dX6_number_82 rfl (pw5 hv (by omega) hM) (hP.sub [2, 0, 1] rfl) (hD.sub [2, 0, 1] (by decide) rfl) hS
          · refine lv_aload_n hx hb dX6_number_72 rfl (lv_at hl 0 rfl) ?_
            refine lv_iload_n hx hb dX6_number_73 rfl (lv_at hl 2 rfl) ?_
            refine lv_aload_n hx hb dX6_number_74 rfl (lv_at hl 0 rfl) ?_
            refine va_get (D := D) (ci := 6) (v := .int pla) (C := RX6) (T := TX6) (N := 4) hx hb htb itX6 hown hK hP 2 rfl rfl 2 (by decide) (htb _ k_263) (fun _ h9 => h9) rfl dX6_number_75 ?_
            refine cVV (As := [.int b, .int pla]) (rest := []) (n := 2) (ci := 6) (q0 := 0) (wr := [(tp, .inr (5, [.ref by_, .int (nI T)])), (by_, .inl (cI, 260, .inl fb))]) X hN hK hP hD hS hA (c_X6_fail l D cI cB _ h0 tp ed pla h0_3o_6 b pla) (gV k_611 k_574 k_575 k_98 k_576) (by decide +kernel) ⟨Nat.le_of_ble_eq_true rfl, Nat.le_of_ble_eq_true rfl⟩ ⟨rfl, rfl⟩ [2] [0, 1] rfl rfl (by decide) (by decide) rfl rfl rfl rfl rfl hl.1 (Nat.le_of_ble_eq_true rfl) dX6_number_78 ⟨Nat.le_of_ble_eq_true rfl, Nat.le_of_ble_eq_true rfl⟩ (fun u H locs hw_11 hP hD hS => ?_)
            obtain ⟨h0_3o_10, rfl⟩ : ∃ z, z = u := ⟨_, rfl⟩
            try dsimp only at hw_11
            have hP : va_P D vwCl [(tp, .inr (5, [.ref by_, .int (nI T)])), (by_, .inl (cI, 260, .inl fb)), (h0, .inr (6, [.ref tp, .int ed, .int pla, .int h0_3o_10]))] H := hP
            have hD : va_D A [(tp, .inr (5, [.ref by_, .int (nI T)])), (by_, .inl (cI, 260, .inl fb)), (h0, .inr (6, [.ref tp, .int ed, .int pla, .int h0_3o_10]))] := hD
            refine lv_iload_n hx hb dX6_number_81 rfl (lv_at hl 3 rfl) ?_
            exact ret _ _ _ _ v (pla, h0_3o_10) dX6_number_82 rfl (pw5 hv (by omega) hM) (hP.sub [2, 0, 1] rfl) (hD.sub [2, 0, 1] (by decide) rfl) hS
    | succ n ih_5 =>
      intro i v pla hni hv H locs hP hD hS ls hl
      have hni_5 := hni
      have hi : i < M := by omega
      refine lv_iload hx hb dX6_number_5 (lv_at hl 4 rfl) ?_
      refine lv_iload_n hx hb dX6_number_7 rfl (lv_at hl 1 rfl) ?_
      refine lv_icmp_ge (tgt := 47) hx hb dX6_number_8 (by decide) (fun c_8 => absurd c_8 (nI_ge hi (by omega))) (fun _ => ?_)
      refine lv_aload_n hx hb dX6_number_11 rfl (lv_at hl 0 rfl) ?_
      refine cVR (As := []) (rest := []) (n := 0) (ci := 6) (q0 := 0) X hN hK hP (c_X6_isDigit l D cI cB h0 tp ed pla fa by_ T fb hT) (gV k_616 k_617 k_618 k_98 k_619) (by decide +kernel) ⟨Nat.le_of_ble_eq_true rfl, Nat.le_of_ble_eq_true rfl⟩ ⟨rfl, rfl⟩ [0, 1, 2] rfl rfl rfl rfl rfl rfl hl.1 (Nat.le_of_ble_eq_true rfl) dX6_number_12 ⟨Nat.le_of_ble_eq_true rfl, Nat.le_of_ble_eq_true rfl⟩ (fun r_12 hr_12 => ?_)
      subst hr_12
      refine lv_if_eq (tgt := 47) hx hb dX6_number_15 (by decide) (fun c_15 => ?_) (fun c_15 => ?_)
      · refine lv_iload hx hb dX6_number_47 (lv_at hl 4 rfl) ?_
        refine lv_if_ne (tgt := 61) hx hb dX6_number_49 (by decide) (fun c_49 => ?_) (fun c_49 => ?_)
        · refine lv_iload_n hx hb dX6_number_61 rfl (lv_at hl 2 rfl) ?_
          refine lv_if_eq (tgt := 81) hx hb dX6_number_62 (by decide) (fun c_62 => ?_) (fun c_62 => ?_)
          · refine lv_iload_n hx hb dX6_number_81 rfl (lv_at hl 3 rfl) ?_
            exact ret _ _ _ _ v (pla, fa) dX6_number_82 rfl (pw5 hv (by omega) hM) (hP.sub [0, 1, 2] rfl) (hD.sub [0, 1, 2] (by decide) rfl) hS
          · refine lv_aload_n hx hb dX6_number_65 rfl (lv_at hl 0 rfl) ?_
            refine cVR (As := []) (rest := []) (n := 0) (ci := 6) (q0 := 0) X hN hK hP (c_X6_isDigit l D cI cB h0 tp ed pla fa by_ T fb hT) (gV k_616 k_617 k_618 k_98 k_619) (by decide +kernel) ⟨Nat.le_of_ble_eq_true rfl, Nat.le_of_ble_eq_true rfl⟩ ⟨rfl, rfl⟩ [0, 1, 2] rfl rfl rfl rfl rfl rfl hl.1 (Nat.le_of_ble_eq_true rfl) dX6_number_66 ⟨Nat.le_of_ble_eq_true rfl, Nat.le_of_ble_eq_true rfl⟩ (fun r_13 hr_13 => ?_)
            subst hr_13
            refine lv_if_eq (tgt := 81) hx hb dX6_number_69 (by decide) (fun c_69 => ?_) (fun c_69 => ?_)
            · refine lv_iload_n hx hb dX6_number_81 rfl (lv_at hl 3 rfl) ?_
              exact ret _ _ _ _ v (pla, fa) dX6_number_82 rfl (pw5 hv (by omega) hM) (hP.sub [0, 1, 2] rfl) (hD.sub [0, 1, 2] (by decide) rfl) hS
            · refine lv_aload_n hx hb dX6_number_72 rfl (lv_at hl 0 rfl) ?_
              refine lv_iload_n hx hb dX6_number_73 rfl (lv_at hl 2 rfl) ?_
              refine lv_aload_n hx hb dX6_number_74 rfl (lv_at hl 0 rfl) ?_
              refine va_get (D := D) (ci := 6) (v := .int pla) (C := RX6) (T := TX6) (N := 4) hx hb htb itX6 hown hK hP 0 rfl rfl 2 (by decide) (htb _ k_263) (fun _ h9 => h9) rfl dX6_number_75 ?_
              refine cVV (As := [.int b, .int pla]) (rest := []) (n := 2) (ci := 6) (q0 := 0) (wr := [(tp, .inr (5, [.ref by_, .int (nI T)])), (by_, .inl (cI, 260, .inl fb))]) X hN hK hP hD hS hA (c_X6_fail l D cI cB _ h0 tp ed pla fa b pla) (gV k_611 k_574 k_575 k_98 k_576) (by decide +kernel) ⟨Nat.le_of_ble_eq_true rfl, Nat.le_of_ble_eq_true rfl⟩ ⟨rfl, rfl⟩ [0] [1, 2] rfl rfl (by decide) (by decide) rfl rfl rfl rfl rfl hl.1 (Nat.le_of_ble_eq_true rfl) dX6_number_78 ⟨Nat.le_of_ble_eq_true rfl, Nat.le_of_ble_eq_true rfl⟩ (fun u H locs hw_16 hP hD hS => ?_)
              obtain ⟨h0_3o_15, rfl⟩ : ∃ z, z = u := ⟨_, rfl⟩
              try dsimp only at hw_16
              have hP : va_P D vwCl [(tp, .inr (5, [.ref by_, .int (nI T)])), (by_, .inl (cI, 260, .inl fb)), (h0, .inr (6, [.ref tp, .int ed, .int pla, .int h0_3o_15]))] H := hP
              have hD : va_D A [(tp, .inr (5, [.ref by_, .int (nI T)])), (by_, .inl (cI, 260, .inl fb)), (h0, .inr (6, [.ref tp, .int ed, .int pla, .int h0_3o_15]))] := hD
              refine lv_iload_n hx hb dX6_number_81 rfl (lv_at hl 3 rfl) ?_
              exact ret _ _ _ _ v (pla, h0_3o_15) dX6_number_82 rfl (pw5 hv (by omega) hM) (hP.sub [2, 0, 1] rfl) (hD.sub [2, 0, 1] (by decide) rfl) hS
        · refine lv_aload_n hx hb dX6_number_52 rfl (lv_at hl 0 rfl) ?_
          refine lv_iconst (v := 1) hx hb dX6_number_53 (by decide) ?_
          refine lv_aload_n hx hb dX6_number_54 rfl (lv_at hl 0 rfl) ?_
          refine va_get (D := D) (ci := 6) (v := .int pla) (C := RX6) (T := TX6) (N := 4) hx hb htb itX6 hown hK hP 0 rfl rfl 2 (by decide) (htb _ k_263) (fun _ h9 => h9) rfl dX6_number_55 ?_
          refine cVV (As := [.int 1, .int pla]) (rest := []) (n := 2) (ci := 6) (q0 := 0) (wr := [(tp, .inr (5, [.ref by_, .int (nI T)])), (by_, .inl (cI, 260, .inl fb))]) X hN hK hP hD hS hA (c_X6_fail l D cI cB _ h0 tp ed pla fa 1 pla) (gV k_611 k_574 k_575 k_98 k_576) (by decide +kernel) ⟨Nat.le_of_ble_eq_true rfl, Nat.le_of_ble_eq_true rfl⟩ ⟨rfl, rfl⟩ [0] [1, 2] rfl rfl (by decide) (by decide) rfl rfl rfl rfl rfl hl.1 (Nat.le_of_ble_eq_true rfl) dX6_number_58 ⟨Nat.le_of_ble_eq_true rfl, Nat.le_of_ble_eq_true rfl⟩ (fun u H locs hw_19 hP hD hS => ?_)
          obtain ⟨h0_3o_18, rfl⟩ : ∃ z, z = u := ⟨_, rfl⟩
          try dsimp only at hw_19
          have hP : va_P D vwCl [(tp, .inr (5, [.ref by_, .int (nI T)])), (by_, .inl (cI, 260, .inl fb)), (h0, .inr (6, [.ref tp, .int ed, .int pla, .int h0_3o_18]))] H := hP
          have hD : va_D A [(tp, .inr (5, [.ref by_, .int (nI T)])), (by_, .inl (cI, 260, .inl fb)), (h0, .inr (6, [.ref tp, .int ed, .int pla, .int h0_3o_18]))] := hD
          refine lv_iload_n hx hb dX6_number_61 rfl (lv_at hl 2 rfl) ?_
          refine lv_if_eq (tgt := 81) hx hb dX6_number_62 (by decide) (fun c_62 => ?_) (fun c_62 => ?_)
          · refine lv_iload_n hx hb dX6_number_81 rfl (lv_at hl 3 rfl) ?_
            exact ret _ _ _ _ v (pla, h0_3o_18) dX6_number_82 rfl (pw5 hv (by omega) hM) (hP.sub [2, 0, 1] rfl) (hD.sub [2, 0, 1] (by decide) rfl) hS
          · refine lv_aload_n hx hb dX6_number_65 rfl (lv_at hl 0 rfl) ?_
            refine cVR (As := []) (rest := []) (n := 0) (ci := 6) (q0 := 0) X hN hK hP (c_X6_isDigit l D cI cB h0 tp ed pla h0_3o_18 by_ T fb hT) (gV k_616 k_617 k_618 k_98 k_619) (by decide +kernel) ⟨Nat.le_of_ble_eq_true rfl, Nat.le_of_ble_eq_true rfl⟩ ⟨rfl, rfl⟩ [2, 0, 1] rfl rfl rfl rfl rfl rfl hl.1 (Nat.le_of_ble_eq_true rfl) dX6_number_66 ⟨Nat.le_of_ble_eq_true rfl, Nat.le_of_ble_eq_true rfl⟩ (fun r_20 hr_20 => ?_)
            subst hr_20
            refine lv_if_eq (tgt := 81) hx hb dX6_number_69 (by decide) (fun c_69 => ?_) (fun c_69 => ?_)
            · refine lv_iload_n hx hb dX6_number_81 rfl (lv_at hl 3 rfl) ?_
              exact ret _ _ _ _ v (pla, h0_3o_18) dX6_number_82 rfl (pw5 hv (by omega) hM) (hP.sub [2, 0, 1] rfl) (hD.sub [2, 0, 1] (by decide) rfl) hS
            · refine lv_aload_n hx hb dX6_number_72 rfl (lv_at hl 0 rfl) ?_
              refine lv_iload_n hx hb dX6_number_73 rfl (lv_at hl 2 rfl) ?_
              refine lv_aload_n hx hb dX6_number_74 rfl (lv_at hl 0 rfl) ?_
              refine va_get (D := D) (ci := 6) (v := .int pla) (C := RX6) (T := TX6) (N := 4) hx hb htb itX6 hown hK hP 2 rfl rfl 2 (by decide) (htb _ k_263) (fun _ h9 => h9) rfl dX6_number_75 ?_
              refine cVV (As := [.int b, .int pla]) (rest := []) (n := 2) (ci := 6) (q0 := 0) (wr := [(tp, .inr (5, [.ref by_, .int (nI T)])), (by_, .inl (cI, 260, .inl fb))]) X hN hK hP hD hS hA (c_X6_fail l D cI cB _ h0 tp ed pla h0_3o_18 b pla) (gV k_611 k_574 k_575 k_98 k_576) (by decide +kernel) ⟨Nat.le_of_ble_eq_true rfl, Nat.le_of_ble_eq_true rfl⟩ ⟨rfl, rfl⟩ [2] [0, 1] rfl rfl (by decide) (by decide) rfl rfl rfl rfl rfl hl.1 (Nat.le_of_ble_eq_true rfl) dX6_number_78 ⟨Nat.le_of_ble_eq_true rfl, Nat.le_of_ble_eq_true rfl⟩ (fun u H locs hw_23 hP hD hS => ?_)
              obtain ⟨h0_3o_22, rfl⟩ : ∃ z, z = u := ⟨_, rfl⟩
              try dsimp only at hw_23
              have hP : va_P D vwCl [(tp, .inr (5, [.ref by_, .int (nI T)])), (by_, .inl (cI, 260, .inl fb)), (h0, .inr (6, [.ref tp, .int ed, .int pla, .int h0_3o_22]))] H := hP
              have hD : va_D A [(tp, .inr (5, [.ref by_, .int (nI T)])), (by_, .inl (cI, 260, .inl fb)), (h0, .inr (6, [.ref tp, .int ed, .int pla, .int h0_3o_22]))] := hD
              refine lv_iload_n hx hb dX6_number_81 rfl (lv_at hl 3 rfl) ?_
              exact ret _ _ _ _ v (pla, h0_3o_22) dX6_number_82 rfl (pw5 hv (by omega) hM) (hP.sub [2, 0, 1] rfl) (hD.sub [2, 0, 1] (by decide) rfl) hS
      · refine lv_iload_n hx hb dX6_number_18 rfl (lv_at hl 3 rfl) ?_
        refine lv_bipush (v := 10) hx hb dX6_number_19 (by decide) ?_
        refine lv_imul hx hb dX6_number_21 ?_
        refine lv_aload_n hx hb dX6_number_22 rfl (lv_at hl 0 rfl) ?_
        refine cVR (As := []) (rest := [.int (v * 10)]) (n := 0) (ci := 6) (q0 := 0) X hN hK hP (c_X6_sign l D cI cB h0 tp ed pla fa by_ T fb hT) (gV k_610 k_484 k_485 k_98 k_486) (by decide +kernel) ⟨Nat.le_of_ble_eq_true rfl, Nat.le_of_ble_eq_true rfl⟩ ⟨rfl, rfl⟩ [0, 1, 2] rfl rfl rfl rfl rfl rfl hl.1 (Nat.le_of_ble_eq_true rfl) dX6_number_23 ⟨Nat.le_of_ble_eq_true rfl, Nat.le_of_ble_eq_true rfl⟩ (fun r_24 hr_24 => ?_)
        subst hr_24
        refine lv_iadd hx hb dX6_number_26 ?_
        refine lv_bipush (v := 48) hx hb dX6_number_27 (by decide) ?_
        refine lv_isub hx hb dX6_number_29 ?_
        refine lv_topi (fun x_25 ex_25 => ?_)
        refine lv_istore_n (lv' := [(3, .int x_25), (0, .ref h0), (1, .int (nI M)), (2, .int b), (4, .int (nI i))]) hx hb dX6_number_30 rfl hl (by decide) rfl (fun ls hl => ?_)
        refine lv_aload_n hx hb dX6_number_31 rfl (lv_at hl 1 rfl) ?_
        refine lv_dup hx hb dX6_number_32 rfl ?_
        refine va_get (D := D) (ci := 6) (v := .int pla) (C := RX6) (T := TX6) (N := 4) hx hb htb itX6 hown hK hP 0 rfl rfl 2 (by decide) (htb _ k_263) (fun _ h9 => h9) rfl dX6_number_33 ?_
        refine lv_iconst (v := 1) hx hb dX6_number_36 (by decide) ?_
        refine lv_iadd hx hb dX6_number_37 ?_
        refine lv_topi (fun x_26 ex_26 => ?_)
        refine va_put (D := D) (ci := 6) (v := .int x_26) (ty := .int) (C := RX6) (T := TX6) (N := 4) hx hb htb itX6 tyX6 tyX6_ok nmX6 hown hK hP hD hS 0 rfl rfl 2 (by decide) (htb _ k_263) (fun _ h9 => h9) rfl (tyX6_ok 2 (by decide)) rfl rfl (Nat.le_of_ble_eq_true rfl) dX6_number_38 (fun H locs hP hD hS => ?_)
        have hP : va_P D vwCl [(h0, .inr (6, [.ref tp, .int ed, .int x_26, .int fa])), (tp, .inr (5, [.ref by_, .int (nI T)])), (by_, .inl (cI, 260, .inl fb))] H := hP
        have hD : va_D A [(h0, .inr (6, [.ref tp, .int ed, .int x_26, .int fa])), (tp, .inr (5, [.ref by_, .int (nI T)])), (by_, .inl (cI, 260, .inl fb))] := hD
        refine lv_iinc (v := (nI (i + 1))) (lv' := [(4, .int (nI (i + 1))), (3, .int x_25), (0, .ref h0), (1, .int (nI M)), (2, .int b)]) hx hb dX6_number_41 hl (k := 4) rfl (nI_1 i) (by decide) rfl (fun ls hl => ?_)
        refine lv_goto (tgt := 5) hx hb dX6_number_44 (by decide) ?_
        exact ih_5 (i + 1) x_25 x_26 (by omega) (by rw [ex_25]; exact num_step hv (by omega) (bIt c_15)) _ _ (hP.sub [0, 1, 2] rfl) (hD.sub [0, 1, 2] (by decide) rfl) hS _ (lv_sub hl [2, 3, 4, 1, 0] rfl)
  exact loop_5 M 0 0 pl (by omega) (by decide) _ _ (hP.sub [0, 1, 2] rfl) (hD.sub [0, 1, 2] (by decide) rfl) hS _ (lv_sub hl [2, 3, 4, 1, 0] rfl)

set_option maxRecDepth 100000 in
set_option maxHeartbeats 4000000 in
theorem c_X6_personHere (l : Launch) (D : va_G) (cI cB : ClassId) (h0 : Nat) (tp : Nat) (ed : Int32) (pl : Int32) (fa : Int32) (by_ : Nat) (T : Nat) (fb : Nat → Int32) (hT : T ≤ 260) : MR l D cI cB yX6_personHere cX6_personHere 2 .int (rm 1 21) [.ref h0] [(h0, .inr (6, [.ref tp, .int ed, .int pl, .int fa])), (tp, .inr (5, [.ref by_, .int (nI T)])), (by_, .inl (cI, 260, .inl fb))] (fun r : Int32 => r = -1 ∨ (0 ≤ r ∧ r ≤ 9)) := by
  refine MR.of (by decide) (Nat.le_of_ble_eq_true rfl) ?_
  intro p e s m below meth c Q ls X hN hP hK hl ret
  obtain ⟨hx, hb, hml, hown, htb⟩ := id X
  have hl : lv_has ls 2 [(0, .ref h0)] := hl
  refine lv_aload_n hx hb dX6_personHere_0 rfl (lv_at hl 0 rfl) ?_
  refine cVR (As := []) (rest := []) (n := 0) (ci := 6) (q0 := 0) X hN hK hP (c_X6_sign l D cI cB h0 tp ed pl fa by_ T fb hT) (gV k_610 k_484 k_485 k_98 k_486) (by decide +kernel) ⟨Nat.le_of_ble_eq_true rfl, Nat.le_of_ble_eq_true rfl⟩ ⟨rfl, rfl⟩ [0, 1, 2] rfl rfl rfl rfl rfl rfl hl.1 (Nat.le_of_ble_eq_true rfl) dX6_personHere_1 ⟨Nat.le_of_ble_eq_true rfl, Nat.le_of_ble_eq_true rfl⟩ (fun r_1 hr_1 => ?_)
  subst hr_1
  refine lv_topi (fun x_2 ex_2 => ?_)
  refine lv_istore_n (lv' := [(1, .int x_2), (0, .ref h0)]) hx hb dX6_personHere_4 rfl hl (by decide) rfl (fun ls hl => ?_)
  refine lv_iload_n hx hb dX6_personHere_5 rfl (lv_at hl 0 rfl) ?_
  refine lv_bipush (v := 97) hx hb dX6_personHere_6 (by decide) ?_
  refine lv_icmp_lt (tgt := 24) hx hb dX6_personHere_8 (by decide) (fun c_8 => ?_) (fun c_8 => ?_)
  · refine lv_iconst (v := (-1)) hx hb dX6_personHere_24 (by decide) ?_
    exact ret _ _ (-1) dX6_personHere_25 rfl (Or.inl rfl)
  · refine lv_iload_n hx hb dX6_personHere_11 rfl (lv_at hl 0 rfl) ?_
    refine lv_bipush (v := 106) hx hb dX6_personHere_12 (by decide) ?_
    refine lv_icmp_gt (tgt := 24) hx hb dX6_personHere_14 (by decide) (fun c_14 => ?_) (fun c_14 => ?_)
    · refine lv_iconst (v := (-1)) hx hb dX6_personHere_24 (by decide) ?_
      exact ret _ _ (-1) dX6_personHere_25 rfl (Or.inl rfl)
    · refine lv_iload_n hx hb dX6_personHere_17 rfl (lv_at hl 0 rfl) ?_
      refine lv_bipush (v := 97) hx hb dX6_personHere_18 (by decide) ?_
      refine lv_isub hx hb dX6_personHere_20 ?_
      refine lv_goto (tgt := 25) hx hb dX6_personHere_21 (by decide) ?_
      exact ret _ _ (x_2 - 97) dX6_personHere_25 rfl (Or.inr (ph ⟨Int32.not_lt.mp c_8, Int32.not_lt.mp c_14⟩))
