set_option maxRecDepth 100000 in
set_option maxHeartbeats 4000000 in
theorem c_X5_canGive (l : Launch) (D : va_G) (cI cB : ClassId) (h0 : Nat) (b1 : Nat) (n : Int32) (lo : Int32) (hi : Int32)  : MR l D cI cB yX5_canGive cX5_canGive 4 .boolean (rm 0 0) [.ref h0, .int n, .int lo, .int hi] [(h0, .inr (5, [.ref b1, .int 0]))] (fun r : Int32 => r = bI ((lo ≤ n ∧ n ≤ hi) ∧ n ≤ 0)) := by
  refine MR.of (by decide) (Nat.le_of_ble_eq_true rfl) ?_
  intro p e s m below meth c Q ls X hN hP hK hl ret
  obtain ⟨hx, hb, hml, hown, htb⟩ := id X
  have hl : lv_has ls 4 [(0, .ref h0), (1, .int n), (2, .int lo), (3, .int hi)] := hl
  refine lv_iload_n hx hb dX5_canGive_0 rfl (lv_at hl 1 rfl) ?_
  refine lv_iload_n hx hb dX5_canGive_1 rfl (lv_at hl 2 rfl) ?_
  refine lv_icmp_lt (tgt := 22) hx hb dX5_canGive_2 (by decide) (fun c_2 => ?_) (fun c_2 => ?_)
  · refine lv_iconst (v := 0) hx hb dX5_canGive_22 (by decide) ?_
    exact ret _ _ 0 dX5_canGive_23 rfl (bI0 (fun h => (Int32.not_lt.mpr h.1.1) c_2))
  · refine lv_iload_n hx hb dX5_canGive_5 rfl (lv_at hl 1 rfl) ?_
    refine lv_iload_n hx hb dX5_canGive_6 rfl (lv_at hl 3 rfl) ?_
    refine lv_icmp_gt (tgt := 22) hx hb dX5_canGive_7 (by decide) (fun c_7 => ?_) (fun c_7 => ?_)
    · refine lv_iconst (v := 0) hx hb dX5_canGive_22 (by decide) ?_
      exact ret _ _ 0 dX5_canGive_23 rfl (bI0 (fun h => (Int32.not_lt.mpr h.1.2) c_7))
    · refine lv_iload_n hx hb dX5_canGive_10 rfl (lv_at hl 1 rfl) ?_
      refine lv_aload_n hx hb dX5_canGive_11 rfl (lv_at hl 0 rfl) ?_
      refine va_get (D := D) (ci := 5) (v := .int 0) (C := RX5) (T := TX5) (N := 2) hx hb htb itX5 hown hK hP 0 rfl rfl 1 (by decide) (htb _ k_128) (fun _ h9 => h9) rfl dX5_canGive_12 ?_
      refine lv_icmp_gt (tgt := 22) hx hb dX5_canGive_15 (by decide) (fun c_15 => ?_) (fun c_15 => ?_)
      · refine lv_iconst (v := 0) hx hb dX5_canGive_22 (by decide) ?_
        exact ret _ _ 0 dX5_canGive_23 rfl (bI0 (fun h => (Int32.not_lt.mpr h.2) c_15))
      · refine lv_iconst (v := 1) hx hb dX5_canGive_18 (by decide) ?_
        refine lv_goto (tgt := 23) hx hb dX5_canGive_19 (by decide) ?_
        exact ret _ _ 1 dX5_canGive_23 rfl (bI1 ⟨⟨Int32.not_lt.mp c_2, Int32.not_lt.mp c_7⟩, Int32.not_lt.mp c_15⟩)

set_option maxRecDepth 100000 in
set_option maxHeartbeats 4000000 in
theorem c_X5_hasRoomFor (l : Launch) (D : va_G) (cI cB : ClassId) (h0 : Nat) (b1 : Nat) (fb : Nat → Int32)  : MR l D cI cB yX5_hasRoomFor cX5_hasRoomFor 2 .boolean (rm 0 0) [.ref h0, .int 20] [(h0, .inr (5, [.ref b1, .int 0])), (b1, .inl (cI, 260, .inl fb))] (fun r : Int32 => r = 1) := by
  refine MR.of (by decide) (Nat.le_of_ble_eq_true rfl) ?_
  intro p e s m below meth c Q ls X hN hP hK hl ret
  obtain ⟨hx, hb, hml, hown, htb⟩ := id X
  have hl : lv_has ls 2 [(0, .ref h0), (1, .int 20)] := hl
  refine lv_aload_n hx hb dX5_hasRoomFor_0 rfl (lv_at hl 0 rfl) ?_
  refine va_get (D := D) (ci := 5) (v := .int 0) (C := RX5) (T := TX5) (N := 2) hx hb htb itX5 hown hK hP 0 rfl rfl 1 (by decide) (htb _ k_128) (fun _ h9 => h9) rfl dX5_hasRoomFor_1 ?_
  refine lv_iload_n hx hb dX5_hasRoomFor_4 rfl (lv_at hl 1 rfl) ?_
  refine lv_iadd hx hb dX5_hasRoomFor_5 ?_
  refine tv (z := 20) (by decide) ?_
  refine lv_aload_n hx hb dX5_hasRoomFor_6 rfl (lv_at hl 0 rfl) ?_
  refine va_get (D := D) (ci := 5) (v := .ref b1) (C := RX5) (T := TX5) (N := 2) hx hb htb itX5 hown hK hP 0 rfl rfl 0 (by decide) (htb _ k_126) (fun _ h9 => h9) rfl dX5_hasRoomFor_7 ?_
  refine va_alen hx hb hK hP 1 0 rfl rfl (v := 260) rfl dX5_hasRoomFor_10 ?_
  refine lv_icmp_gt (tgt := 18) hx hb dX5_hasRoomFor_11 (by decide) (fun c_11 => absurd c_11 (by decide)) (fun _ => ?_)
  refine lv_iconst (v := 1) hx hb dX5_hasRoomFor_14 (by decide) ?_
  refine lv_goto (tgt := 19) hx hb dX5_hasRoomFor_15 (by decide) ?_
  exact ret _ _ 1 dX5_hasRoomFor_19 rfl rfl

set_option maxRecDepth 100000 in
set_option maxHeartbeats 4000000 in
theorem c_X5_addWord (l : Launch) (D : va_G) (cI cB : ClassId) (sz : Nat) (h0 : Nat) (b1 : Nat) (t : Nat) (w : Int32) (fb : Nat → Int32) (ht : t + 4 ≤ 260) : MV (S := ((Nat → Int32))) l D cI cB yX5_addWord cX5_addWord 3 (rm 0 0) [.ref h0, .int w] [(h0, .inr (5, [.ref b1, .int (nI t)])), (b1, .inl (cI, 260, .inl fb))] sz (fun u => True) (fun u : ((Nat → Int32)) => [(h0, .inr (5, [.ref b1, .int (nI (t + 4))])), (b1, .inl (cI, 260, .inl u))]) := by
  refine MV.of (by decide) (Nat.le_of_ble_eq_true rfl) ?_
  intro p e s m below meth c Q ls A X hin hN hP hK hD hA hl ret
  have hS : va_S A s.heap s.heap [] := va_S.rf
  obtain ⟨hx, hb, hml, hown, htb⟩ := id X
  have hl : lv_has ls 3 [(0, .ref h0), (1, .int w)] := hl
  refine lv_bipush (v := 24) hx hb dX5_addWord_0 (by decide) ?_
  refine lv_istore_n (lv' := [(2, .int 24), (0, .ref h0), (1, .int w)]) hx hb dX5_addWord_2 rfl hl (by decide) rfl (fun ls hl => ?_)
  refine lv_iload_n hx hb dX5_addWord_3 rfl (lv_at hl 0 rfl) ?_
  refine lv_if_lt (tgt := 51) hx hb dX5_addWord_4 (by decide) (fun c_4 => absurd c_4 (by decide)) (fun _ => ?_)
  refine lv_aload_n hx hb dX5_addWord_7 rfl (lv_at hl 1 rfl) ?_
  refine va_get (D := D) (ci := 5) (v := .int (nI t)) (C := RX5) (T := TX5) (N := 2) hx hb htb itX5 hown hK hP 0 rfl rfl 1 (by decide) (htb _ k_128) (fun _ h9 => h9) rfl dX5_addWord_8 ?_
  refine lv_aload_n hx hb dX5_addWord_11 rfl (lv_at hl 1 rfl) ?_
  refine va_get (D := D) (ci := 5) (v := .ref b1) (C := RX5) (T := TX5) (N := 2) hx hb htb itX5 hown hK hP 0 rfl rfl 0 (by decide) (htb _ k_126) (fun _ h9 => h9) rfl dX5_addWord_12 ?_
  refine va_alen hx hb hK hP 1 0 rfl rfl (v := 260) rfl dX5_addWord_15 ?_
  refine lv_icmp_ge (tgt := 45) hx hb dX5_addWord_16 (by decide) (fun c_16 => absurd c_16 (nI_ge (b := 260) (by omega) (by decide))) (fun _ => ?_)
  refine lv_aload_n hx hb dX5_addWord_19 rfl (lv_at hl 1 rfl) ?_
  refine va_get (D := D) (ci := 5) (v := .ref b1) (C := RX5) (T := TX5) (N := 2) hx hb htb itX5 hown hK hP 0 rfl rfl 0 (by decide) (htb _ k_126) (fun _ h9 => h9) rfl dX5_addWord_20 ?_
  refine lv_aload_n hx hb dX5_addWord_23 rfl (lv_at hl 1 rfl) ?_
  refine va_get (D := D) (ci := 5) (v := .int (nI t)) (C := RX5) (T := TX5) (N := 2) hx hb htb itX5 hown hK hP 0 rfl rfl 1 (by decide) (htb _ k_128) (fun _ h9 => h9) rfl dX5_addWord_24 ?_
  refine lv_iload_n hx hb dX5_addWord_27 rfl (lv_at hl 2 rfl) ?_
  refine lv_iload_n hx hb dX5_addWord_28 rfl (lv_at hl 0 rfl) ?_
  refine lv_ishr hx hb dX5_addWord_29 ?_
  refine lv_sipush (v := 255) hx hb dX5_addWord_30 (by decide) ?_
  refine lv_iand hx hb dX5_addWord_33 ?_
  refine lv_topi (fun x_1 ex_1 => ?_)
  refine va_iast hx hb hK hP hD hS 1 0 rfl rfl (vp_in_nI (by omega) (by decide)) dX5_addWord_34 (fun H locs hP hD hS => ?_)
  obtain ⟨f_2, ef_2⟩ : ∃ g : Nat → Int32, g = upd fb (Int32.toNatClampNeg (nI t)) x_1 := ⟨_, rfl⟩
  rw [← ef_2] at hP hD
  have hP : va_P D vwCl [(h0, .inr (5, [.ref b1, .int (nI t)])), (b1, .inl (cI, 260, .inl f_2))] H := hP
  have hD : va_D A [(h0, .inr (5, [.ref b1, .int (nI t)])), (b1, .inl (cI, 260, .inl f_2))] := hD
  refine lv_aload_n hx hb dX5_addWord_35 rfl (lv_at hl 1 rfl) ?_
  refine lv_dup hx hb dX5_addWord_36 rfl ?_
  refine va_get (D := D) (ci := 5) (v := .int (nI t)) (C := RX5) (T := TX5) (N := 2) hx hb htb itX5 hown hK hP 0 rfl rfl 1 (by decide) (htb _ k_128) (fun _ h9 => h9) rfl dX5_addWord_37 ?_
  refine lv_iconst (v := 1) hx hb dX5_addWord_40 (by decide) ?_
  refine lv_iadd hx hb dX5_addWord_41 ?_
  refine tv (z := (nI (t + 1))) (nI_1 t) ?_
  refine va_put (D := D) (ci := 5) (v := .int (nI (t + 1))) (ty := .int) (C := RX5) (T := TX5) (N := 2) hx hb htb itX5 tyX5 tyX5_ok nmX5 hown hK hP hD hS 0 rfl rfl 1 (by decide) (htb _ k_128) (fun _ h9 => h9) rfl (tyX5_ok 1 (by decide)) rfl rfl (Nat.le_of_ble_eq_true rfl) dX5_addWord_42 (fun H locs hP hD hS => ?_)
  have hP : va_P D vwCl [(h0, .inr (5, [.ref b1, .int (nI (t + 1))])), (b1, .inl (cI, 260, .inl f_2))] H := hP
  have hD : va_D A [(h0, .inr (5, [.ref b1, .int (nI (t + 1))])), (b1, .inl (cI, 260, .inl f_2))] := hD
  refine lv_iinc (v := 16) (lv' := [(2, .int 16), (0, .ref h0), (1, .int w)]) hx hb dX5_addWord_45 hl (k := 0) rfl (by decide) (by decide) rfl (fun ls hl => ?_)
  refine lv_goto (tgt := 3) hx hb dX5_addWord_48 (by decide) ?_
  refine lv_iload_n hx hb dX5_addWord_3 rfl (lv_at hl 0 rfl) ?_
  refine lv_if_lt (tgt := 51) hx hb dX5_addWord_4 (by decide) (fun c_4 => absurd c_4 (by decide)) (fun _ => ?_)
  refine lv_aload_n hx hb dX5_addWord_7 rfl (lv_at hl 1 rfl) ?_
  refine va_get (D := D) (ci := 5) (v := .int (nI (t + 1))) (C := RX5) (T := TX5) (N := 2) hx hb htb itX5 hown hK hP 0 rfl rfl 1 (by decide) (htb _ k_128) (fun _ h9 => h9) rfl dX5_addWord_8 ?_
  refine lv_aload_n hx hb dX5_addWord_11 rfl (lv_at hl 1 rfl) ?_
  refine va_get (D := D) (ci := 5) (v := .ref b1) (C := RX5) (T := TX5) (N := 2) hx hb htb itX5 hown hK hP 0 rfl rfl 0 (by decide) (htb _ k_126) (fun _ h9 => h9) rfl dX5_addWord_12 ?_
  refine va_alen hx hb hK hP 1 0 rfl rfl (v := 260) rfl dX5_addWord_15 ?_
  refine lv_icmp_ge (tgt := 45) hx hb dX5_addWord_16 (by decide) (fun c_16 => absurd c_16 (nI_ge (b := 260) (by omega) (by decide))) (fun _ => ?_)
  refine lv_aload_n hx hb dX5_addWord_19 rfl (lv_at hl 1 rfl) ?_
  refine va_get (D := D) (ci := 5) (v := .ref b1) (C := RX5) (T := TX5) (N := 2) hx hb htb itX5 hown hK hP 0 rfl rfl 0 (by decide) (htb _ k_126) (fun _ h9 => h9) rfl dX5_addWord_20 ?_
  refine lv_aload_n hx hb dX5_addWord_23 rfl (lv_at hl 1 rfl) ?_
  refine va_get (D := D) (ci := 5) (v := .int (nI (t + 1))) (C := RX5) (T := TX5) (N := 2) hx hb htb itX5 hown hK hP 0 rfl rfl 1 (by decide) (htb _ k_128) (fun _ h9 => h9) rfl dX5_addWord_24 ?_
  refine lv_iload_n hx hb dX5_addWord_27 rfl (lv_at hl 2 rfl) ?_
  refine lv_iload_n hx hb dX5_addWord_28 rfl (lv_at hl 0 rfl) ?_
  refine lv_ishr hx hb dX5_addWord_29 ?_
  refine lv_sipush (v := 255) hx hb dX5_addWord_30 (by decide) ?_
  refine lv_iand hx hb dX5_addWord_33 ?_
  refine lv_topi (fun x_3 ex_3 => ?_)
  refine va_iast hx hb hK hP hD hS 1 0 rfl rfl (vp_in_nI (by omega) (by decide)) dX5_addWord_34 (fun H locs hP hD hS => ?_)
  obtain ⟨f_4, ef_4⟩ : ∃ g : Nat → Int32, g = upd f_2 (Int32.toNatClampNeg (nI (t + 1))) x_3 := ⟨_, rfl⟩
  rw [← ef_4] at hP hD
  have hP : va_P D vwCl [(h0, .inr (5, [.ref b1, .int (nI (t + 1))])), (b1, .inl (cI, 260, .inl f_4))] H := hP
  have hD : va_D A [(h0, .inr (5, [.ref b1, .int (nI (t + 1))])), (b1, .inl (cI, 260, .inl f_4))] := hD
  refine lv_aload_n hx hb dX5_addWord_35 rfl (lv_at hl 1 rfl) ?_
  refine lv_dup hx hb dX5_addWord_36 rfl ?_
  refine va_get (D := D) (ci := 5) (v := .int (nI (t + 1))) (C := RX5) (T := TX5) (N := 2) hx hb htb itX5 hown hK hP 0 rfl rfl 1 (by decide) (htb _ k_128) (fun _ h9 => h9) rfl dX5_addWord_37 ?_
  refine lv_iconst (v := 1) hx hb dX5_addWord_40 (by decide) ?_
  refine lv_iadd hx hb dX5_addWord_41 ?_
  refine tv (z := (nI (t + 2))) (nI_1 (t + 1)) ?_
  refine va_put (D := D) (ci := 5) (v := .int (nI (t + 2))) (ty := .int) (C := RX5) (T := TX5) (N := 2) hx hb htb itX5 tyX5 tyX5_ok nmX5 hown hK hP hD hS 0 rfl rfl 1 (by decide) (htb _ k_128) (fun _ h9 => h9) rfl (tyX5_ok 1 (by decide)) rfl rfl (Nat.le_of_ble_eq_true rfl) dX5_addWord_42 (fun H locs hP hD hS => ?_)
  have hP : va_P D vwCl [(h0, .inr (5, [.ref b1, .int (nI (t + 2))])), (b1, .inl (cI, 260, .inl f_4))] H := hP
  have hD : va_D A [(h0, .inr (5, [.ref b1, .int (nI (t + 2))])), (b1, .inl (cI, 260, .inl f_4))] := hD
  refine lv_iinc (v := 8) (lv' := [(2, .int 8), (0, .ref h0), (1, .int w)]) hx hb dX5_addWord_45 hl (k := 0) rfl (by decide) (by decide) rfl (fun ls hl => ?_)
  refine lv_goto (tgt := 3) hx hb dX5_addWord_48 (by decide) ?_
  refine lv_iload_n hx hb dX5_addWord_3 rfl (lv_at hl 0 rfl) ?_
  refine lv_if_lt (tgt := 51) hx hb dX5_addWord_4 (by decide) (fun c_4 => absurd c_4 (by decide)) (fun _ => ?_)
  refine lv_aload_n hx hb dX5_addWord_7 rfl (lv_at hl 1 rfl) ?_
  refine va_get (D := D) (ci := 5) (v := .int (nI (t + 2))) (C := RX5) (T := TX5) (N := 2) hx hb htb itX5 hown hK hP 0 rfl rfl 1 (by decide) (htb _ k_128) (fun _ h9 => h9) rfl dX5_addWord_8 ?_
  refine lv_aload_n hx hb dX5_addWord_11 rfl (lv_at hl 1 rfl) ?_
  refine va_get (D := D) (ci := 5) (v := .ref b1) (C := RX5) (T := TX5) (N := 2) hx hb htb itX5 hown hK hP 0 rfl rfl 0 (by decide) (htb _ k_126) (fun _ h9 => h9) rfl dX5_addWord_12 ?_
  refine va_alen hx hb hK hP 1 0 rfl rfl (v := 260) rfl dX5_addWord_15 ?_
  refine lv_icmp_ge (tgt := 45) hx hb dX5_addWord_16 (by decide) (fun c_16 => absurd c_16 (nI_ge (b := 260) (by omega) (by decide))) (fun _ => ?_)
  refine lv_aload_n hx hb dX5_addWord_19 rfl (lv_at hl 1 rfl) ?_
  refine va_get (D := D) (ci := 5) (v := .ref b1) (C := RX5) (T := TX5) (N := 2) hx hb htb itX5 hown hK hP 0 rfl rfl 0 (by decide) (htb _ k_126) (fun _ h9 => h9) rfl dX5_addWord_20 ?_
  refine lv_aload_n hx hb dX5_addWord_23 rfl (lv_at hl 1 rfl) ?_
  refine va_get (D := D) (ci := 5) (v := .int (nI (t + 2))) (C := RX5) (T := TX5) (N := 2) hx hb htb itX5 hown hK hP 0 rfl rfl 1 (by decide) (htb _ k_128) (fun _ h9 => h9) rfl dX5_addWord_24 ?_
  refine lv_iload_n hx hb dX5_addWord_27 rfl (lv_at hl 2 rfl) ?_
  refine lv_iload_n hx hb dX5_addWord_28 rfl (lv_at hl 0 rfl) ?_
  refine lv_ishr hx hb dX5_addWord_29 ?_
  refine lv_sipush (v := 255) hx hb dX5_addWord_30 (by decide) ?_
  refine lv_iand hx hb dX5_addWord_33 ?_
  refine lv_topi (fun x_5 ex_5 => ?_)
  refine va_iast hx hb hK hP hD hS 1 0 rfl rfl (vp_in_nI (by omega) (by decide)) dX5_addWord_34 (fun H locs hP hD hS => ?_)
  obtain ⟨f_6, ef_6⟩ : ∃ g : Nat → Int32, g = upd f_4 (Int32.toNatClampNeg (nI (t + 2))) x_5 := ⟨_, rfl⟩
  rw [← ef_6] at hP hD
  have hP : va_P D vwCl [(h0, .inr (5, [.ref b1, .int (nI (t + 2))])), (b1, .inl (cI, 260, .inl f_6))] H := hP
  have hD : va_D A [(h0, .inr (5, [.ref b1, .int (nI (t + 2))])), (b1, .inl (cI, 260, .inl f_6))] := hD
  refine lv_aload_n hx hb dX5_addWord_35 rfl (lv_at hl 1 rfl) ?_
  refine lv_dup hx hb dX5_addWord_36 rfl ?_
  refine va_get (D := D) (ci := 5) (v := .int (nI (t + 2))) (C := RX5) (T := TX5) (N := 2) hx hb htb itX5 hown hK hP 0 rfl rfl 1 (by decide) (htb _ k_128) (fun _ h9 => h9) rfl dX5_addWord_37 ?_
  refine lv_iconst (v := 1) hx hb dX5_addWord_40 (by decide) ?_
  refine lv_iadd hx hb dX5_addWord_41 ?_
  refine tv (z := (nI (t + 3))) (nI_1 (t + 2)) ?_
  refine va_put (D := D) (ci := 5) (v := .int (nI (t + 3))) (ty := .int) (C := RX5) (T := TX5) (N := 2) hx hb htb itX5 tyX5 tyX5_ok nmX5 hown hK hP hD hS 0 rfl rfl 1 (by decide) (htb _ k_128) (fun _ h9 => h9) rfl (tyX5_ok 1 (by decide)) rfl rfl (Nat.le_of_ble_eq_true rfl) dX5_addWord_42 (fun H locs hP hD hS => ?_)
  have hP : va_P D vwCl [(h0, .inr (5, [.ref b1, .int (nI (t + 3))])), (b1, .inl (cI, 260, .inl f_6))] H := hP
  have hD : va_D A [(h0, .inr (5, [.ref b1, .int (nI (t + 3))])), (b1, .inl (cI, 260, .inl f_6))] := hD
  refine lv_iinc (v := 0) (lv' := [(2, .int 0), (0, .ref h0), (1, .int w)]) hx hb dX5_addWord_45 hl (k := 0) rfl (by decide) (by decide) rfl (fun ls hl => ?_)
  refine lv_goto (tgt := 3) hx hb dX5_addWord_48 (by decide) ?_
  refine lv_iload_n hx hb dX5_addWord_3 rfl (lv_at hl 0 rfl) ?_
  refine lv_if_lt (tgt := 51) hx hb dX5_addWord_4 (by decide) (fun c_4 => absurd c_4 (by decide)) (fun _ => ?_)
  refine lv_aload_n hx hb dX5_addWord_7 rfl (lv_at hl 1 rfl) ?_
  refine va_get (D := D) (ci := 5) (v := .int (nI (t + 3))) (C := RX5) (T := TX5) (N := 2) hx hb htb itX5 hown hK hP 0 rfl rfl 1 (by decide) (htb _ k_128) (fun _ h9 => h9) rfl dX5_addWord_8 ?_
  refine lv_aload_n hx hb dX5_addWord_11 rfl (lv_at hl 1 rfl) ?_
  refine va_get (D := D) (ci := 5) (v := .ref b1) (C := RX5) (T := TX5) (N := 2) hx hb htb itX5 hown hK hP 0 rfl rfl 0 (by decide) (htb _ k_126) (fun _ h9 => h9) rfl dX5_addWord_12 ?_
  refine va_alen hx hb hK hP 1 0 rfl rfl (v := 260) rfl dX5_addWord_15 ?_
  refine lv_icmp_ge (tgt := 45) hx hb dX5_addWord_16 (by decide) (fun c_16 => absurd c_16 (nI_ge (b := 260) (by omega) (by decide))) (fun _ => ?_)
  refine lv_aload_n hx hb dX5_addWord_19 rfl (lv_at hl 1 rfl) ?_
  refine va_get (D := D) (ci := 5) (v := .ref b1) (C := RX5) (T := TX5) (N := 2) hx hb htb itX5 hown hK hP 0 rfl rfl 0 (by decide) (htb _ k_126) (fun _ h9 => h9) rfl dX5_addWord_20 ?_
  refine lv_aload_n hx hb dX5_addWord_23 rfl (lv_at hl 1 rfl) ?_
  refine va_get (D := D) (ci := 5) (v := .int (nI (t + 3))) (C := RX5) (T := TX5) (N := 2) hx hb htb itX5 hown hK hP 0 rfl rfl 1 (by decide) (htb _ k_128) (fun _ h9 => h9) rfl dX5_addWord_24 ?_
  refine lv_iload_n hx hb dX5_addWord_27 rfl (lv_at hl 2 rfl) ?_
  refine lv_iload_n hx hb dX5_addWord_28 rfl (lv_at hl 0 rfl) ?_
  refine lv_ishr hx hb dX5_addWord_29 ?_
  refine lv_sipush (v := 255) hx hb dX5_addWord_30 (by decide) ?_
  refine lv_iand hx hb dX5_addWord_33 ?_
  refine lv_topi (fun x_7 ex_7 => ?_)
  refine va_iast hx hb hK hP hD hS 1 0 rfl rfl (vp_in_nI (by omega) (by decide)) dX5_addWord_34 (fun H locs hP hD hS => ?_)
  obtain ⟨f_8, ef_8⟩ : ∃ g : Nat → Int32, g = upd f_6 (Int32.toNatClampNeg (nI (t + 3))) x_7 := ⟨_, rfl⟩
  rw [← ef_8] at hP hD
  have hP : va_P D vwCl [(h0, .inr (5, [.ref b1, .int (nI (t + 3))])), (b1, .inl (cI, 260, .inl f_8))] H := hP
  have hD : va_D A [(h0, .inr (5, [.ref b1, .int (nI (t + 3))])), (b1, .inl (cI, 260, .inl f_8))] := hD
  refine lv_aload_n hx hb dX5_addWord_35 rfl (lv_at hl 1 rfl) ?_
  refine lv_dup hx hb dX5_addWord_36 rfl ?_
  refine va_get (D := D) (ci := 5) (v := .int (nI (t + 3))) (C := RX5) (T := TX5) (N := 2) hx hb htb itX5 hown hK hP 0 rfl rfl 1 (by decide) (htb _ k_128) (fun _ h9 => h9) rfl dX5_addWord_37 ?_
  refine lv_iconst (v := 1) hx hb dX5_addWord_40 (by decide) ?_
  refine lv_iadd hx hb dX5_addWord_41 ?_
  refine tv (z := (nI (t + 4))) (nI_1 (t + 3)) ?_
  refine va_put (D := D) (ci := 5) (v := .int (nI (t + 4))) (ty := .int) (C := RX5) (T := TX5) (N := 2) hx hb htb itX5 tyX5 tyX5_ok nmX5 hown hK hP hD hS 0 rfl rfl 1 (by decide) (htb _ k_128) (fun _ h9 => h9) rfl (tyX5_ok 1 (by decide)) rfl rfl (Nat.le_of_ble_eq_true rfl) dX5_addWord_42 (fun H locs hP hD hS => ?_)
  have hP : va_P D vwCl [(h0, .inr (5, [.ref b1, .int (nI (t + 4))])), (b1, .inl (cI, 260, .inl f_8))] H := hP
  have hD : va_D A [(h0, .inr (5, [.ref b1, .int (nI (t + 4))])), (b1, .inl (cI, 260, .inl f_8))] := hD
  refine lv_iinc (v := (-8)) (lv' := [(2, .int (-8)), (0, .ref h0), (1, .int w)]) hx hb dX5_addWord_45 hl (k := 0) rfl (by decide) (by decide) rfl (fun ls hl => ?_)
  refine lv_goto (tgt := 3) hx hb dX5_addWord_48 (by decide) ?_
  refine lv_iload_n hx hb dX5_addWord_3 rfl (lv_at hl 0 rfl) ?_
  refine lv_if_lt (tgt := 51) hx hb dX5_addWord_4 (by decide) (fun _ => ?_) (fun c_4 => absurd (by decide) c_4)
  exact ret _ _ _ _ f_8 dX5_addWord_51 trivial (hP.sub [0, 1] rfl) (hD.sub [0, 1] (by decide) rfl) hS

set_option maxRecDepth 100000 in
set_option maxHeartbeats 4000000 in
theorem c_X9_areTold (l : Launch) (D : va_G) (cI cB : ClassId) (h0 : Nat) (tp : Nat) (tw : Nat) (nw : Nat) (kp : Nat) (lw : Nat) (lr : Nat) (dd : Nat) (vv : Nat) (tl : Nat) (sc : Nat) (t1 : Nat) (t2 : Nat) (t3 : Nat) (t4 : Nat) (a : Int32)  : MR l D cI cB yX9_areTold cX9_areTold 2 .boolean (rm 0 0) [.ref h0, .int a] [(h0, .inr (9, [.ref tp, .ref tw, .ref nw, .ref kp, .ref lw, .ref lr, .ref dd, .ref vv, .ref tl, .ref sc, .int 0])), (tw, .inr (7, [.int 0, .int 0, .int 0, .ref t1, .ref t2, .ref t3, .ref t4]))] (fun r : Int32 => r = bI (a = 0)) := by
  refine MR.of (by decide) (Nat.le_of_ble_eq_true rfl) ?_
  intro p e s m below meth c Q ls X hN hP hK hl ret
  obtain ⟨hx, hb, hml, hown, htb⟩ := id X
  have hl : lv_has ls 2 [(0, .ref h0), (1, .int a)] := hl
  refine lv_iload_n hx hb dX9_areTold_0 rfl (lv_at hl 1 rfl) ?_
  refine lv_aload_n hx hb dX9_areTold_1 rfl (lv_at hl 0 rfl) ?_
  refine va_get (D := D) (ci := 9) (v := .ref tw) (C := RX9) (T := TX9) (N := 11) hx hb htb itX9 hown hK hP 0 rfl rfl 1 (by decide) (htb _ k_394) (fun _ h9 => h9) rfl dX9_areTold_2 ?_
  refine va_getN (D := D) (ci := 7) (v := .int 0) (C := RX7) (T := TX7) (N := 7) hx hb htb itX7 hown hK hP 1 rfl rfl 0 (by decide) (va_Nw.use rfl (hN _ n_144 rfl)) (fun _ h9 => h9) rfl dX9_areTold_5 ?_
  refine lv_iconst (v := (-1)) hx hb dX9_areTold_8 (by decide) ?_
  refine lv_ixor hx hb dX9_areTold_9 ?_
  refine tv (z := (-1)) (by decide) ?_
  refine lv_iand hx hb dX9_areTold_10 ?_
  refine tv (z := a) (aM1 a) ?_
  refine lv_if_ne (tgt := 18) hx hb dX9_areTold_11 (by decide) (fun c_11 => ?_) (fun c_11 => ?_)
  · refine lv_iconst (v := 0) hx hb dX9_areTold_18 (by decide) ?_
    exact ret _ _ 0 dX9_areTold_19 rfl (bI0 c_11)
  · refine lv_iconst (v := 1) hx hb dX9_areTold_14 (by decide) ?_
    refine lv_goto (tgt := 19) hx hb dX9_areTold_15 (by decide) ?_
    exact ret _ _ 1 dX9_areTold_19 rfl (bI1 c_11)

set_option maxRecDepth 100000 in
set_option maxHeartbeats 4000000 in
theorem c_X9_canLeave (l : Launch) (D : va_G) (cI cB : ClassId) (h0 : Nat) (tp : Nat) (tw : Nat) (nw : Nat) (kp : Nat) (lw : Nat) (lr : Nat) (dd : Nat) (vv : Nat) (tl : Nat) (sc : Nat) (t1 : Nat) (t2 : Nat) (t3 : Nat) (t4 : Nat) (k : Int32)  : MR l D cI cB yX9_canLeave cX9_canLeave 2 .boolean (rm 2 42) [.ref h0, .int k] [(h0, .inr (9, [.ref tp, .ref tw, .ref nw, .ref kp, .ref lw, .ref lr, .ref dd, .ref vv, .ref tl, .ref sc, .int 0])), (tw, .inr (7, [.int 0, .int 0, .int 0, .ref t1, .ref t2, .ref t3, .ref t4]))] (fun r : Int32 => r = 0) := by
  refine MR.of (by decide) (Nat.le_of_ble_eq_true rfl) ?_
  intro p e s m below meth c Q ls X hN hP hK hl ret
  obtain ⟨hx, hb, hml, hown, htb⟩ := id X
  have hl : lv_has ls 2 [(0, .ref h0), (1, .int k)] := hl
  refine lv_aload_n hx hb dX9_canLeave_0 rfl (lv_at hl 0 rfl) ?_
  refine va_get (D := D) (ci := 9) (v := .ref tw) (C := RX9) (T := TX9) (N := 11) hx hb htb itX9 hown hK hP 0 rfl rfl 1 (by decide) (htb _ k_394) (fun _ h9 => h9) rfl dX9_canLeave_1 ?_
  refine lv_iload_n hx hb dX9_canLeave_4 rfl (lv_at hl 1 rfl) ?_
  refine cVR (As := [.int k]) (rest := []) (n := 1) (ci := 7) (q0 := 0) X hN hK hP (c_X7_hasPerson l D cI cB tw 0 t1 t2 t3 t4 k) (gV k_859 k_860 k_861 k_94 k_862) (by decide +kernel) ⟨Nat.le_of_ble_eq_true rfl, Nat.le_of_ble_eq_true rfl⟩ ⟨rfl, rfl⟩ [1] rfl rfl rfl rfl rfl rfl hl.1 (Nat.le_of_ble_eq_true rfl) dX9_canLeave_5 ⟨Nat.le_of_ble_eq_true rfl, Nat.le_of_ble_eq_true rfl⟩ (fun r_1 hr_1 => ?_)
  subst hr_1
  refine lv_if_eq (tgt := 26) hx hb dX9_canLeave_8 (by decide) (fun _ => ?_) (fun c_8 => absurd (by decide) c_8)
  refine lv_iconst (v := 0) hx hb dX9_canLeave_26 (by decide) ?_
  exact ret _ _ 0 dX9_canLeave_27 rfl rfl
