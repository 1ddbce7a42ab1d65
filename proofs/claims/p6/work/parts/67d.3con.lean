set_option maxRecDepth 100000 in
set_option maxHeartbeats 4000000 in
theorem c_addWordW (l : Launch) (D : va_G) (cI cB : ClassId) (sz : Nat) (h0 : Nat) (by_ : Nat) (T : Nat) (w : Int32) (fb : Nat → Int32) (ht : T + 4 ≤ 260) : MV (S := ((Nat → Int32))) l D cI cB yX5_addWord cX5_addWord 3 (rm 0 0) [.ref h0, .int w] [(h0, .inr (5, [.ref by_, .int (nI T)])), (by_, .inl (cI, 260, .inl fb))] sz (fun u => WBx T w fb u) (fun u : ((Nat → Int32)) => [(h0, .inr (5, [.ref by_, .int (nI (T + 4))])), (by_, .inl (cI, 260, .inl u))]) := by
  refine MV.of (by decide) (Nat.le_of_ble_eq_true rfl) ?_
  intro p e s m below meth c Q ls A X hin hN hP hK hD hA hl ret
  have hS : va_S A s.heap s.heap [] := va_S.rf
  obtain ⟨hx, hb, hml, hown, htb⟩ := id X
  have hl : lv_has ls 3 [(0, .ref h0), (1, .int w)] := hl
  refine lv_bipush (v := 24) hx hb dX5_addWord_0 (by decide) ?_
  refine lv_istore_n (lv' := [(2, .int 24), (0, .ref h0), (1, .int w)]) hx hb dX5_addWord_2 rfl hl (by decide) rfl (fun ls hl => ?_)
  refine lv_iload_n hx hb dX5_addWord_3 rfl (lv_at hl 0 rfl) ?_
  refine lv_if_lt (tgt := 51) hx hb dX5_addWord_4 (by decide) (fun c_4 => absurd c_4 (by decide)) (fun _ => ?_)
  refine lv_aload_n hx hb dX5_addWord_7 rfl (lv_at hl 1 rfl) ?_
  refine va_get (D := D) (ci := 5) (v := .int (nI T)) (C := RX5) (T := TX5) (N := 2) hx hb htb itX5 hown hK hP 0 rfl rfl 1 (by decide) (htb _ k_128) (fun _ h9 => h9) rfl dX5_addWord_8 ?_
  refine lv_aload_n hx hb dX5_addWord_11 rfl (lv_at hl 1 rfl) ?_
  refine va_get (D := D) (ci := 5) (v := .ref by_) (C := RX5) (T := TX5) (N := 2) hx hb htb itX5 hown hK hP 0 rfl rfl 0 (by decide) (htb _ k_126) (fun _ h9 => h9) rfl dX5_addWord_12 ?_
  refine va_alen hx hb hK hP 1 0 rfl rfl (v := 260) rfl dX5_addWord_15 ?_
  refine lv_icmp_ge (tgt := 45) hx hb dX5_addWord_16 (by decide) (fun c_16 => absurd c_16 (nI_ge (b := 260) (by omega) (by decide))) (fun _ => ?_)
  refine lv_aload_n hx hb dX5_addWord_19 rfl (lv_at hl 1 rfl) ?_
  refine va_get (D := D) (ci := 5) (v := .ref by_) (C := RX5) (T := TX5) (N := 2) hx hb htb itX5 hown hK hP 0 rfl rfl 0 (by decide) (htb _ k_126) (fun _ h9 => h9) rfl dX5_addWord_20 ?_
  refine lv_aload_n hx hb dX5_addWord_23 rfl (lv_at hl 1 rfl) ?_
  refine va_get (D := D) (ci := 5) (v := .int (nI T)) (C := RX5) (T := TX5) (N := 2) hx hb htb itX5 hown hK hP 0 rfl rfl 1 (by decide) (htb _ k_128) (fun _ h9 => h9) rfl dX5_addWord_24 ?_
  refine lv_iload_n hx hb dX5_addWord_27 rfl (lv_at hl 2 rfl) ?_
  refine lv_iload_n hx hb dX5_addWord_28 rfl (lv_at hl 0 rfl) ?_
  refine lv_ishr hx hb dX5_addWord_29 ?_
  refine lv_sipush (v := 255) hx hb dX5_addWord_30 (by decide) ?_
  refine lv_iand hx hb dX5_addWord_33 ?_
  refine lv_topi (fun x_1 ex_1 => ?_)
  refine va_iast hx hb hK hP hD hS 1 0 rfl rfl (vp_in_nI (by omega) (by decide)) dX5_addWord_34 (fun H locs hP hD hS => ?_)
  obtain ⟨f_2, ef_2⟩ : ∃ g : Nat → Int32, g = upd fb (Int32.toNatClampNeg (nI T)) x_1 := ⟨_, rfl⟩
  rw [← ef_2] at hP hD
  have hP : va_P D vwCl [(h0, .inr (5, [.ref by_, .int (nI T)])), (by_, .inl (cI, 260, .inl f_2))] H := hP
  have hD : va_D A [(h0, .inr (5, [.ref by_, .int (nI T)])), (by_, .inl (cI, 260, .inl f_2))] := hD
  refine lv_aload_n hx hb dX5_addWord_35 rfl (lv_at hl 1 rfl) ?_
  refine lv_dup hx hb dX5_addWord_36 rfl ?_
  refine va_get (D := D) (ci := 5) (v := .int (nI T)) (C := RX5) (T := TX5) (N := 2) hx hb htb itX5 hown hK hP 0 rfl rfl 1 (by decide) (htb _ k_128) (fun _ h9 => h9) rfl dX5_addWord_37 ?_
  refine lv_iconst (v := 1) hx hb dX5_addWord_40 (by decide) ?_
  refine lv_iadd hx hb dX5_addWord_41 ?_
  refine tv (z := (nI (T + 1))) (nI_1 T) ?_
  refine va_put (D := D) (ci := 5) (v := .int (nI (T + 1))) (ty := .int) (C := RX5) (T := TX5) (N := 2) hx hb htb itX5 tyX5 tyX5_ok nmX5 hown hK hP hD hS 0 rfl rfl 1 (by decide) (htb _ k_128) (fun _ h9 => h9) rfl (tyX5_ok 1 (by decide)) rfl rfl (Nat.le_of_ble_eq_true rfl) dX5_addWord_42 (fun H locs hP hD hS => ?_)
  have hP : va_P D vwCl [(h0, .inr (5, [.ref by_, .int (nI (T + 1))])), (by_, .inl (cI, 260, .inl f_2))] H := hP
  have hD : va_D A [(h0, .inr (5, [.ref by_, .int (nI (T + 1))])), (by_, .inl (cI, 260, .inl f_2))] := hD
  refine lv_iinc (v := 16) (lv' := [(2, .int 16), (0, .ref h0), (1, .int w)]) hx hb dX5_addWord_45 hl (k := 0) rfl (by decide) (by decide) rfl (fun ls hl => ?_)
  refine lv_goto (tgt := 3) hx hb dX5_addWord_48 (by decide) ?_
  refine lv_iload_n hx hb dX5_addWord_3 rfl (lv_at hl 0 rfl) ?_
  refine lv_if_lt (tgt := 51) hx hb dX5_addWord_4 (by decide) (fun c_4 => absurd c_4 (by decide)) (fun _ => ?_)
  refine lv_aload_n hx hb dX5_addWord_7 rfl (lv_at hl 1 rfl) ?_
  refine va_get (D := D) (ci := 5) (v := .int (nI (T + 1))) (C := RX5) (T := TX5) (N := 2) hx hb htb itX5 hown hK hP 0 rfl rfl 1 (by decide) (htb _ k_128) (fun _ h9 => h9) rfl dX5_addWord_8 ?_
  refine lv_aload_n hx hb dX5_addWord_11 rfl (lv_at hl 1 rfl) ?_
  refine va_get (D := D) (ci := 5) (v := .ref by_) (C := RX5) (T := TX5) (N := 2) hx hb htb itX5 hown hK hP 0 rfl rfl 0 (by decide) (htb _ k_126) (fun _ h9 => h9) rfl dX5_addWord_12 ?_
  refine va_alen hx hb hK hP 1 0 rfl rfl (v := 260) rfl dX5_addWord_15 ?_
  refine lv_icmp_ge (tgt := 45) hx hb dX5_addWord_16 (by decide) (fun c_16 => absurd c_16 (nI_ge (b := 260) (by omega) (by decide))) (fun _ => ?_)
  refine lv_aload_n hx hb dX5_addWord_19 rfl (lv_at hl 1 rfl) ?_
  refine va_get (D := D) (ci := 5) (v := .ref by_) (C := RX5) (T := TX5) (N := 2) hx hb htb itX5 hown hK hP 0 rfl rfl 0 (by decide) (htb _ k_126) (fun _ h9 => h9) rfl dX5_addWord_20 ?_
  refine lv_aload_n hx hb dX5_addWord_23 rfl (lv_at hl 1 rfl) ?_
  refine va_get (D := D) (ci := 5) (v := .int (nI (T + 1))) (C := RX5) (T := TX5) (N := 2) hx hb htb itX5 hown hK hP 0 rfl rfl 1 (by decide) (htb _ k_128) (fun _ h9 => h9) rfl dX5_addWord_24 ?_
  refine lv_iload_n hx hb dX5_addWord_27 rfl (lv_at hl 2 rfl) ?_
  refine lv_iload_n hx hb dX5_addWord_28 rfl (lv_at hl 0 rfl) ?_
  refine lv_ishr hx hb dX5_addWord_29 ?_
  refine lv_sipush (v := 255) hx hb dX5_addWord_30 (by decide) ?_
  refine lv_iand hx hb dX5_addWord_33 ?_
  refine lv_topi (fun x_3 ex_3 => ?_)
  refine va_iast hx hb hK hP hD hS 1 0 rfl rfl (vp_in_nI (by omega) (by decide)) dX5_addWord_34 (fun H locs hP hD hS => ?_)
  obtain ⟨f_4, ef_4⟩ : ∃ g : Nat → Int32, g = upd f_2 (Int32.toNatClampNeg (nI (T + 1))) x_3 := ⟨_, rfl⟩
  rw [← ef_4] at hP hD
  have hP : va_P D vwCl [(h0, .inr (5, [.ref by_, .int (nI (T + 1))])), (by_, .inl (cI, 260, .inl f_4))] H := hP
  have hD : va_D A [(h0, .inr (5, [.ref by_, .int (nI (T + 1))])), (by_, .inl (cI, 260, .inl f_4))] := hD
  refine lv_aload_n hx hb dX5_addWord_35 rfl (lv_at hl 1 rfl) ?_
  refine lv_dup hx hb dX5_addWord_36 rfl ?_
  refine va_get (D := D) (ci := 5) (v := .int (nI (T + 1))) (C := RX5) (T := TX5) (N := 2) hx hb htb itX5 hown hK hP 0 rfl rfl 1 (by decide) (htb _ k_128) (fun _ h9 => h9) rfl dX5_addWord_37 ?_
  refine lv_iconst (v := 1) hx hb dX5_addWord_40 (by decide) ?_
  refine lv_iadd hx hb dX5_addWord_41 ?_
  refine tv (z := (nI (T + 2))) (nI_1 (T + 1)) ?_
  refine va_put (D := D) (ci := 5) (v := .int (nI (T + 2))) (ty := .int) (C := RX5) (T := TX5) (N := 2) hx hb htb itX5 tyX5 tyX5_ok nmX5 hown hK hP hD hS 0 rfl rfl 1 (by decide) (htb _ k_128) (fun _ h9 => h9) rfl (tyX5_ok 1 (by decide)) rfl rfl (Nat.le_of_ble_eq_true rfl) dX5_addWord_42 (fun H locs hP hD hS => ?_)
  have hP : va_P D vwCl [(h0, .inr (5, [.ref by_, .int (nI (T + 2))])), (by_, .inl (cI, 260, .inl f_4))] H := hP
  have hD : va_D A [(h0, .inr (5, [.ref by_, .int (nI (T + 2))])), (by_, .inl (cI, 260, .inl f_4))] := hD
  refine lv_iinc (v := 8) (lv' := [(2, .int 8), (0, .ref h0), (1, .int w)]) hx hb dX5_addWord_45 hl (k := 0) rfl (by decide) (by decide) rfl (fun ls hl => ?_)
  refine lv_goto (tgt := 3) hx hb dX5_addWord_48 (by decide) ?_
  refine lv_iload_n hx hb dX5_addWord_3 rfl (lv_at hl 0 rfl) ?_
  refine lv_if_lt (tgt := 51) hx hb dX5_addWord_4 (by decide) (fun c_4 => absurd c_4 (by decide)) (fun _ => ?_)
  refine lv_aload_n hx hb dX5_addWord_7 rfl (lv_at hl 1 rfl) ?_
  refine va_get (D := D) (ci := 5) (v := .int (nI (T + 2))) (C := RX5) (T := TX5) (N := 2) hx hb htb itX5 hown hK hP 0 rfl rfl 1 (by decide) (htb _ k_128) (fun _ h9 => h9) rfl dX5_addWord_8 ?_
  refine lv_aload_n hx hb dX5_addWord_11 rfl (lv_at hl 1 rfl) ?_
  refine va_get (D := D) (ci := 5) (v := .ref by_) (C := RX5) (T := TX5) (N := 2) hx hb htb itX5 hown hK hP 0 rfl rfl 0 (by decide) (htb _ k_126) (fun _ h9 => h9) rfl dX5_addWord_12 ?_
  refine va_alen hx hb hK hP 1 0 rfl rfl (v := 260) rfl dX5_addWord_15 ?_
  refine lv_icmp_ge (tgt := 45) hx hb dX5_addWord_16 (by decide) (fun c_16 => absurd c_16 (nI_ge (b := 260) (by omega) (by decide))) (fun _ => ?_)
  refine lv_aload_n hx hb dX5_addWord_19 rfl (lv_at hl 1 rfl) ?_
  refine va_get (D := D) (ci := 5) (v := .ref by_) (C := RX5) (T := TX5) (N := 2) hx hb htb itX5 hown hK hP 0 rfl rfl 0 (by decide) (htb _ k_126) (fun _ h9 => h9) rfl dX5_addWord_20 ?_
  refine lv_aload_n hx hb dX5_addWord_23 rfl (lv_at hl 1 rfl) ?_
  refine va_get (D := D) (ci := 5) (v := .int (nI (T + 2))) (C := RX5) (T := TX5) (N := 2) hx hb htb itX5 hown hK hP 0 rfl rfl 1 (by decide) (htb _ k_128) (fun _ h9 => h9) rfl dX5_addWord_24 ?_
  refine lv_iload_n hx hb dX5_addWord_27 rfl (lv_at hl 2 rfl) ?_
  refine lv_iload_n hx hb dX5_addWord_28 rfl (lv_at hl 0 rfl) ?_
  refine lv_ishr hx hb dX5_addWord_29 ?_
  refine lv_sipush (v := 255) hx hb dX5_addWord_30 (by decide) ?_
  refine lv_iand hx hb dX5_addWord_33 ?_
  refine lv_topi (fun x_5 ex_5 => ?_)
  refine va_iast hx hb hK hP hD hS 1 0 rfl rfl (vp_in_nI (by omega) (by decide)) dX5_addWord_34 (fun H locs hP hD hS => ?_)
  obtain ⟨f_6, ef_6⟩ : ∃ g : Nat → Int32, g = upd f_4 (Int32.toNatClampNeg (nI (T + 2))) x_5 := ⟨_, rfl⟩
  rw [← ef_6] at hP hD
  have hP : va_P D vwCl [(h0, .inr (5, [.ref by_, .int (nI (T + 2))])), (by_, .inl (cI, 260, .inl f_6))] H := hP
  have hD : va_D A [(h0, .inr (5, [.ref by_, .int (nI (T + 2))])), (by_, .inl (cI, 260, .inl f_6))] := hD
  refine lv_aload_n hx hb dX5_addWord_35 rfl (lv_at hl 1 rfl) ?_
  refine lv_dup hx hb dX5_addWord_36 rfl ?_
  refine va_get (D := D) (ci := 5) (v := .int (nI (T + 2))) (C := RX5) (T := TX5) (N := 2) hx hb htb itX5 hown hK hP 0 rfl rfl 1 (by decide) (htb _ k_128) (fun _ h9 => h9) rfl dX5_addWord_37 ?_
  refine lv_iconst (v := 1) hx hb dX5_addWord_40 (by decide) ?_
  refine lv_iadd hx hb dX5_addWord_41 ?_
  refine tv (z := (nI (T + 3))) (nI_1 (T + 2)) ?_
  refine va_put (D := D) (ci := 5) (v := .int (nI (T + 3))) (ty := .int) (C := RX5) (T := TX5) (N := 2) hx hb htb itX5 tyX5 tyX5_ok nmX5 hown hK hP hD hS 0 rfl rfl 1 (by decide) (htb _ k_128) (fun _ h9 => h9) rfl (tyX5_ok 1 (by decide)) rfl rfl (Nat.le_of_ble_eq_true rfl) dX5_addWord_42 (fun H locs hP hD hS => ?_)
  have hP : va_P D vwCl [(h0, .inr (5, [.ref by_, .int (nI (T + 3))])), (by_, .inl (cI, 260, .inl f_6))] H := hP
  have hD : va_D A [(h0, .inr (5, [.ref by_, .int (nI (T + 3))])), (by_, .inl (cI, 260, .inl f_6))] := hD
  refine lv_iinc (v := 0) (lv' := [(2, .int 0), (0, .ref h0), (1, .int w)]) hx hb dX5_addWord_45 hl (k := 0) rfl (by decide) (by decide) rfl (fun ls hl => ?_)
  refine lv_goto (tgt := 3) hx hb dX5_addWord_48 (by decide) ?_
  refine lv_iload_n hx hb dX5_addWord_3 rfl (lv_at hl 0 rfl) ?_
  refine lv_if_lt (tgt := 51) hx hb dX5_addWord_4 (by decide) (fun c_4 => absurd c_4 (by decide)) (fun _ => ?_)
  refine lv_aload_n hx hb dX5_addWord_7 rfl (lv_at hl 1 rfl) ?_
  refine va_get (D := D) (ci := 5) (v := .int (nI (T + 3))) (C := RX5) (T := TX5) (N := 2) hx hb htb itX5 hown hK hP 0 rfl rfl 1 (by decide) (htb _ k_128) (fun _ h9 => h9) rfl dX5_addWord_8 ?_
  refine lv_aload_n hx hb dX5_addWord_11 rfl (lv_at hl 1 rfl) ?_
  refine va_get (D := D) (ci := 5) (v := .ref by_) (C := RX5) (T := TX5) (N := 2) hx hb htb itX5 hown hK hP 0 rfl rfl 0 (by decide) (htb _ k_126) (fun _ h9 => h9) rfl dX5_addWord_12 ?_
  refine va_alen hx hb hK hP 1 0 rfl rfl (v := 260) rfl dX5_addWord_15 ?_
  refine lv_icmp_ge (tgt := 45) hx hb dX5_addWord_16 (by decide) (fun c_16 => absurd c_16 (nI_ge (b := 260) (by omega) (by decide))) (fun _ => ?_)
  refine lv_aload_n hx hb dX5_addWord_19 rfl (lv_at hl 1 rfl) ?_
  refine va_get (D := D) (ci := 5) (v := .ref by_) (C := RX5) (T := TX5) (N := 2) hx hb htb itX5 hown hK hP 0 rfl rfl 0 (by decide) (htb _ k_126) (fun _ h9 => h9) rfl dX5_addWord_20 ?_
  refine lv_aload_n hx hb dX5_addWord_23 rfl (lv_at hl 1 rfl) ?_
  refine va_get (D := D) (ci := 5) (v := .int (nI (T + 3))) (C := RX5) (T := TX5) (N := 2) hx hb htb itX5 hown hK hP 0 rfl rfl 1 (by decide) (htb _ k_128) (fun _ h9 => h9) rfl dX5_addWord_24 ?_
  refine lv_iload_n hx hb dX5_addWord_27 rfl (lv_at hl 2 rfl) ?_
  refine lv_iload_n hx hb dX5_addWord_28 rfl (lv_at hl 0 rfl) ?_
  refine lv_ishr hx hb dX5_addWord_29 ?_
  refine lv_sipush (v := 255) hx hb dX5_addWord_30 (by decide) ?_
  refine lv_iand hx hb dX5_addWord_33 ?_
  refine lv_topi (fun x_7 ex_7 => ?_)
  refine va_iast hx hb hK hP hD hS 1 0 rfl rfl (vp_in_nI (by omega) (by decide)) dX5_addWord_34 (fun H locs hP hD hS => ?_)
  obtain ⟨f_8, ef_8⟩ : ∃ g : Nat → Int32, g = upd f_6 (Int32.toNatClampNeg (nI (T + 3))) x_7 := ⟨_, rfl⟩
  rw [← ef_8] at hP hD
  have hP : va_P D vwCl [(h0, .inr (5, [.ref by_, .int (nI (T + 3))])), (by_, .inl (cI, 260, .inl f_8))] H := hP
  have hD : va_D A [(h0, .inr (5, [.ref by_, .int (nI (T + 3))])), (by_, .inl (cI, 260, .inl f_8))] := hD
  refine lv_aload_n hx hb dX5_addWord_35 rfl (lv_at hl 1 rfl) ?_
  refine lv_dup hx hb dX5_addWord_36 rfl ?_
  refine va_get (D := D) (ci := 5) (v := .int (nI (T + 3))) (C := RX5) (T := TX5) (N := 2) hx hb htb itX5 hown hK hP 0 rfl rfl 1 (by decide) (htb _ k_128) (fun _ h9 => h9) rfl dX5_addWord_37 ?_
  refine lv_iconst (v := 1) hx hb dX5_addWord_40 (by decide) ?_
  refine lv_iadd hx hb dX5_addWord_41 ?_
  refine tv (z := (nI (T + 4))) (nI_1 (T + 3)) ?_
  refine va_put (D := D) (ci := 5) (v := .int (nI (T + 4))) (ty := .int) (C := RX5) (T := TX5) (N := 2) hx hb htb itX5 tyX5 tyX5_ok nmX5 hown hK hP hD hS 0 rfl rfl 1 (by decide) (htb _ k_128) (fun _ h9 => h9) rfl (tyX5_ok 1 (by decide)) rfl rfl (Nat.le_of_ble_eq_true rfl) dX5_addWord_42 (fun H locs hP hD hS => ?_)
  have hP : va_P D vwCl [(h0, .inr (5, [.ref by_, .int (nI (T + 4))])), (by_, .inl (cI, 260, .inl f_8))] H := hP
  have hD : va_D A [(h0, .inr (5, [.ref by_, .int (nI (T + 4))])), (by_, .inl (cI, 260, .inl f_8))] := hD
  refine lv_iinc (v := (-8)) (lv' := [(2, .int (-8)), (0, .ref h0), (1, .int w)]) hx hb dX5_addWord_45 hl (k := 0) rfl (by decide) (by decide) rfl (fun ls hl => ?_)
  refine lv_goto (tgt := 3) hx hb dX5_addWord_48 (by decide) ?_
  refine lv_iload_n hx hb dX5_addWord_3 rfl (lv_at hl 0 rfl) ?_
  refine lv_if_lt (tgt := 51) hx hb dX5_addWord_4 (by decide) (fun _ => ?_) (fun c_4 => absurd (by decide) c_4)
  exact ret _ _ _ _ f_8 dX5_addWord_51 (by have g0 := ef_2; rw [nI_clamp (by omega), ex_1] at g0; have g1 := ef_4; rw [nI_clamp (by omega), ex_3] at g1; have g2 := ef_6; rw [nI_clamp (by omega), ex_5] at g2; have g3 := ef_8; rw [nI_clamp (by omega), ex_7] at g3; exact wb4 g0 g1 g2 g3) (hP.sub [0, 1] rfl) (hD.sub [0, 1] (by decide) rfl) hS

set_option maxRecDepth 100000 in
set_option maxHeartbeats 4000000 in
theorem c_feedW (l : Launch) (D : va_G) (cI cB : ClassId) (sz : Nat) (h0 : Nat) (tp : Nat) (tw : Nat) (nw : Nat) (kp : Nat) (lw : Nat) (lr : Nat) (dd : Nat) (vv : Nat) (tl : Nat) (sc : Nat) (hk : Int32) (by_ : Nat) (T : Nat) (fb : Nat → Int32) (v1 : Int32) (v2 : Int32) (v3 : Int32) (v4 : Int32) (v5 : Int32) (hT : T ≤ 260) : MI (S := ((Nat) × (Nat → Int32))) l D cI cB yX9_feed cX9_feed 6 .int (rm 1 22) [.ref h0, .int v1, .int v2, .int v3, .int v4, .int v5] [(h0, .inr (9, [.ref tp, .ref tw, .ref nw, .ref kp, .ref lw, .ref lr, .ref dd, .ref vv, .ref tl, .ref sc, .int hk])), (tp, .inr (5, [.ref by_, .int (nI T)])), (by_, .inl (cI, 260, .inl fb))] sz (fun r u => (u.1 ≤ 260 ∧ (T ≤ 240 → u.1 = T + 20 ∧ r = nI (T + 20)) ∧ (¬ T ≤ 240 → u.1 = T ∧ r = -1)) ∧ (T ≤ 240 → FDX T v1 v2 v3 v4 v5 fb u.2) ∧ (¬ T ≤ 240 → u.2 = fb)) (fun u : ((Nat) × (Nat → Int32)) => [(h0, .inr (9, [.ref tp, .ref tw, .ref nw, .ref kp, .ref lw, .ref lr, .ref dd, .ref vv, .ref tl, .ref sc, .int hk])), (tp, .inr (5, [.ref by_, .int (nI u.1)])), (by_, .inl (cI, 260, .inl u.2))]) := by
  refine MI.of (by decide) (Nat.le_of_ble_eq_true rfl) ?_
  intro p e s m below meth c Q ls A X hin hN hP hK hD hA hl ret
  have hS : va_S A s.heap s.heap [] := va_S.rf
  obtain ⟨hx, hb, hml, hown, htb⟩ := id X
  have hl : lv_has ls 6 [(0, .ref h0), (1, .int v1), (2, .int v2), (3, .int v3), (4, .int v4), (5, .int v5)] := hl
  refine lv_aload_n hx hb dX9_feed_0 rfl (lv_at hl 0 rfl) ?_
  refine va_get (D := D) (ci := 9) (v := .ref tp) (C := RX9) (T := TX9) (N := 11) hx hb htb itX9 hown hK hP 0 rfl rfl 0 (by decide) (htb _ k_393) (fun _ h9 => h9) rfl dX9_feed_1 ?_
  refine lv_bipush (v := 20) hx hb dX9_feed_4 (by decide) ?_
  refine cVR (As := [.int 20]) (rest := []) (n := 1) (ci := 5) (q0 := 0) X hN hK hP (c_X5_hasRoomFor l D cI cB tp by_ T fb hT) (gV k_446 k_447 k_448 k_93 k_449) (by decide +kernel) ⟨Nat.le_of_ble_eq_true rfl, Nat.le_of_ble_eq_true rfl⟩ ⟨rfl, rfl⟩ [1, 2] rfl rfl rfl rfl rfl rfl hl.1 (Nat.le_of_ble_eq_true rfl) dX9_feed_6 ⟨Nat.le_of_ble_eq_true rfl, Nat.le_of_ble_eq_true rfl⟩ (fun r_1 hr_1 => ?_)
  subst hr_1
  refine lv_if_ne (tgt := 14) hx hb dX9_feed_9 (by decide) (fun c_9 => ?_) (fun c_9 => ?_)
  · refine lv_aload_n hx hb dX9_feed_14 rfl (lv_at hl 0 rfl) ?_
    refine va_get (D := D) (ci := 9) (v := .ref tp) (C := RX9) (T := TX9) (N := 11) hx hb htb itX9 hown hK hP 0 rfl rfl 0 (by decide) (htb _ k_393) (fun _ h9 => h9) rfl dX9_feed_15 ?_
    refine lv_iload_n hx hb dX9_feed_18 rfl (lv_at hl 1 rfl) ?_
    refine cVV (As := [.int v1]) (rest := []) (n := 1) (ci := 5) (q0 := 0) (wr := [(h0, .inr (9, [.ref tp, .ref tw, .ref nw, .ref kp, .ref lw, .ref lr, .ref dd, .ref vv, .ref tl, .ref sc, .int hk]))]) X hN hK hP hD hS hA (c_addWordW l D cI cB _ tp by_ T v1 fb (by have := bIt c_9; omega)) (gV k_450 k_451 k_452 k_93 k_453) (by decide +kernel) ⟨Nat.le_of_ble_eq_true rfl, Nat.le_of_ble_eq_true rfl⟩ ⟨rfl, rfl⟩ [1, 2] [0] rfl rfl (by decide) (by decide) rfl rfl rfl rfl rfl hl.1 (Nat.le_of_ble_eq_true rfl) dX9_feed_19 ⟨Nat.le_of_ble_eq_true rfl, Nat.le_of_ble_eq_true rfl⟩ (fun u H locs hw_4 hP hD hS => ?_)
    obtain ⟨bo_3, rfl⟩ : ∃ z, z = u := ⟨_, rfl⟩
    try dsimp only at hw_4
    have hP : va_P D vwCl [(h0, .inr (9, [.ref tp, .ref tw, .ref nw, .ref kp, .ref lw, .ref lr, .ref dd, .ref vv, .ref tl, .ref sc, .int hk])), (tp, .inr (5, [.ref by_, .int (nI (T + 4))])), (by_, .inl (cI, 260, .inl bo_3))] H := hP
    have hD : va_D A [(h0, .inr (9, [.ref tp, .ref tw, .ref nw, .ref kp, .ref lw, .ref lr, .ref dd, .ref vv, .ref tl, .ref sc, .int hk])), (tp, .inr (5, [.ref by_, .int (nI (T + 4))])), (by_, .inl (cI, 260, .inl bo_3))] := hD
    refine lv_aload_n hx hb dX9_feed_22 rfl (lv_at hl 0 rfl) ?_
    refine va_get (D := D) (ci := 9) (v := .ref tp) (C := RX9) (T := TX9) (N := 11) hx hb htb itX9 hown hK hP 0 rfl rfl 0 (by decide) (htb _ k_393) (fun _ h9 => h9) rfl dX9_feed_23 ?_
    refine lv_iload_n hx hb dX9_feed_26 rfl (lv_at hl 2 rfl) ?_
    refine cVV (As := [.int v2]) (rest := []) (n := 1) (ci := 5) (q0 := 0) (wr := [(h0, .inr (9, [.ref tp, .ref tw, .ref nw, .ref kp, .ref lw, .ref lr, .ref dd, .ref vv, .ref tl, .ref sc, .int hk]))]) X hN hK hP hD hS hA (c_addWordW l D cI cB _ tp by_ (T + 4) v2 bo_3 (by have := bIt c_9; omega)) (gV k_450 k_451 k_452 k_93 k_453) (by decide +kernel) ⟨Nat.le_of_ble_eq_true rfl, Nat.le_of_ble_eq_true rfl⟩ ⟨rfl, rfl⟩ [1, 2] [0] rfl rfl (by decide) (by decide) rfl rfl rfl rfl rfl hl.1 (Nat.le_of_ble_eq_true rfl) dX9_feed_27 ⟨Nat.le_of_ble_eq_true rfl, Nat.le_of_ble_eq_true rfl⟩ (fun u H locs hw_7 hP hD hS => ?_)
    obtain ⟨bo_6, rfl⟩ : ∃ z, z = u := ⟨_, rfl⟩
    try dsimp only at hw_7
    have hP : va_P D vwCl [(h0, .inr (9, [.ref tp, .ref tw, .ref nw, .ref kp, .ref lw, .ref lr, .ref dd, .ref vv, .ref tl, .ref sc, .int hk])), (tp, .inr (5, [.ref by_, .int (nI ((T + 4) + 4))])), (by_, .inl (cI, 260, .inl bo_6))] H := hP
    have hD : va_D A [(h0, .inr (9, [.ref tp, .ref tw, .ref nw, .ref kp, .ref lw, .ref lr, .ref dd, .ref vv, .ref tl, .ref sc, .int hk])), (tp, .inr (5, [.ref by_, .int (nI ((T + 4) + 4))])), (by_, .inl (cI, 260, .inl bo_6))] := hD
    refine lv_aload_n hx hb dX9_feed_30 rfl (lv_at hl 0 rfl) ?_
    refine va_get (D := D) (ci := 9) (v := .ref tp) (C := RX9) (T := TX9) (N := 11) hx hb htb itX9 hown hK hP 0 rfl rfl 0 (by decide) (htb _ k_393) (fun _ h9 => h9) rfl dX9_feed_31 ?_
    refine lv_iload_n hx hb dX9_feed_34 rfl (lv_at hl 3 rfl) ?_
    refine cVV (As := [.int v3]) (rest := []) (n := 1) (ci := 5) (q0 := 0) (wr := [(h0, .inr (9, [.ref tp, .ref tw, .ref nw, .ref kp, .ref lw, .ref lr, .ref dd, .ref vv, .ref tl, .ref sc, .int hk]))]) X hN hK hP hD hS hA (c_addWordW l D cI cB _ tp by_ ((T + 4) + 4) v3 bo_6 (by have := bIt c_9; omega)) (gV k_450 k_451 k_452 k_93 k_453) (by decide +kernel) ⟨Nat.le_of_ble_eq_true rfl, Nat.le_of_ble_eq_true rfl⟩ ⟨rfl, rfl⟩ [1, 2] [0] rfl rfl (by decide) (by decide) rfl rfl rfl rfl rfl hl.1 (Nat.le_of_ble_eq_true rfl) dX9_feed_35 ⟨Nat.le_of_ble_eq_true rfl, Nat.le_of_ble_eq_true rfl⟩ (fun u H locs hw_10 hP hD hS => ?_)
    obtain ⟨bo_9, rfl⟩ : ∃ z, z = u := ⟨_, rfl⟩
    try dsimp only at hw_10
    have hP : va_P D vwCl [(h0, .inr (9, [.ref tp, .ref tw, .ref nw, .ref kp, .ref lw, .ref lr, .ref dd, .ref vv, .ref tl, .ref sc, .int hk])), (tp, .inr (5, [.ref by_, .int (nI (((T + 4) + 4) + 4))])), (by_, .inl (cI, 260, .inl bo_9))] H := hP
    have hD : va_D A [(h0, .inr (9, [.ref tp, .ref tw, .ref nw, .ref kp, .ref lw, .ref lr, .ref dd, .ref vv, .ref tl, .ref sc, .int hk])), (tp, .inr (5, [.ref by_, .int (nI (((T + 4) + 4) + 4))])), (by_, .inl (cI, 260, .inl bo_9))] := hD
    refine lv_aload_n hx hb dX9_feed_38 rfl (lv_at hl 0 rfl) ?_
    refine va_get (D := D) (ci := 9) (v := .ref tp) (C := RX9) (T := TX9) (N := 11) hx hb htb itX9 hown hK hP 0 rfl rfl 0 (by decide) (htb _ k_393) (fun _ h9 => h9) rfl dX9_feed_39 ?_
    refine lv_iload hx hb dX9_feed_42 (lv_at hl 4 rfl) ?_
    refine cVV (As := [.int v4]) (rest := []) (n := 1) (ci := 5) (q0 := 0) (wr := [(h0, .inr (9, [.ref tp, .ref tw, .ref nw, .ref kp, .ref lw, .ref lr, .ref dd, .ref vv, .ref tl, .ref sc, .int hk]))]) X hN hK hP hD hS hA (c_addWordW l D cI cB _ tp by_ (((T + 4) + 4) + 4) v4 bo_9 (by have := bIt c_9; omega)) (gV k_450 k_451 k_452 k_93 k_453) (by decide +kernel) ⟨Nat.le_of_ble_eq_true rfl, Nat.le_of_ble_eq_true rfl⟩ ⟨rfl, rfl⟩ [1, 2] [0] rfl rfl (by decide) (by decide) rfl rfl rfl rfl rfl hl.1 (Nat.le_of_ble_eq_true rfl) dX9_feed_44 ⟨Nat.le_of_ble_eq_true rfl, Nat.le_of_ble_eq_true rfl⟩ (fun u H locs hw_13 hP hD hS => ?_)
    obtain ⟨bo_12, rfl⟩ : ∃ z, z = u := ⟨_, rfl⟩
    try dsimp only at hw_13
    have hP : va_P D vwCl [(h0, .inr (9, [.ref tp, .ref tw, .ref nw, .ref kp, .ref lw, .ref lr, .ref dd, .ref vv, .ref tl, .ref sc, .int hk])), (tp, .inr (5, [.ref by_, .int (nI ((((T + 4) + 4) + 4) + 4))])), (by_, .inl (cI, 260, .inl bo_12))] H := hP
    have hD : va_D A [(h0, .inr (9, [.ref tp, .ref tw, .ref nw, .ref kp, .ref lw, .ref lr, .ref dd, .ref vv, .ref tl, .ref sc, .int hk])), (tp, .inr (5, [.ref by_, .int (nI ((((T + 4) + 4) + 4) + 4))])), (by_, .inl (cI, 260, .inl bo_12))] := hD
    refine lv_aload_n hx hb dX9_feed_47 rfl (lv_at hl 0 rfl) ?_
    refine va_get (D := D) (ci := 9) (v := .ref tp) (C := RX9) (T := TX9) (N := 11) hx hb htb itX9 hown hK hP 0 rfl rfl 0 (by decide) (htb _ k_393) (fun _ h9 => h9) rfl dX9_feed_48 ?_
    refine lv_iload hx hb dX9_feed_51 (lv_at hl 5 rfl) ?_
    refine cVV (As := [.int v5]) (rest := []) (n := 1) (ci := 5) (q0 := 0) (wr := [(h0, .inr (9, [.ref tp, .ref tw, .ref nw, .ref kp, .ref lw, .ref lr, .ref dd, .ref vv, .ref tl, .ref sc, .int hk]))]) X hN hK hP hD hS hA (c_addWordW l D cI cB _ tp by_ ((((T + 4) + 4) + 4) + 4) v5 bo_12 (by have := bIt c_9; omega)) (gV k_450 k_451 k_452 k_93 k_453) (by decide +kernel) ⟨Nat.le_of_ble_eq_true rfl, Nat.le_of_ble_eq_true rfl⟩ ⟨rfl, rfl⟩ [1, 2] [0] rfl rfl (by decide) (by decide) rfl rfl rfl rfl rfl hl.1 (Nat.le_of_ble_eq_true rfl) dX9_feed_53 ⟨Nat.le_of_ble_eq_true rfl, Nat.le_of_ble_eq_true rfl⟩ (fun u H locs hw_16 hP hD hS => ?_)
    obtain ⟨bo_15, rfl⟩ : ∃ z, z = u := ⟨_, rfl⟩
    try dsimp only at hw_16
    have hP : va_P D vwCl [(h0, .inr (9, [.ref tp, .ref tw, .ref nw, .ref kp, .ref lw, .ref lr, .ref dd, .ref vv, .ref tl, .ref sc, .int hk])), (tp, .inr (5, [.ref by_, .int (nI (((((T + 4) + 4) + 4) + 4) + 4))])), (by_, .inl (cI, 260, .inl bo_15))] H := hP
    have hD : va_D A [(h0, .inr (9, [.ref tp, .ref tw, .ref nw, .ref kp, .ref lw, .ref lr, .ref dd, .ref vv, .ref tl, .ref sc, .int hk])), (tp, .inr (5, [.ref by_, .int (nI (((((T + 4) + 4) + 4) + 4) + 4))])), (by_, .inl (cI, 260, .inl bo_15))] := hD
    refine lv_aload_n hx hb dX9_feed_56 rfl (lv_at hl 0 rfl) ?_
    refine va_get (D := D) (ci := 9) (v := .ref tp) (C := RX9) (T := TX9) (N := 11) hx hb htb itX9 hown hK hP 0 rfl rfl 0 (by decide) (htb _ k_393) (fun _ h9 => h9) rfl dX9_feed_57 ?_
    refine va_getN (D := D) (ci := 5) (v := .int (nI (((((T + 4) + 4) + 4) + 4) + 4))) (C := RX5) (T := TX5) (N := 2) hx hb htb itX5 hown hK hP 1 rfl rfl 1 (by decide) (va_Nw.use rfl (hN _ n_130 rfl)) (fun _ h9 => h9) rfl dX9_feed_60 ?_
    exact ret _ _ _ _ (nI (((((T + 4) + 4) + 4) + 4) + 4)) ((((((T + 4) + 4) + 4) + 4) + 4), bo_15) dX9_feed_63 rfl (⟨⟨by have := bIt c_9; omega, fun _ => ⟨by omega, congrArg nI (by omega)⟩, fun h => absurd (bIt c_9) h⟩, fun _ => ⟨_, _, _, _, hw_4, hw_7, hw_10, hw_13, hw_16⟩, fun h => absurd (bIt c_9) h⟩) (hP.sub [0, 1, 2] rfl) (hD.sub [0, 1, 2] (by decide) rfl) hS
  · refine lv_iconst (v := (-1)) hx hb dX9_feed_12 (by decide) ?_
    exact ret _ _ _ _ (-1) (T, fb) dX9_feed_13 rfl (⟨⟨hT, fun h => absurd h (bIf c_9), fun _ => ⟨rfl, rfl⟩⟩, fun h => absurd h (bIf c_9), fun _ => rfl⟩) (hP.sub [0, 1, 2] rfl) (hD.sub [0, 1, 2] (by decide) rfl) hS

set_option maxRecDepth 100000 in
set_option maxHeartbeats 4000000 in
theorem c_typesW (l : Launch) (D : va_G) (cI cB : ClassId) (sz : Nat) (h0 : Nat) (a_now : Nat) (a_aside : Nat) (a_kept : Nat) (a_keptFrom : Nat) (a_keptTo : Nat) (a_capOf : Nat) (a_leaveFrom : Nat) (a_leaveTo : Nat) (a_amountOf : Nat) (a_doerMany : Nat) (a_doerOf : Nat) (a_tape : Nat) (a_said : Nat) (a_waitsAt : Nat) (a_saidLetter : Nat) (a_saidFrom : Nat) (a_saidHalf : Nat) (a_saidTo : Nat) (a_codes : Nat) (a_clauseOf : Nat) (a_codeFrom : Nat) (a_codeHalf : Nat) (a_codeTo : Nat) (a_stack : Nat) (a_facts : Nat) (a_lineChore : Nat) (a_lineMany : Nat) (a_lineDoer : Nat) (a_newFrom : Nat) (a_newTo : Nat) (a_goFrom : Nat) (a_goTo : Nat) (a_idleFrom : Nat) (a_idleTo : Nat) (a_moreOf : Nat) (a_firstOf : Nat) (a_leftOf : Nat) (a_didOf : Nat) (a_costBy : Nat) (a_gainBy : Nat) (a_hiredOf : Nat) (a_hiredBest : Nat) (a_hiredTo : Nat) (a_turnOf : Nat) (a_turnWho : Nat) (pe : Int32) (ch : Int32) (rt : Int32) (pl : Int32) (le0 : Int32) (fa : Int32) (nu : Int32) (op_ : Int32) (cm : Int32) (wt : Int32) (sm : Int32) (li : Int32) (rv : Int32) (du : Int32) (cl : Int32) (gd : Int32) (sd : Int32) (ik : Int32) (T : Nat) (kc : Nat) (w : Int32) (ft : Nat → Int32) (ht : T + 4 ≤ 260) : MV (S := ((Nat → Int32))) l D cI cB yX10_types cX10_types 3 (rm 0 0) [.ref h0, .int w] [(h0, .inr (10, [.ref a_now, .ref a_aside, .ref a_kept, .ref a_keptFrom, .ref a_keptTo, .ref a_capOf, .ref a_leaveFrom, .ref a_leaveTo, .ref a_amountOf, .ref a_doerMany, .ref a_doerOf, .int pe, .int ch, .int rt, .ref a_tape, .int (nI T), .int pl, .int le0, .int fa, .int nu, .int op_, .int cm, .int wt, .int sm, .int (nI kc), .ref a_said, .ref a_waitsAt, .ref a_saidLetter, .ref a_saidFrom, .ref a_saidHalf, .ref a_saidTo, .ref a_codes, .ref a_clauseOf, .ref a_codeFrom, .ref a_codeHalf, .ref a_codeTo, .ref a_stack, .ref a_facts, .ref a_lineChore, .ref a_lineMany, .ref a_lineDoer, .ref a_newFrom, .ref a_newTo, .int li, .ref a_goFrom, .ref a_goTo, .ref a_idleFrom, .ref a_idleTo, .ref a_moreOf, .ref a_firstOf, .ref a_leftOf, .ref a_didOf, .int rv, .int du, .int cl, .int gd, .ref a_costBy, .int sd, .ref a_gainBy, .ref a_hiredOf, .ref a_hiredBest, .ref a_hiredTo, .ref a_turnOf, .ref a_turnWho, .int ik])), (a_tape, .inl (cB, 260, .inl ft))] sz (fun u => WBr T w ft u) (fun u : ((Nat → Int32)) => [(h0, .inr (10, [.ref a_now, .ref a_aside, .ref a_kept, .ref a_keptFrom, .ref a_keptTo, .ref a_capOf, .ref a_leaveFrom, .ref a_leaveTo, .ref a_amountOf, .ref a_doerMany, .ref a_doerOf, .int pe, .int ch, .int rt, .ref a_tape, .int (nI (T + 4)), .int pl, .int le0, .int fa, .int nu, .int op_, .int cm, .int wt, .int sm, .int (nI kc), .ref a_said, .ref a_waitsAt, .ref a_saidLetter, .ref a_saidFrom, .ref a_saidHalf, .ref a_saidTo, .ref a_codes, .ref a_clauseOf, .ref a_codeFrom, .ref a_codeHalf, .ref a_codeTo, .ref a_stack, .ref a_facts, .ref a_lineChore, .ref a_lineMany, .ref a_lineDoer, .ref a_newFrom, .ref a_newTo, .int li, .ref a_goFrom, .ref a_goTo, .ref a_idleFrom, .ref a_idleTo, .ref a_moreOf, .ref a_firstOf, .ref a_leftOf, .ref a_didOf, .int rv, .int du, .int cl, .int gd, .ref a_costBy, .int sd, .ref a_gainBy, .ref a_hiredOf, .ref a_hiredBest, .ref a_hiredTo, .ref a_turnOf, .ref a_turnWho, .int ik])), (a_tape, .inl (cB, 260, .inl u))]) := by
  refine MV.of (by decide) (Nat.le_of_ble_eq_true rfl) ?_
  intro p e s m below meth c Q ls A X hin hN hP hK hD hA hl ret
  have hS : va_S A s.heap s.heap [] := va_S.rf
  obtain ⟨hx, hb, hml, hown, htb⟩ := id X
  have hl : lv_has ls 3 [(0, .ref h0), (1, .int w)] := hl
  refine lv_iconst (v := 3) hx hb dX10_types_0 (by decide) ?_
  refine lv_istore_n (lv' := [(2, .int 3), (0, .ref h0), (1, .int w)]) hx hb dX10_types_1 rfl hl (by decide) rfl (fun ls hl => ?_)
  refine lv_iload_n hx hb dX10_types_2 rfl (lv_at hl 0 rfl) ?_
  refine lv_if_lt (tgt := 38) hx hb dX10_types_3 (by decide) (fun c_3 => absurd c_3 (by decide)) (fun _ => ?_)
  refine lv_aload_n hx hb dX10_types_6 rfl (lv_at hl 1 rfl) ?_
  refine va_get (D := D) (ci := 10) (v := .ref a_tape) (C := RX10) (T := TX10) (N := 65) hx hb htb itX10 hown hK hP 0 rfl rfl 14 (by decide) (htb _ k_1082) (fun _ h9 => h9) rfl dX10_types_7 ?_
  refine lv_aload_n hx hb dX10_types_10 rfl (lv_at hl 1 rfl) ?_
  refine va_get (D := D) (ci := 10) (v := .int (nI T)) (C := RX10) (T := TX10) (N := 65) hx hb htb itX10 hown hK hP 0 rfl rfl 15 (by decide) (htb _ k_1083) (fun _ h9 => h9) rfl dX10_types_11 ?_
  refine lv_iload_n hx hb dX10_types_14 rfl (lv_at hl 2 rfl) ?_
  refine lv_bipush (v := 8) hx hb dX10_types_15 (by decide) ?_
  refine lv_iload_n hx hb dX10_types_17 rfl (lv_at hl 0 rfl) ?_
  refine lv_imul hx hb dX10_types_18 ?_
  refine tv (z := 24) (by decide) ?_
  refine lv_ishr hx hb dX10_types_19 ?_
  refine lv_i2b hx hb dX10_types_20 rfl ?_
  refine lv_topi (fun x_1 ex_1 => ?_)
  refine va_bast hx hb hK hP hD hS 1 1 rfl rfl (vp_in_nI (by omega) (by decide)) dX10_types_21 (fun H locs hP hD hS => ?_)
  obtain ⟨f_2, ef_2⟩ : ∃ g : Nat → Int32, g = upd ft (Int32.toNatClampNeg (nI T)) (vp_nar .byte x_1) := ⟨_, rfl⟩
  rw [← ef_2] at hP hD
  have hP : va_P D vwCl [(h0, .inr (10, [.ref a_now, .ref a_aside, .ref a_kept, .ref a_keptFrom, .ref a_keptTo, .ref a_capOf, .ref a_leaveFrom, .ref a_leaveTo, .ref a_amountOf, .ref a_doerMany, .ref a_doerOf, .int pe, .int ch, .int rt, .ref a_tape, .int (nI T), .int pl, .int le0, .int fa, .int nu, .int op_, .int cm, .int wt, .int sm, .int (nI kc), .ref a_said, .ref a_waitsAt, .ref a_saidLetter, .ref a_saidFrom, .ref a_saidHalf, .ref a_saidTo, .ref a_codes, .ref a_clauseOf, .ref a_codeFrom, .ref a_codeHalf, .ref a_codeTo, .ref a_stack, .ref a_facts, .ref a_lineChore, .ref a_lineMany, .ref a_lineDoer, .ref a_newFrom, .ref a_newTo, .int li, .ref a_goFrom, .ref a_goTo, .ref a_idleFrom, .ref a_idleTo, .ref a_moreOf, .ref a_firstOf, .ref a_leftOf, .ref a_didOf, .int rv, .int du, .int cl, .int gd, .ref a_costBy, .int sd, .ref a_gainBy, .ref a_hiredOf, .ref a_hiredBest, .ref a_hiredTo, .ref a_turnOf, .ref a_turnWho, .int ik])), (a_tape, .inl (cB, 260, .inl f_2))] H := hP
  have hD : va_D A [(h0, .inr (10, [.ref a_now, .ref a_aside, .ref a_kept, .ref a_keptFrom, .ref a_keptTo, .ref a_capOf, .ref a_leaveFrom, .ref a_leaveTo, .ref a_amountOf, .ref a_doerMany, .ref a_doerOf, .int pe, .int ch, .int rt, .ref a_tape, .int (nI T), .int pl, .int le0, .int fa, .int nu, .int op_, .int cm, .int wt, .int sm, .int (nI kc), .ref a_said, .ref a_waitsAt, .ref a_saidLetter, .ref a_saidFrom, .ref a_saidHalf, .ref a_saidTo, .ref a_codes, .ref a_clauseOf, .ref a_codeFrom, .ref a_codeHalf, .ref a_codeTo, .ref a_stack, .ref a_facts, .ref a_lineChore, .ref a_lineMany, .ref a_lineDoer, .ref a_newFrom, .ref a_newTo, .int li, .ref a_goFrom, .ref a_goTo, .ref a_idleFrom, .ref a_idleTo, .ref a_moreOf, .ref a_firstOf, .ref a_leftOf, .ref a_didOf, .int rv, .int du, .int cl, .int gd, .ref a_costBy, .int sd, .ref a_gainBy, .ref a_hiredOf, .ref a_hiredBest, .ref a_hiredTo, .ref a_turnOf, .ref a_turnWho, .int ik])), (a_tape, .inl (cB, 260, .inl f_2))] := hD
  refine lv_aload_n hx hb dX10_types_22 rfl (lv_at hl 1 rfl) ?_
  refine lv_aload_n hx hb dX10_types_23 rfl (lv_at hl 1 rfl) ?_
  refine va_get (D := D) (ci := 10) (v := .int (nI T)) (C := RX10) (T := TX10) (N := 65) hx hb htb itX10 hown hK hP 0 rfl rfl 15 (by decide) (htb _ k_1083) (fun _ h9 => h9) rfl dX10_types_24 ?_
  refine lv_iconst (v := 1) hx hb dX10_types_27 (by decide) ?_
  refine lv_iadd hx hb dX10_types_28 ?_
  refine tv (z := (nI (T + 1))) (nI_1 T) ?_
  refine va_put (D := D) (ci := 10) (v := .int (nI (T + 1))) (ty := .int) (C := RX10) (T := TX10) (N := 65) hx hb htb itX10 tyX10 tyX10_ok nmX10 hown hK hP hD hS 0 rfl rfl 15 (by decide) (htb _ k_1083) (fun _ h9 => h9) rfl (tyX10_ok 15 (by decide)) rfl rfl (Nat.le_of_ble_eq_true rfl) dX10_types_29 (fun H locs hP hD hS => ?_)
  have hP : va_P D vwCl [(h0, .inr (10, [.ref a_now, .ref a_aside, .ref a_kept, .ref a_keptFrom, .ref a_keptTo, .ref a_capOf, .ref a_leaveFrom, .ref a_leaveTo, .ref a_amountOf, .ref a_doerMany, .ref a_doerOf, .int pe, .int ch, .int rt, .ref a_tape, .int (nI (T + 1)), .int pl, .int le0, .int fa, .int nu, .int op_, .int cm, .int wt, .int sm, .int (nI kc), .ref a_said, .ref a_waitsAt, .ref a_saidLetter, .ref a_saidFrom, .ref a_saidHalf, .ref a_saidTo, .ref a_codes, .ref a_clauseOf, .ref a_codeFrom, .ref a_codeHalf, .ref a_codeTo, .ref a_stack, .ref a_facts, .ref a_lineChore, .ref a_lineMany, .ref a_lineDoer, .ref a_newFrom, .ref a_newTo, .int li, .ref a_goFrom, .ref a_goTo, .ref a_idleFrom, .ref a_idleTo, .ref a_moreOf, .ref a_firstOf, .ref a_leftOf, .ref a_didOf, .int rv, .int du, .int cl, .int gd, .ref a_costBy, .int sd, .ref a_gainBy, .ref a_hiredOf, .ref a_hiredBest, .ref a_hiredTo, .ref a_turnOf, .ref a_turnWho, .int ik])), (a_tape, .inl (cB, 260, .inl f_2))] H := hP
  have hD : va_D A [(h0, .inr (10, [.ref a_now, .ref a_aside, .ref a_kept, .ref a_keptFrom, .ref a_keptTo, .ref a_capOf, .ref a_leaveFrom, .ref a_leaveTo, .ref a_amountOf, .ref a_doerMany, .ref a_doerOf, .int pe, .int ch, .int rt, .ref a_tape, .int (nI (T + 1)), .int pl, .int le0, .int fa, .int nu, .int op_, .int cm, .int wt, .int sm, .int (nI kc), .ref a_said, .ref a_waitsAt, .ref a_saidLetter, .ref a_saidFrom, .ref a_saidHalf, .ref a_saidTo, .ref a_codes, .ref a_clauseOf, .ref a_codeFrom, .ref a_codeHalf, .ref a_codeTo, .ref a_stack, .ref a_facts, .ref a_lineChore, .ref a_lineMany, .ref a_lineDoer, .ref a_newFrom, .ref a_newTo, .int li, .ref a_goFrom, .ref a_goTo, .ref a_idleFrom, .ref a_idleTo, .ref a_moreOf, .ref a_firstOf, .ref a_leftOf, .ref a_didOf, .int rv, .int du, .int cl, .int gd, .ref a_costBy, .int sd, .ref a_gainBy, .ref a_hiredOf, .ref a_hiredBest, .ref a_hiredTo, .ref a_turnOf, .ref a_turnWho, .int ik])), (a_tape, .inl (cB, 260, .inl f_2))] := hD
  refine lv_iinc (v := 2) (lv' := [(2, .int 2), (0, .ref h0), (1, .int w)]) hx hb dX10_types_32 hl (k := 0) rfl (by decide) (by decide) rfl (fun ls hl => ?_)
  refine lv_goto (tgt := 2) hx hb dX10_types_35 (by decide) ?_
  refine lv_iload_n hx hb dX10_types_2 rfl (lv_at hl 0 rfl) ?_
  refine lv_if_lt (tgt := 38) hx hb dX10_types_3 (by decide) (fun c_3 => absurd c_3 (by decide)) (fun _ => ?_)
  refine lv_aload_n hx hb dX10_types_6 rfl (lv_at hl 1 rfl) ?_
  refine va_get (D := D) (ci := 10) (v := .ref a_tape) (C := RX10) (T := TX10) (N := 65) hx hb htb itX10 hown hK hP 0 rfl rfl 14 (by decide) (htb _ k_1082) (fun _ h9 => h9) rfl dX10_types_7 ?_
  refine lv_aload_n hx hb dX10_types_10 rfl (lv_at hl 1 rfl) ?_
  refine va_get (D := D) (ci := 10) (v := .int (nI (T + 1))) (C := RX10) (T := TX10) (N := 65) hx hb htb itX10 hown hK hP 0 rfl rfl 15 (by decide) (htb _ k_1083) (fun _ h9 => h9) rfl dX10_types_11 ?_
  refine lv_iload_n hx hb dX10_types_14 rfl (lv_at hl 2 rfl) ?_
  refine lv_bipush (v := 8) hx hb dX10_types_15 (by decide) ?_
  refine lv_iload_n hx hb dX10_types_17 rfl (lv_at hl 0 rfl) ?_
  refine lv_imul hx hb dX10_types_18 ?_
  refine tv (z := 16) (by decide) ?_
  refine lv_ishr hx hb dX10_types_19 ?_
  refine lv_i2b hx hb dX10_types_20 rfl ?_
  refine lv_topi (fun x_3 ex_3 => ?_)
  refine va_bast hx hb hK hP hD hS 1 1 rfl rfl (vp_in_nI (by omega) (by decide)) dX10_types_21 (fun H locs hP hD hS => ?_)
  obtain ⟨f_4, ef_4⟩ : ∃ g : Nat → Int32, g = upd f_2 (Int32.toNatClampNeg (nI (T + 1))) (vp_nar .byte x_3) := ⟨_, rfl⟩
  rw [← ef_4] at hP hD
  have hP : va_P D vwCl [(h0, .inr (10, [.ref a_now, .ref a_aside, .ref a_kept, .ref a_keptFrom, .ref a_keptTo, .ref a_capOf, .ref a_leaveFrom, .ref a_leaveTo, .ref a_amountOf, .ref a_doerMany, .ref a_doerOf, .int pe, .int ch, .int rt, .ref a_tape, .int (nI (T + 1)), .int pl, .int le0, .int fa, .int nu, .int op_, .int cm, .int wt, .int sm, .int (nI kc), .ref a_said, .ref a_waitsAt, .ref a_saidLetter, .ref a_saidFrom, .ref a_saidHalf, .ref a_saidTo, .ref a_codes, .ref a_clauseOf, .ref a_codeFrom, .ref a_codeHalf, .ref a_codeTo, .ref a_stack, .ref a_facts, .ref a_lineChore, .ref a_lineMany, .ref a_lineDoer, .ref a_newFrom, .ref a_newTo, .int li, .ref a_goFrom, .ref a_goTo, .ref a_idleFrom, .ref a_idleTo, .ref a_moreOf, .ref a_firstOf, .ref a_leftOf, .ref a_didOf, .int rv, .int du, .int cl, .int gd, .ref a_costBy, .int sd, .ref a_gainBy, .ref a_hiredOf, .ref a_hiredBest, .ref a_hiredTo, .ref a_turnOf, .ref a_turnWho, .int ik])), (a_tape, .inl (cB, 260, .inl f_4))] H := hP
  have hD : va_D A [(h0, .inr (10, [.ref a_now, .ref a_aside, .ref a_kept, .ref a_keptFrom, .ref a_keptTo, .ref a_capOf, .ref a_leaveFrom, .ref a_leaveTo, .ref a_amountOf, .ref a_doerMany, .ref a_doerOf, .int pe, .int ch, .int rt, .ref a_tape, .int (nI (T + 1)), .int pl, .int le0, .int fa, .int nu, .int op_, .int cm, .int wt, .int sm, .int (nI kc), .ref a_said, .ref a_waitsAt, .ref a_saidLetter, .ref a_saidFrom, .ref a_saidHalf, .ref a_saidTo, .ref a_codes, .ref a_clauseOf, .ref a_codeFrom, .ref a_codeHalf, .ref a_codeTo, .ref a_stack, .ref a_facts, .ref a_lineChore, .ref a_lineMany, .ref a_lineDoer, .ref a_newFrom, .ref a_newTo, .int li, .ref a_goFrom, .ref a_goTo, .ref a_idleFrom, .ref a_idleTo, .ref a_moreOf, .ref a_firstOf, .ref a_leftOf, .ref a_didOf, .int rv, .int du, .int cl, .int gd, .ref a_costBy, .int sd, .ref a_gainBy, .ref a_hiredOf, .ref a_hiredBest, .ref a_hiredTo, .ref a_turnOf, .ref a_turnWho, .int ik])), (a_tape, .inl (cB, 260, .inl f_4))] := hD
  refine lv_aload_n hx hb dX10_types_22 rfl (lv_at hl 1 rfl) ?_
  refine lv_aload_n hx hb dX10_types_23 rfl (lv_at hl 1 rfl) ?_
  refine va_get (D := D) (ci := 10) (v := .int (nI (T + 1))) (C := RX10) (T := TX10) (N := 65) hx hb htb itX10 hown hK hP 0 rfl rfl 15 (by decide) (htb _ k_1083) (fun _ h9 => h9) rfl dX10_types_24 ?_
  refine lv_iconst (v := 1) hx hb dX10_types_27 (by decide) ?_
  refine lv_iadd hx hb dX10_types_28 ?_
  refine tv (z := (nI (T + 2))) (nI_1 (T + 1)) ?_
  refine va_put (D := D) (ci := 10) (v := .int (nI (T + 2))) (ty := .int) (C := RX10) (T := TX10) (N := 65) hx hb htb itX10 tyX10 tyX10_ok nmX10 hown hK hP hD hS 0 rfl rfl 15 (by decide) (htb _ k_1083) (fun _ h9 => h9) rfl (tyX10_ok 15 (by decide)) rfl rfl (Nat.le_of_ble_eq_true rfl) dX10_types_29 (fun H locs hP hD hS => ?_)
  have hP : va_P D vwCl [(h0, .inr (10, [.ref a_now, .ref a_aside, .ref a_kept, .ref a_keptFrom, .ref a_keptTo, .ref a_capOf, .ref a_leaveFrom, .ref a_leaveTo, .ref a_amountOf, .ref a_doerMany, .ref a_doerOf, .int pe, .int ch, .int rt, .ref a_tape, .int (nI (T + 2)), .int pl, .int le0, .int fa, .int nu, .int op_, .int cm, .int wt, .int sm, .int (nI kc), .ref a_said, .ref a_waitsAt, .ref a_saidLetter, .ref a_saidFrom, .ref a_saidHalf, .ref a_saidTo, .ref a_codes, .ref a_clauseOf, .ref a_codeFrom, .ref a_codeHalf, .ref a_codeTo, .ref a_stack, .ref a_facts, .ref a_lineChore, .ref a_lineMany, .ref a_lineDoer, .ref a_newFrom, .ref a_newTo, .int li, .ref a_goFrom, .ref a_goTo, .ref a_idleFrom, .ref a_idleTo, .ref a_moreOf, .ref a_firstOf, .ref a_leftOf, .ref a_didOf, .int rv, .int du, .int cl, .int gd, .ref a_costBy, .int sd, .ref a_gainBy, .ref a_hiredOf, .ref a_hiredBest, .ref a_hiredTo, .ref a_turnOf, .ref a_turnWho, .int ik])), (a_tape, .inl (cB, 260, .inl f_4))] H := hP
  have hD : va_D A [(h0, .inr (10, [.ref a_now, .ref a_aside, .ref a_kept, .ref a_keptFrom, .ref a_keptTo, .ref a_capOf, .ref a_leaveFrom, .ref a_leaveTo, .ref a_amountOf, .ref a_doerMany, .ref a_doerOf, .int pe, .int ch, .int rt, .ref a_tape, .int (nI (T + 2)), .int pl, .int le0, .int fa, .int nu, .int op_, .int cm, .int wt, .int sm, .int (nI kc), .ref a_said, .ref a_waitsAt, .ref a_saidLetter, .ref a_saidFrom, .ref a_saidHalf, .ref a_saidTo, .ref a_codes, .ref a_clauseOf, .ref a_codeFrom, .ref a_codeHalf, .ref a_codeTo, .ref a_stack, .ref a_facts, .ref a_lineChore, .ref a_lineMany, .ref a_lineDoer, .ref a_newFrom, .ref a_newTo, .int li, .ref a_goFrom, .ref a_goTo, .ref a_idleFrom, .ref a_idleTo, .ref a_moreOf, .ref a_firstOf, .ref a_leftOf, .ref a_didOf, .int rv, .int du, .int cl, .int gd, .ref a_costBy, .int sd, .ref a_gainBy, .ref a_hiredOf, .ref a_hiredBest, .ref a_hiredTo, .ref a_turnOf, .ref a_turnWho, .int ik])), (a_tape, .inl (cB, 260, .inl f_4))] := hD
  refine lv_iinc (v := 1) (lv' := [(2, .int 1), (0, .ref h0), (1, .int w)]) hx hb dX10_types_32 hl (k := 0) rfl (by decide) (by decide) rfl (fun ls hl => ?_)
  refine lv_goto (tgt := 2) hx hb dX10_types_35 (by decide) ?_
  refine lv_iload_n hx hb dX10_types_2 rfl (lv_at hl 0 rfl) ?_
  refine lv_if_lt (tgt := 38) hx hb dX10_types_3 (by decide) (fun c_3 => absurd c_3 (by decide)) (fun _ => ?_)
  refine lv_aload_n hx hb dX10_types_6 rfl (lv_at hl 1 rfl) ?_
  refine va_get (D := D) (ci := 10) (v := .ref a_tape) (C := RX10) (T := TX10) (N := 65) hx hb htb itX10 hown hK hP 0 rfl rfl 14 (by decide) (htb _ k_1082) (fun _ h9 => h9) rfl dX10_types_7 ?_
  refine lv_aload_n hx hb dX10_types_10 rfl (lv_at hl 1 rfl) ?_
  refine va_get (D := D) (ci := 10) (v := .int (nI (T + 2))) (C := RX10) (T := TX10) (N := 65) hx hb htb itX10 hown hK hP 0 rfl rfl 15 (by decide) (htb _ k_1083) (fun _ h9 => h9) rfl dX10_types_11 ?_
  refine lv_iload_n hx hb dX10_types_14 rfl (lv_at hl 2 rfl) ?_
  refine lv_bipush (v := 8) hx hb dX10_types_15 (by decide) ?_
  refine lv_iload_n hx hb dX10_types_17 rfl (lv_at hl 0 rfl) ?_
  refine lv_imul hx hb dX10_types_18 ?_
  refine tv (z := 8) (by decide) ?_
  refine lv_ishr hx hb dX10_types_19 ?_
  refine lv_i2b hx hb dX10_types_20 rfl ?_
  refine lv_topi (fun x_5 ex_5 => ?_)
  refine va_bast hx hb hK hP hD hS 1 1 rfl rfl (vp_in_nI (by omega) (by decide)) dX10_types_21 (fun H locs hP hD hS => ?_)
  obtain ⟨f_6, ef_6⟩ : ∃ g : Nat → Int32, g = upd f_4 (Int32.toNatClampNeg (nI (T + 2))) (vp_nar .byte x_5) := ⟨_, rfl⟩
  rw [← ef_6] at hP hD
  have hP : va_P D vwCl [(h0, .inr (10, [.ref a_now, .ref a_aside, .ref a_kept, .ref a_keptFrom, .ref a_keptTo, .ref a_capOf, .ref a_leaveFrom, .ref a_leaveTo, .ref a_amountOf, .ref a_doerMany, .ref a_doerOf, .int pe, .int ch, .int rt, .ref a_tape, .int (nI (T + 2)), .int pl, .int le0, .int fa, .int nu, .int op_, .int cm, .int wt, .int sm, .int (nI kc), .ref a_said, .ref a_waitsAt, .ref a_saidLetter, .ref a_saidFrom, .ref a_saidHalf, .ref a_saidTo, .ref a_codes, .ref a_clauseOf, .ref a_codeFrom, .ref a_codeHalf, .ref a_codeTo, .ref a_stack, .ref a_facts, .ref a_lineChore, .ref a_lineMany, .ref a_lineDoer, .ref a_newFrom, .ref a_newTo, .int li, .ref a_goFrom, .ref a_goTo, .ref a_idleFrom, .ref a_idleTo, .ref a_moreOf, .ref a_firstOf, .ref a_leftOf, .ref a_didOf, .int rv, .int du, .int cl, .int gd, .ref a_costBy, .int sd, .ref a_gainBy, .ref a_hiredOf, .ref a_hiredBest, .ref a_hiredTo, .ref a_turnOf, .ref a_turnWho, .int ik])), (a_tape, .inl (cB, 260, .inl f_6))] H := hP
  have hD : va_D A [(h0, .inr (10, [.ref a_now, .ref a_aside, .ref a_kept, .ref a_keptFrom, .ref a_keptTo, .ref a_capOf, .ref a_leaveFrom, .ref a_leaveTo, .ref a_amountOf, .ref a_doerMany, .ref a_doerOf, .int pe, .int ch, .int rt, .ref a_tape, .int (nI (T + 2)), .int pl, .int le0, .int fa, .int nu, .int op_, .int cm, .int wt, .int sm, .int (nI kc), .ref a_said, .ref a_waitsAt, .ref a_saidLetter, .ref a_saidFrom, .ref a_saidHalf, .ref a_saidTo, .ref a_codes, .ref a_clauseOf, .ref a_codeFrom, .ref a_codeHalf, .ref a_codeTo, .ref a_stack, .ref a_facts, .ref a_lineChore, .ref a_lineMany, .ref a_lineDoer, .ref a_newFrom, .ref a_newTo, .int li, .ref a_goFrom, .ref a_goTo, .ref a_idleFrom, .ref a_idleTo, .ref a_moreOf, .ref a_firstOf, .ref a_leftOf, .ref a_didOf, .int rv, .int du, .int cl, .int gd, .ref a_costBy, .int sd, .ref a_gainBy, .ref a_hiredOf, .ref a_hiredBest, .ref a_hiredTo, .ref a_turnOf, .ref a_turnWho, .int ik])), (a_tape, .inl (cB, 260, .inl f_6))] := hD
  refine lv_aload_n hx hb dX10_types_22 rfl (lv_at hl 1 rfl) ?_
  refine lv_aload_n hx hb dX10_types_23 rfl (lv_at hl 1 rfl) ?_
  refine va_get (D := D) (ci := 10) (v := .int (nI (T + 2))) (C := RX10) (T := TX10) (N := 65) hx hb htb itX10 hown hK hP 0 rfl rfl 15 (by decide) (htb _ k_1083) (fun _ h9 => h9) rfl dX10_types_24 ?_
  refine lv_iconst (v := 1) hx hb dX10_types_27 (by decide) ?_
  refine lv_iadd hx hb dX10_types_28 ?_
  refine tv (z := (nI (T + 3))) (nI_1 (T + 2)) ?_
  refine va_put (D := D) (ci := 10) (v := .int (nI (T + 3))) (ty := .int) (C := RX10) (T := TX10) (N := 65) hx hb htb itX10 tyX10 tyX10_ok nmX10 hown hK hP hD hS 0 rfl rfl 15 (by decide) (htb _ k_1083) (fun _ h9 => h9) rfl (tyX10_ok 15 (by decide)) rfl rfl (Nat.le_of_ble_eq_true rfl) dX10_types_29 (fun H locs hP hD hS => ?_)
  have hP : va_P D vwCl [(h0, .inr (10, [.ref a_now, .ref a_aside, .ref a_kept, .ref a_keptFrom, .ref a_keptTo, .ref a_capOf, .ref a_leaveFrom, .ref a_leaveTo, .ref a_amountOf, .ref a_doerMany, .ref a_doerOf, .int pe, .int ch, .int rt, .ref a_tape, .int (nI (T + 3)), .int pl, .int le0, .int fa, .int nu, .int op_, .int cm, .int wt, .int sm, .int (nI kc), .ref a_said, .ref a_waitsAt, .ref a_saidLetter, .ref a_saidFrom, .ref a_saidHalf, .ref a_saidTo, .ref a_codes, .ref a_clauseOf, .ref a_codeFrom, .ref a_codeHalf, .ref a_codeTo, .ref a_stack, .ref a_facts, .ref a_lineChore, .ref a_lineMany, .ref a_lineDoer, .ref a_newFrom, .ref a_newTo, .int li, .ref a_goFrom, .ref a_goTo, .ref a_idleFrom, .ref a_idleTo, .ref a_moreOf, .ref a_firstOf, .ref a_leftOf, .ref a_didOf, .int rv, .int du, .int cl, .int gd, .ref a_costBy, .int sd, .ref a_gainBy, .ref a_hiredOf, .ref a_hiredBest, .ref a_hiredTo, .ref a_turnOf, .ref a_turnWho, .int ik])), (a_tape, .inl (cB, 260, .inl f_6))] H := hP
  have hD : va_D A [(h0, .inr (10, [.ref a_now, .ref a_aside, .ref a_kept, .ref a_keptFrom, .ref a_keptTo, .ref a_capOf, .ref a_leaveFrom, .ref a_leaveTo, .ref a_amountOf, .ref a_doerMany, .ref a_doerOf, .int pe, .int ch, .int rt, .ref a_tape, .int (nI (T + 3)), .int pl, .int le0, .int fa, .int nu, .int op_, .int cm, .int wt, .int sm, .int (nI kc), .ref a_said, .ref a_waitsAt, .ref a_saidLetter, .ref a_saidFrom, .ref a_saidHalf, .ref a_saidTo, .ref a_codes, .ref a_clauseOf, .ref a_codeFrom, .ref a_codeHalf, .ref a_codeTo, .ref a_stack, .ref a_facts, .ref a_lineChore, .ref a_lineMany, .ref a_lineDoer, .ref a_newFrom, .ref a_newTo, .int li, .ref a_goFrom, .ref a_goTo, .ref a_idleFrom, .ref a_idleTo, .ref a_moreOf, .ref a_firstOf, .ref a_leftOf, .ref a_didOf, .int rv, .int du, .int cl, .int gd, .ref a_costBy, .int sd, .ref a_gainBy, .ref a_hiredOf, .ref a_hiredBest, .ref a_hiredTo, .ref a_turnOf, .ref a_turnWho, .int ik])), (a_tape, .inl (cB, 260, .inl f_6))] := hD
  refine lv_iinc (v := 0) (lv' := [(2, .int 0), (0, .ref h0), (1, .int w)]) hx hb dX10_types_32 hl (k := 0) rfl (by decide) (by decide) rfl (fun ls hl => ?_)
  refine lv_goto (tgt := 2) hx hb dX10_types_35 (by decide) ?_
  refine lv_iload_n hx hb dX10_types_2 rfl (lv_at hl 0 rfl) ?_
  refine lv_if_lt (tgt := 38) hx hb dX10_types_3 (by decide) (fun c_3 => absurd c_3 (by decide)) (fun _ => ?_)
  refine lv_aload_n hx hb dX10_types_6 rfl (lv_at hl 1 rfl) ?_
  refine va_get (D := D) (ci := 10) (v := .ref a_tape) (C := RX10) (T := TX10) (N := 65) hx hb htb itX10 hown hK hP 0 rfl rfl 14 (by decide) (htb _ k_1082) (fun _ h9 => h9) rfl dX10_types_7 ?_
  refine lv_aload_n hx hb dX10_types_10 rfl (lv_at hl 1 rfl) ?_
  refine va_get (D := D) (ci := 10) (v := .int (nI (T + 3))) (C := RX10) (T := TX10) (N := 65) hx hb htb itX10 hown hK hP 0 rfl rfl 15 (by decide) (htb _ k_1083) (fun _ h9 => h9) rfl dX10_types_11 ?_
  refine lv_iload_n hx hb dX10_types_14 rfl (lv_at hl 2 rfl) ?_
  refine lv_bipush (v := 8) hx hb dX10_types_15 (by decide) ?_
  refine lv_iload_n hx hb dX10_types_17 rfl (lv_at hl 0 rfl) ?_
  refine lv_imul hx hb dX10_types_18 ?_
  refine tv (z := 0) (by decide) ?_
  refine lv_ishr hx hb dX10_types_19 ?_
  refine lv_i2b hx hb dX10_types_20 rfl ?_
  refine lv_topi (fun x_7 ex_7 => ?_)
  refine va_bast hx hb hK hP hD hS 1 1 rfl rfl (vp_in_nI (by omega) (by decide)) dX10_types_21 (fun H locs hP hD hS => ?_)
  obtain ⟨f_8, ef_8⟩ : ∃ g : Nat → Int32, g = upd f_6 (Int32.toNatClampNeg (nI (T + 3))) (vp_nar .byte x_7) := ⟨_, rfl⟩
  rw [← ef_8] at hP hD
  have hP : va_P D vwCl [(h0, .inr (10, [.ref a_now, .ref a_aside, .ref a_kept, .ref a_keptFrom, .ref a_keptTo, .ref a_capOf, .ref a_leaveFrom, .ref a_leaveTo, .ref a_amountOf, .ref a_doerMany, .ref a_doerOf, .int pe, .int ch, .int rt, .ref a_tape, .int (nI (T + 3)), .int pl, .int le0, .int fa, .int nu, .int op_, .int cm, .int wt, .int sm, .int (nI kc), .ref a_said, .ref a_waitsAt, .ref a_saidLetter, .ref a_saidFrom, .ref a_saidHalf, .ref a_saidTo, .ref a_codes, .ref a_clauseOf, .ref a_codeFrom, .ref a_codeHalf, .ref a_codeTo, .ref a_stack, .ref a_facts, .ref a_lineChore, .ref a_lineMany, .ref a_lineDoer, .ref a_newFrom, .ref a_newTo, .int li, .ref a_goFrom, .ref a_goTo, .ref a_idleFrom, .ref a_idleTo, .ref a_moreOf, .ref a_firstOf, .ref a_leftOf, .ref a_didOf, .int rv, .int du, .int cl, .int gd, .ref a_costBy, .int sd, .ref a_gainBy, .ref a_hiredOf, .ref a_hiredBest, .ref a_hiredTo, .ref a_turnOf, .ref a_turnWho, .int ik])), (a_tape, .inl (cB, 260, .inl f_8))] H := hP
  have hD : va_D A [(h0, .inr (10, [.ref a_now, .ref a_aside, .ref a_kept, .ref a_keptFrom, .ref a_keptTo, .ref a_capOf, .ref a_leaveFrom, .ref a_leaveTo, .ref a_amountOf, .ref a_doerMany, .ref a_doerOf, .int pe, .int ch, .int rt, .ref a_tape, .int (nI (T + 3)), .int pl, .int le0, .int fa, .int nu, .int op_, .int cm, .int wt, .int sm, .int (nI kc), .ref a_said, .ref a_waitsAt, .ref a_saidLetter, .ref a_saidFrom, .ref a_saidHalf, .ref a_saidTo, .ref a_codes, .ref a_clauseOf, .ref a_codeFrom, .ref a_codeHalf, .ref a_codeTo, .ref a_stack, .ref a_facts, .ref a_lineChore, .ref a_lineMany, .ref a_lineDoer, .ref a_newFrom, .ref a_newTo, .int li, .ref a_goFrom, .ref a_goTo, .ref a_idleFrom, .ref a_idleTo, .ref a_moreOf, .ref a_firstOf, .ref a_leftOf, .ref a_didOf, .int rv, .int du, .int cl, .int gd, .ref a_costBy, .int sd, .ref a_gainBy, .ref a_hiredOf, .ref a_hiredBest, .ref a_hiredTo, .ref a_turnOf, .ref a_turnWho, .int ik])), (a_tape, .inl (cB, 260, .inl f_8))] := hD
  refine lv_aload_n hx hb dX10_types_22 rfl (lv_at hl 1 rfl) ?_
  refine lv_aload_n hx hb dX10_types_23 rfl (lv_at hl 1 rfl) ?_
  refine va_get (D := D) (ci := 10) (v := .int (nI (T + 3))) (C := RX10) (T := TX10) (N := 65) hx hb htb itX10 hown hK hP 0 rfl rfl 15 (by decide) (htb _ k_1083) (fun _ h9 => h9) rfl dX10_types_24 ?_
  refine lv_iconst (v := 1) hx hb dX10_types_27 (by decide) ?_
  refine lv_iadd hx hb dX10_types_28 ?_
  refine tv (z := (nI (T + 4))) (nI_1 (T + 3)) ?_
  refine va_put (D := D) (ci := 10) (v := .int (nI (T + 4))) (ty := .int) (C := RX10) (T := TX10) (N := 65) hx hb htb itX10 tyX10 tyX10_ok nmX10 hown hK hP hD hS 0 rfl rfl 15 (by decide) (htb _ k_1083) (fun _ h9 => h9) rfl (tyX10_ok 15 (by decide)) rfl rfl (Nat.le_of_ble_eq_true rfl) dX10_types_29 (fun H locs hP hD hS => ?_)
  have hP : va_P D vwCl [(h0, .inr (10, [.ref a_now, .ref a_aside, .ref a_kept, .ref a_keptFrom, .ref a_keptTo, .ref a_capOf, .ref a_leaveFrom, .ref a_leaveTo, .ref a_amountOf, .ref a_doerMany, .ref a_doerOf, .int pe, .int ch, .int rt, .ref a_tape, .int (nI (T + 4)), .int pl, .int le0, .int fa, .int nu, .int op_, .int cm, .int wt, .int sm, .int (nI kc), .ref a_said, .ref a_waitsAt, .ref a_saidLetter, .ref a_saidFrom, .ref a_saidHalf, .ref a_saidTo, .ref a_codes, .ref a_clauseOf, .ref a_codeFrom, .ref a_codeHalf, .ref a_codeTo, .ref a_stack, .ref a_facts, .ref a_lineChore, .ref a_lineMany, .ref a_lineDoer, .ref a_newFrom, .ref a_newTo, .int li, .ref a_goFrom, .ref a_goTo, .ref a_idleFrom, .ref a_idleTo, .ref a_moreOf, .ref a_firstOf, .ref a_leftOf, .ref a_didOf, .int rv, .int du, .int cl, .int gd, .ref a_costBy, .int sd, .ref a_gainBy, .ref a_hiredOf, .ref a_hiredBest, .ref a_hiredTo, .ref a_turnOf, .ref a_turnWho, .int ik])), (a_tape, .inl (cB, 260, .inl f_8))] H := hP
  have hD : va_D A [(h0, .inr (10, [.ref a_now, .ref a_aside, .ref a_kept, .ref a_keptFrom, .ref a_keptTo, .ref a_capOf, .ref a_leaveFrom, .ref a_leaveTo, .ref a_amountOf, .ref a_doerMany, .ref a_doerOf, .int pe, .int ch, .int rt, .ref a_tape, .int (nI (T + 4)), .int pl, .int le0, .int fa, .int nu, .int op_, .int cm, .int wt, .int sm, .int (nI kc), .ref a_said, .ref a_waitsAt, .ref a_saidLetter, .ref a_saidFrom, .ref a_saidHalf, .ref a_saidTo, .ref a_codes, .ref a_clauseOf, .ref a_codeFrom, .ref a_codeHalf, .ref a_codeTo, .ref a_stack, .ref a_facts, .ref a_lineChore, .ref a_lineMany, .ref a_lineDoer, .ref a_newFrom, .ref a_newTo, .int li, .ref a_goFrom, .ref a_goTo, .ref a_idleFrom, .ref a_idleTo, .ref a_moreOf, .ref a_firstOf, .ref a_leftOf, .ref a_didOf, .int rv, .int du, .int cl, .int gd, .ref a_costBy, .int sd, .ref a_gainBy, .ref a_hiredOf, .ref a_hiredBest, .ref a_hiredTo, .ref a_turnOf, .ref a_turnWho, .int ik])), (a_tape, .inl (cB, 260, .inl f_8))] := hD
  refine lv_iinc (v := (-1)) (lv' := [(2, .int (-1)), (0, .ref h0), (1, .int w)]) hx hb dX10_types_32 hl (k := 0) rfl (by decide) (by decide) rfl (fun ls hl => ?_)
  refine lv_goto (tgt := 2) hx hb dX10_types_35 (by decide) ?_
  refine lv_iload_n hx hb dX10_types_2 rfl (lv_at hl 0 rfl) ?_
  refine lv_if_lt (tgt := 38) hx hb dX10_types_3 (by decide) (fun _ => ?_) (fun c_3 => absurd (by decide) c_3)
  exact ret _ _ _ _ f_8 dX10_types_38 (by have g0 := ef_2; rw [nI_clamp (by omega)] at g0; have g1 := ef_4; rw [nI_clamp (by omega)] at g1; have g2 := ef_6; rw [nI_clamp (by omega)] at g2; have g3 := ef_8; rw [nI_clamp (by omega)] at g3; have wz := wb4 g0 g1 g2 g3; exact ⟨wz.1, (by rw [wz.2.1, ex_1]; exact nar255 _), (by rw [wz.2.2.1, ex_3]; exact nar255 _), (by rw [wz.2.2.2.1, ex_5]; exact nar255 _), (by rw [wz.2.2.2.2, ex_7]; exact nar255 _)⟩) (hP.sub [0, 1] rfl) (hD.sub [0, 1] (by decide) rfl) hS

set_option maxRecDepth 100000 in
set_option maxHeartbeats 4000000 in
theorem c_feedWm (l : Launch) (D : va_G) (cI cB : ClassId) (sz : Nat) (h0 : Nat) (a_now : Nat) (a_aside : Nat) (a_kept : Nat) (a_keptFrom : Nat) (a_keptTo : Nat) (a_capOf : Nat) (a_leaveFrom : Nat) (a_leaveTo : Nat) (a_amountOf : Nat) (a_doerMany : Nat) (a_doerOf : Nat) (a_tape : Nat) (a_said : Nat) (a_waitsAt : Nat) (a_saidLetter : Nat) (a_saidFrom : Nat) (a_saidHalf : Nat) (a_saidTo : Nat) (a_codes : Nat) (a_clauseOf : Nat) (a_codeFrom : Nat) (a_codeHalf : Nat) (a_codeTo : Nat) (a_stack : Nat) (a_facts : Nat) (a_lineChore : Nat) (a_lineMany : Nat) (a_lineDoer : Nat) (a_newFrom : Nat) (a_newTo : Nat) (a_goFrom : Nat) (a_goTo : Nat) (a_idleFrom : Nat) (a_idleTo : Nat) (a_moreOf : Nat) (a_firstOf : Nat) (a_leftOf : Nat) (a_didOf : Nat) (a_costBy : Nat) (a_gainBy : Nat) (a_hiredOf : Nat) (a_hiredBest : Nat) (a_hiredTo : Nat) (a_turnOf : Nat) (a_turnWho : Nat) (pe : Int32) (ch : Int32) (rt : Int32) (pl : Int32) (le0 : Int32) (fa : Int32) (nu : Int32) (op_ : Int32) (cm : Int32) (wt : Int32) (sm : Int32) (li : Int32) (rv : Int32) (du : Int32) (cl : Int32) (gd : Int32) (sd : Int32) (ik : Int32) (T : Nat) (kc : Nat) (ft : Nat → Int32) (v1 : Int32) (v2 : Int32) (v3 : Int32) (v4 : Int32) (v5 : Int32) (hT : T ≤ 260) : MI (S := ((Nat) × (Nat → Int32))) l D cI cB yX10_feed cX10_feed 6 .int (rm 1 22) [.ref h0, .int v1, .int v2, .int v3, .int v4, .int v5] [(h0, .inr (10, [.ref a_now, .ref a_aside, .ref a_kept, .ref a_keptFrom, .ref a_keptTo, .ref a_capOf, .ref a_leaveFrom, .ref a_leaveTo, .ref a_amountOf, .ref a_doerMany, .ref a_doerOf, .int pe, .int ch, .int rt, .ref a_tape, .int (nI T), .int pl, .int le0, .int fa, .int nu, .int op_, .int cm, .int wt, .int sm, .int (nI kc), .ref a_said, .ref a_waitsAt, .ref a_saidLetter, .ref a_saidFrom, .ref a_saidHalf, .ref a_saidTo, .ref a_codes, .ref a_clauseOf, .ref a_codeFrom, .ref a_codeHalf, .ref a_codeTo, .ref a_stack, .ref a_facts, .ref a_lineChore, .ref a_lineMany, .ref a_lineDoer, .ref a_newFrom, .ref a_newTo, .int li, .ref a_goFrom, .ref a_goTo, .ref a_idleFrom, .ref a_idleTo, .ref a_moreOf, .ref a_firstOf, .ref a_leftOf, .ref a_didOf, .int rv, .int du, .int cl, .int gd, .ref a_costBy, .int sd, .ref a_gainBy, .ref a_hiredOf, .ref a_hiredBest, .ref a_hiredTo, .ref a_turnOf, .ref a_turnWho, .int ik])), (a_tape, .inl (cB, 260, .inl ft))] sz (fun r u => (u.1 ≤ 260 ∧ (T ≤ 240 → u.1 = T + 20 ∧ r = nI (T + 20)) ∧ (¬ T ≤ 240 → u.1 = T ∧ r = -1)) ∧ (T ≤ 240 → FDR T v1 v2 v3 v4 v5 ft u.2) ∧ (¬ T ≤ 240 → u.2 = ft)) (fun u : ((Nat) × (Nat → Int32)) => [(h0, .inr (10, [.ref a_now, .ref a_aside, .ref a_kept, .ref a_keptFrom, .ref a_keptTo, .ref a_capOf, .ref a_leaveFrom, .ref a_leaveTo, .ref a_amountOf, .ref a_doerMany, .ref a_doerOf, .int pe, .int ch, .int rt, .ref a_tape, .int (nI u.1), .int pl, .int le0, .int fa, .int nu, .int op_, .int cm, .int wt, .int sm, .int (nI kc), .ref a_said, .ref a_waitsAt, .ref a_saidLetter, .ref a_saidFrom, .ref a_saidHalf, .ref a_saidTo, .ref a_codes, .ref a_clauseOf, .ref a_codeFrom, .ref a_codeHalf, .ref a_codeTo, .ref a_stack, .ref a_facts, .ref a_lineChore, .ref a_lineMany, .ref a_lineDoer, .ref a_newFrom, .ref a_newTo, .int li, .ref a_goFrom, .ref a_goTo, .ref a_idleFrom, .ref a_idleTo, .ref a_moreOf, .ref a_firstOf, .ref a_leftOf, .ref a_didOf, .int rv, .int du, .int cl, .int gd, .ref a_costBy, .int sd, .ref a_gainBy, .ref a_hiredOf, .ref a_hiredBest, .ref a_hiredTo, .ref a_turnOf, .ref a_turnWho, .int ik])), (a_tape, .inl (cB, 260, .inl u.2))]) := by
  refine MI.of (by decide) (Nat.le_of_ble_eq_true rfl) ?_
  intro p e s m below meth c Q ls A X hin hN hP hK hD hA hl ret
  have hS : va_S A s.heap s.heap [] := va_S.rf
  obtain ⟨hx, hb, hml, hown, htb⟩ := id X
  have hl : lv_has ls 6 [(0, .ref h0), (1, .int v1), (2, .int v2), (3, .int v3), (4, .int v4), (5, .int v5)] := hl
  refine lv_aload_n hx hb dX10_feed_0 rfl (lv_at hl 0 rfl) ?_
  refine va_get (D := D) (ci := 10) (v := .int (nI T)) (C := RX10) (T := TX10) (N := 65) hx hb htb itX10 hown hK hP 0 rfl rfl 15 (by decide) (htb _ k_1083) (fun _ h9 => h9) rfl dX10_feed_1 ?_
  refine lv_bipush (v := 20) hx hb dX10_feed_4 (by decide) ?_
  refine lv_iadd hx hb dX10_feed_6 ?_
  refine tv (z := (nI (T + 20))) (nI_add T 20) ?_
  refine lv_sipush (v := 260) hx hb dX10_feed_7 (by decide) ?_
  refine lv_icmp_le (tgt := 15) hx hb dX10_feed_10 (by decide) (fun c_10 => ?_) (fun c_10 => ?_)
  · refine lv_aload_n hx hb dX10_feed_15 rfl (lv_at hl 0 rfl) ?_
    refine lv_iload_n hx hb dX10_feed_16 rfl (lv_at hl 1 rfl) ?_
    refine cVV (As := [.int v1]) (rest := []) (n := 1) (ci := 10) (q0 := 0) (wr := []) X hN hK hP hD hS hA (c_typesW l D cI cB _ h0 a_now a_aside a_kept a_keptFrom a_keptTo a_capOf a_leaveFrom a_leaveTo a_amountOf a_doerMany a_doerOf a_tape a_said a_waitsAt a_saidLetter a_saidFrom a_saidHalf a_saidTo a_codes a_clauseOf a_codeFrom a_codeHalf a_codeTo a_stack a_facts a_lineChore a_lineMany a_lineDoer a_newFrom a_newTo a_goFrom a_goTo a_idleFrom a_idleTo a_moreOf a_firstOf a_leftOf a_didOf a_costBy a_gainBy a_hiredOf a_hiredBest a_hiredTo a_turnOf a_turnWho pe ch rt pl le0 fa nu op_ cm wt sm li rv du cl gd sd ik T kc v1 ft (by have a0 := Int32.le_iff_toInt_le.mp c_10; have a1 : (260 : Int32).toInt = 260 := (by decide); have a2 := nI_toInt (n := (T + 20)) (by omega); omega)) (gV k_1283 k_1285 k_33 k_103 k_1286) (by decide +kernel) ⟨Nat.le_of_ble_eq_true rfl, Nat.le_of_ble_eq_true rfl⟩ ⟨rfl, rfl⟩ [0, 1] [] rfl rfl (by decide) (by decide) rfl rfl rfl rfl rfl hl.1 (Nat.le_of_ble_eq_true rfl) dX10_feed_17 ⟨Nat.le_of_ble_eq_true rfl, Nat.le_of_ble_eq_true rfl⟩ (fun u H locs hw_3 hP hD hS => ?_)
    obtain ⟨to_2, rfl⟩ : ∃ z, z = u := ⟨_, rfl⟩
    try dsimp only at hw_3
    have hP : va_P D vwCl [(h0, .inr (10, [.ref a_now, .ref a_aside, .ref a_kept, .ref a_keptFrom, .ref a_keptTo, .ref a_capOf, .ref a_leaveFrom, .ref a_leaveTo, .ref a_amountOf, .ref a_doerMany, .ref a_doerOf, .int pe, .int ch, .int rt, .ref a_tape, .int (nI (T + 4)), .int pl, .int le0, .int fa, .int nu, .int op_, .int cm, .int wt, .int sm, .int (nI kc), .ref a_said, .ref a_waitsAt, .ref a_saidLetter, .ref a_saidFrom, .ref a_saidHalf, .ref a_saidTo, .ref a_codes, .ref a_clauseOf, .ref a_codeFrom, .ref a_codeHalf, .ref a_codeTo, .ref a_stack, .ref a_facts, .ref a_lineChore, .ref a_lineMany, .ref a_lineDoer, .ref a_newFrom, .ref a_newTo, .int li, .ref a_goFrom, .ref a_goTo, .ref a_idleFrom, .ref a_idleTo, .ref a_moreOf, .ref a_firstOf, .ref a_leftOf, .ref a_didOf, .int rv, .int du, .int cl, .int gd, .ref a_costBy, .int sd, .ref a_gainBy, .ref a_hiredOf, .ref a_hiredBest, .ref a_hiredTo, .ref a_turnOf, .ref a_turnWho, .int ik])), (a_tape, .inl (cB, 260, .inl to_2))] H := hP
    have hD : va_D A [(h0, .inr (10, [.ref a_now, .ref a_aside, .ref a_kept, .ref a_keptFrom, .ref a_keptTo, .ref a_capOf, .ref a_leaveFrom, .ref a_leaveTo, .ref a_amountOf, .ref a_doerMany, .ref a_doerOf, .int pe, .int ch, .int rt, .ref a_tape, .int (nI (T + 4)), .int pl, .int le0, .int fa, .int nu, .int op_, .int cm, .int wt, .int sm, .int (nI kc), .ref a_said, .ref a_waitsAt, .ref a_saidLetter, .ref a_saidFrom, .ref a_saidHalf, .ref a_saidTo, .ref a_codes, .ref a_clauseOf, .ref a_codeFrom, .ref a_codeHalf, .ref a_codeTo, .ref a_stack, .ref a_facts, .ref a_lineChore, .ref a_lineMany, .ref a_lineDoer, .ref a_newFrom, .ref a_newTo, .int li, .ref a_goFrom, .ref a_goTo, .ref a_idleFrom, .ref a_idleTo, .ref a_moreOf, .ref a_firstOf, .ref a_leftOf, .ref a_didOf, .int rv, .int du, .int cl, .int gd, .ref a_costBy, .int sd, .ref a_gainBy, .ref a_hiredOf, .ref a_hiredBest, .ref a_hiredTo, .ref a_turnOf, .ref a_turnWho, .int ik])), (a_tape, .inl (cB, 260, .inl to_2))] := hD
    refine lv_aload_n hx hb dX10_feed_20 rfl (lv_at hl 0 rfl) ?_
    refine lv_iload_n hx hb dX10_feed_21 rfl (lv_at hl 2 rfl) ?_
    refine cVV (As := [.int v2]) (rest := []) (n := 1) (ci := 10) (q0 := 0) (wr := []) X hN hK hP hD hS hA (c_typesW l D cI cB _ h0 a_now a_aside a_kept a_keptFrom a_keptTo a_capOf a_leaveFrom a_leaveTo a_amountOf a_doerMany a_doerOf a_tape a_said a_waitsAt a_saidLetter a_saidFrom a_saidHalf a_saidTo a_codes a_clauseOf a_codeFrom a_codeHalf a_codeTo a_stack a_facts a_lineChore a_lineMany a_lineDoer a_newFrom a_newTo a_goFrom a_goTo a_idleFrom a_idleTo a_moreOf a_firstOf a_leftOf a_didOf a_costBy a_gainBy a_hiredOf a_hiredBest a_hiredTo a_turnOf a_turnWho pe ch rt pl le0 fa nu op_ cm wt sm li rv du cl gd sd ik (T + 4) kc v2 to_2 (by have a0 := Int32.le_iff_toInt_le.mp c_10; have a1 : (260 : Int32).toInt = 260 := (by decide); have a2 := nI_toInt (n := (T + 20)) (by omega); omega)) (gV k_1283 k_1285 k_33 k_103 k_1286) (by decide +kernel) ⟨Nat.le_of_ble_eq_true rfl, Nat.le_of_ble_eq_true rfl⟩ ⟨rfl, rfl⟩ [0, 1] [] rfl rfl (by decide) (by decide) rfl rfl rfl rfl rfl hl.1 (Nat.le_of_ble_eq_true rfl) dX10_feed_22 ⟨Nat.le_of_ble_eq_true rfl, Nat.le_of_ble_eq_true rfl⟩ (fun u H locs hw_6 hP hD hS => ?_)
    obtain ⟨to_5, rfl⟩ : ∃ z, z = u := ⟨_, rfl⟩
    try dsimp only at hw_6
    have hP : va_P D vwCl [(h0, .inr (10, [.ref a_now, .ref a_aside, .ref a_kept, .ref a_keptFrom, .ref a_keptTo, .ref a_capOf, .ref a_leaveFrom, .ref a_leaveTo, .ref a_amountOf, .ref a_doerMany, .ref a_doerOf, .int pe, .int ch, .int rt, .ref a_tape, .int (nI ((T + 4) + 4)), .int pl, .int le0, .int fa, .int nu, .int op_, .int cm, .int wt, .int sm, .int (nI kc), .ref a_said, .ref a_waitsAt, .ref a_saidLetter, .ref a_saidFrom, .ref a_saidHalf, .ref a_saidTo, .ref a_codes, .ref a_clauseOf, .ref a_codeFrom, .ref a_codeHalf, .ref a_codeTo, .ref a_stack, .ref a_facts, .ref a_lineChore, .ref a_lineMany, .ref a_lineDoer, .ref a_newFrom, .ref a_newTo, .int li, .ref a_goFrom, .ref a_goTo, .ref a_idleFrom, .ref a_idleTo, .ref a_moreOf, .ref a_firstOf, .ref a_leftOf, .ref a_didOf, .int rv, .int du, .int cl, .int gd, .ref a_costBy, .int sd, .ref a_gainBy, .ref a_hiredOf, .ref a_hiredBest, .ref a_hiredTo, .ref a_turnOf, .ref a_turnWho, .int ik])), (a_tape, .inl (cB, 260, .inl to_5))] H := hP
    have hD : va_D A [(h0, .inr (10, [.ref a_now, .ref a_aside, .ref a_kept, .ref a_keptFrom, .ref a_keptTo, .ref a_capOf, .ref a_leaveFrom, .ref a_leaveTo, .ref a_amountOf, .ref a_doerMany, .ref a_doerOf, .int pe, .int ch, .int rt, .ref a_tape, .int (nI ((T + 4) + 4)), .int pl, .int le0, .int fa, .int nu, .int op_, .int cm, .int wt, .int sm, .int (nI kc), .ref a_said, .ref a_waitsAt, .ref a_saidLetter, .ref a_saidFrom, .ref a_saidHalf, .ref a_saidTo, .ref a_codes, .ref a_clauseOf, .ref a_codeFrom, .ref a_codeHalf, .ref a_codeTo, .ref a_stack, .ref a_facts, .ref a_lineChore, .ref a_lineMany, .ref a_lineDoer, .ref a_newFrom, .ref a_newTo, .int li, .ref a_goFrom, .ref a_goTo, .ref a_idleFrom, .ref a_idleTo, .ref a_moreOf, .ref a_firstOf, .ref a_leftOf, .ref a_didOf, .int rv, .int du, .int cl, .int gd, .ref a_costBy, .int sd, .ref a_gainBy, .ref a_hiredOf, .ref a_hiredBest, .ref a_hiredTo, .ref a_turnOf, .ref a_turnWho, .int ik])), (a_tape, .inl (cB, 260, .inl to_5))] := hD
    refine lv_aload_n hx hb dX10_feed_25 rfl (lv_at hl 0 rfl) ?_
    refine lv_iload_n hx hb dX10_feed_26 rfl (lv_at hl 3 rfl) ?_
    refine cVV (As := [.int v3]) (rest := []) (n := 1) (ci := 10) (q0 := 0) (wr := []) X hN hK hP hD hS hA (c_typesW l D cI cB _ h0 a_now a_aside a_kept a_keptFrom a_keptTo a_capOf a_leaveFrom a_leaveTo a_amountOf a_doerMany a_doerOf a_tape a_said a_waitsAt a_saidLetter a_saidFrom a_saidHalf a_saidTo a_codes a_clauseOf a_codeFrom a_codeHalf a_codeTo a_stack a_facts a_lineChore a_lineMany a_lineDoer a_newFrom a_newTo a_goFrom a_goTo a_idleFrom a_idleTo a_moreOf a_firstOf a_leftOf a_didOf a_costBy a_gainBy a_hiredOf a_hiredBest a_hiredTo a_turnOf a_turnWho pe ch rt pl le0 fa nu op_ cm wt sm li rv du cl gd sd ik ((T + 4) + 4) kc v3 to_5 (by have a0 := Int32.le_iff_toInt_le.mp c_10; have a1 : (260 : Int32).toInt = 260 := (by decide); have a2 := nI_toInt (n := (T + 20)) (by omega); omega)) (gV k_1283 k_1285 k_33 k_103 k_1286) (by decide +kernel) ⟨Nat.le_of_ble_eq_true rfl, Nat.le_of_ble_eq_true rfl⟩ ⟨rfl, rfl⟩ [0, 1] [] rfl rfl (by decide) (by decide) rfl rfl rfl rfl rfl hl.1 (Nat.le_of_ble_eq_true rfl) dX10_feed_27 ⟨Nat.le_of_ble_eq_true rfl, Nat.le_of_ble_eq_true rfl⟩ (fun u H locs hw_9 hP hD hS => ?_)
    obtain ⟨to_8, rfl⟩ : ∃ z, z = u := ⟨_, rfl⟩
    try dsimp only at hw_9
    have hP : va_P D vwCl [(h0, .inr (10, [.ref a_now, .ref a_aside, .ref a_kept, .ref a_keptFrom, .ref a_keptTo, .ref a_capOf, .ref a_leaveFrom, .ref a_leaveTo, .ref a_amountOf, .ref a_doerMany, .ref a_doerOf, .int pe, .int ch, .int rt, .ref a_tape, .int (nI (((T + 4) + 4) + 4)), .int pl, .int le0, .int fa, .int nu, .int op_, .int cm, .int wt, .int sm, .int (nI kc), .ref a_said, .ref a_waitsAt, .ref a_saidLetter, .ref a_saidFrom, .ref a_saidHalf, .ref a_saidTo, .ref a_codes, .ref a_clauseOf, .ref a_codeFrom, .ref a_codeHalf, .ref a_codeTo, .ref a_stack, .ref a_facts, .ref a_lineChore, .ref a_lineMany, .ref a_lineDoer, .ref a_newFrom, .ref a_newTo, .int li, .ref a_goFrom, .ref a_goTo, .ref a_idleFrom, .ref a_idleTo, .ref a_moreOf, .ref a_firstOf, .ref a_leftOf, .ref a_didOf, .int rv, .int du, .int cl, .int gd, .ref a_costBy, .int sd, .ref a_gainBy, .ref a_hiredOf, .ref a_hiredBest, .ref a_hiredTo, .ref a_turnOf, .ref a_turnWho, .int ik])), (a_tape, .inl (cB, 260, .inl to_8))] H := hP
    have hD : va_D A [(h0, .inr (10, [.ref a_now, .ref a_aside, .ref a_kept, .ref a_keptFrom, .ref a_keptTo, .ref a_capOf, .ref a_leaveFrom, .ref a_leaveTo, .ref a_amountOf, .ref a_doerMany, .ref a_doerOf, .int pe, .int ch, .int rt, .ref a_tape, .int (nI (((T + 4) + 4) + 4)), .int pl, .int le0, .int fa, .int nu, .int op_, .int cm, .int wt, .int sm, .int (nI kc), .ref a_said, .ref a_waitsAt, .ref a_saidLetter, .ref a_saidFrom, .ref a_saidHalf, .ref a_saidTo, .ref a_codes, .ref a_clauseOf, .ref a_codeFrom, .ref a_codeHalf, .ref a_codeTo, .ref a_stack, .ref a_facts, .ref a_lineChore, .ref a_lineMany, .ref a_lineDoer, .ref a_newFrom, .ref a_newTo, .int li, .ref a_goFrom, .ref a_goTo, .ref a_idleFrom, .ref a_idleTo, .ref a_moreOf, .ref a_firstOf, .ref a_leftOf, .ref a_didOf, .int rv, .int du, .int cl, .int gd, .ref a_costBy, .int sd, .ref a_gainBy, .ref a_hiredOf, .ref a_hiredBest, .ref a_hiredTo, .ref a_turnOf, .ref a_turnWho, .int ik])), (a_tape, .inl (cB, 260, .inl to_8))] := hD
    refine lv_aload_n hx hb dX10_feed_30 rfl (lv_at hl 0 rfl) ?_
    refine lv_iload hx hb dX10_feed_31 (lv_at hl 4 rfl) ?_
    refine cVV (As := [.int v4]) (rest := []) (n := 1) (ci := 10) (q0 := 0) (wr := []) X hN hK hP hD hS hA (c_typesW l D cI cB _ h0 a_now a_aside a_kept a_keptFrom a_keptTo a_capOf a_leaveFrom a_leaveTo a_amountOf a_doerMany a_doerOf a_tape a_said a_waitsAt a_saidLetter a_saidFrom a_saidHalf a_saidTo a_codes a_clauseOf a_codeFrom a_codeHalf a_codeTo a_stack a_facts a_lineChore a_lineMany a_lineDoer a_newFrom a_newTo a_goFrom a_goTo a_idleFrom a_idleTo a_moreOf a_firstOf a_leftOf a_didOf a_costBy a_gainBy a_hiredOf a_hiredBest a_hiredTo a_turnOf a_turnWho pe ch rt pl le0 fa nu op_ cm wt sm li rv du cl gd sd ik (((T + 4) + 4) + 4) kc v4 to_8 (by have a0 := Int32.le_iff_toInt_le.mp c_10; have a1 : (260 : Int32).toInt = 260 := (by decide); have a2 := nI_toInt (n := (T + 20)) (by omega); omega)) (gV k_1283 k_1285 k_33 k_103 k_1286) (by decide +kernel) ⟨Nat.le_of_ble_eq_true rfl, Nat.le_of_ble_eq_true rfl⟩ ⟨rfl, rfl⟩ [0, 1] [] rfl rfl (by decide) (by decide) rfl rfl rfl rfl rfl hl.1 (Nat.le_of_ble_eq_true rfl) dX10_feed_33 ⟨Nat.le_of_ble_eq_true rfl, Nat.le_of_ble_eq_true rfl⟩ (fun u H locs hw_12 hP hD hS => ?_)
    obtain ⟨to_11, rfl⟩ : ∃ z, z = u := ⟨_, rfl⟩
    try dsimp only at hw_12
    have hP : va_P D vwCl [(h0, .inr (10, [.ref a_now, .ref a_aside, .ref a_kept, .ref a_keptFrom, .ref a_keptTo, .ref a_capOf, .ref a_leaveFrom, .ref a_leaveTo, .ref a_amountOf, .ref a_doerMany, .ref a_doerOf, .int pe, .int ch, .int rt, .ref a_tape, .int (nI ((((T + 4) + 4) + 4) + 4)), .int pl, .int le0, .int fa, .int nu, .int op_, .int cm, .int wt, .int sm, .int (nI kc), .ref a_said, .ref a_waitsAt, .ref a_saidLetter, .ref a_saidFrom, .ref a_saidHalf, .ref a_saidTo, .ref a_codes, .ref a_clauseOf, .ref a_codeFrom, .ref a_codeHalf, .ref a_codeTo, .ref a_stack, .ref a_facts, .ref a_lineChore, .ref a_lineMany, .ref a_lineDoer, .ref a_newFrom, .ref a_newTo, .int li, .ref a_goFrom, .ref a_goTo, .ref a_idleFrom, .ref a_idleTo, .ref a_moreOf, .ref a_firstOf, .ref a_leftOf, .ref a_didOf, .int rv, .int du, .int cl, .int gd, .ref a_costBy, .int sd, .ref a_gainBy, .ref a_hiredOf, .ref a_hiredBest, .ref a_hiredTo, .ref a_turnOf, .ref a_turnWho, .int ik])), (a_tape, .inl (cB, 260, .inl to_11))] H := hP
    have hD : va_D A [(h0, .inr (10, [.ref a_now, .ref a_aside, .ref a_kept, .ref a_keptFrom, .ref a_keptTo, .ref a_capOf, .ref a_leaveFrom, .ref a_leaveTo, .ref a_amountOf, .ref a_doerMany, .ref a_doerOf, .int pe, .int ch, .int rt, .ref a_tape, .int (nI ((((T + 4) + 4) + 4) + 4)), .int pl, .int le0, .int fa, .int nu, .int op_, .int cm, .int wt, .int sm, .int (nI kc), .ref a_said, .ref a_waitsAt, .ref a_saidLetter, .ref a_saidFrom, .ref a_saidHalf, .ref a_saidTo, .ref a_codes, .ref a_clauseOf, .ref a_codeFrom, .ref a_codeHalf, .ref a_codeTo, .ref a_stack, .ref a_facts, .ref a_lineChore, .ref a_lineMany, .ref a_lineDoer, .ref a_newFrom, .ref a_newTo, .int li, .ref a_goFrom, .ref a_goTo, .ref a_idleFrom, .ref a_idleTo, .ref a_moreOf, .ref a_firstOf, .ref a_leftOf, .ref a_didOf, .int rv, .int du, .int cl, .int gd, .ref a_costBy, .int sd, .ref a_gainBy, .ref a_hiredOf, .ref a_hiredBest, .ref a_hiredTo, .ref a_turnOf, .ref a_turnWho, .int ik])), (a_tape, .inl (cB, 260, .inl to_11))] := hD
    refine lv_aload_n hx hb dX10_feed_36 rfl (lv_at hl 0 rfl) ?_
    refine lv_iload hx hb dX10_feed_37 (lv_at hl 5 rfl) ?_
    refine cVV (As := [.int v5]) (rest := []) (n := 1) (ci := 10) (q0 := 0) (wr := []) X hN hK hP hD hS hA (c_typesW l D cI cB _ h0 a_now a_aside a_kept a_keptFrom a_keptTo a_capOf a_leaveFrom a_leaveTo a_amountOf a_doerMany a_doerOf a_tape a_said a_waitsAt a_saidLetter a_saidFrom a_saidHalf a_saidTo a_codes a_clauseOf a_codeFrom a_codeHalf a_codeTo a_stack a_facts a_lineChore a_lineMany a_lineDoer a_newFrom a_newTo a_goFrom a_goTo a_idleFrom a_idleTo a_moreOf a_firstOf a_leftOf a_didOf a_costBy a_gainBy a_hiredOf a_hiredBest a_hiredTo a_turnOf a_turnWho pe ch rt pl le0 fa nu op_ cm wt sm li rv du cl gd sd ik ((((T + 4) + 4) + 4) + 4) kc v5 to_11 (by have a0 := Int32.le_iff_toInt_le.mp c_10; have a1 : (260 : Int32).toInt = 260 := (by decide); have a2 := nI_toInt (n := (T + 20)) (by omega); omega)) (gV k_1283 k_1285 k_33 k_103 k_1286) (by decide +kernel) ⟨Nat.le_of_ble_eq_true rfl, Nat.le_of_ble_eq_true rfl⟩ ⟨rfl, rfl⟩ [0, 1] [] rfl rfl (by decide) (by decide) rfl rfl rfl rfl rfl hl.1 (Nat.le_of_ble_eq_true rfl) dX10_feed_39 ⟨Nat.le_of_ble_eq_true rfl, Nat.le_of_ble_eq_true rfl⟩ (fun u H locs hw_15 hP hD hS => ?_)
    obtain ⟨to_14, rfl⟩ : ∃ z, z = u := ⟨_, rfl⟩
    try dsimp only at hw_15
    have hP : va_P D vwCl [(h0, .inr (10, [.ref a_now, .ref a_aside, .ref a_kept, .ref a_keptFrom, .ref a_keptTo, .ref a_capOf, .ref a_leaveFrom, .ref a_leaveTo, .ref a_amountOf, .ref a_doerMany, .ref a_doerOf, .int pe, .int ch, .int rt, .ref a_tape, .int (nI (((((T + 4) + 4) + 4) + 4) + 4)), .int pl, .int le0, .int fa, .int nu, .int op_, .int cm, .int wt, .int sm, .int (nI kc), .ref a_said, .ref a_waitsAt, .ref a_saidLetter, .ref a_saidFrom, .ref a_saidHalf, .ref a_saidTo, .ref a_codes, .ref a_clauseOf, .ref a_codeFrom, .ref a_codeHalf, .ref a_codeTo, .ref a_stack, .ref a_facts, .ref a_lineChore, .ref a_lineMany, .ref a_lineDoer, .ref a_newFrom, .ref a_newTo, .int li, .ref a_goFrom, .ref a_goTo, .ref a_idleFrom, .ref a_idleTo, .ref a_moreOf, .ref a_firstOf, .ref a_leftOf, .ref a_didOf, .int rv, .int du, .int cl, .int gd, .ref a_costBy, .int sd, .ref a_gainBy, .ref a_hiredOf, .ref a_hiredBest, .ref a_hiredTo, .ref a_turnOf, .ref a_turnWho, .int ik])), (a_tape, .inl (cB, 260, .inl to_14))] H := hP
    have hD : va_D A [(h0, .inr (10, [.ref a_now, .ref a_aside, .ref a_kept, .ref a_keptFrom, .ref a_keptTo, .ref a_capOf, .ref a_leaveFrom, .ref a_leaveTo, .ref a_amountOf, .ref a_doerMany, .ref a_doerOf, .int pe, .int ch, .int rt, .ref a_tape, .int (nI (((((T + 4) + 4) + 4) + 4) + 4)), .int pl, .int le0, .int fa, .int nu, .int op_, .int cm, .int wt, .int sm, .int (nI kc), .ref a_said, .ref a_waitsAt, .ref a_saidLetter, .ref a_saidFrom, .ref a_saidHalf, .ref a_saidTo, .ref a_codes, .ref a_clauseOf, .ref a_codeFrom, .ref a_codeHalf, .ref a_codeTo, .ref a_stack, .ref a_facts, .ref a_lineChore, .ref a_lineMany, .ref a_lineDoer, .ref a_newFrom, .ref a_newTo, .int li, .ref a_goFrom, .ref a_goTo, .ref a_idleFrom, .ref a_idleTo, .ref a_moreOf, .ref a_firstOf, .ref a_leftOf, .ref a_didOf, .int rv, .int du, .int cl, .int gd, .ref a_costBy, .int sd, .ref a_gainBy, .ref a_hiredOf, .ref a_hiredBest, .ref a_hiredTo, .ref a_turnOf, .ref a_turnWho, .int ik])), (a_tape, .inl (cB, 260, .inl to_14))] := hD
    refine lv_aload_n hx hb dX10_feed_42 rfl (lv_at hl 0 rfl) ?_
    refine va_get (D := D) (ci := 10) (v := .int (nI (((((T + 4) + 4) + 4) + 4) + 4))) (C := RX10) (T := TX10) (N := 65) hx hb htb itX10 hown hK hP 0 rfl rfl 15 (by decide) (htb _ k_1083) (fun _ h9 => h9) rfl dX10_feed_43 ?_
    exact ret _ _ _ _ (nI (((((T + 4) + 4) + 4) + 4) + 4)) ((((((T + 4) + 4) + 4) + 4) + 4), to_14) dX10_feed_46 rfl (⟨⟨by have a0 := Int32.le_iff_toInt_le.mp c_10; have a1 : (260 : Int32).toInt = 260 := (by decide); have a2 := nI_toInt (n := (T + 20)) (by omega); omega, fun _ => ⟨by omega, congrArg nI (by omega)⟩, fun h => absurd (by have a0 := Int32.le_iff_toInt_le.mp c_10; have a1 : (260 : Int32).toInt = 260 := (by decide); have a2 := nI_toInt (n := (T + 20)) (by omega); omega) h⟩, fun _ => ⟨_, _, _, _, hw_3, hw_6, hw_9, hw_12, hw_15⟩, fun h => absurd (by have a0 := Int32.le_iff_toInt_le.mp c_10; have a1 : (260 : Int32).toInt = 260 := (by decide); have a2 := nI_toInt (n := (T + 20)) (by omega); omega) h⟩) (hP.sub [0, 1] rfl) (hD.sub [0, 1] (by decide) rfl) hS
  · refine lv_iconst (v := (-1)) hx hb dX10_feed_13 (by decide) ?_
    exact ret _ _ _ _ (-1) (T, ft) dX10_feed_14 rfl (⟨⟨hT, fun h => absurd h (by have a0 := mt Int32.le_iff_toInt_le.mpr c_10; have a1 : (260 : Int32).toInt = 260 := (by decide); have a2 := nI_toInt (n := (T + 20)) (by omega); omega), fun _ => ⟨rfl, rfl⟩⟩, fun h => absurd h (by have a0 := mt Int32.le_iff_toInt_le.mpr c_10; have a1 : (260 : Int32).toInt = 260 := (by decide); have a2 := nI_toInt (n := (T + 20)) (by omega); omega), fun _ => rfl⟩) (hP.sub [0, 1] rfl) (hD.sub [0, 1] (by decide) rfl) hS
