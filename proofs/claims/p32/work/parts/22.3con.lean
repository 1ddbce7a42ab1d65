set_option maxRecDepth 100000 in
set_option maxHeartbeats 4000000 in
theorem c_X1_beginClause (l : Launch) (D : va_G) (cI cB : ClassId) (sz : Nat) (h0 : Nat) (l1 : Nat) (l2 : Nat) (l3 : Nat) (l4 : Nat) (l5 : Nat) (l6 : Nat) (l7 : Nat) (z : Nat) (k : Nat) (a : Int32) (q2 : Nat → Int32) (q3 : Nat → Int32) (hz : z ≤ 240) (hk : k ≤ 16) : MV (S := ((Nat → Int32) × (Nat → Int32))) l D cI cB yX1_beginClause cX1_beginClause 2 (rm 0 0) [.ref h0, .int a] [(h0, .inr (1, [.ref l1, .ref l2, .ref l3, .ref l4, .ref l5, .ref l6, .ref l7, .int (nI z), .int (nI k)])), (l2, .inl (cI, 16, .inl q2)), (l3, .inl (cI, 16, .inl q3))] sz (fun u => True) (fun u : ((Nat → Int32) × (Nat → Int32)) => [(h0, .inr (1, [.ref l1, .ref l2, .ref l3, .ref l4, .ref l5, .ref l6, .ref l7, .int (nI z), .int (nI k)])), (l2, .inl (cI, 16, .inl u.1)), (l3, .inl (cI, 16, .inl u.2))]) := by
  refine MV.of (by decide) (Nat.le_of_ble_eq_true rfl) ?_
  intro p e s m below meth c Q ls A X hin hN hP hK hD hA hl ret
  have hS : va_S A s.heap s.heap [] := va_S.rf
  obtain ⟨hx, hb, hml, hown, htb⟩ := id X
  have hl : lv_has ls 2 [(0, .ref h0), (1, .int a)] := hl
  refine lv_aload_n hx hb dX1_beginClause_0 rfl (lv_at hl 0 rfl) ?_
  refine va_get (D := D) (ci := 1) (v := .int (nI k)) (C := RX1) (T := TX1) (N := 9) hx hb htb itX1 hown hK hP 0 rfl rfl 8 (by decide) (htb _ k_234) (fun _ h9 => h9) rfl dX1_beginClause_1 ?_
  refine lv_bipush (v := 16) hx hb dX1_beginClause_4 (by decide) ?_
  refine lv_icmp_ge (tgt := 32) hx hb dX1_beginClause_6 (by decide) (fun c_6 => ?_) (fun c_6 => ?_)
  · exact ret _ _ _ _ (q2, q3) dX1_beginClause_32 trivial (hP.sub [0, 1, 2] rfl) (hD.sub [0, 1, 2] (by decide) rfl) hS
  · refine lv_aload_n hx hb dX1_beginClause_9 rfl (lv_at hl 0 rfl) ?_
    refine va_get (D := D) (ci := 1) (v := .ref l2) (C := RX1) (T := TX1) (N := 9) hx hb htb itX1 hown hK hP 0 rfl rfl 1 (by decide) (htb _ k_225) (fun _ h9 => h9) rfl dX1_beginClause_10 ?_
    refine lv_aload_n hx hb dX1_beginClause_13 rfl (lv_at hl 0 rfl) ?_
    refine va_get (D := D) (ci := 1) (v := .int (nI k)) (C := RX1) (T := TX1) (N := 9) hx hb htb itX1 hown hK hP 0 rfl rfl 8 (by decide) (htb _ k_234) (fun _ h9 => h9) rfl dX1_beginClause_14 ?_
    refine lv_iload_n hx hb dX1_beginClause_17 rfl (lv_at hl 1 rfl) ?_
    refine va_iast hx hb hK hP hD hS 1 0 rfl rfl (by have a0 := mt Int32.le_iff_toInt_le.mpr c_6; have a1 : (16 : Int32).toInt = 16 := (by decide); have a2 := nI_toInt (n := k) (by omega); exact vp_in_nI (by omega) (by decide)) dX1_beginClause_18 (fun H locs hP hD hS => ?_)
    obtain ⟨f_1, ef_1⟩ : ∃ g : Nat → Int32, g = upd q2 (Int32.toNatClampNeg (nI k)) a := ⟨_, rfl⟩
    rw [← ef_1] at hP hD
    have hP : va_P D vwCl [(h0, .inr (1, [.ref l1, .ref l2, .ref l3, .ref l4, .ref l5, .ref l6, .ref l7, .int (nI z), .int (nI k)])), (l2, .inl (cI, 16, .inl f_1)), (l3, .inl (cI, 16, .inl q3))] H := hP
    have hD : va_D A [(h0, .inr (1, [.ref l1, .ref l2, .ref l3, .ref l4, .ref l5, .ref l6, .ref l7, .int (nI z), .int (nI k)])), (l2, .inl (cI, 16, .inl f_1)), (l3, .inl (cI, 16, .inl q3))] := hD
    refine lv_aload_n hx hb dX1_beginClause_19 rfl (lv_at hl 0 rfl) ?_
    refine va_get (D := D) (ci := 1) (v := .ref l3) (C := RX1) (T := TX1) (N := 9) hx hb htb itX1 hown hK hP 0 rfl rfl 2 (by decide) (htb _ k_226) (fun _ h9 => h9) rfl dX1_beginClause_20 ?_
    refine lv_aload_n hx hb dX1_beginClause_23 rfl (lv_at hl 0 rfl) ?_
    refine va_get (D := D) (ci := 1) (v := .int (nI k)) (C := RX1) (T := TX1) (N := 9) hx hb htb itX1 hown hK hP 0 rfl rfl 8 (by decide) (htb _ k_234) (fun _ h9 => h9) rfl dX1_beginClause_24 ?_
    refine lv_aload_n hx hb dX1_beginClause_27 rfl (lv_at hl 0 rfl) ?_
    refine va_get (D := D) (ci := 1) (v := .int (nI z)) (C := RX1) (T := TX1) (N := 9) hx hb htb itX1 hown hK hP 0 rfl rfl 7 (by decide) (htb _ k_231) (fun _ h9 => h9) rfl dX1_beginClause_28 ?_
    refine va_iast hx hb hK hP hD hS 2 0 rfl rfl (by have a0 := mt Int32.le_iff_toInt_le.mpr c_6; have a1 : (16 : Int32).toInt = 16 := (by decide); have a2 := nI_toInt (n := k) (by omega); exact vp_in_nI (by omega) (by decide)) dX1_beginClause_31 (fun H locs hP hD hS => ?_)
    obtain ⟨f_2, ef_2⟩ : ∃ g : Nat → Int32, g = upd q3 (Int32.toNatClampNeg (nI k)) (nI z) := ⟨_, rfl⟩
    rw [← ef_2] at hP hD
    have hP : va_P D vwCl [(h0, .inr (1, [.ref l1, .ref l2, .ref l3, .ref l4, .ref l5, .ref l6, .ref l7, .int (nI z), .int (nI k)])), (l2, .inl (cI, 16, .inl f_1)), (l3, .inl (cI, 16, .inl f_2))] H := hP
    have hD : va_D A [(h0, .inr (1, [.ref l1, .ref l2, .ref l3, .ref l4, .ref l5, .ref l6, .ref l7, .int (nI z), .int (nI k)])), (l2, .inl (cI, 16, .inl f_1)), (l3, .inl (cI, 16, .inl f_2))] := hD
    exact ret _ _ _ _ (f_1, f_2) dX1_beginClause_32 trivial (hP.sub [0, 1, 2] rfl) (hD.sub [0, 1, 2] (by decide) rfl) hS

set_option maxRecDepth 100000 in
set_option maxHeartbeats 4000000 in
theorem c_X1_beginCondition (l : Launch) (D : va_G) (cI cB : ClassId) (sz : Nat) (h0 : Nat) (l1 : Nat) (l2 : Nat) (l3 : Nat) (l4 : Nat) (l5 : Nat) (l6 : Nat) (l7 : Nat) (z : Nat) (k : Nat) (q4 : Nat → Int32) (hz : z ≤ 240) (hk : k ≤ 16) : MV (S := ((Nat → Int32))) l D cI cB yX1_beginCondition cX1_beginCondition 1 (rm 0 0) [.ref h0] [(h0, .inr (1, [.ref l1, .ref l2, .ref l3, .ref l4, .ref l5, .ref l6, .ref l7, .int (nI z), .int (nI k)])), (l4, .inl (cI, 16, .inl q4))] sz (fun u => True) (fun u : ((Nat → Int32)) => [(h0, .inr (1, [.ref l1, .ref l2, .ref l3, .ref l4, .ref l5, .ref l6, .ref l7, .int (nI z), .int (nI k)])), (l4, .inl (cI, 16, .inl u))]) := by
  refine MV.of (by decide) (Nat.le_of_ble_eq_true rfl) ?_
  intro p e s m below meth c Q ls A X hin hN hP hK hD hA hl ret
  have hS : va_S A s.heap s.heap [] := va_S.rf
  obtain ⟨hx, hb, hml, hown, htb⟩ := id X
  have hl : lv_has ls 1 [(0, .ref h0)] := hl
  refine lv_aload_n hx hb dX1_beginCondition_0 rfl (lv_at hl 0 rfl) ?_
  refine va_get (D := D) (ci := 1) (v := .int (nI k)) (C := RX1) (T := TX1) (N := 9) hx hb htb itX1 hown hK hP 0 rfl rfl 8 (by decide) (htb _ k_234) (fun _ h9 => h9) rfl dX1_beginCondition_1 ?_
  refine lv_bipush (v := 16) hx hb dX1_beginCondition_4 (by decide) ?_
  refine lv_icmp_ge (tgt := 22) hx hb dX1_beginCondition_6 (by decide) (fun c_6 => ?_) (fun c_6 => ?_)
  · exact ret _ _ _ _ q4 dX1_beginCondition_22 trivial (hP.sub [0, 1] rfl) (hD.sub [0, 1] (by decide) rfl) hS
  · refine lv_aload_n hx hb dX1_beginCondition_9 rfl (lv_at hl 0 rfl) ?_
    refine va_get (D := D) (ci := 1) (v := .ref l4) (C := RX1) (T := TX1) (N := 9) hx hb htb itX1 hown hK hP 0 rfl rfl 3 (by decide) (htb _ k_227) (fun _ h9 => h9) rfl dX1_beginCondition_10 ?_
    refine lv_aload_n hx hb dX1_beginCondition_13 rfl (lv_at hl 0 rfl) ?_
    refine va_get (D := D) (ci := 1) (v := .int (nI k)) (C := RX1) (T := TX1) (N := 9) hx hb htb itX1 hown hK hP 0 rfl rfl 8 (by decide) (htb _ k_234) (fun _ h9 => h9) rfl dX1_beginCondition_14 ?_
    refine lv_aload_n hx hb dX1_beginCondition_17 rfl (lv_at hl 0 rfl) ?_
    refine va_get (D := D) (ci := 1) (v := .int (nI z)) (C := RX1) (T := TX1) (N := 9) hx hb htb itX1 hown hK hP 0 rfl rfl 7 (by decide) (htb _ k_231) (fun _ h9 => h9) rfl dX1_beginCondition_18 ?_
    refine va_iast hx hb hK hP hD hS 1 0 rfl rfl (by have a0 := mt Int32.le_iff_toInt_le.mpr c_6; have a1 : (16 : Int32).toInt = 16 := (by decide); have a2 := nI_toInt (n := k) (by omega); exact vp_in_nI (by omega) (by decide)) dX1_beginCondition_21 (fun H locs hP hD hS => ?_)
    obtain ⟨f_1, ef_1⟩ : ∃ g : Nat → Int32, g = upd q4 (Int32.toNatClampNeg (nI k)) (nI z) := ⟨_, rfl⟩
    rw [← ef_1] at hP hD
    have hP : va_P D vwCl [(h0, .inr (1, [.ref l1, .ref l2, .ref l3, .ref l4, .ref l5, .ref l6, .ref l7, .int (nI z), .int (nI k)])), (l4, .inl (cI, 16, .inl f_1))] H := hP
    have hD : va_D A [(h0, .inr (1, [.ref l1, .ref l2, .ref l3, .ref l4, .ref l5, .ref l6, .ref l7, .int (nI z), .int (nI k)])), (l4, .inl (cI, 16, .inl f_1))] := hD
    exact ret _ _ _ _ f_1 dX1_beginCondition_22 trivial (hP.sub [0, 1] rfl) (hD.sub [0, 1] (by decide) rfl) hS

set_option maxRecDepth 100000 in
set_option maxHeartbeats 4000000 in
theorem c_X1_endClause (l : Launch) (D : va_G) (cI cB : ClassId) (sz : Nat) (h0 : Nat) (l1 : Nat) (l2 : Nat) (l3 : Nat) (l4 : Nat) (l5 : Nat) (l6 : Nat) (l7 : Nat) (z : Nat) (k : Nat) (q5 : Nat → Int32) (hz : z ≤ 240) (hk : k ≤ 16) : MV (S := ((Nat) × (Nat → Int32))) l D cI cB yX1_endClause cX1_endClause 1 (rm 0 0) [.ref h0] [(h0, .inr (1, [.ref l1, .ref l2, .ref l3, .ref l4, .ref l5, .ref l6, .ref l7, .int (nI z), .int (nI k)])), (l5, .inl (cI, 16, .inl q5))] sz (fun u => u.1 ≤ 16) (fun u : ((Nat) × (Nat → Int32)) => [(h0, .inr (1, [.ref l1, .ref l2, .ref l3, .ref l4, .ref l5, .ref l6, .ref l7, .int (nI z), .int (nI u.1)])), (l5, .inl (cI, 16, .inl u.2))]) := by
  refine MV.of (by decide) (Nat.le_of_ble_eq_true rfl) ?_
  intro p e s m below meth c Q ls A X hin hN hP hK hD hA hl ret
  have hS : va_S A s.heap s.heap [] := va_S.rf
  obtain ⟨hx, hb, hml, hown, htb⟩ := id X
  have hl : lv_has ls 1 [(0, .ref h0)] := hl
  refine lv_aload_n hx hb dX1_endClause_0 rfl (lv_at hl 0 rfl) ?_
  refine va_get (D := D) (ci := 1) (v := .int (nI k)) (C := RX1) (T := TX1) (N := 9) hx hb htb itX1 hown hK hP 0 rfl rfl 8 (by decide) (htb _ k_234) (fun _ h9 => h9) rfl dX1_endClause_1 ?_
  refine lv_bipush (v := 16) hx hb dX1_endClause_4 (by decide) ?_
  refine lv_icmp_ge (tgt := 32) hx hb dX1_endClause_6 (by decide) (fun c_6 => ?_) (fun c_6 => ?_)
  · exact ret _ _ _ _ (k, q5) dX1_endClause_32 (by have a0 := Int32.le_iff_toInt_le.mp c_6; have a1 : (16 : Int32).toInt = 16 := (by decide); have a2 := nI_toInt (n := k) (by omega); omega) (hP.sub [0, 1] rfl) (hD.sub [0, 1] (by decide) rfl) hS
  · refine lv_aload_n hx hb dX1_endClause_9 rfl (lv_at hl 0 rfl) ?_
    refine va_get (D := D) (ci := 1) (v := .ref l5) (C := RX1) (T := TX1) (N := 9) hx hb htb itX1 hown hK hP 0 rfl rfl 4 (by decide) (htb _ k_228) (fun _ h9 => h9) rfl dX1_endClause_10 ?_
    refine lv_aload_n hx hb dX1_endClause_13 rfl (lv_at hl 0 rfl) ?_
    refine va_get (D := D) (ci := 1) (v := .int (nI k)) (C := RX1) (T := TX1) (N := 9) hx hb htb itX1 hown hK hP 0 rfl rfl 8 (by decide) (htb _ k_234) (fun _ h9 => h9) rfl dX1_endClause_14 ?_
    refine lv_aload_n hx hb dX1_endClause_17 rfl (lv_at hl 0 rfl) ?_
    refine va_get (D := D) (ci := 1) (v := .int (nI z)) (C := RX1) (T := TX1) (N := 9) hx hb htb itX1 hown hK hP 0 rfl rfl 7 (by decide) (htb _ k_231) (fun _ h9 => h9) rfl dX1_endClause_18 ?_
    refine va_iast hx hb hK hP hD hS 1 0 rfl rfl (by have a0 := mt Int32.le_iff_toInt_le.mpr c_6; have a1 : (16 : Int32).toInt = 16 := (by decide); have a2 := nI_toInt (n := k) (by omega); exact vp_in_nI (by omega) (by decide)) dX1_endClause_21 (fun H locs hP hD hS => ?_)
    obtain ⟨f_1, ef_1⟩ : ∃ g : Nat → Int32, g = upd q5 (Int32.toNatClampNeg (nI k)) (nI z) := ⟨_, rfl⟩
    rw [← ef_1] at hP hD
    have hP : va_P D vwCl [(h0, .inr (1, [.ref l1, .ref l2, .ref l3, .ref l4, .ref l5, .ref l6, .ref l7, .int (nI z), .int (nI k)])), (l5, .inl (cI, 16, .inl f_1))] H := hP
    have hD : va_D A [(h0, .inr (1, [.ref l1, .ref l2, .ref l3, .ref l4, .ref l5, .ref l6, .ref l7, .int (nI z), .int (nI k)])), (l5, .inl (cI, 16, .inl f_1))] := hD
    refine lv_aload_n hx hb dX1_endClause_22 rfl (lv_at hl 0 rfl) ?_
    refine lv_dup hx hb dX1_endClause_23 rfl ?_
    refine va_get (D := D) (ci := 1) (v := .int (nI k)) (C := RX1) (T := TX1) (N := 9) hx hb htb itX1 hown hK hP 0 rfl rfl 8 (by decide) (htb _ k_234) (fun _ h9 => h9) rfl dX1_endClause_24 ?_
    refine lv_iconst (v := 1) hx hb dX1_endClause_27 (by decide) ?_
    refine lv_iadd hx hb dX1_endClause_28 ?_
    refine tv (z := (nI (k + 1))) (nI_1 k) ?_
    refine va_put (D := D) (ci := 1) (v := .int (nI (k + 1))) (ty := .int) (C := RX1) (T := TX1) (N := 9) hx hb htb itX1 tyX1 tyX1_ok nmX1 hown hK hP hD hS 0 rfl rfl 8 (by decide) (htb _ k_234) (fun _ h9 => h9) rfl (tyX1_ok 8 (by decide)) rfl rfl (Nat.le_of_ble_eq_true rfl) dX1_endClause_29 (fun H locs hP hD hS => ?_)
    have hP : va_P D vwCl [(h0, .inr (1, [.ref l1, .ref l2, .ref l3, .ref l4, .ref l5, .ref l6, .ref l7, .int (nI z), .int (nI (k + 1))])), (l5, .inl (cI, 16, .inl f_1))] H := hP
    have hD : va_D A [(h0, .inr (1, [.ref l1, .ref l2, .ref l3, .ref l4, .ref l5, .ref l6, .ref l7, .int (nI z), .int (nI (k + 1))])), (l5, .inl (cI, 16, .inl f_1))] := hD
    exact ret _ _ _ _ ((k + 1), f_1) dX1_endClause_32 (by have a0 := mt Int32.le_iff_toInt_le.mpr c_6; have a1 : (16 : Int32).toInt = 16 := (by decide); have a2 := nI_toInt (n := k) (by omega); omega) (hP.sub [0, 1] rfl) (hD.sub [0, 1] (by decide) rfl) hS

set_option maxRecDepth 100000 in
set_option maxHeartbeats 4000000 in
theorem c_X1_addStep (l : Launch) (D : va_G) (cI cB : ClassId) (sz : Nat) (h0 : Nat) (l1 : Nat) (l2 : Nat) (l3 : Nat) (l4 : Nat) (l5 : Nat) (l6 : Nat) (l7 : Nat) (z : Nat) (k : Nat) (a : Int32) (b : Int32) (q1 : Nat → Int32) (hz : z ≤ 240) (hk : k ≤ 16) : MV (S := ((Nat) × (Nat → Int32))) l D cI cB yX1_addStep cX1_addStep 3 (rm 0 0) [.ref h0, .int a, .int b] [(h0, .inr (1, [.ref l1, .ref l2, .ref l3, .ref l4, .ref l5, .ref l6, .ref l7, .int (nI z), .int (nI k)])), (l1, .inl (cI, 240, .inl q1))] sz (fun u => u.1 ≤ 240) (fun u : ((Nat) × (Nat → Int32)) => [(h0, .inr (1, [.ref l1, .ref l2, .ref l3, .ref l4, .ref l5, .ref l6, .ref l7, .int (nI u.1), .int (nI k)])), (l1, .inl (cI, 240, .inl u.2))]) := by
  refine MV.of (by decide) (Nat.le_of_ble_eq_true rfl) ?_
  intro p e s m below meth c Q ls A X hin hN hP hK hD hA hl ret
  have hS : va_S A s.heap s.heap [] := va_S.rf
  obtain ⟨hx, hb, hml, hown, htb⟩ := id X
  have hl : lv_has ls 3 [(0, .ref h0), (1, .int a), (2, .int b)] := hl
  refine lv_aload_n hx hb dX1_addStep_0 rfl (lv_at hl 0 rfl) ?_
  refine va_get (D := D) (ci := 1) (v := .int (nI z)) (C := RX1) (T := TX1) (N := 9) hx hb htb itX1 hown hK hP 0 rfl rfl 7 (by decide) (htb _ k_231) (fun _ h9 => h9) rfl dX1_addStep_1 ?_
  refine lv_sipush (v := 240) hx hb dX1_addStep_4 (by decide) ?_
  refine lv_icmp_ge (tgt := 34) hx hb dX1_addStep_7 (by decide) (fun c_7 => ?_) (fun c_7 => ?_)
  · exact ret _ _ _ _ (z, q1) dX1_addStep_34 (by have a0 := Int32.le_iff_toInt_le.mp c_7; have a1 : (240 : Int32).toInt = 240 := (by decide); have a2 := nI_toInt (n := z) (by omega); omega) (hP.sub [0, 1] rfl) (hD.sub [0, 1] (by decide) rfl) hS
  · refine lv_aload_n hx hb dX1_addStep_10 rfl (lv_at hl 0 rfl) ?_
    refine va_get (D := D) (ci := 1) (v := .ref l1) (C := RX1) (T := TX1) (N := 9) hx hb htb itX1 hown hK hP 0 rfl rfl 0 (by decide) (htb _ k_224) (fun _ h9 => h9) rfl dX1_addStep_11 ?_
    refine lv_aload_n hx hb dX1_addStep_14 rfl (lv_at hl 0 rfl) ?_
    refine va_get (D := D) (ci := 1) (v := .int (nI z)) (C := RX1) (T := TX1) (N := 9) hx hb htb itX1 hown hK hP 0 rfl rfl 7 (by decide) (htb _ k_231) (fun _ h9 => h9) rfl dX1_addStep_15 ?_
    refine lv_iload_n hx hb dX1_addStep_18 rfl (lv_at hl 2 rfl) ?_
    refine lv_iconst (v := 4) hx hb dX1_addStep_19 (by decide) ?_
    refine lv_ishl hx hb dX1_addStep_20 ?_
    refine lv_iload_n hx hb dX1_addStep_21 rfl (lv_at hl 1 rfl) ?_
    refine lv_ior hx hb dX1_addStep_22 ?_
    refine lv_topi (fun x_1 ex_1 => ?_)
    refine va_iast hx hb hK hP hD hS 1 0 rfl rfl (by have a0 := mt Int32.le_iff_toInt_le.mpr c_7; have a1 : (240 : Int32).toInt = 240 := (by decide); have a2 := nI_toInt (n := z) (by omega); exact vp_in_nI (by omega) (by decide)) dX1_addStep_23 (fun H locs hP hD hS => ?_)
    obtain ⟨f_2, ef_2⟩ : ∃ g : Nat → Int32, g = upd q1 (Int32.toNatClampNeg (nI z)) x_1 := ⟨_, rfl⟩
    rw [← ef_2] at hP hD
    have hP : va_P D vwCl [(h0, .inr (1, [.ref l1, .ref l2, .ref l3, .ref l4, .ref l5, .ref l6, .ref l7, .int (nI z), .int (nI k)])), (l1, .inl (cI, 240, .inl f_2))] H := hP
    have hD : va_D A [(h0, .inr (1, [.ref l1, .ref l2, .ref l3, .ref l4, .ref l5, .ref l6, .ref l7, .int (nI z), .int (nI k)])), (l1, .inl (cI, 240, .inl f_2))] := hD
    refine lv_aload_n hx hb dX1_addStep_24 rfl (lv_at hl 0 rfl) ?_
    refine lv_dup hx hb dX1_addStep_25 rfl ?_
    refine va_get (D := D) (ci := 1) (v := .int (nI z)) (C := RX1) (T := TX1) (N := 9) hx hb htb itX1 hown hK hP 0 rfl rfl 7 (by decide) (htb _ k_231) (fun _ h9 => h9) rfl dX1_addStep_26 ?_
    refine lv_iconst (v := 1) hx hb dX1_addStep_29 (by decide) ?_
    refine lv_iadd hx hb dX1_addStep_30 ?_
    refine tv (z := (nI (z + 1))) (nI_1 z) ?_
    refine va_put (D := D) (ci := 1) (v := .int (nI (z + 1))) (ty := .int) (C := RX1) (T := TX1) (N := 9) hx hb htb itX1 tyX1 tyX1_ok nmX1 hown hK hP hD hS 0 rfl rfl 7 (by decide) (htb _ k_231) (fun _ h9 => h9) rfl (tyX1_ok 7 (by decide)) rfl rfl (Nat.le_of_ble_eq_true rfl) dX1_addStep_31 (fun H locs hP hD hS => ?_)
    have hP : va_P D vwCl [(h0, .inr (1, [.ref l1, .ref l2, .ref l3, .ref l4, .ref l5, .ref l6, .ref l7, .int (nI (z + 1)), .int (nI k)])), (l1, .inl (cI, 240, .inl f_2))] H := hP
    have hD : va_D A [(h0, .inr (1, [.ref l1, .ref l2, .ref l3, .ref l4, .ref l5, .ref l6, .ref l7, .int (nI (z + 1)), .int (nI k)])), (l1, .inl (cI, 240, .inl f_2))] := hD
    exact ret _ _ _ _ ((z + 1), f_2) dX1_addStep_34 (by have a0 := mt Int32.le_iff_toInt_le.mpr c_7; have a1 : (240 : Int32).toInt = 240 := (by decide); have a2 := nI_toInt (n := z) (by omega); omega) (hP.sub [0, 1] rfl) (hD.sub [0, 1] (by decide) rfl) hS

set_option maxRecDepth 100000 in
set_option maxHeartbeats 4000000 in
theorem c_X1_landSkip (l : Launch) (D : va_G) (cI cB : ClassId) (sz : Nat) (h0 : Nat) (l1 : Nat) (l2 : Nat) (l3 : Nat) (l4 : Nat) (l5 : Nat) (l6 : Nat) (l7 : Nat) (z : Nat) (k : Nat) (a : Int32) (q1 : Nat → Int32) (hz : z ≤ 240) (hk : k ≤ 16) : MV (S := ((Nat → Int32))) l D cI cB yX1_landSkip cX1_landSkip 2 (rm 0 0) [.ref h0, .int a] [(h0, .inr (1, [.ref l1, .ref l2, .ref l3, .ref l4, .ref l5, .ref l6, .ref l7, .int (nI z), .int (nI k)])), (l1, .inl (cI, 240, .inl q1))] sz (fun u => True) (fun u : ((Nat → Int32)) => [(h0, .inr (1, [.ref l1, .ref l2, .ref l3, .ref l4, .ref l5, .ref l6, .ref l7, .int (nI z), .int (nI k)])), (l1, .inl (cI, 240, .inl u))]) := by
  refine MV.of (by decide) (Nat.le_of_ble_eq_true rfl) ?_
  intro p e s m below meth c Q ls A X hin hN hP hK hD hA hl ret
  have hS : va_S A s.heap s.heap [] := va_S.rf
  obtain ⟨hx, hb, hml, hown, htb⟩ := id X
  have hl : lv_has ls 2 [(0, .ref h0), (1, .int a)] := hl
  refine lv_iload_n hx hb dX1_landSkip_0 rfl (lv_at hl 1 rfl) ?_
  refine lv_if_lt (tgt := 34) hx hb dX1_landSkip_1 (by decide) (fun c_1 => ?_) (fun c_1 => ?_)
  · exact ret _ _ _ _ q1 dX1_landSkip_34 trivial (hP.sub [0, 1] rfl) (hD.sub [0, 1] (by decide) rfl) hS
  · refine lv_iload_n hx hb dX1_landSkip_4 rfl (lv_at hl 1 rfl) ?_
    refine lv_aload_n hx hb dX1_landSkip_5 rfl (lv_at hl 0 rfl) ?_
    refine va_get (D := D) (ci := 1) (v := .int (nI z)) (C := RX1) (T := TX1) (N := 9) hx hb htb itX1 hown hK hP 0 rfl rfl 7 (by decide) (htb _ k_231) (fun _ h9 => h9) rfl dX1_landSkip_6 ?_
    refine lv_icmp_ge (tgt := 34) hx hb dX1_landSkip_9 (by decide) (fun c_9 => ?_) (fun c_9 => ?_)
    · exact ret _ _ _ _ q1 dX1_landSkip_34 trivial (hP.sub [0, 1] rfl) (hD.sub [0, 1] (by decide) rfl) hS
    · refine lv_aload_n hx hb dX1_landSkip_12 rfl (lv_at hl 0 rfl) ?_
      refine va_get (D := D) (ci := 1) (v := .ref l1) (C := RX1) (T := TX1) (N := 9) hx hb htb itX1 hown hK hP 0 rfl rfl 0 (by decide) (htb _ k_224) (fun _ h9 => h9) rfl dX1_landSkip_13 ?_
      refine lv_iload_n hx hb dX1_landSkip_16 rfl (lv_at hl 1 rfl) ?_
      refine lv_aload_n hx hb dX1_landSkip_17 rfl (lv_at hl 0 rfl) ?_
      refine va_get (D := D) (ci := 1) (v := .int (nI z)) (C := RX1) (T := TX1) (N := 9) hx hb htb itX1 hown hK hP 0 rfl rfl 7 (by decide) (htb _ k_231) (fun _ h9 => h9) rfl dX1_landSkip_18 ?_
      refine lv_iconst (v := 4) hx hb dX1_landSkip_21 (by decide) ?_
      refine lv_ishl hx hb dX1_landSkip_22 ?_
      refine lv_aload_n hx hb dX1_landSkip_23 rfl (lv_at hl 0 rfl) ?_
      refine va_get (D := D) (ci := 1) (v := .ref l1) (C := RX1) (T := TX1) (N := 9) hx hb htb itX1 hown hK hP 0 rfl rfl 0 (by decide) (htb _ k_224) (fun _ h9 => h9) rfl dX1_landSkip_24 ?_
      refine lv_iload_n hx hb dX1_landSkip_27 rfl (lv_at hl 1 rfl) ?_
      refine va_iald hx hb hK hP 1 0 rfl rfl (by have a0 := mt Int32.lt_iff_toInt_lt.mpr c_1; have a1 := mt Int32.le_iff_toInt_le.mpr c_9; have a2 : (0 : Int32).toInt = 0 := (by decide); have a3 := nI_toInt (n := z) (by omega); exact vinT (by omega) (by omega)) dX1_landSkip_28 ?_
      refine lv_bipush (v := 15) hx hb dX1_landSkip_29 (by decide) ?_
      refine lv_iand hx hb dX1_landSkip_31 ?_
      refine lv_ior hx hb dX1_landSkip_32 ?_
      refine lv_topi (fun x_1 ex_1 => ?_)
      refine va_iast hx hb hK hP hD hS 1 0 rfl rfl (by have a0 := mt Int32.lt_iff_toInt_lt.mpr c_1; have a1 := mt Int32.le_iff_toInt_le.mpr c_9; have a2 : (0 : Int32).toInt = 0 := (by decide); have a3 := nI_toInt (n := z) (by omega); exact vinT (by omega) (by omega)) dX1_landSkip_33 (fun H locs hP hD hS => ?_)
      obtain ⟨f_2, ef_2⟩ : ∃ g : Nat → Int32, g = upd q1 (Int32.toNatClampNeg a) x_1 := ⟨_, rfl⟩
      rw [← ef_2] at hP hD
      have hP : va_P D vwCl [(h0, .inr (1, [.ref l1, .ref l2, .ref l3, .ref l4, .ref l5, .ref l6, .ref l7, .int (nI z), .int (nI k)])), (l1, .inl (cI, 240, .inl f_2))] H := hP
      have hD : va_D A [(h0, .inr (1, [.ref l1, .ref l2, .ref l3, .ref l4, .ref l5, .ref l6, .ref l7, .int (nI z), .int (nI k)])), (l1, .inl (cI, 240, .inl f_2))] := hD
      exact ret _ _ _ _ f_2 dX1_landSkip_34 trivial (hP.sub [0, 1] rfl) (hD.sub [0, 1] (by decide) rfl) hS

set_option maxRecDepth 100000 in
set_option maxHeartbeats 4000000 in
theorem c_X1_copy (l : Launch) (D : va_G) (cI cB : ClassId) (sz : Nat) (h0 : Nat) (l1 : Nat) (l2 : Nat) (l3 : Nat) (l4 : Nat) (l5 : Nat) (l6 : Nat) (l7 : Nat) (lz : Int32) (lc : Int32) (h1 : Nat) (p1 : Nat) (p2 : Nat) (p3 : Nat) (p4 : Nat) (p5 : Nat) (p6 : Nat) (p7 : Nat) (pz : Int32) (pc_ : Int32) (q1 : Nat → Int32) (q2 : Nat → Int32) (q3 : Nat → Int32) (q4 : Nat → Int32) (q5 : Nat → Int32) (w1 : Nat → Int32) (w2 : Nat → Int32) (w3 : Nat → Int32) (w4 : Nat → Int32) (w5 : Nat → Int32)  : MV (S := ((Int32) × (Int32) × (Nat → Int32) × (Nat → Int32) × (Nat → Int32) × (Nat → Int32) × (Nat → Int32))) l D cI cB yX1_copy cX1_copy 2 (rm 1 60) [.ref h0, .ref h1] [(h0, .inr (1, [.ref l1, .ref l2, .ref l3, .ref l4, .ref l5, .ref l6, .ref l7, .int lz, .int lc])), (l1, .inl (cI, 240, .inl q1)), (l2, .inl (cI, 16, .inl q2)), (l3, .inl (cI, 16, .inl q3)), (l4, .inl (cI, 16, .inl q4)), (l5, .inl (cI, 16, .inl q5)), (h1, .inr (1, [.ref p1, .ref p2, .ref p3, .ref p4, .ref p5, .ref p6, .ref p7, .int pz, .int pc_])), (p1, .inl (cI, 240, .inl w1)), (p2, .inl (cI, 16, .inl w2)), (p3, .inl (cI, 16, .inl w3)), (p4, .inl (cI, 16, .inl w4)), (p5, .inl (cI, 16, .inl w5))] sz (fun u => True) (fun u : ((Int32) × (Int32) × (Nat → Int32) × (Nat → Int32) × (Nat → Int32) × (Nat → Int32) × (Nat → Int32)) => [(h0, .inr (1, [.ref l1, .ref l2, .ref l3, .ref l4, .ref l5, .ref l6, .ref l7, .int u.1, .int u.2.1])), (l1, .inl (cI, 240, .inl u.2.2.1)), (l2, .inl (cI, 16, .inl u.2.2.2.1)), (l3, .inl (cI, 16, .inl u.2.2.2.2.1)), (l4, .inl (cI, 16, .inl u.2.2.2.2.2.1)), (l5, .inl (cI, 16, .inl u.2.2.2.2.2.2)), (h1, .inr (1, [.ref p1, .ref p2, .ref p3, .ref p4, .ref p5, .ref p6, .ref p7, .int pz, .int pc_])), (p1, .inl (cI, 240, .inl w1)), (p2, .inl (cI, 16, .inl w2)), (p3, .inl (cI, 16, .inl w3)), (p4, .inl (cI, 16, .inl w4)), (p5, .inl (cI, 16, .inl w5))]) := by
  refine MV.of (by decide) (Nat.le_of_ble_eq_true rfl) ?_
  intro p e s m below meth c Q ls A X hin hN hP hK hD hA hl ret
  have hS : va_S A s.heap s.heap [] := va_S.rf
  obtain ⟨hx, hb, hml, hown, htb⟩ := id X
  have hl : lv_has ls 2 [(0, .ref h0), (1, .ref h1)] := hl
  refine lv_aload_n hx hb dX1_copy_0 rfl (lv_at hl 1 rfl) ?_
  refine va_get (D := D) (ci := 1) (v := .ref p1) (C := RX1) (T := TX1) (N := 9) hx hb htb itX1 hown hK hP 6 rfl rfl 0 (by decide) (htb _ k_224) (fun _ h9 => h9) rfl dX1_copy_1 ?_
  refine lv_iconst (v := 0) hx hb dX1_copy_4 (by decide) ?_
  refine lv_aload_n hx hb dX1_copy_5 rfl (lv_at hl 0 rfl) ?_
  refine va_get (D := D) (ci := 1) (v := .ref l1) (C := RX1) (T := TX1) (N := 9) hx hb htb itX1 hown hK hP 0 rfl rfl 0 (by decide) (htb _ k_224) (fun _ h9 => h9) rfl dX1_copy_6 ?_
  refine lv_iconst (v := 0) hx hb dX1_copy_9 (by decide) ?_
  refine lv_sipush (v := 240) hx hb dX1_copy_10 (by decide) ?_
  refine va_copyi (rest := []) hx hb (by rw [hml]; exact hl.1.symm) hown (htb _ k_665) (htb _ k_667) (htb _ k_666) (htb _ k_110) hK hP hD hS 7 1 0 0 rfl rfl rfl rfl rfl (by decide) (by decide) (by decide) (by decide) (by decide) (fun _ _ => rfl) (Nat.le_of_ble_eq_true rfl) (by decide) dX1_copy_13 (fun H locs hP hD hS => ?_)
  obtain ⟨f_1, ef_1⟩ : ∃ g : Nat → Int32, g = va_cpy w1 q1 (Int32.toNatClampNeg 0) (Int32.toNatClampNeg 0) (Int32.toNatClampNeg 240) := ⟨_, rfl⟩
  rw [← ef_1] at hP hD
  have hP : va_P D vwCl [(h0, .inr (1, [.ref l1, .ref l2, .ref l3, .ref l4, .ref l5, .ref l6, .ref l7, .int lz, .int lc])), (l1, .inl (cI, 240, .inl f_1)), (l2, .inl (cI, 16, .inl q2)), (l3, .inl (cI, 16, .inl q3)), (l4, .inl (cI, 16, .inl q4)), (l5, .inl (cI, 16, .inl q5)), (h1, .inr (1, [.ref p1, .ref p2, .ref p3, .ref p4, .ref p5, .ref p6, .ref p7, .int pz, .int pc_])), (p1, .inl (cI, 240, .inl w1)), (p2, .inl (cI, 16, .inl w2)), (p3, .inl (cI, 16, .inl w3)), (p4, .inl (cI, 16, .inl w4)), (p5, .inl (cI, 16, .inl w5))] H := hP
  have hD : va_D A [(h0, .inr (1, [.ref l1, .ref l2, .ref l3, .ref l4, .ref l5, .ref l6, .ref l7, .int lz, .int lc])), (l1, .inl (cI, 240, .inl f_1)), (l2, .inl (cI, 16, .inl q2)), (l3, .inl (cI, 16, .inl q3)), (l4, .inl (cI, 16, .inl q4)), (l5, .inl (cI, 16, .inl q5)), (h1, .inr (1, [.ref p1, .ref p2, .ref p3, .ref p4, .ref p5, .ref p6, .ref p7, .int pz, .int pc_])), (p1, .inl (cI, 240, .inl w1)), (p2, .inl (cI, 16, .inl w2)), (p3, .inl (cI, 16, .inl w3)), (p4, .inl (cI, 16, .inl w4)), (p5, .inl (cI, 16, .inl w5))] := hD
  refine lv_aload_n hx hb dX1_copy_16 rfl (lv_at hl 1 rfl) ?_
  refine va_get (D := D) (ci := 1) (v := .ref p2) (C := RX1) (T := TX1) (N := 9) hx hb htb itX1 hown hK hP 6 rfl rfl 1 (by decide) (htb _ k_225) (fun _ h9 => h9) rfl dX1_copy_17 ?_
  refine lv_iconst (v := 0) hx hb dX1_copy_20 (by decide) ?_
  refine lv_aload_n hx hb dX1_copy_21 rfl (lv_at hl 0 rfl) ?_
  refine va_get (D := D) (ci := 1) (v := .ref l2) (C := RX1) (T := TX1) (N := 9) hx hb htb itX1 hown hK hP 0 rfl rfl 1 (by decide) (htb _ k_225) (fun _ h9 => h9) rfl dX1_copy_22 ?_
  refine lv_iconst (v := 0) hx hb dX1_copy_25 (by decide) ?_
  refine lv_bipush (v := 16) hx hb dX1_copy_26 (by decide) ?_
  refine va_copyi (rest := []) hx hb (by rw [hml]; exact hl.1.symm) hown (htb _ k_665) (htb _ k_667) (htb _ k_666) (htb _ k_110) hK hP hD hS 8 2 0 0 rfl rfl rfl rfl rfl (by decide) (by decide) (by decide) (by decide) (by decide) (fun _ _ => rfl) (Nat.le_of_ble_eq_true rfl) (by decide) dX1_copy_28 (fun H locs hP hD hS => ?_)
  obtain ⟨f_2, ef_2⟩ : ∃ g : Nat → Int32, g = va_cpy w2 q2 (Int32.toNatClampNeg 0) (Int32.toNatClampNeg 0) (Int32.toNatClampNeg 16) := ⟨_, rfl⟩
  rw [← ef_2] at hP hD
  have hP : va_P D vwCl [(h0, .inr (1, [.ref l1, .ref l2, .ref l3, .ref l4, .ref l5, .ref l6, .ref l7, .int lz, .int lc])), (l1, .inl (cI, 240, .inl f_1)), (l2, .inl (cI, 16, .inl f_2)), (l3, .inl (cI, 16, .inl q3)), (l4, .inl (cI, 16, .inl q4)), (l5, .inl (cI, 16, .inl q5)), (h1, .inr (1, [.ref p1, .ref p2, .ref p3, .ref p4, .ref p5, .ref p6, .ref p7, .int pz, .int pc_])), (p1, .inl (cI, 240, .inl w1)), (p2, .inl (cI, 16, .inl w2)), (p3, .inl (cI, 16, .inl w3)), (p4, .inl (cI, 16, .inl w4)), (p5, .inl (cI, 16, .inl w5))] H := hP
  have hD : va_D A [(h0, .inr (1, [.ref l1, .ref l2, .ref l3, .ref l4, .ref l5, .ref l6, .ref l7, .int lz, .int lc])), (l1, .inl (cI, 240, .inl f_1)), (l2, .inl (cI, 16, .inl f_2)), (l3, .inl (cI, 16, .inl q3)), (l4, .inl (cI, 16, .inl q4)), (l5, .inl (cI, 16, .inl q5)), (h1, .inr (1, [.ref p1, .ref p2, .ref p3, .ref p4, .ref p5, .ref p6, .ref p7, .int pz, .int pc_])), (p1, .inl (cI, 240, .inl w1)), (p2, .inl (cI, 16, .inl w2)), (p3, .inl (cI, 16, .inl w3)), (p4, .inl (cI, 16, .inl w4)), (p5, .inl (cI, 16, .inl w5))] := hD
  refine lv_aload_n hx hb dX1_copy_31 rfl (lv_at hl 1 rfl) ?_
  refine va_get (D := D) (ci := 1) (v := .ref p3) (C := RX1) (T := TX1) (N := 9) hx hb htb itX1 hown hK hP 6 rfl rfl 2 (by decide) (htb _ k_226) (fun _ h9 => h9) rfl dX1_copy_32 ?_
  refine lv_iconst (v := 0) hx hb dX1_copy_35 (by decide) ?_
  refine lv_aload_n hx hb dX1_copy_36 rfl (lv_at hl 0 rfl) ?_
  refine va_get (D := D) (ci := 1) (v := .ref l3) (C := RX1) (T := TX1) (N := 9) hx hb htb itX1 hown hK hP 0 rfl rfl 2 (by decide) (htb _ k_226) (fun _ h9 => h9) rfl dX1_copy_37 ?_
  refine lv_iconst (v := 0) hx hb dX1_copy_40 (by decide) ?_
  refine lv_bipush (v := 16) hx hb dX1_copy_41 (by decide) ?_
  refine va_copyi (rest := []) hx hb (by rw [hml]; exact hl.1.symm) hown (htb _ k_665) (htb _ k_667) (htb _ k_666) (htb _ k_110) hK hP hD hS 9 3 0 0 rfl rfl rfl rfl rfl (by decide) (by decide) (by decide) (by decide) (by decide) (fun _ _ => rfl) (Nat.le_of_ble_eq_true rfl) (by decide) dX1_copy_43 (fun H locs hP hD hS => ?_)
  obtain ⟨f_3, ef_3⟩ : ∃ g : Nat → Int32, g = va_cpy w3 q3 (Int32.toNatClampNeg 0) (Int32.toNatClampNeg 0) (Int32.toNatClampNeg 16) := ⟨_, rfl⟩
  rw [← ef_3] at hP hD
  have hP : va_P D vwCl [(h0, .inr (1, [.ref l1, .ref l2, .ref l3, .ref l4, .ref l5, .ref l6, .ref l7, .int lz, .int lc])), (l1, .inl (cI, 240, .inl f_1)), (l2, .inl (cI, 16, .inl f_2)), (l3, .inl (cI, 16, .inl f_3)), (l4, .inl (cI, 16, .inl q4)), (l5, .inl (cI, 16, .inl q5)), (h1, .inr (1, [.ref p1, .ref p2, .ref p3, .ref p4, .ref p5, .ref p6, .ref p7, .int pz, .int pc_])), (p1, .inl (cI, 240, .inl w1)), (p2, .inl (cI, 16, .inl w2)), (p3, .inl (cI, 16, .inl w3)), (p4, .inl (cI, 16, .inl w4)), (p5, .inl (cI, 16, .inl w5))] H := hP
  have hD : va_D A [(h0, .inr (1, [.ref l1, .ref l2, .ref l3, .ref l4, .ref l5, .ref l6, .ref l7, .int lz, .int lc])), (l1, .inl (cI, 240, .inl f_1)), (l2, .inl (cI, 16, .inl f_2)), (l3, .inl (cI, 16, .inl f_3)), (l4, .inl (cI, 16, .inl q4)), (l5, .inl (cI, 16, .inl q5)), (h1, .inr (1, [.ref p1, .ref p2, .ref p3, .ref p4, .ref p5, .ref p6, .ref p7, .int pz, .int pc_])), (p1, .inl (cI, 240, .inl w1)), (p2, .inl (cI, 16, .inl w2)), (p3, .inl (cI, 16, .inl w3)), (p4, .inl (cI, 16, .inl w4)), (p5, .inl (cI, 16, .inl w5))] := hD
  refine lv_aload_n hx hb dX1_copy_46 rfl (lv_at hl 1 rfl) ?_
  refine va_get (D := D) (ci := 1) (v := .ref p4) (C := RX1) (T := TX1) (N := 9) hx hb htb itX1 hown hK hP 6 rfl rfl 3 (by decide) (htb _ k_227) (fun _ h9 => h9) rfl dX1_copy_47 ?_
  refine lv_iconst (v := 0) hx hb dX1_copy_50 (by decide) ?_
  refine lv_aload_n hx hb dX1_copy_51 rfl (lv_at hl 0 rfl) ?_
  refine va_get (D := D) (ci := 1) (v := .ref l4) (C := RX1) (T := TX1) (N := 9) hx hb htb itX1 hown hK hP 0 rfl rfl 3 (by decide) (htb _ k_227) (fun _ h9 => h9) rfl dX1_copy_52 ?_
  refine lv_iconst (v := 0) hx hb dX1_copy_55 (by decide) ?_
  refine lv_bipush (v := 16) hx hb dX1_copy_56 (by decide) ?_
  refine va_copyi (rest := []) hx hb (by rw [hml]; exact hl.1.symm) hown (htb _ k_665) (htb _ k_667) (htb _ k_666) (htb _ k_110) hK hP hD hS 10 4 0 0 rfl rfl rfl rfl rfl (by decide) (by decide) (by decide) (by decide) (by decide) (fun _ _ => rfl) (Nat.le_of_ble_eq_true rfl) (by decide) dX1_copy_58 (fun H locs hP hD hS => ?_)
  obtain ⟨f_4, ef_4⟩ : ∃ g : Nat → Int32, g = va_cpy w4 q4 (Int32.toNatClampNeg 0) (Int32.toNatClampNeg 0) (Int32.toNatClampNeg 16) := ⟨_, rfl⟩
  rw [← ef_4] at hP hD
  have hP : va_P D vwCl [(h0, .inr (1, [.ref l1, .ref l2, .ref l3, .ref l4, .ref l5, .ref l6, .ref l7, .int lz, .int lc])), (l1, .inl (cI, 240, .inl f_1)), (l2, .inl (cI, 16, .inl f_2)), (l3, .inl (cI, 16, .inl f_3)), (l4, .inl (cI, 16, .inl f_4)), (l5, .inl (cI, 16, .inl q5)), (h1, .inr (1, [.ref p1, .ref p2, .ref p3, .ref p4, .ref p5, .ref p6, .ref p7, .int pz, .int pc_])), (p1, .inl (cI, 240, .inl w1)), (p2, .inl (cI, 16, .inl w2)), (p3, .inl (cI, 16, .inl w3)), (p4, .inl (cI, 16, .inl w4)), (p5, .inl (cI, 16, .inl w5))] H := hP
  have hD : va_D A [(h0, .inr (1, [.ref l1, .ref l2, .ref l3, .ref l4, .ref l5, .ref l6, .ref l7, .int lz, .int lc])), (l1, .inl (cI, 240, .inl f_1)), (l2, .inl (cI, 16, .inl f_2)), (l3, .inl (cI, 16, .inl f_3)), (l4, .inl (cI, 16, .inl f_4)), (l5, .inl (cI, 16, .inl q5)), (h1, .inr (1, [.ref p1, .ref p2, .ref p3, .ref p4, .ref p5, .ref p6, .ref p7, .int pz, .int pc_])), (p1, .inl (cI, 240, .inl w1)), (p2, .inl (cI, 16, .inl w2)), (p3, .inl (cI, 16, .inl w3)), (p4, .inl (cI, 16, .inl w4)), (p5, .inl (cI, 16, .inl w5))] := hD
  refine lv_aload_n hx hb dX1_copy_61 rfl (lv_at hl 1 rfl) ?_
  refine va_get (D := D) (ci := 1) (v := .ref p5) (C := RX1) (T := TX1) (N := 9) hx hb htb itX1 hown hK hP 6 rfl rfl 4 (by decide) (htb _ k_228) (fun _ h9 => h9) rfl dX1_copy_62 ?_
  refine lv_iconst (v := 0) hx hb dX1_copy_65 (by decide) ?_
  refine lv_aload_n hx hb dX1_copy_66 rfl (lv_at hl 0 rfl) ?_
  refine va_get (D := D) (ci := 1) (v := .ref l5) (C := RX1) (T := TX1) (N := 9) hx hb htb itX1 hown hK hP 0 rfl rfl 4 (by decide) (htb _ k_228) (fun _ h9 => h9) rfl dX1_copy_67 ?_
  refine lv_iconst (v := 0) hx hb dX1_copy_70 (by decide) ?_
  refine lv_bipush (v := 16) hx hb dX1_copy_71 (by decide) ?_
  refine va_copyi (rest := []) hx hb (by rw [hml]; exact hl.1.symm) hown (htb _ k_665) (htb _ k_667) (htb _ k_666) (htb _ k_110) hK hP hD hS 11 5 0 0 rfl rfl rfl rfl rfl (by decide) (by decide) (by decide) (by decide) (by decide) (fun _ _ => rfl) (Nat.le_of_ble_eq_true rfl) (by decide) dX1_copy_73 (fun H locs hP hD hS => ?_)
  obtain ⟨f_5, ef_5⟩ : ∃ g : Nat → Int32, g = va_cpy w5 q5 (Int32.toNatClampNeg 0) (Int32.toNatClampNeg 0) (Int32.toNatClampNeg 16) := ⟨_, rfl⟩
  rw [← ef_5] at hP hD
  have hP : va_P D vwCl [(h0, .inr (1, [.ref l1, .ref l2, .ref l3, .ref l4, .ref l5, .ref l6, .ref l7, .int lz, .int lc])), (l1, .inl (cI, 240, .inl f_1)), (l2, .inl (cI, 16, .inl f_2)), (l3, .inl (cI, 16, .inl f_3)), (l4, .inl (cI, 16, .inl f_4)), (l5, .inl (cI, 16, .inl f_5)), (h1, .inr (1, [.ref p1, .ref p2, .ref p3, .ref p4, .ref p5, .ref p6, .ref p7, .int pz, .int pc_])), (p1, .inl (cI, 240, .inl w1)), (p2, .inl (cI, 16, .inl w2)), (p3, .inl (cI, 16, .inl w3)), (p4, .inl (cI, 16, .inl w4)), (p5, .inl (cI, 16, .inl w5))] H := hP
  have hD : va_D A [(h0, .inr (1, [.ref l1, .ref l2, .ref l3, .ref l4, .ref l5, .ref l6, .ref l7, .int lz, .int lc])), (l1, .inl (cI, 240, .inl f_1)), (l2, .inl (cI, 16, .inl f_2)), (l3, .inl (cI, 16, .inl f_3)), (l4, .inl (cI, 16, .inl f_4)), (l5, .inl (cI, 16, .inl f_5)), (h1, .inr (1, [.ref p1, .ref p2, .ref p3, .ref p4, .ref p5, .ref p6, .ref p7, .int pz, .int pc_])), (p1, .inl (cI, 240, .inl w1)), (p2, .inl (cI, 16, .inl w2)), (p3, .inl (cI, 16, .inl w3)), (p4, .inl (cI, 16, .inl w4)), (p5, .inl (cI, 16, .inl w5))] := hD
  refine lv_aload_n hx hb dX1_copy_76 rfl (lv_at hl 0 rfl) ?_
  refine lv_aload_n hx hb dX1_copy_77 rfl (lv_at hl 1 rfl) ?_
  refine va_get (D := D) (ci := 1) (v := .int pz) (C := RX1) (T := TX1) (N := 9) hx hb htb itX1 hown hK hP 6 rfl rfl 7 (by decide) (htb _ k_231) (fun _ h9 => h9) rfl dX1_copy_78 ?_
  refine va_put (D := D) (ci := 1) (v := .int pz) (ty := .int) (C := RX1) (T := TX1) (N := 9) hx hb htb itX1 tyX1 tyX1_ok nmX1 hown hK hP hD hS 0 rfl rfl 7 (by decide) (htb _ k_231) (fun _ h9 => h9) rfl (tyX1_ok 7 (by decide)) rfl rfl (Nat.le_of_ble_eq_true rfl) dX1_copy_81 (fun H locs hP hD hS => ?_)
  have hP : va_P D vwCl [(h0, .inr (1, [.ref l1, .ref l2, .ref l3, .ref l4, .ref l5, .ref l6, .ref l7, .int pz, .int lc])), (l1, .inl (cI, 240, .inl f_1)), (l2, .inl (cI, 16, .inl f_2)), (l3, .inl (cI, 16, .inl f_3)), (l4, .inl (cI, 16, .inl f_4)), (l5, .inl (cI, 16, .inl f_5)), (h1, .inr (1, [.ref p1, .ref p2, .ref p3, .ref p4, .ref p5, .ref p6, .ref p7, .int pz, .int pc_])), (p1, .inl (cI, 240, .inl w1)), (p2, .inl (cI, 16, .inl w2)), (p3, .inl (cI, 16, .inl w3)), (p4, .inl (cI, 16, .inl w4)), (p5, .inl (cI, 16, .inl w5))] H := hP
  have hD : va_D A [(h0, .inr (1, [.ref l1, .ref l2, .ref l3, .ref l4, .ref l5, .ref l6, .ref l7, .int pz, .int lc])), (l1, .inl (cI, 240, .inl f_1)), (l2, .inl (cI, 16, .inl f_2)), (l3, .inl (cI, 16, .inl f_3)), (l4, .inl (cI, 16, .inl f_4)), (l5, .inl (cI, 16, .inl f_5)), (h1, .inr (1, [.ref p1, .ref p2, .ref p3, .ref p4, .ref p5, .ref p6, .ref p7, .int pz, .int pc_])), (p1, .inl (cI, 240, .inl w1)), (p2, .inl (cI, 16, .inl w2)), (p3, .inl (cI, 16, .inl w3)), (p4, .inl (cI, 16, .inl w4)), (p5, .inl (cI, 16, .inl w5))] := hD
  refine lv_aload_n hx hb dX1_copy_84 rfl (lv_at hl 0 rfl) ?_
  refine lv_aload_n hx hb dX1_copy_85 rfl (lv_at hl 1 rfl) ?_
  refine va_get (D := D) (ci := 1) (v := .int pc_) (C := RX1) (T := TX1) (N := 9) hx hb htb itX1 hown hK hP 6 rfl rfl 8 (by decide) (htb _ k_234) (fun _ h9 => h9) rfl dX1_copy_86 ?_
  refine va_put (D := D) (ci := 1) (v := .int pc_) (ty := .int) (C := RX1) (T := TX1) (N := 9) hx hb htb itX1 tyX1 tyX1_ok nmX1 hown hK hP hD hS 0 rfl rfl 8 (by decide) (htb _ k_234) (fun _ h9 => h9) rfl (tyX1_ok 8 (by decide)) rfl rfl (Nat.le_of_ble_eq_true rfl) dX1_copy_89 (fun H locs hP hD hS => ?_)
  have hP : va_P D vwCl [(h0, .inr (1, [.ref l1, .ref l2, .ref l3, .ref l4, .ref l5, .ref l6, .ref l7, .int pz, .int pc_])), (l1, .inl (cI, 240, .inl f_1)), (l2, .inl (cI, 16, .inl f_2)), (l3, .inl (cI, 16, .inl f_3)), (l4, .inl (cI, 16, .inl f_4)), (l5, .inl (cI, 16, .inl f_5)), (h1, .inr (1, [.ref p1, .ref p2, .ref p3, .ref p4, .ref p5, .ref p6, .ref p7, .int pz, .int pc_])), (p1, .inl (cI, 240, .inl w1)), (p2, .inl (cI, 16, .inl w2)), (p3, .inl (cI, 16, .inl w3)), (p4, .inl (cI, 16, .inl w4)), (p5, .inl (cI, 16, .inl w5))] H := hP
  have hD : va_D A [(h0, .inr (1, [.ref l1, .ref l2, .ref l3, .ref l4, .ref l5, .ref l6, .ref l7, .int pz, .int pc_])), (l1, .inl (cI, 240, .inl f_1)), (l2, .inl (cI, 16, .inl f_2)), (l3, .inl (cI, 16, .inl f_3)), (l4, .inl (cI, 16, .inl f_4)), (l5, .inl (cI, 16, .inl f_5)), (h1, .inr (1, [.ref p1, .ref p2, .ref p3, .ref p4, .ref p5, .ref p6, .ref p7, .int pz, .int pc_])), (p1, .inl (cI, 240, .inl w1)), (p2, .inl (cI, 16, .inl w2)), (p3, .inl (cI, 16, .inl w3)), (p4, .inl (cI, 16, .inl w4)), (p5, .inl (cI, 16, .inl w5))] := hD
  exact ret _ _ _ _ (pz, pc_, f_1, f_2, f_3, f_4, f_5) dX1_copy_92 trivial (hP.sub [0, 1, 2, 3, 4, 5, 6, 7, 8, 9, 10, 11] rfl) (hD.sub [0, 1, 2, 3, 4, 5, 6, 7, 8, 9, 10, 11] (by decide) rfl) hS
