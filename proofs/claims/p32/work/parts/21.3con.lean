set_option maxRecDepth 100000 in
set_option maxHeartbeats 4000000 in
theorem c_X1_setDay (l : Launch) (D : va_G) (cI cB : ClassId) (sz : Nat) (h0 : Nat) (l1 : Nat) (l2 : Nat) (l3 : Nat) (l4 : Nat) (l5 : Nat) (l6 : Nat) (l7 : Nat) (lz : Int32) (lc : Int32) (a : Int32) (b : Int32) (k : Int32) (q6 : Nat → Int32)  : MV (S := ((Nat → Int32))) l D cI cB yX1_setDay cX1_setDay 4 (rm 0 0) [.ref h0, .int a, .int b, .int k] [(h0, .inr (1, [.ref l1, .ref l2, .ref l3, .ref l4, .ref l5, .ref l6, .ref l7, .int lz, .int lc])), (l6, .inl (cI, 8, .inl q6))] sz (fun u => True) (fun u : ((Nat → Int32)) => [(h0, .inr (1, [.ref l1, .ref l2, .ref l3, .ref l4, .ref l5, .ref l6, .ref l7, .int lz, .int lc])), (l6, .inl (cI, 8, .inl u))]) := by
  refine MV.of (by decide) (Nat.le_of_ble_eq_true rfl) ?_
  intro p e s m below meth c Q ls A X hin hN hP hK hD hA hl ret
  have hS : va_S A s.heap s.heap [] := va_S.rf
  obtain ⟨hx, hb, hml, hown, htb⟩ := id X
  have hl : lv_has ls 4 [(0, .ref h0), (1, .int a), (2, .int b), (3, .int k)] := hl
  refine lv_aload_n hx hb dX1_setDay_0 rfl (lv_at hl 0 rfl) ?_
  refine va_get (D := D) (ci := 1) (v := .ref l6) (C := RX1) (T := TX1) (N := 9) hx hb htb itX1 hown hK hP 0 rfl rfl 5 (by decide) (htb _ k_229) (fun _ h9 => h9) rfl dX1_setDay_1 ?_
  refine lv_iconst (v := 3) hx hb dX1_setDay_4 (by decide) ?_
  refine lv_iload_n hx hb dX1_setDay_5 rfl (lv_at hl 1 rfl) ?_
  refine va_iast hx hb hK hP hD hS 1 0 rfl rfl (by unfold vp_in; decide) dX1_setDay_6 (fun H locs hP hD hS => ?_)
  obtain ⟨f_1, ef_1⟩ : ∃ g : Nat → Int32, g = upd q6 (Int32.toNatClampNeg 3) a := ⟨_, rfl⟩
  rw [← ef_1] at hP hD
  have hP : va_P D vwCl [(h0, .inr (1, [.ref l1, .ref l2, .ref l3, .ref l4, .ref l5, .ref l6, .ref l7, .int lz, .int lc])), (l6, .inl (cI, 8, .inl f_1))] H := hP
  have hD : va_D A [(h0, .inr (1, [.ref l1, .ref l2, .ref l3, .ref l4, .ref l5, .ref l6, .ref l7, .int lz, .int lc])), (l6, .inl (cI, 8, .inl f_1))] := hD
  refine lv_aload_n hx hb dX1_setDay_7 rfl (lv_at hl 0 rfl) ?_
  refine va_get (D := D) (ci := 1) (v := .ref l6) (C := RX1) (T := TX1) (N := 9) hx hb htb itX1 hown hK hP 0 rfl rfl 5 (by decide) (htb _ k_229) (fun _ h9 => h9) rfl dX1_setDay_8 ?_
  refine lv_iconst (v := 4) hx hb dX1_setDay_11 (by decide) ?_
  refine lv_iload_n hx hb dX1_setDay_12 rfl (lv_at hl 1 rfl) ?_
  refine lv_bipush (v := 7) hx hb dX1_setDay_13 (by decide) ?_
  refine lv_irem hx hb dX1_setDay_15 (by decide) ?_
  refine lv_topi (fun x_2 ex_2 => ?_)
  refine va_iast hx hb hK hP hD hS 1 0 rfl rfl (by unfold vp_in; decide) dX1_setDay_16 (fun H locs hP hD hS => ?_)
  obtain ⟨f_3, ef_3⟩ : ∃ g : Nat → Int32, g = upd f_1 (Int32.toNatClampNeg 4) x_2 := ⟨_, rfl⟩
  rw [← ef_3] at hP hD
  have hP : va_P D vwCl [(h0, .inr (1, [.ref l1, .ref l2, .ref l3, .ref l4, .ref l5, .ref l6, .ref l7, .int lz, .int lc])), (l6, .inl (cI, 8, .inl f_3))] H := hP
  have hD : va_D A [(h0, .inr (1, [.ref l1, .ref l2, .ref l3, .ref l4, .ref l5, .ref l6, .ref l7, .int lz, .int lc])), (l6, .inl (cI, 8, .inl f_3))] := hD
  refine lv_aload_n hx hb dX1_setDay_17 rfl (lv_at hl 0 rfl) ?_
  refine va_get (D := D) (ci := 1) (v := .ref l6) (C := RX1) (T := TX1) (N := 9) hx hb htb itX1 hown hK hP 0 rfl rfl 5 (by decide) (htb _ k_229) (fun _ h9 => h9) rfl dX1_setDay_18 ?_
  refine lv_iconst (v := 5) hx hb dX1_setDay_21 (by decide) ?_
  refine lv_iload_n hx hb dX1_setDay_22 rfl (lv_at hl 2 rfl) ?_
  refine va_iast hx hb hK hP hD hS 1 0 rfl rfl (by unfold vp_in; decide) dX1_setDay_23 (fun H locs hP hD hS => ?_)
  obtain ⟨f_4, ef_4⟩ : ∃ g : Nat → Int32, g = upd f_3 (Int32.toNatClampNeg 5) b := ⟨_, rfl⟩
  rw [← ef_4] at hP hD
  have hP : va_P D vwCl [(h0, .inr (1, [.ref l1, .ref l2, .ref l3, .ref l4, .ref l5, .ref l6, .ref l7, .int lz, .int lc])), (l6, .inl (cI, 8, .inl f_4))] H := hP
  have hD : va_D A [(h0, .inr (1, [.ref l1, .ref l2, .ref l3, .ref l4, .ref l5, .ref l6, .ref l7, .int lz, .int lc])), (l6, .inl (cI, 8, .inl f_4))] := hD
  refine lv_aload_n hx hb dX1_setDay_24 rfl (lv_at hl 0 rfl) ?_
  refine va_get (D := D) (ci := 1) (v := .ref l6) (C := RX1) (T := TX1) (N := 9) hx hb htb itX1 hown hK hP 0 rfl rfl 5 (by decide) (htb _ k_229) (fun _ h9 => h9) rfl dX1_setDay_25 ?_
  refine lv_bipush (v := 6) hx hb dX1_setDay_28 (by decide) ?_
  refine lv_iload_n hx hb dX1_setDay_30 rfl (lv_at hl 3 rfl) ?_
  refine va_iast hx hb hK hP hD hS 1 0 rfl rfl (by unfold vp_in; decide) dX1_setDay_31 (fun H locs hP hD hS => ?_)
  obtain ⟨f_5, ef_5⟩ : ∃ g : Nat → Int32, g = upd f_4 (Int32.toNatClampNeg 6) k := ⟨_, rfl⟩
  rw [← ef_5] at hP hD
  have hP : va_P D vwCl [(h0, .inr (1, [.ref l1, .ref l2, .ref l3, .ref l4, .ref l5, .ref l6, .ref l7, .int lz, .int lc])), (l6, .inl (cI, 8, .inl f_5))] H := hP
  have hD : va_D A [(h0, .inr (1, [.ref l1, .ref l2, .ref l3, .ref l4, .ref l5, .ref l6, .ref l7, .int lz, .int lc])), (l6, .inl (cI, 8, .inl f_5))] := hD
  exact ret _ _ _ _ f_5 dX1_setDay_32 trivial (hP.sub [0, 1] rfl) (hD.sub [0, 1] (by decide) rfl) hS

set_option maxRecDepth 100000 in
set_option maxHeartbeats 4000000 in
theorem c_X1_setPerson (l : Launch) (D : va_G) (cI cB : ClassId) (sz : Nat) (h0 : Nat) (l1 : Nat) (l2 : Nat) (l3 : Nat) (l4 : Nat) (l5 : Nat) (l6 : Nat) (l7 : Nat) (lz : Int32) (lc : Int32) (a : Int32) (b : Int32) (q6 : Nat → Int32)  : MV (S := ((Nat → Int32))) l D cI cB yX1_setPerson cX1_setPerson 3 (rm 0 0) [.ref h0, .int a, .int b] [(h0, .inr (1, [.ref l1, .ref l2, .ref l3, .ref l4, .ref l5, .ref l6, .ref l7, .int lz, .int lc])), (l6, .inl (cI, 8, .inl q6))] sz (fun u => True) (fun u : ((Nat → Int32)) => [(h0, .inr (1, [.ref l1, .ref l2, .ref l3, .ref l4, .ref l5, .ref l6, .ref l7, .int lz, .int lc])), (l6, .inl (cI, 8, .inl u))]) := by
  refine MV.of (by decide) (Nat.le_of_ble_eq_true rfl) ?_
  intro p e s m below meth c Q ls A X hin hN hP hK hD hA hl ret
  have hS : va_S A s.heap s.heap [] := va_S.rf
  obtain ⟨hx, hb, hml, hown, htb⟩ := id X
  have hl : lv_has ls 3 [(0, .ref h0), (1, .int a), (2, .int b)] := hl
  refine lv_aload_n hx hb dX1_setPerson_0 rfl (lv_at hl 0 rfl) ?_
  refine va_get (D := D) (ci := 1) (v := .ref l6) (C := RX1) (T := TX1) (N := 9) hx hb htb itX1 hown hK hP 0 rfl rfl 5 (by decide) (htb _ k_229) (fun _ h9 => h9) rfl dX1_setPerson_1 ?_
  refine lv_iconst (v := 0) hx hb dX1_setPerson_4 (by decide) ?_
  refine lv_iconst (v := 0) hx hb dX1_setPerson_5 (by decide) ?_
  refine va_iast hx hb hK hP hD hS 1 0 rfl rfl (by unfold vp_in; decide) dX1_setPerson_6 (fun H locs hP hD hS => ?_)
  obtain ⟨f_1, ef_1⟩ : ∃ g : Nat → Int32, g = upd q6 (Int32.toNatClampNeg 0) 0 := ⟨_, rfl⟩
  rw [← ef_1] at hP hD
  have hP : va_P D vwCl [(h0, .inr (1, [.ref l1, .ref l2, .ref l3, .ref l4, .ref l5, .ref l6, .ref l7, .int lz, .int lc])), (l6, .inl (cI, 8, .inl f_1))] H := hP
  have hD : va_D A [(h0, .inr (1, [.ref l1, .ref l2, .ref l3, .ref l4, .ref l5, .ref l6, .ref l7, .int lz, .int lc])), (l6, .inl (cI, 8, .inl f_1))] := hD
  refine lv_aload_n hx hb dX1_setPerson_7 rfl (lv_at hl 0 rfl) ?_
  refine va_get (D := D) (ci := 1) (v := .ref l6) (C := RX1) (T := TX1) (N := 9) hx hb htb itX1 hown hK hP 0 rfl rfl 5 (by decide) (htb _ k_229) (fun _ h9 => h9) rfl dX1_setPerson_8 ?_
  refine lv_iconst (v := 1) hx hb dX1_setPerson_11 (by decide) ?_
  refine lv_iload_n hx hb dX1_setPerson_12 rfl (lv_at hl 1 rfl) ?_
  refine va_iast hx hb hK hP hD hS 1 0 rfl rfl (by unfold vp_in; decide) dX1_setPerson_13 (fun H locs hP hD hS => ?_)
  obtain ⟨f_2, ef_2⟩ : ∃ g : Nat → Int32, g = upd f_1 (Int32.toNatClampNeg 1) a := ⟨_, rfl⟩
  rw [← ef_2] at hP hD
  have hP : va_P D vwCl [(h0, .inr (1, [.ref l1, .ref l2, .ref l3, .ref l4, .ref l5, .ref l6, .ref l7, .int lz, .int lc])), (l6, .inl (cI, 8, .inl f_2))] H := hP
  have hD : va_D A [(h0, .inr (1, [.ref l1, .ref l2, .ref l3, .ref l4, .ref l5, .ref l6, .ref l7, .int lz, .int lc])), (l6, .inl (cI, 8, .inl f_2))] := hD
  refine lv_aload_n hx hb dX1_setPerson_14 rfl (lv_at hl 0 rfl) ?_
  refine va_get (D := D) (ci := 1) (v := .ref l6) (C := RX1) (T := TX1) (N := 9) hx hb htb itX1 hown hK hP 0 rfl rfl 5 (by decide) (htb _ k_229) (fun _ h9 => h9) rfl dX1_setPerson_15 ?_
  refine lv_iconst (v := 2) hx hb dX1_setPerson_18 (by decide) ?_
  refine lv_iload_n hx hb dX1_setPerson_19 rfl (lv_at hl 2 rfl) ?_
  refine va_iast hx hb hK hP hD hS 1 0 rfl rfl (by unfold vp_in; decide) dX1_setPerson_20 (fun H locs hP hD hS => ?_)
  obtain ⟨f_3, ef_3⟩ : ∃ g : Nat → Int32, g = upd f_2 (Int32.toNatClampNeg 2) b := ⟨_, rfl⟩
  rw [← ef_3] at hP hD
  have hP : va_P D vwCl [(h0, .inr (1, [.ref l1, .ref l2, .ref l3, .ref l4, .ref l5, .ref l6, .ref l7, .int lz, .int lc])), (l6, .inl (cI, 8, .inl f_3))] H := hP
  have hD : va_D A [(h0, .inr (1, [.ref l1, .ref l2, .ref l3, .ref l4, .ref l5, .ref l6, .ref l7, .int lz, .int lc])), (l6, .inl (cI, 8, .inl f_3))] := hD
  refine lv_aload_n hx hb dX1_setPerson_21 rfl (lv_at hl 0 rfl) ?_
  refine va_get (D := D) (ci := 1) (v := .ref l6) (C := RX1) (T := TX1) (N := 9) hx hb htb itX1 hown hK hP 0 rfl rfl 5 (by decide) (htb _ k_229) (fun _ h9 => h9) rfl dX1_setPerson_22 ?_
  refine lv_bipush (v := 7) hx hb dX1_setPerson_25 (by decide) ?_
  refine lv_iconst (v := 0) hx hb dX1_setPerson_27 (by decide) ?_
  refine va_iast hx hb hK hP hD hS 1 0 rfl rfl (by unfold vp_in; decide) dX1_setPerson_28 (fun H locs hP hD hS => ?_)
  obtain ⟨f_4, ef_4⟩ : ∃ g : Nat → Int32, g = upd f_3 (Int32.toNatClampNeg 7) 0 := ⟨_, rfl⟩
  rw [← ef_4] at hP hD
  have hP : va_P D vwCl [(h0, .inr (1, [.ref l1, .ref l2, .ref l3, .ref l4, .ref l5, .ref l6, .ref l7, .int lz, .int lc])), (l6, .inl (cI, 8, .inl f_4))] H := hP
  have hD : va_D A [(h0, .inr (1, [.ref l1, .ref l2, .ref l3, .ref l4, .ref l5, .ref l6, .ref l7, .int lz, .int lc])), (l6, .inl (cI, 8, .inl f_4))] := hD
  exact ret _ _ _ _ f_4 dX1_setPerson_29 trivial (hP.sub [0, 1] rfl) (hD.sub [0, 1] (by decide) rfl) hS

set_option maxRecDepth 100000 in
set_option maxHeartbeats 4000000 in
theorem c_X1_setChore (l : Launch) (D : va_G) (cI cB : ClassId) (sz : Nat) (h0 : Nat) (l1 : Nat) (l2 : Nat) (l3 : Nat) (l4 : Nat) (l5 : Nat) (l6 : Nat) (l7 : Nat) (lz : Int32) (lc : Int32) (a : Int32) (b : Int32) (k : Int32) (q6 : Nat → Int32)  : MV (S := ((Nat → Int32))) l D cI cB yX1_setChore cX1_setChore 4 (rm 0 0) [.ref h0, .int a, .int b, .int k] [(h0, .inr (1, [.ref l1, .ref l2, .ref l3, .ref l4, .ref l5, .ref l6, .ref l7, .int lz, .int lc])), (l6, .inl (cI, 8, .inl q6))] sz (fun u => True) (fun u : ((Nat → Int32)) => [(h0, .inr (1, [.ref l1, .ref l2, .ref l3, .ref l4, .ref l5, .ref l6, .ref l7, .int lz, .int lc])), (l6, .inl (cI, 8, .inl u))]) := by
  refine MV.of (by decide) (Nat.le_of_ble_eq_true rfl) ?_
  intro p e s m below meth c Q ls A X hin hN hP hK hD hA hl ret
  have hS : va_S A s.heap s.heap [] := va_S.rf
  obtain ⟨hx, hb, hml, hown, htb⟩ := id X
  have hl : lv_has ls 4 [(0, .ref h0), (1, .int a), (2, .int b), (3, .int k)] := hl
  refine lv_aload_n hx hb dX1_setChore_0 rfl (lv_at hl 0 rfl) ?_
  refine va_get (D := D) (ci := 1) (v := .ref l6) (C := RX1) (T := TX1) (N := 9) hx hb htb itX1 hown hK hP 0 rfl rfl 5 (by decide) (htb _ k_229) (fun _ h9 => h9) rfl dX1_setChore_1 ?_
  refine lv_iconst (v := 0) hx hb dX1_setChore_4 (by decide) ?_
  refine lv_iload_n hx hb dX1_setChore_5 rfl (lv_at hl 1 rfl) ?_
  refine va_iast hx hb hK hP hD hS 1 0 rfl rfl (by unfold vp_in; decide) dX1_setChore_6 (fun H locs hP hD hS => ?_)
  obtain ⟨f_1, ef_1⟩ : ∃ g : Nat → Int32, g = upd q6 (Int32.toNatClampNeg 0) a := ⟨_, rfl⟩
  rw [← ef_1] at hP hD
  have hP : va_P D vwCl [(h0, .inr (1, [.ref l1, .ref l2, .ref l3, .ref l4, .ref l5, .ref l6, .ref l7, .int lz, .int lc])), (l6, .inl (cI, 8, .inl f_1))] H := hP
  have hD : va_D A [(h0, .inr (1, [.ref l1, .ref l2, .ref l3, .ref l4, .ref l5, .ref l6, .ref l7, .int lz, .int lc])), (l6, .inl (cI, 8, .inl f_1))] := hD
  refine lv_aload_n hx hb dX1_setChore_7 rfl (lv_at hl 0 rfl) ?_
  refine va_get (D := D) (ci := 1) (v := .ref l6) (C := RX1) (T := TX1) (N := 9) hx hb htb itX1 hown hK hP 0 rfl rfl 5 (by decide) (htb _ k_229) (fun _ h9 => h9) rfl dX1_setChore_8 ?_
  refine lv_iconst (v := 1) hx hb dX1_setChore_11 (by decide) ?_
  refine lv_iconst (v := 0) hx hb dX1_setChore_12 (by decide) ?_
  refine va_iast hx hb hK hP hD hS 1 0 rfl rfl (by unfold vp_in; decide) dX1_setChore_13 (fun H locs hP hD hS => ?_)
  obtain ⟨f_2, ef_2⟩ : ∃ g : Nat → Int32, g = upd f_1 (Int32.toNatClampNeg 1) 0 := ⟨_, rfl⟩
  rw [← ef_2] at hP hD
  have hP : va_P D vwCl [(h0, .inr (1, [.ref l1, .ref l2, .ref l3, .ref l4, .ref l5, .ref l6, .ref l7, .int lz, .int lc])), (l6, .inl (cI, 8, .inl f_2))] H := hP
  have hD : va_D A [(h0, .inr (1, [.ref l1, .ref l2, .ref l3, .ref l4, .ref l5, .ref l6, .ref l7, .int lz, .int lc])), (l6, .inl (cI, 8, .inl f_2))] := hD
  refine lv_aload_n hx hb dX1_setChore_14 rfl (lv_at hl 0 rfl) ?_
  refine va_get (D := D) (ci := 1) (v := .ref l6) (C := RX1) (T := TX1) (N := 9) hx hb htb itX1 hown hK hP 0 rfl rfl 5 (by decide) (htb _ k_229) (fun _ h9 => h9) rfl dX1_setChore_15 ?_
  refine lv_iconst (v := 2) hx hb dX1_setChore_18 (by decide) ?_
  refine lv_iload_n hx hb dX1_setChore_19 rfl (lv_at hl 2 rfl) ?_
  refine va_iast hx hb hK hP hD hS 1 0 rfl rfl (by unfold vp_in; decide) dX1_setChore_20 (fun H locs hP hD hS => ?_)
  obtain ⟨f_3, ef_3⟩ : ∃ g : Nat → Int32, g = upd f_2 (Int32.toNatClampNeg 2) b := ⟨_, rfl⟩
  rw [← ef_3] at hP hD
  have hP : va_P D vwCl [(h0, .inr (1, [.ref l1, .ref l2, .ref l3, .ref l4, .ref l5, .ref l6, .ref l7, .int lz, .int lc])), (l6, .inl (cI, 8, .inl f_3))] H := hP
  have hD : va_D A [(h0, .inr (1, [.ref l1, .ref l2, .ref l3, .ref l4, .ref l5, .ref l6, .ref l7, .int lz, .int lc])), (l6, .inl (cI, 8, .inl f_3))] := hD
  refine lv_aload_n hx hb dX1_setChore_21 rfl (lv_at hl 0 rfl) ?_
  refine va_get (D := D) (ci := 1) (v := .ref l6) (C := RX1) (T := TX1) (N := 9) hx hb htb itX1 hown hK hP 0 rfl rfl 5 (by decide) (htb _ k_229) (fun _ h9 => h9) rfl dX1_setChore_22 ?_
  refine lv_bipush (v := 7) hx hb dX1_setChore_25 (by decide) ?_
  refine lv_iload_n hx hb dX1_setChore_27 rfl (lv_at hl 3 rfl) ?_
  refine va_iast hx hb hK hP hD hS 1 0 rfl rfl (by unfold vp_in; decide) dX1_setChore_28 (fun H locs hP hD hS => ?_)
  obtain ⟨f_4, ef_4⟩ : ∃ g : Nat → Int32, g = upd f_3 (Int32.toNatClampNeg 7) k := ⟨_, rfl⟩
  rw [← ef_4] at hP hD
  have hP : va_P D vwCl [(h0, .inr (1, [.ref l1, .ref l2, .ref l3, .ref l4, .ref l5, .ref l6, .ref l7, .int lz, .int lc])), (l6, .inl (cI, 8, .inl f_4))] H := hP
  have hD : va_D A [(h0, .inr (1, [.ref l1, .ref l2, .ref l3, .ref l4, .ref l5, .ref l6, .ref l7, .int lz, .int lc])), (l6, .inl (cI, 8, .inl f_4))] := hD
  exact ret _ _ _ _ f_4 dX1_setChore_29 trivial (hP.sub [0, 1] rfl) (hD.sub [0, 1] (by decide) rfl) hS

set_option maxRecDepth 100000 in
set_option maxHeartbeats 4000000 in
theorem c_X1_setUndone (l : Launch) (D : va_G) (cI cB : ClassId) (sz : Nat) (h0 : Nat) (l1 : Nat) (l2 : Nat) (l3 : Nat) (l4 : Nat) (l5 : Nat) (l6 : Nat) (l7 : Nat) (lz : Int32) (lc : Int32) (a : Int32) (q6 : Nat → Int32)  : MV (S := ((Nat → Int32))) l D cI cB yX1_setUndone cX1_setUndone 2 (rm 0 0) [.ref h0, .int a] [(h0, .inr (1, [.ref l1, .ref l2, .ref l3, .ref l4, .ref l5, .ref l6, .ref l7, .int lz, .int lc])), (l6, .inl (cI, 8, .inl q6))] sz (fun u => True) (fun u : ((Nat → Int32)) => [(h0, .inr (1, [.ref l1, .ref l2, .ref l3, .ref l4, .ref l5, .ref l6, .ref l7, .int lz, .int lc])), (l6, .inl (cI, 8, .inl u))]) := by
  refine MV.of (by decide) (Nat.le_of_ble_eq_true rfl) ?_
  intro p e s m below meth c Q ls A X hin hN hP hK hD hA hl ret
  have hS : va_S A s.heap s.heap [] := va_S.rf
  obtain ⟨hx, hb, hml, hown, htb⟩ := id X
  have hl : lv_has ls 2 [(0, .ref h0), (1, .int a)] := hl
  refine lv_aload_n hx hb dX1_setUndone_0 rfl (lv_at hl 0 rfl) ?_
  refine va_get (D := D) (ci := 1) (v := .ref l6) (C := RX1) (T := TX1) (N := 9) hx hb htb itX1 hown hK hP 0 rfl rfl 5 (by decide) (htb _ k_229) (fun _ h9 => h9) rfl dX1_setUndone_1 ?_
  refine lv_bipush (v := 7) hx hb dX1_setUndone_4 (by decide) ?_
  refine lv_iload_n hx hb dX1_setUndone_6 rfl (lv_at hl 1 rfl) ?_
  refine va_iast hx hb hK hP hD hS 1 0 rfl rfl (by unfold vp_in; decide) dX1_setUndone_7 (fun H locs hP hD hS => ?_)
  obtain ⟨f_1, ef_1⟩ : ∃ g : Nat → Int32, g = upd q6 (Int32.toNatClampNeg 7) a := ⟨_, rfl⟩
  rw [← ef_1] at hP hD
  have hP : va_P D vwCl [(h0, .inr (1, [.ref l1, .ref l2, .ref l3, .ref l4, .ref l5, .ref l6, .ref l7, .int lz, .int lc])), (l6, .inl (cI, 8, .inl f_1))] H := hP
  have hD : va_D A [(h0, .inr (1, [.ref l1, .ref l2, .ref l3, .ref l4, .ref l5, .ref l6, .ref l7, .int lz, .int lc])), (l6, .inl (cI, 8, .inl f_1))] := hD
  exact ret _ _ _ _ f_1 dX1_setUndone_8 trivial (hP.sub [0, 1] rfl) (hD.sub [0, 1] (by decide) rfl) hS

set_option maxRecDepth 100000 in
set_option maxHeartbeats 4000000 in
theorem c_X1_clear (l : Launch) (D : va_G) (cI cB : ClassId) (sz : Nat) (h0 : Nat) (l1 : Nat) (l2 : Nat) (l3 : Nat) (l4 : Nat) (l5 : Nat) (l6 : Nat) (l7 : Nat) (lz : Int32) (lc : Int32)  : MV (S := ((Int32) × (Int32))) l D cI cB yX1_clear cX1_clear 1 (rm 0 0) [.ref h0] [(h0, .inr (1, [.ref l1, .ref l2, .ref l3, .ref l4, .ref l5, .ref l6, .ref l7, .int lz, .int lc]))] sz (fun u => u.1 = 0 ∧ u.2 = 0) (fun u : ((Int32) × (Int32)) => [(h0, .inr (1, [.ref l1, .ref l2, .ref l3, .ref l4, .ref l5, .ref l6, .ref l7, .int u.1, .int u.2]))]) := by
  refine MV.of (by decide) (Nat.le_of_ble_eq_true rfl) ?_
  intro p e s m below meth c Q ls A X hin hN hP hK hD hA hl ret
  have hS : va_S A s.heap s.heap [] := va_S.rf
  obtain ⟨hx, hb, hml, hown, htb⟩ := id X
  have hl : lv_has ls 1 [(0, .ref h0)] := hl
  refine lv_aload_n hx hb dX1_clear_0 rfl (lv_at hl 0 rfl) ?_
  refine lv_iconst (v := 0) hx hb dX1_clear_1 (by decide) ?_
  refine va_put (D := D) (ci := 1) (v := .int 0) (ty := .int) (C := RX1) (T := TX1) (N := 9) hx hb htb itX1 tyX1 tyX1_ok nmX1 hown hK hP hD hS 0 rfl rfl 7 (by decide) (htb _ k_231) (fun _ h9 => h9) rfl (tyX1_ok 7 (by decide)) rfl rfl (Nat.le_of_ble_eq_true rfl) dX1_clear_2 (fun H locs hP hD hS => ?_)
  have hP : va_P D vwCl [(h0, .inr (1, [.ref l1, .ref l2, .ref l3, .ref l4, .ref l5, .ref l6, .ref l7, .int 0, .int lc]))] H := hP
  have hD : va_D A [(h0, .inr (1, [.ref l1, .ref l2, .ref l3, .ref l4, .ref l5, .ref l6, .ref l7, .int 0, .int lc]))] := hD
  refine lv_aload_n hx hb dX1_clear_5 rfl (lv_at hl 0 rfl) ?_
  refine lv_iconst (v := 0) hx hb dX1_clear_6 (by decide) ?_
  refine va_put (D := D) (ci := 1) (v := .int 0) (ty := .int) (C := RX1) (T := TX1) (N := 9) hx hb htb itX1 tyX1 tyX1_ok nmX1 hown hK hP hD hS 0 rfl rfl 8 (by decide) (htb _ k_234) (fun _ h9 => h9) rfl (tyX1_ok 8 (by decide)) rfl rfl (Nat.le_of_ble_eq_true rfl) dX1_clear_7 (fun H locs hP hD hS => ?_)
  have hP : va_P D vwCl [(h0, .inr (1, [.ref l1, .ref l2, .ref l3, .ref l4, .ref l5, .ref l6, .ref l7, .int 0, .int 0]))] H := hP
  have hD : va_D A [(h0, .inr (1, [.ref l1, .ref l2, .ref l3, .ref l4, .ref l5, .ref l6, .ref l7, .int 0, .int 0]))] := hD
  exact ret _ _ _ _ (0, 0) dX1_clear_10 (⟨rfl, rfl⟩) (hP.sub [0] rfl) (hD.sub [0] (by decide) rfl) hS
