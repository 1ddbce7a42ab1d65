set_option maxRecDepth 100000 in
set_option maxHeartbeats 4000000 in
theorem c_readDaysP (l : Launch) (D : va_G) (cI cB : ClassId) (sz : Nat) (h0 : Nat) (lf_ : Nat) (ll_ : Nat) (sn : Int32) (K : Nat) (tx : Nat) (tp : Nat) (N : Nat) (P : Nat) (by_ : Nat) (T : Nat) (fb : Nat → Int32) (flf : Nat → Int32) (fll : Nat → Int32) (k : Nat) (hT : T ≤ 260) (hNT : N ≤ T) (hPN : P ≤ N) (hk9 : k < 10) : MV (S := ((Nat) × (Int32) × (Nat → Int32) × (Nat → Int32))) l D cI cB yX3_readDays cX3_readDays 3 (rm 3 66) [.ref h0, .int (nI k)] [(h0, .inr (3, [.ref tx, .ref lf_, .ref ll_, .int sn, .int (nI K)])), (tx, .inr (6, [.ref tp, .int (nI N), .int (nI P), .int 0])), (tp, .inr (5, [.ref by_, .int (nI T)])), (by_, .inl (cI, 260, .inl fb)), (lf_, .inl (cI, 10, .inl flf)), (ll_, .inl (cI, 10, .inl fll))] sz (fun u => ((u.2.1 = 0 ∨ u.2.1 < 0) ∧ (u.2.1 = 0 → (0 < ndg (chF fb N) 3 P ∧ chF fb N (P + ndg (chF fb N) 3 P) = 45 ∧ 0 < ndg (chF fb N) 3 (P + ndg (chF fb N) 3 P + 1) ∧ ¬ nvl (chF fb N) 3 (P + ndg (chF fb N) 3 P + 1) 0 < nvl (chF fb N) 3 P 0) ∧ u.1 = P + ndg (chF fb N) 3 P + 1 + ndg (chF fb N) 3 (P + ndg (chF fb N) 3 P + 1) ∧ u.2.2.1 = upd flf k (nvl (chF fb N) 3 P 0) ∧ u.2.2.2 = upd fll k (nvl (chF fb N) 3 (P + ndg (chF fb N) 3 P + 1) 0)) ∧ (¬ u.2.1 = 0 → ¬ (0 < ndg (chF fb N) 3 P ∧ chF fb N (P + ndg (chF fb N) 3 P) = 45 ∧ 0 < ndg (chF fb N) 3 (P + ndg (chF fb N) 3 P + 1) ∧ ¬ nvl (chF fb N) 3 (P + ndg (chF fb N) 3 P + 1) 0 < nvl (chF fb N) 3 P 0) ∨ (48 ≤ chF fb N (P + ndg (chF fb N) 3 P + 1 + ndg (chF fb N) 3 (P + ndg (chF fb N) 3 P + 1)) ∧ chF fb N (P + ndg (chF fb N) 3 P + 1 + ndg (chF fb N) 3 (P + ndg (chF fb N) 3 P + 1)) ≤ 57))) ∧ P ≤ u.1 ∧ u.1 ≤ N) (fun u : ((Nat) × (Int32) × (Nat → Int32) × (Nat → Int32)) => [(h0, .inr (3, [.ref tx, .ref lf_, .ref ll_, .int sn, .int (nI K)])), (tx, .inr (6, [.ref tp, .int (nI N), .int (nI u.1), .int u.2.1])), (tp, .inr (5, [.ref by_, .int (nI T)])), (by_, .inl (cI, 260, .inl fb)), (lf_, .inl (cI, 10, .inl u.2.2.1)), (ll_, .inl (cI, 10, .inl u.2.2.2))]) := by
  refine MV.of (by decide) (Nat.le_of_ble_eq_true rfl) ?_
  intro p e s m below meth c Q ls A X hin hN hP hK hD hA hl ret
  have hS : va_S A s.heap s.heap [] := va_S.rf
  obtain ⟨hx, hb, hml, hown, htb⟩ := id X
  have hl : lv_has ls 3 [(0, .ref h0), (1, .int (nI k))] := hl
  refine lv_aload_n hx hb dX3_readDays_0 rfl (lv_at hl 0 rfl) ?_
  refine va_get (D := D) (ci := 3) (v := .ref lf_) (C := RX3) (T := TX3) (N := 5) hx hb htb itX3 hown hK hP 0 rfl rfl 1 (by decide) (htb _ k_322) (fun _ h9 => h9) rfl dX3_readDays_1 ?_
  refine lv_iload_n hx hb dX3_readDays_4 rfl (lv_at hl 1 rfl) ?_
  refine lv_aload_n hx hb dX3_readDays_5 rfl (lv_at hl 0 rfl) ?_
  refine va_get (D := D) (ci := 3) (v := .ref tx) (C := RX3) (T := TX3) (N := 5) hx hb htb itX3 hown hK hP 0 rfl rfl 0 (by decide) (htb _ k_321) (fun _ h9 => h9) rfl dX3_readDays_6 ?_
  refine lv_iconst (v := 3) hx hb dX3_readDays_9 (by decide) ?_
  refine lv_iconst (v := 1) hx hb dX3_readDays_10 (by decide) ?_
  refine cVI (As := [.int 3, .int 1]) (rest := [.int (nI k), .ref lf_]) (n := 2) (ci := 6) (q0 := 0) (wr := [(h0, .inr (3, [.ref tx, .ref lf_, .ref ll_, .int sn, .int (nI K)])), (lf_, .inl (cI, 10, .inl flf)), (ll_, .inl (cI, 10, .inl fll))]) X hN hK hP hD hS hA (c_numberP l D cI cB _ tx tp N P 0 by_ T fb 3 1 hT hNT hPN (by decide)) (gV k_725 k_613 k_614 k_98 k_615) (by decide +kernel) ⟨Nat.le_of_ble_eq_true rfl, Nat.le_of_ble_eq_true rfl⟩ ⟨rfl, rfl⟩ [1, 2, 3] [0, 4, 5] rfl rfl (by decide) (by decide) rfl rfl rfl rfl rfl hl.1 (Nat.le_of_ble_eq_true rfl) dX3_readDays_11 ⟨Nat.le_of_ble_eq_true rfl, Nat.le_of_ble_eq_true rfl⟩ (fun r_1 u H locs hw_4 hP hD hS => ?_)
  obtain ⟨Po_2, fo_3⟩ := u
  try dsimp only at hw_4
  have hP : va_P D vwCl [(h0, .inr (3, [.ref tx, .ref lf_, .ref ll_, .int sn, .int (nI K)])), (lf_, .inl (cI, 10, .inl flf)), (ll_, .inl (cI, 10, .inl fll)), (tx, .inr (6, [.ref tp, .int (nI N), .int (nI Po_2), .int fo_3])), (tp, .inr (5, [.ref by_, .int (nI T)])), (by_, .inl (cI, 260, .inl fb))] H := hP
  have hD : va_D A [(h0, .inr (3, [.ref tx, .ref lf_, .ref ll_, .int sn, .int (nI K)])), (lf_, .inl (cI, 10, .inl flf)), (ll_, .inl (cI, 10, .inl fll)), (tx, .inr (6, [.ref tp, .int (nI N), .int (nI Po_2), .int fo_3])), (tp, .inr (5, [.ref by_, .int (nI T)])), (by_, .inl (cI, 260, .inl fb))] := hD
  refine va_iast hx hb hK hP hD hS 1 0 rfl rfl (vp_in_nI (by omega) (by decide)) dX3_readDays_14 (fun H locs hP hD hS => ?_)
  obtain ⟨f_5, ef_5⟩ : ∃ g : Nat → Int32, g = upd flf (Int32.toNatClampNeg (nI k)) r_1 := ⟨_, rfl⟩
  rw [← ef_5] at hP hD
  have hP : va_P D vwCl [(h0, .inr (3, [.ref tx, .ref lf_, .ref ll_, .int sn, .int (nI K)])), (lf_, .inl (cI, 10, .inl f_5)), (ll_, .inl (cI, 10, .inl fll)), (tx, .inr (6, [.ref tp, .int (nI N), .int (nI Po_2), .int fo_3])), (tp, .inr (5, [.ref by_, .int (nI T)])), (by_, .inl (cI, 260, .inl fb))] H := hP
  have hD : va_D A [(h0, .inr (3, [.ref tx, .ref lf_, .ref ll_, .int sn, .int (nI K)])), (lf_, .inl (cI, 10, .inl f_5)), (ll_, .inl (cI, 10, .inl fll)), (tx, .inr (6, [.ref tp, .int (nI N), .int (nI Po_2), .int fo_3])), (tp, .inr (5, [.ref by_, .int (nI T)])), (by_, .inl (cI, 260, .inl fb))] := hD
  refine lv_aload_n hx hb dX3_readDays_15 rfl (lv_at hl 0 rfl) ?_
  refine va_get (D := D) (ci := 3) (v := .ref tx) (C := RX3) (T := TX3) (N := 5) hx hb htb itX3 hown hK hP 0 rfl rfl 0 (by decide) (htb _ k_321) (fun _ h9 => h9) rfl dX3_readDays_16 ?_
  refine lv_bipush (v := 45) hx hb dX3_readDays_19 (by decide) ?_
  refine cVV (As := [.int 45]) (rest := []) (n := 1) (ci := 6) (q0 := 0) (wr := [(h0, .inr (3, [.ref tx, .ref lf_, .ref ll_, .int sn, .int (nI K)])), (lf_, .inl (cI, 10, .inl f_5)), (ll_, .inl (cI, 10, .inl fll))]) X hN hK hP hD hS hA (c_expectP l D cI cB _ tx tp N Po_2 fo_3 by_ T fb 45 hT hNT hw_4.2.2.2 (by decide)) (gV k_726 k_603 k_604 k_98 k_605) (by decide +kernel) ⟨Nat.le_of_ble_eq_true rfl, Nat.le_of_ble_eq_true rfl⟩ ⟨rfl, rfl⟩ [3, 4, 5] [0, 1, 2] rfl rfl (by decide) (by decide) rfl rfl rfl rfl rfl hl.1 (Nat.le_of_ble_eq_true rfl) dX3_readDays_21 ⟨Nat.le_of_ble_eq_true rfl, Nat.le_of_ble_eq_true rfl⟩ (fun u H locs hw_9 hP hD hS => ?_)
  obtain ⟨Po_7, fo_8⟩ := u
  try dsimp only at hw_9
  have hP : va_P D vwCl [(h0, .inr (3, [.ref tx, .ref lf_, .ref ll_, .int sn, .int (nI K)])), (lf_, .inl (cI, 10, .inl f_5)), (ll_, .inl (cI, 10, .inl fll)), (tx, .inr (6, [.ref tp, .int (nI N), .int (nI Po_7), .int fo_8])), (tp, .inr (5, [.ref by_, .int (nI T)])), (by_, .inl (cI, 260, .inl fb))] H := hP
  have hD : va_D A [(h0, .inr (3, [.ref tx, .ref lf_, .ref ll_, .int sn, .int (nI K)])), (lf_, .inl (cI, 10, .inl f_5)), (ll_, .inl (cI, 10, .inl fll)), (tx, .inr (6, [.ref tp, .int (nI N), .int (nI Po_7), .int fo_8])), (tp, .inr (5, [.ref by_, .int (nI T)])), (by_, .inl (cI, 260, .inl fb))] := hD
  refine lv_aload_n hx hb dX3_readDays_24 rfl (lv_at hl 0 rfl) ?_
  refine va_get (D := D) (ci := 3) (v := .ref tx) (C := RX3) (T := TX3) (N := 5) hx hb htb itX3 hown hK hP 0 rfl rfl 0 (by decide) (htb _ k_321) (fun _ h9 => h9) rfl dX3_readDays_25 ?_
  refine va_getN (D := D) (ci := 6) (v := .int (nI Po_7)) (C := RX6) (T := TX6) (N := 4) hx hb htb itX6 hown hK hP 3 rfl rfl 2 (by decide) (va_Nw.use rfl (hN _ n_266 rfl)) (fun _ h9 => h9) rfl dX3_readDays_28 ?_
  refine lv_istore_n (lv' := [(2, .int (nI Po_7)), (0, .ref h0), (1, .int (nI k))]) hx hb dX3_readDays_31 rfl hl (by decide) rfl (fun ls hl => ?_)
  refine lv_aload_n hx hb dX3_readDays_32 rfl (lv_at hl 1 rfl) ?_
  refine va_get (D := D) (ci := 3) (v := .ref ll_) (C := RX3) (T := TX3) (N := 5) hx hb htb itX3 hown hK hP 0 rfl rfl 2 (by decide) (htb _ k_323) (fun _ h9 => h9) rfl dX3_readDays_33 ?_
  refine lv_iload_n hx hb dX3_readDays_36 rfl (lv_at hl 2 rfl) ?_
  refine lv_aload_n hx hb dX3_readDays_37 rfl (lv_at hl 1 rfl) ?_
  refine va_get (D := D) (ci := 3) (v := .ref tx) (C := RX3) (T := TX3) (N := 5) hx hb htb itX3 hown hK hP 0 rfl rfl 0 (by decide) (htb _ k_321) (fun _ h9 => h9) rfl dX3_readDays_38 ?_
  refine lv_iconst (v := 3) hx hb dX3_readDays_41 (by decide) ?_
  refine lv_iconst (v := 1) hx hb dX3_readDays_42 (by decide) ?_
  refine cVI (As := [.int 3, .int 1]) (rest := [.int (nI k), .ref ll_]) (n := 2) (ci := 6) (q0 := 0) (wr := [(h0, .inr (3, [.ref tx, .ref lf_, .ref ll_, .int sn, .int (nI K)])), (lf_, .inl (cI, 10, .inl f_5)), (ll_, .inl (cI, 10, .inl fll))]) X hN hK hP hD hS hA (c_numberP l D cI cB _ tx tp N Po_7 fo_8 by_ T fb 3 1 hT hNT hw_9.2.2.2 (by decide)) (gV k_725 k_613 k_614 k_98 k_615) (by decide +kernel) ⟨Nat.le_of_ble_eq_true rfl, Nat.le_of_ble_eq_true rfl⟩ ⟨rfl, rfl⟩ [3, 4, 5] [0, 1, 2] rfl rfl (by decide) (by decide) rfl rfl rfl rfl rfl hl.1 (Nat.le_of_ble_eq_true rfl) dX3_readDays_43 ⟨Nat.le_of_ble_eq_true rfl, Nat.le_of_ble_eq_true rfl⟩ (fun r_10 u H locs hw_13 hP hD hS => ?_)
  obtain ⟨Po_11, fo_12⟩ := u
  try dsimp only at hw_13
  have hP : va_P D vwCl [(h0, .inr (3, [.ref tx, .ref lf_, .ref ll_, .int sn, .int (nI K)])), (lf_, .inl (cI, 10, .inl f_5)), (ll_, .inl (cI, 10, .inl fll)), (tx, .inr (6, [.ref tp, .int (nI N), .int (nI Po_11), .int fo_12])), (tp, .inr (5, [.ref by_, .int (nI T)])), (by_, .inl (cI, 260, .inl fb))] H := hP
  have hD : va_D A [(h0, .inr (3, [.ref tx, .ref lf_, .ref ll_, .int sn, .int (nI K)])), (lf_, .inl (cI, 10, .inl f_5)), (ll_, .inl (cI, 10, .inl fll)), (tx, .inr (6, [.ref tp, .int (nI N), .int (nI Po_11), .int fo_12])), (tp, .inr (5, [.ref by_, .int (nI T)])), (by_, .inl (cI, 260, .inl fb))] := hD
  refine va_iast hx hb hK hP hD hS 2 0 rfl rfl (vp_in_nI (by omega) (by decide)) dX3_readDays_46 (fun H locs hP hD hS => ?_)
  obtain ⟨f_14, ef_14⟩ : ∃ g : Nat → Int32, g = upd fll (Int32.toNatClampNeg (nI k)) r_10 := ⟨_, rfl⟩
  rw [← ef_14] at hP hD
  have hP : va_P D vwCl [(h0, .inr (3, [.ref tx, .ref lf_, .ref ll_, .int sn, .int (nI K)])), (lf_, .inl (cI, 10, .inl f_5)), (ll_, .inl (cI, 10, .inl f_14)), (tx, .inr (6, [.ref tp, .int (nI N), .int (nI Po_11), .int fo_12])), (tp, .inr (5, [.ref by_, .int (nI T)])), (by_, .inl (cI, 260, .inl fb))] H := hP
  have hD : va_D A [(h0, .inr (3, [.ref tx, .ref lf_, .ref ll_, .int sn, .int (nI K)])), (lf_, .inl (cI, 10, .inl f_5)), (ll_, .inl (cI, 10, .inl f_14)), (tx, .inr (6, [.ref tp, .int (nI N), .int (nI Po_11), .int fo_12])), (tp, .inr (5, [.ref by_, .int (nI T)])), (by_, .inl (cI, 260, .inl fb))] := hD
  refine lv_aload_n hx hb dX3_readDays_47 rfl (lv_at hl 1 rfl) ?_
  refine va_get (D := D) (ci := 3) (v := .ref ll_) (C := RX3) (T := TX3) (N := 5) hx hb htb itX3 hown hK hP 0 rfl rfl 2 (by decide) (htb _ k_323) (fun _ h9 => h9) rfl dX3_readDays_48 ?_
  refine lv_iload_n hx hb dX3_readDays_51 rfl (lv_at hl 2 rfl) ?_
  refine va_iald hx hb hK hP 2 0 rfl rfl (vp_in_nI (by omega) (by decide)) dX3_readDays_52 ?_
  refine lv_aload_n hx hb dX3_readDays_53 rfl (lv_at hl 1 rfl) ?_
  refine va_get (D := D) (ci := 3) (v := .ref lf_) (C := RX3) (T := TX3) (N := 5) hx hb htb itX3 hown hK hP 0 rfl rfl 1 (by decide) (htb _ k_322) (fun _ h9 => h9) rfl dX3_readDays_54 ?_
  refine lv_iload_n hx hb dX3_readDays_57 rfl (lv_at hl 2 rfl) ?_
  refine va_iald hx hb hK hP 1 0 rfl rfl (vp_in_nI (by omega) (by decide)) dX3_readDays_58 ?_
  refine lv_icmp_ge (tgt := 72) hx hb dX3_readDays_59 (by decide) (fun c_59 => ?_) (fun c_59 => ?_)
  · exact ret _ _ _ _ (Po_11, fo_12, f_5, f_14) dX3_readDays_72 (by have ex : f_14 (Int32.toNatClampNeg (nI k)) = r_10 := (by rw [ef_14]; exact pk_us); have ey : f_5 (Int32.toNatClampNeg (nI k)) = r_1 := (by rw [ef_5]; exact pk_us); rw [ex, ey] at c_59; have w := lvDays (N := N) (by omega) hPN hw_4.1 hw_4.2.1 hw_4.2.2.1 hw_9.1 hw_9.2.1 hw_4.2.2.2 hw_9.2.2.2 hw_13.1 hw_13.2.1 hw_13.2.2.1 hw_13.2.2.2 (fun _ => rfl) (fun z => absurd z (Int32.not_lt.mpr c_59)); exact ⟨⟨w.1, fun z => (fun g => ⟨g.1, g.2.1, by rw [ef_5, nI_clamp (by omega), g.2.2.1], by rw [ef_14, nI_clamp (by omega), g.2.2.2]⟩) (w.2.1 z), w.2.2⟩, by have := hw_4.1; have := hw_9.2.2.1; have := hw_13.1; omega, hw_13.2.2.2⟩) (hP.sub [0, 3, 4, 5, 1, 2] rfl) (hD.sub [0, 3, 4, 5, 1, 2] (by decide) rfl) hS
  · refine lv_aload_n hx hb dX3_readDays_62 rfl (lv_at hl 1 rfl) ?_
    refine va_get (D := D) (ci := 3) (v := .ref tx) (C := RX3) (T := TX3) (N := 5) hx hb htb itX3 hown hK hP 0 rfl rfl 0 (by decide) (htb _ k_321) (fun _ h9 => h9) rfl dX3_readDays_63 ?_
    refine lv_bipush (v := 7) hx hb dX3_readDays_66 (by decide) ?_
    refine lv_iload_n hx hb dX3_readDays_68 rfl (lv_at hl 0 rfl) ?_
    refine cVV (As := [.int 7, .int (nI Po_7)]) (rest := []) (n := 2) (ci := 6) (q0 := 0) (wr := [(h0, .inr (3, [.ref tx, .ref lf_, .ref ll_, .int sn, .int (nI K)])), (lf_, .inl (cI, 10, .inl f_5)), (ll_, .inl (cI, 10, .inl f_14)), (tp, .inr (5, [.ref by_, .int (nI T)])), (by_, .inl (cI, 260, .inl fb))]) X hN hK hP hD hS hA (c_failP l D cI cB _ tx tp (nI N) (nI Po_11) fo_12 7 (nI Po_7)) (gV k_719 k_574 k_575 k_98 k_576) (by decide +kernel) ⟨Nat.le_of_ble_eq_true rfl, Nat.le_of_ble_eq_true rfl⟩ ⟨rfl, rfl⟩ [3] [0, 1, 2, 4, 5] rfl rfl (by decide) (by decide) rfl rfl rfl rfl rfl hl.1 (Nat.le_of_ble_eq_true rfl) dX3_readDays_69 ⟨Nat.le_of_ble_eq_true rfl, Nat.le_of_ble_eq_true rfl⟩ (fun u H locs hw_17 hP hD hS => ?_)
    obtain ⟨h0_3o_16, rfl⟩ : ∃ z, z = u := ⟨_, rfl⟩
    try dsimp only at hw_17
    have hP : va_P D vwCl [(h0, .inr (3, [.ref tx, .ref lf_, .ref ll_, .int sn, .int (nI K)])), (lf_, .inl (cI, 10, .inl f_5)), (ll_, .inl (cI, 10, .inl f_14)), (tp, .inr (5, [.ref by_, .int (nI T)])), (by_, .inl (cI, 260, .inl fb)), (tx, .inr (6, [.ref tp, .int (nI N), .int (nI Po_11), .int h0_3o_16]))] H := hP
    have hD : va_D A [(h0, .inr (3, [.ref tx, .ref lf_, .ref ll_, .int sn, .int (nI K)])), (lf_, .inl (cI, 10, .inl f_5)), (ll_, .inl (cI, 10, .inl f_14)), (tp, .inr (5, [.ref by_, .int (nI T)])), (by_, .inl (cI, 260, .inl fb)), (tx, .inr (6, [.ref tp, .int (nI N), .int (nI Po_11), .int h0_3o_16]))] := hD
    exact ret _ _ _ _ (Po_11, h0_3o_16, f_5, f_14) dX3_readDays_72 (by have ex : f_14 (Int32.toNatClampNeg (nI k)) = r_10 := (by rw [ef_14]; exact pk_us); have ey : f_5 (Int32.toNatClampNeg (nI k)) = r_1 := (by rw [ef_5]; exact pk_us); rw [ex, ey] at c_59; have w := lvDays (N := N) (by omega) hPN hw_4.1 hw_4.2.1 hw_4.2.2.1 hw_9.1 hw_9.2.1 hw_4.2.2.2 hw_9.2.2.2 hw_13.1 hw_13.2.1 hw_13.2.2.1 hw_13.2.2.2 (fun z => absurd (Int32.not_le.mp c_59) z) (fun _ => hw_17); exact ⟨⟨w.1, fun z => (fun g => ⟨g.1, g.2.1, by rw [ef_5, nI_clamp (by omega), g.2.2.1], by rw [ef_14, nI_clamp (by omega), g.2.2.2]⟩) (w.2.1 z), w.2.2⟩, by have := hw_4.1; have := hw_9.2.2.1; have := hw_13.1; omega, hw_13.2.2.2⟩) (hP.sub [0, 5, 3, 4, 1, 2] rfl) (hD.sub [0, 5, 3, 4, 1, 2] (by decide) rfl) hS

set_option maxRecDepth 100000 in
set_option maxHeartbeats 4000000 in
theorem c_readLineP (l : Launch) (D : va_G) (cI cB : ClassId) (sz : Nat) (h0 : Nat) (lf_ : Nat) (ll_ : Nat) (sn : Int32) (K : Nat) (tx : Nat) (tp : Nat) (N : Nat) (P : Nat) (by_ : Nat) (T : Nat) (fb : Nat → Int32) (flf : Nat → Int32) (fll : Nat → Int32) (fa : Int32) (gF : Nat → Int32) (gL : Nat → Int32) (hT : T ≤ 260) (hNT : N ≤ T) (hPN : P ≤ N) (hfa : fa = 0 ∨ fa < 0) (hKL : K ≤ 10) (hLR : fa = 0 → LREL sn gF gL flf fll) : MV (S := ((Nat) × (Int32) × (Int32) × (Nat) × (Nat → Int32) × (Nat → Int32) × (Nat → Int32) × (Nat → Int32))) l D cI cB yX3_readLine cX3_readLine 2 (rm 4 88) [.ref h0] [(h0, .inr (3, [.ref tx, .ref lf_, .ref ll_, .int sn, .int (nI K)])), (tx, .inr (6, [.ref tp, .int (nI N), .int (nI P), .int fa])), (tp, .inr (5, [.ref by_, .int (nI T)])), (by_, .inl (cI, 260, .inl fb)), (lf_, .inl (cI, 10, .inl flf)), (ll_, .inl (cI, 10, .inl fll))] sz (fun u => (u.2.1 = 0 ∨ u.2.1 < 0) ∧ (¬ fa = 0 → u.2.1 = fa) ∧ (fa = 0 → u.2.1 = 0 → lvOne (chF fb N) P K gF gL = some (u.1, u.2.2.2.2.2.2.1, u.2.2.2.2.2.2.2) ∧ LREL u.2.2.1 u.2.2.2.2.2.2.1 u.2.2.2.2.2.2.2 u.2.2.2.2.1 u.2.2.2.2.2.1 ∧ u.2.2.2.1 = K + 1 ∧ P < u.1) ∧ (fa = 0 → ¬ u.2.1 = 0 → NOL fb N P K gF gL) ∧ P ≤ u.1 ∧ u.1 ≤ N ∧ u.2.2.2.1 ≤ 10) (fun u : ((Nat) × (Int32) × (Int32) × (Nat) × (Nat → Int32) × (Nat → Int32) × (Nat → Int32) × (Nat → Int32)) => [(h0, .inr (3, [.ref tx, .ref lf_, .ref ll_, .int u.2.2.1, .int (nI u.2.2.2.1)])), (tx, .inr (6, [.ref tp, .int (nI N), .int (nI u.1), .int u.2.1])), (tp, .inr (5, [.ref by_, .int (nI T)])), (by_, .inl (cI, 260, .inl fb)), (lf_, .inl (cI, 10, .inl u.2.2.2.2.1)), (ll_, .inl (cI, 10, .inl u.2.2.2.2.2.1))]) := by
  refine MV.of (by decide) (Nat.le_of_ble_eq_true rfl) ?_
  intro p e s m below meth c Q ls A X hin hN hP hK hD hA hl ret
  have hS : va_S A s.heap s.heap [] := va_S.rf
  obtain ⟨hx, hb, hml, hown, htb⟩ := id X
  have hl : lv_has ls 2 [(0, .ref h0)] := hl
  refine lv_aload_n hx hb dX3_readLine_0 rfl (lv_at hl 0 rfl) ?_
  refine va_get (D := D) (ci := 3) (v := .ref tx) (C := RX3) (T := TX3) (N := 5) hx hb htb itX3 hown hK hP 0 rfl rfl 0 (by decide) (htb _ k_321) (fun _ h9 => h9) rfl dX3_readLine_1 ?_
  refine cVR (As := []) (rest := []) (n := 0) (ci := 6) (q0 := 0) X hN hK hP (c_personHereP l D cI cB tx tp N P fa by_ T fb hT hNT hPN) (gV k_718 k_692 k_693 k_98 k_694) (by decide +kernel) ⟨Nat.le_of_ble_eq_true rfl, Nat.le_of_ble_eq_true rfl⟩ ⟨rfl, rfl⟩ [1, 2, 3] rfl rfl rfl rfl rfl rfl hl.1 (Nat.le_of_ble_eq_true rfl) dX3_readLine_4 ⟨Nat.le_of_ble_eq_true rfl, Nat.le_of_ble_eq_true rfl⟩ (fun r_1 hr_1 => ?_)
  subst hr_1
  refine lv_topi (fun x_2 ex_2 => ?_)
  refine lv_istore_n (lv' := [(1, .int x_2), (0, .ref h0)]) hx hb dX3_readLine_7 rfl hl (by decide) rfl (fun ls hl => ?_)
  refine lv_iload_n hx hb dX3_readLine_8 rfl (lv_at hl 0 rfl) ?_
  refine lv_iconst (v := (-1)) hx hb dX3_readLine_9 (by decide) ?_
  refine lv_icmp_ne (tgt := 31) hx hb dX3_readLine_10 (by decide) (fun c_10 => ?_) (fun c_10 => ?_)
  · obtain ⟨j, hj, ej1, hrg, ej2⟩ := phN (fun z => c_10 (ex_2.trans z))
    obtain ⟨hf0, hlt⟩ := sQ97 hrg
    subst hf0
    have ex2 := ex_2.trans ej1
    subst ex2
    rw [sQ0] at hrg ej2
    have hLR1 := hLR rfl
    refine lv_aload_n hx hb dX3_readLine_31 rfl (lv_at hl 1 rfl) ?_
    refine va_get (D := D) (ci := 3) (v := .int (nI K)) (C := RX3) (T := TX3) (N := 5) hx hb htb itX3 hown hK hP 0 rfl rfl 4 (by decide) (htb _ k_325) (fun _ h9 => h9) rfl dX3_readLine_32 ?_
    refine lv_bipush (v := 10) hx hb dX3_readLine_35 (by decide) ?_
    refine lv_icmp_ne (tgt := 58) hx hb dX3_readLine_37 (by decide) (fun c_37 => ?_) (fun c_37 => ?_)
    · refine lv_aload_n hx hb dX3_readLine_58 rfl (lv_at hl 1 rfl) ?_
      refine va_get (D := D) (ci := 3) (v := .int sn) (C := RX3) (T := TX3) (N := 5) hx hb htb itX3 hown hK hP 0 rfl rfl 3 (by decide) (htb _ k_324) (fun _ h9 => h9) rfl dX3_readLine_59 ?_
      refine lv_iload_n hx hb dX3_readLine_62 rfl (lv_at hl 0 rfl) ?_
      refine cSNR (As := [.int sn, .int (nI j)]) (rest := []) (n := 2) X hN hK hP (c_isInF l D cI cB sn (nI j)) n_720 k_696 k_92 k_697 (by decide +kernel) ⟨Nat.le_of_ble_eq_true rfl, Nat.le_of_ble_eq_true rfl⟩ ⟨rfl, rfl⟩ [] rfl rfl rfl hl.1 (Nat.le_of_ble_eq_true rfl) dX3_readLine_63 ⟨Nat.le_of_ble_eq_true rfl, Nat.le_of_ble_eq_true rfl⟩ (fun r_3 hr_3 => ?_)
      subst hr_3
      refine lv_if_eq (tgt := 88) hx hb dX3_readLine_66 (by decide) (fun c_66 => ?_) (fun c_66 => ?_)
      · refine lv_aload_n hx hb dX3_readLine_88 rfl (lv_at hl 1 rfl) ?_
        refine va_get (D := D) (ci := 3) (v := .ref tx) (C := RX3) (T := TX3) (N := 5) hx hb htb itX3 hown hK hP 0 rfl rfl 0 (by decide) (htb _ k_321) (fun _ h9 => h9) rfl dX3_readLine_89 ?_
        refine lv_dup hx hb dX3_readLine_92 rfl ?_
        refine va_getN (D := D) (ci := 6) (v := .int (nI P)) (C := RX6) (T := TX6) (N := 4) hx hb htb itX6 hown hK hP 1 rfl rfl 2 (by decide) (va_Nw.use rfl (hN _ n_266 rfl)) (fun _ h9 => h9) rfl dX3_readLine_93 ?_
        refine lv_iconst (v := 1) hx hb dX3_readLine_96 (by decide) ?_
        refine lv_iadd hx hb dX3_readLine_97 ?_
        refine tv (z := (nI (P + 1))) (nI_1 P) ?_
        refine va_putN (D := D) (ci := 6) (v := .int (nI (P + 1))) (ty := .int) (C := RX6) (T := TX6) (N := 4) hx hb htb itX6 tyX6 tyX6_ok nmX6 hown hK hP hD hS 1 rfl rfl 2 (by decide) (va_Nw.use rfl (hN _ n_266 rfl)) (fun _ h9 => h9) rfl (tyX6_ok 2 (by decide)) rfl rfl (Nat.le_of_ble_eq_true rfl) dX3_readLine_98 (fun H locs hP hD hS => ?_)
        have hP : va_P D vwCl [(h0, .inr (3, [.ref tx, .ref lf_, .ref ll_, .int sn, .int (nI K)])), (tx, .inr (6, [.ref tp, .int (nI N), .int (nI (P + 1)), .int 0])), (tp, .inr (5, [.ref by_, .int (nI T)])), (by_, .inl (cI, 260, .inl fb)), (lf_, .inl (cI, 10, .inl flf)), (ll_, .inl (cI, 10, .inl fll))] H := hP
        have hD : va_D A [(h0, .inr (3, [.ref tx, .ref lf_, .ref ll_, .int sn, .int (nI K)])), (tx, .inr (6, [.ref tp, .int (nI N), .int (nI (P + 1)), .int 0])), (tp, .inr (5, [.ref by_, .int (nI T)])), (by_, .inl (cI, 260, .inl fb)), (lf_, .inl (cI, 10, .inl flf)), (ll_, .inl (cI, 10, .inl fll))] := hD
        refine lv_aload_n hx hb dX3_readLine_101 rfl (lv_at hl 1 rfl) ?_
        refine lv_dup hx hb dX3_readLine_102 rfl ?_
        refine va_get (D := D) (ci := 3) (v := .int sn) (C := RX3) (T := TX3) (N := 5) hx hb htb itX3 hown hK hP 0 rfl rfl 3 (by decide) (htb _ k_324) (fun _ h9 => h9) rfl dX3_readLine_103 ?_
        refine lv_iconst (v := 1) hx hb dX3_readLine_106 (by decide) ?_
        refine lv_iload_n hx hb dX3_readLine_107 rfl (lv_at hl 0 rfl) ?_
        refine lv_ishl hx hb dX3_readLine_108 ?_
        refine lv_ior hx hb dX3_readLine_109 ?_
        refine lv_topi (fun x_4 ex_4 => ?_)
        refine va_put (D := D) (ci := 3) (v := .int x_4) (ty := .int) (C := RX3) (T := TX3) (N := 5) hx hb htb itX3 tyX3 tyX3_ok nmX3 hown hK hP hD hS 0 rfl rfl 3 (by decide) (htb _ k_324) (fun _ h9 => h9) rfl (tyX3_ok 3 (by decide)) rfl rfl (Nat.le_of_ble_eq_true rfl) dX3_readLine_110 (fun H locs hP hD hS => ?_)
        have hP : va_P D vwCl [(h0, .inr (3, [.ref tx, .ref lf_, .ref ll_, .int x_4, .int (nI K)])), (tx, .inr (6, [.ref tp, .int (nI N), .int (nI (P + 1)), .int 0])), (tp, .inr (5, [.ref by_, .int (nI T)])), (by_, .inl (cI, 260, .inl fb)), (lf_, .inl (cI, 10, .inl flf)), (ll_, .inl (cI, 10, .inl fll))] H := hP
        have hD : va_D A [(h0, .inr (3, [.ref tx, .ref lf_, .ref ll_, .int x_4, .int (nI K)])), (tx, .inr (6, [.ref tp, .int (nI N), .int (nI (P + 1)), .int 0])), (tp, .inr (5, [.ref by_, .int (nI T)])), (by_, .inl (cI, 260, .inl fb)), (lf_, .inl (cI, 10, .inl flf)), (ll_, .inl (cI, 10, .inl fll))] := hD
        refine lv_aload_n hx hb dX3_readLine_113 rfl (lv_at hl 1 rfl) ?_
        refine lv_dup hx hb dX3_readLine_114 rfl ?_
        refine va_get (D := D) (ci := 3) (v := .int (nI K)) (C := RX3) (T := TX3) (N := 5) hx hb htb itX3 hown hK hP 0 rfl rfl 4 (by decide) (htb _ k_325) (fun _ h9 => h9) rfl dX3_readLine_115 ?_
        refine lv_iconst (v := 1) hx hb dX3_readLine_118 (by decide) ?_
        refine lv_iadd hx hb dX3_readLine_119 ?_
        refine tv (z := (nI (K + 1))) (nI_1 K) ?_
        refine va_put (D := D) (ci := 3) (v := .int (nI (K + 1))) (ty := .int) (C := RX3) (T := TX3) (N := 5) hx hb htb itX3 tyX3 tyX3_ok nmX3 hown hK hP hD hS 0 rfl rfl 4 (by decide) (htb _ k_325) (fun _ h9 => h9) rfl (tyX3_ok 4 (by decide)) rfl rfl (Nat.le_of_ble_eq_true rfl) dX3_readLine_120 (fun H locs hP hD hS => ?_)
        have hP : va_P D vwCl [(h0, .inr (3, [.ref tx, .ref lf_, .ref ll_, .int x_4, .int (nI (K + 1))])), (tx, .inr (6, [.ref tp, .int (nI N), .int (nI (P + 1)), .int 0])), (tp, .inr (5, [.ref by_, .int (nI T)])), (by_, .inl (cI, 260, .inl fb)), (lf_, .inl (cI, 10, .inl flf)), (ll_, .inl (cI, 10, .inl fll))] H := hP
        have hD : va_D A [(h0, .inr (3, [.ref tx, .ref lf_, .ref ll_, .int x_4, .int (nI (K + 1))])), (tx, .inr (6, [.ref tp, .int (nI N), .int (nI (P + 1)), .int 0])), (tp, .inr (5, [.ref by_, .int (nI T)])), (by_, .inl (cI, 260, .inl fb)), (lf_, .inl (cI, 10, .inl flf)), (ll_, .inl (cI, 10, .inl fll))] := hD
        refine lv_aload_n hx hb dX3_readLine_123 rfl (lv_at hl 1 rfl) ?_
        refine lv_iload_n hx hb dX3_readLine_124 rfl (lv_at hl 0 rfl) ?_
        refine cVV (As := [.int (nI j)]) (rest := []) (n := 1) (ci := 3) (q0 := 0) (wr := []) X hN hK hP hD hS hA (c_readDaysP l D cI cB _ h0 lf_ ll_ x_4 (K + 1) tx tp N (P + 1) by_ T fb flf fll j hT hNT (by omega) hj) (gV k_721 k_723 k_14 k_101 k_724) (by decide +kernel) ⟨Nat.le_of_ble_eq_true rfl, Nat.le_of_ble_eq_true rfl⟩ ⟨rfl, rfl⟩ [0, 1, 2, 3, 4, 5] [] rfl rfl (by decide) (by decide) rfl rfl rfl rfl rfl hl.1 (Nat.le_of_ble_eq_true rfl) dX3_readLine_125 ⟨Nat.le_of_ble_eq_true rfl, Nat.le_of_ble_eq_true rfl⟩ (fun u H locs hw_10 hP hD hS => ?_)
        obtain ⟨Po_6, fo_7, lfo_8, llo_9⟩ := u
        try dsimp only at hw_10
        have hP : va_P D vwCl [(h0, .inr (3, [.ref tx, .ref lf_, .ref ll_, .int x_4, .int (nI (K + 1))])), (tx, .inr (6, [.ref tp, .int (nI N), .int (nI Po_6), .int fo_7])), (tp, .inr (5, [.ref by_, .int (nI T)])), (by_, .inl (cI, 260, .inl fb)), (lf_, .inl (cI, 10, .inl lfo_8)), (ll_, .inl (cI, 10, .inl llo_9))] H := hP
        have hD : va_D A [(h0, .inr (3, [.ref tx, .ref lf_, .ref ll_, .int x_4, .int (nI (K + 1))])), (tx, .inr (6, [.ref tp, .int (nI N), .int (nI Po_6), .int fo_7])), (tp, .inr (5, [.ref by_, .int (nI T)])), (by_, .inl (cI, 260, .inl fb)), (lf_, .inl (cI, 10, .inl lfo_8)), (ll_, .inl (cI, 10, .inl llo_9))] := hD
        exact ret _ _ _ _ (Po_6, fo_7, x_4, (K + 1), lfo_8, llo_9, (upd gF j (nvl (chF fb N) 3 (P + 1) 0)), (upd gL j (nvl (chF fb N) 3 (P + 1 + ndg (chF fb N) 3 (P + 1) + 1) 0))) dX3_readLine_128 (by have hK9 : K < 10 := (Nat.lt_or_eq_of_le hKL).resolve_right (fun z => c_37 (congrArg nI z : nI K = nI 10)); have hF : gF j = -2 := Classical.byContradiction (fun z => bIf c_66 ⟨bfr rfl (by omega), (hLR1 j hj).1.mpr z⟩); exact ⟨hw_10.1.1, fun z => absurd rfl z, fun _ z => (fun g => ⟨by rw [g.2.1]; exact lvOne_y hrg ej2 hj hK9 hF g.1, by rw [g.2.2.1, g.2.2.2, ex_4]; exact hLR1.add hj (nvl3 _ _), rfl, by omega⟩) (hw_10.1.2.1 z), fun _ z => lvLine_no hrg ej2 hj hK9 hF (hw_10.1.2.2 z), by omega, hw_10.2.2, hK9⟩) (hP.sub [0, 1, 2, 3, 4, 5] rfl) (hD.sub [0, 1, 2, 3, 4, 5] (by decide) rfl) hS
      · refine lv_aload_n hx hb dX3_readLine_69 rfl (lv_at hl 1 rfl) ?_
        refine va_get (D := D) (ci := 3) (v := .ref tx) (C := RX3) (T := TX3) (N := 5) hx hb htb itX3 hown hK hP 0 rfl rfl 0 (by decide) (htb _ k_321) (fun _ h9 => h9) rfl dX3_readLine_70 ?_
        refine lv_bipush (v := 6) hx hb dX3_readLine_73 (by decide) ?_
        refine lv_aload_n hx hb dX3_readLine_75 rfl (lv_at hl 1 rfl) ?_
        refine va_get (D := D) (ci := 3) (v := .ref tx) (C := RX3) (T := TX3) (N := 5) hx hb htb itX3 hown hK hP 0 rfl rfl 0 (by decide) (htb _ k_321) (fun _ h9 => h9) rfl dX3_readLine_76 ?_
        refine va_getN (D := D) (ci := 6) (v := .int (nI P)) (C := RX6) (T := TX6) (N := 4) hx hb htb itX6 hown hK hP 1 rfl rfl 2 (by decide) (va_Nw.use rfl (hN _ n_266 rfl)) (fun _ h9 => h9) rfl dX3_readLine_79 ?_
        refine cVV (As := [.int 6, .int (nI P)]) (rest := []) (n := 2) (ci := 6) (q0 := 0) (wr := [(h0, .inr (3, [.ref tx, .ref lf_, .ref ll_, .int sn, .int (nI K)])), (tp, .inr (5, [.ref by_, .int (nI T)])), (by_, .inl (cI, 260, .inl fb)), (lf_, .inl (cI, 10, .inl flf)), (ll_, .inl (cI, 10, .inl fll))]) X hN hK hP hD hS hA (c_failP l D cI cB _ tx tp (nI N) (nI P) 0 6 (nI P)) (gV k_719 k_574 k_575 k_98 k_576) (by decide +kernel) ⟨Nat.le_of_ble_eq_true rfl, Nat.le_of_ble_eq_true rfl⟩ ⟨rfl, rfl⟩ [1] [0, 2, 3, 4, 5] rfl rfl (by decide) (by decide) rfl rfl rfl rfl rfl hl.1 (Nat.le_of_ble_eq_true rfl) dX3_readLine_82 ⟨Nat.le_of_ble_eq_true rfl, Nat.le_of_ble_eq_true rfl⟩ (fun u H locs hw_13 hP hD hS => ?_)
        obtain ⟨h0_3o_12, rfl⟩ : ∃ z, z = u := ⟨_, rfl⟩
        try dsimp only at hw_13
        have hP : va_P D vwCl [(h0, .inr (3, [.ref tx, .ref lf_, .ref ll_, .int sn, .int (nI K)])), (tp, .inr (5, [.ref by_, .int (nI T)])), (by_, .inl (cI, 260, .inl fb)), (lf_, .inl (cI, 10, .inl flf)), (ll_, .inl (cI, 10, .inl fll)), (tx, .inr (6, [.ref tp, .int (nI N), .int (nI P), .int h0_3o_12]))] H := hP
        have hD : va_D A [(h0, .inr (3, [.ref tx, .ref lf_, .ref ll_, .int sn, .int (nI K)])), (tp, .inr (5, [.ref by_, .int (nI T)])), (by_, .inl (cI, 260, .inl fb)), (lf_, .inl (cI, 10, .inl flf)), (ll_, .inl (cI, 10, .inl fll)), (tx, .inr (6, [.ref tp, .int (nI N), .int (nI P), .int h0_3o_12]))] := hD
        refine lv_goto (tgt := 128) hx hb dX3_readLine_85 (by decide) ?_
        exact ret _ _ _ _ (P, h0_3o_12, sn, K, flf, fll, gF, gL) dX3_readLine_128 (by have hn : h0_3o_12 < 0 := (by rw [hw_13]; exact flF_neg (k := 6) rfl (by decide) (by decide) (by omega) hfa); exact ⟨Or.inr hn, fun z => absurd rfl z, fun _ z => absurd z (neg_nz hn), fun _ _ => NOL.one (lvOne_n ej2 hj (Or.inr (Or.inl ((hLR1 j hj).1.mp (bIt c_66).2)))), Nat.le_refl _, hPN, hKL⟩) (hP.sub [0, 5, 1, 2, 3, 4] rfl) (hD.sub [0, 5, 1, 2, 3, 4] (by decide) rfl) hS
    · refine lv_aload_n hx hb dX3_readLine_40 rfl (lv_at hl 1 rfl) ?_
      refine va_get (D := D) (ci := 3) (v := .ref tx) (C := RX3) (T := TX3) (N := 5) hx hb htb itX3 hown hK hP 0 rfl rfl 0 (by decide) (htb _ k_321) (fun _ h9 => h9) rfl dX3_readLine_41 ?_
      refine lv_iconst (v := 4) hx hb dX3_readLine_44 (by decide) ?_
      refine lv_aload_n hx hb dX3_readLine_45 rfl (lv_at hl 1 rfl) ?_
      refine va_get (D := D) (ci := 3) (v := .ref tx) (C := RX3) (T := TX3) (N := 5) hx hb htb itX3 hown hK hP 0 rfl rfl 0 (by decide) (htb _ k_321) (fun _ h9 => h9) rfl dX3_readLine_46 ?_
      refine va_getN (D := D) (ci := 6) (v := .int (nI P)) (C := RX6) (T := TX6) (N := 4) hx hb htb itX6 hown hK hP 1 rfl rfl 2 (by decide) (va_Nw.use rfl (hN _ n_266 rfl)) (fun _ h9 => h9) rfl dX3_readLine_49 ?_
      refine cVV (As := [.int 4, .int (nI P)]) (rest := []) (n := 2) (ci := 6) (q0 := 0) (wr := [(h0, .inr (3, [.ref tx, .ref lf_, .ref ll_, .int sn, .int (nI K)])), (tp, .inr (5, [.ref by_, .int (nI T)])), (by_, .inl (cI, 260, .inl fb)), (lf_, .inl (cI, 10, .inl flf)), (ll_, .inl (cI, 10, .inl fll))]) X hN hK hP hD hS hA (c_failP l D cI cB _ tx tp (nI N) (nI P) 0 4 (nI P)) (gV k_719 k_574 k_575 k_98 k_576) (by decide +kernel) ⟨Nat.le_of_ble_eq_true rfl, Nat.le_of_ble_eq_true rfl⟩ ⟨rfl, rfl⟩ [1] [0, 2, 3, 4, 5] rfl rfl (by decide) (by decide) rfl rfl rfl rfl rfl hl.1 (Nat.le_of_ble_eq_true rfl) dX3_readLine_52 ⟨Nat.le_of_ble_eq_true rfl, Nat.le_of_ble_eq_true rfl⟩ (fun u H locs hw_16 hP hD hS => ?_)
      obtain ⟨h0_3o_15, rfl⟩ : ∃ z, z = u := ⟨_, rfl⟩
      try dsimp only at hw_16
      have hP : va_P D vwCl [(h0, .inr (3, [.ref tx, .ref lf_, .ref ll_, .int sn, .int (nI K)])), (tp, .inr (5, [.ref by_, .int (nI T)])), (by_, .inl (cI, 260, .inl fb)), (lf_, .inl (cI, 10, .inl flf)), (ll_, .inl (cI, 10, .inl fll)), (tx, .inr (6, [.ref tp, .int (nI N), .int (nI P), .int h0_3o_15]))] H := hP
      have hD : va_D A [(h0, .inr (3, [.ref tx, .ref lf_, .ref ll_, .int sn, .int (nI K)])), (tp, .inr (5, [.ref by_, .int (nI T)])), (by_, .inl (cI, 260, .inl fb)), (lf_, .inl (cI, 10, .inl flf)), (ll_, .inl (cI, 10, .inl fll)), (tx, .inr (6, [.ref tp, .int (nI N), .int (nI P), .int h0_3o_15]))] := hD
      refine lv_goto (tgt := 128) hx hb dX3_readLine_55 (by decide) ?_
      exact ret _ _ _ _ (P, h0_3o_15, sn, K, flf, fll, gF, gL) dX3_readLine_128 (by have hn : h0_3o_15 < 0 := (by rw [hw_16]; exact flF_neg (k := 4) rfl (by decide) (by decide) (by omega) hfa); exact ⟨Or.inr hn, fun z => absurd rfl z, fun _ z => absurd z (neg_nz hn), fun _ _ => NOL.one (lvOne_n ej2 hj (Or.inl (by have := nIe (k := 10) (by omega) (by decide) c_37; omega))), Nat.le_refl _, hPN, hKL⟩) (hP.sub [0, 5, 1, 2, 3, 4] rfl) (hD.sub [0, 5, 1, 2, 3, 4] (by decide) rfl) hS
  · refine lv_aload_n hx hb dX3_readLine_13 rfl (lv_at hl 1 rfl) ?_
    refine va_get (D := D) (ci := 3) (v := .ref tx) (C := RX3) (T := TX3) (N := 5) hx hb htb itX3 hown hK hP 0 rfl rfl 0 (by decide) (htb _ k_321) (fun _ h9 => h9) rfl dX3_readLine_14 ?_
    refine lv_iconst (v := 1) hx hb dX3_readLine_17 (by decide) ?_
    refine lv_aload_n hx hb dX3_readLine_18 rfl (lv_at hl 1 rfl) ?_
    refine va_get (D := D) (ci := 3) (v := .ref tx) (C := RX3) (T := TX3) (N := 5) hx hb htb itX3 hown hK hP 0 rfl rfl 0 (by decide) (htb _ k_321) (fun _ h9 => h9) rfl dX3_readLine_19 ?_
    refine va_getN (D := D) (ci := 6) (v := .int (nI P)) (C := RX6) (T := TX6) (N := 4) hx hb htb itX6 hown hK hP 1 rfl rfl 2 (by decide) (va_Nw.use rfl (hN _ n_266 rfl)) (fun _ h9 => h9) rfl dX3_readLine_22 ?_
    refine cVV (As := [.int 1, .int (nI P)]) (rest := []) (n := 2) (ci := 6) (q0 := 0) (wr := [(h0, .inr (3, [.ref tx, .ref lf_, .ref ll_, .int sn, .int (nI K)])), (tp, .inr (5, [.ref by_, .int (nI T)])), (by_, .inl (cI, 260, .inl fb)), (lf_, .inl (cI, 10, .inl flf)), (ll_, .inl (cI, 10, .inl fll))]) X hN hK hP hD hS hA (c_failP l D cI cB _ tx tp (nI N) (nI P) fa 1 (nI P)) (gV k_719 k_574 k_575 k_98 k_576) (by decide +kernel) ⟨Nat.le_of_ble_eq_true rfl, Nat.le_of_ble_eq_true rfl⟩ ⟨rfl, rfl⟩ [1] [0, 2, 3, 4, 5] rfl rfl (by decide) (by decide) rfl rfl rfl rfl rfl hl.1 (Nat.le_of_ble_eq_true rfl) dX3_readLine_25 ⟨Nat.le_of_ble_eq_true rfl, Nat.le_of_ble_eq_true rfl⟩ (fun u H locs hw_19 hP hD hS => ?_)
    obtain ⟨h0_3o_18, rfl⟩ : ∃ z, z = u := ⟨_, rfl⟩
    try dsimp only at hw_19
    have hP : va_P D vwCl [(h0, .inr (3, [.ref tx, .ref lf_, .ref ll_, .int sn, .int (nI K)])), (tp, .inr (5, [.ref by_, .int (nI T)])), (by_, .inl (cI, 260, .inl fb)), (lf_, .inl (cI, 10, .inl flf)), (ll_, .inl (cI, 10, .inl fll)), (tx, .inr (6, [.ref tp, .int (nI N), .int (nI P), .int h0_3o_18]))] H := hP
    have hD : va_D A [(h0, .inr (3, [.ref tx, .ref lf_, .ref ll_, .int sn, .int (nI K)])), (tp, .inr (5, [.ref by_, .int (nI T)])), (by_, .inl (cI, 260, .inl fb)), (lf_, .inl (cI, 10, .inl flf)), (ll_, .inl (cI, 10, .inl fll)), (tx, .inr (6, [.ref tp, .int (nI N), .int (nI P), .int h0_3o_18]))] := hD
    refine lv_goto (tgt := 128) hx hb dX3_readLine_28 (by decide) ?_
    exact ret _ _ _ _ (P, h0_3o_18, sn, K, flf, fll, gF, gL) dX3_readLine_128 (by have hn : h0_3o_18 < 0 := (by rw [hw_19]; exact flF_neg (k := 1) rfl (by decide) (by decide) (by omega) hfa); exact ⟨Or.inr hn, fun z => by rw [hw_19]; exact flF_n z, fun _ z => absurd z (neg_nz hn), fun z _ => NOL.one (lvOne_0 (by have w := phZ (ex_2.symm.trans c_10); rw [z, sQ0] at w; exact w)), Nat.le_refl _, hPN, hKL⟩) (hP.sub [0, 5, 1, 2, 3, 4] rfl) (hD.sub [0, 5, 1, 2, 3, 4] (by decide) rfl) hS

set_option maxRecDepth 100000 in
set_option maxHeartbeats 4000000 in
theorem c_readLv (l : Launch) (D : va_G) (cI cB : ClassId) (sz : Nat) (h0 : Nat) (lf_ : Nat) (ll_ : Nat) (tx : Nat) (tp : Nat) (by_ : Nat) (T : Nat) (fb : Nat → Int32) (flf : Nat → Int32) (fll : Nat → Int32) (ed : Int32) (pl : Int32) (fa : Int32) (sn : Int32) (ln : Int32) (N : Nat) (gl : Nat → Int32) (hT : T ≤ 260) (hNT : N ≤ T) (hN1 : 1 ≤ N) : MI (S := ((Nat) × (Int32) × (Int32) × (Nat) × (Nat → Int32) × (Nat → Int32))) l D cI cB yX3_read cX3_read 3 .int (rm 5 109) [.ref h0, .int (nI N)] [(h0, .inr (3, [.ref tx, .ref lf_, .ref ll_, .int sn, .int ln])), (tx, .inr (6, [.ref tp, .int ed, .int pl, .int fa])), (tp, .inr (5, [.ref by_, .int (nI T)])), (by_, .inl (cI, 260, .inl fb)), (lf_, .inl (cI, 10, .inl flf)), (ll_, .inl (cI, 10, .inl fll))] sz (fun r u => ((lvTot (chF fb N) N gl) = none ∧ r < 0) ∨ (∃ F L : Nat → Int32, (lvTot (chF fb N) N gl) = some (F, L) ∧ 0 < r ∧ LREL u.2.2.1 F L u.2.2.2.2.1 u.2.2.2.2.2)) (fun u : ((Nat) × (Int32) × (Int32) × (Nat) × (Nat → Int32) × (Nat → Int32)) => [(h0, .inr (3, [.ref tx, .ref lf_, .ref ll_, .int u.2.2.1, .int (nI u.2.2.2.1)])), (tx, .inr (6, [.ref tp, .int (nI N), .int (nI u.1), .int u.2.1])), (tp, .inr (5, [.ref by_, .int (nI T)])), (by_, .inl (cI, 260, .inl fb)), (lf_, .inl (cI, 10, .inl u.2.2.2.2.1)), (ll_, .inl (cI, 10, .inl u.2.2.2.2.2))]) := by
  refine MI.of (by decide) (Nat.le_of_ble_eq_true rfl) ?_
  intro p e s m below meth c Q ls A X hin hN hP hK hD hA hl ret
  have hS : va_S A s.heap s.heap [] := va_S.rf
  obtain ⟨hx, hb, hml, hown, htb⟩ := id X
  have hl : lv_has ls 3 [(0, .ref h0), (1, .int (nI N))] := hl
  refine lv_aload_n hx hb dX3_read_0 rfl (lv_at hl 0 rfl) ?_
  refine va_get (D := D) (ci := 3) (v := .ref tx) (C := RX3) (T := TX3) (N := 5) hx hb htb itX3 hown hK hP 0 rfl rfl 0 (by decide) (htb _ k_321) (fun _ h9 => h9) rfl dX3_read_1 ?_
  refine lv_iload_n hx hb dX3_read_4 rfl (lv_at hl 1 rfl) ?_
  refine cVV (As := [.int (nI N)]) (rest := []) (n := 1) (ci := 6) (q0 := 0) (wr := [(h0, .inr (3, [.ref tx, .ref lf_, .ref ll_, .int sn, .int ln])), (tp, .inr (5, [.ref by_, .int (nI T)])), (by_, .inl (cI, 260, .inl fb)), (lf_, .inl (cI, 10, .inl flf)), (ll_, .inl (cI, 10, .inl fll))]) X hN hK hP hD hS hA (c_X6_begin l D cI cB _ tx tp ed pl fa (nI N)) (gV k_713 k_467 k_468 k_98 k_469) (by decide +kernel) ⟨Nat.le_of_ble_eq_true rfl, Nat.le_of_ble_eq_true rfl⟩ ⟨rfl, rfl⟩ [1] [0, 2, 3, 4, 5] rfl rfl (by decide) (by decide) rfl rfl rfl rfl rfl hl.1 (Nat.le_of_ble_eq_true rfl) dX3_read_5 ⟨Nat.le_of_ble_eq_true rfl, Nat.le_of_ble_eq_true rfl⟩ (fun u H locs hw_5 hP hD hS => ?_)
  obtain ⟨h0_1o_2, h0_2o_3, h0_3o_4⟩ := u
  try dsimp only at hw_5
  have hP : va_P D vwCl [(h0, .inr (3, [.ref tx, .ref lf_, .ref ll_, .int sn, .int ln])), (tp, .inr (5, [.ref by_, .int (nI T)])), (by_, .inl (cI, 260, .inl fb)), (lf_, .inl (cI, 10, .inl flf)), (ll_, .inl (cI, 10, .inl fll)), (tx, .inr (6, [.ref tp, .int h0_1o_2, .int h0_2o_3, .int h0_3o_4]))] H := hP
  have hD : va_D A [(h0, .inr (3, [.ref tx, .ref lf_, .ref ll_, .int sn, .int ln])), (tp, .inr (5, [.ref by_, .int (nI T)])), (by_, .inl (cI, 260, .inl fb)), (lf_, .inl (cI, 10, .inl flf)), (ll_, .inl (cI, 10, .inl fll)), (tx, .inr (6, [.ref tp, .int h0_1o_2, .int h0_2o_3, .int h0_3o_4]))] := hD
  rw [hw_5.1, hw_5.2.1, hw_5.2.2] at hP hD
  have hP : va_P D vwCl [(h0, .inr (3, [.ref tx, .ref lf_, .ref ll_, .int sn, .int ln])), (tp, .inr (5, [.ref by_, .int (nI T)])), (by_, .inl (cI, 260, .inl fb)), (lf_, .inl (cI, 10, .inl flf)), (ll_, .inl (cI, 10, .inl fll)), (tx, .inr (6, [.ref tp, .int (nI N), .int (nI 0), .int 0]))] H := hP
  have hD : va_D A [(h0, .inr (3, [.ref tx, .ref lf_, .ref ll_, .int sn, .int ln])), (tp, .inr (5, [.ref by_, .int (nI T)])), (by_, .inl (cI, 260, .inl fb)), (lf_, .inl (cI, 10, .inl flf)), (ll_, .inl (cI, 10, .inl fll)), (tx, .inr (6, [.ref tp, .int (nI N), .int (nI 0), .int 0]))] := hD
  refine lv_aload_n hx hb dX3_read_8 rfl (lv_at hl 0 rfl) ?_
  refine lv_iconst (v := 0) hx hb dX3_read_9 (by decide) ?_
  refine va_put (D := D) (ci := 3) (v := .int 0) (ty := .int) (C := RX3) (T := TX3) (N := 5) hx hb htb itX3 tyX3 tyX3_ok nmX3 hown hK hP hD hS 0 rfl rfl 3 (by decide) (htb _ k_324) (fun _ h9 => h9) rfl (tyX3_ok 3 (by decide)) rfl rfl (Nat.le_of_ble_eq_true rfl) dX3_read_10 (fun H locs hP hD hS => ?_)
  have hP : va_P D vwCl [(h0, .inr (3, [.ref tx, .ref lf_, .ref ll_, .int 0, .int ln])), (tp, .inr (5, [.ref by_, .int (nI T)])), (by_, .inl (cI, 260, .inl fb)), (lf_, .inl (cI, 10, .inl flf)), (ll_, .inl (cI, 10, .inl fll)), (tx, .inr (6, [.ref tp, .int (nI N), .int (nI 0), .int 0]))] H := hP
  have hD : va_D A [(h0, .inr (3, [.ref tx, .ref lf_, .ref ll_, .int 0, .int ln])), (tp, .inr (5, [.ref by_, .int (nI T)])), (by_, .inl (cI, 260, .inl fb)), (lf_, .inl (cI, 10, .inl flf)), (ll_, .inl (cI, 10, .inl fll)), (tx, .inr (6, [.ref tp, .int (nI N), .int (nI 0), .int 0]))] := hD
  refine lv_aload_n hx hb dX3_read_13 rfl (lv_at hl 0 rfl) ?_
  refine lv_iconst (v := 0) hx hb dX3_read_14 (by decide) ?_
  refine va_put (D := D) (ci := 3) (v := .int 0) (ty := .int) (C := RX3) (T := TX3) (N := 5) hx hb htb itX3 tyX3 tyX3_ok nmX3 hown hK hP hD hS 0 rfl rfl 4 (by decide) (htb _ k_325) (fun _ h9 => h9) rfl (tyX3_ok 4 (by decide)) rfl rfl (Nat.le_of_ble_eq_true rfl) dX3_read_15 (fun H locs hP hD hS => ?_)
  have hP : va_P D vwCl [(h0, .inr (3, [.ref tx, .ref lf_, .ref ll_, .int 0, .int 0])), (tp, .inr (5, [.ref by_, .int (nI T)])), (by_, .inl (cI, 260, .inl fb)), (lf_, .inl (cI, 10, .inl flf)), (ll_, .inl (cI, 10, .inl fll)), (tx, .inr (6, [.ref tp, .int (nI N), .int (nI 0), .int 0]))] H := hP
  have hD : va_D A [(h0, .inr (3, [.ref tx, .ref lf_, .ref ll_, .int 0, .int 0])), (tp, .inr (5, [.ref by_, .int (nI T)])), (by_, .inl (cI, 260, .inl fb)), (lf_, .inl (cI, 10, .inl flf)), (ll_, .inl (cI, 10, .inl fll)), (tx, .inr (6, [.ref tp, .int (nI N), .int (nI 0), .int 0]))] := hD
  have hP : va_P D vwCl [(h0, .inr (3, [.ref tx, .ref lf_, .ref ll_, .int 0, .int (nI 0)])), (tp, .inr (5, [.ref by_, .int (nI T)])), (by_, .inl (cI, 260, .inl fb)), (lf_, .inl (cI, 10, .inl flf)), (ll_, .inl (cI, 10, .inl fll)), (tx, .inr (6, [.ref tp, .int (nI N), .int (nI 0), .int 0]))] H := hP
  have hD : va_D A [(h0, .inr (3, [.ref tx, .ref lf_, .ref ll_, .int 0, .int (nI 0)])), (tp, .inr (5, [.ref by_, .int (nI T)])), (by_, .inl (cI, 260, .inl fb)), (lf_, .inl (cI, 10, .inl flf)), (ll_, .inl (cI, 10, .inl fll)), (tx, .inr (6, [.ref tp, .int (nI N), .int (nI 0), .int 0]))] := hD
  refine lv_aload_n hx hb dX3_read_18 rfl (lv_at hl 0 rfl) ?_
  refine cVV (As := []) (rest := []) (n := 0) (ci := 3) (q0 := 0) (wr := []) X hN hK hP hD hS hA (c_readLineP l D cI cB _ h0 lf_ ll_ 0 0 tx tp N 0 by_ T fb flf fll 0 (fun _ => -2) gl hT hNT (Nat.zero_le _) (Or.inl rfl) (Nat.zero_le _) (fun _ => LREL.z gl flf fll)) (gV k_714 k_716 k_13 k_101 k_717) (by decide +kernel) ⟨Nat.le_of_ble_eq_true rfl, Nat.le_of_ble_eq_true rfl⟩ ⟨rfl, rfl⟩ [0, 5, 1, 2, 3, 4] [] rfl rfl (by decide) (by decide) rfl rfl rfl rfl rfl hl.1 (Nat.le_of_ble_eq_true rfl) dX3_read_19 ⟨Nat.le_of_ble_eq_true rfl, Nat.le_of_ble_eq_true rfl⟩ (fun u H locs hw_15 hP hD hS => ?_)
  obtain ⟨Po_7, fo_8, so_9, Ko_10, lfo_11, llo_12, gFo_13, gLo_14⟩ := u
  try dsimp only at hw_15
  have hP : va_P D vwCl [(h0, .inr (3, [.ref tx, .ref lf_, .ref ll_, .int so_9, .int (nI Ko_10)])), (tx, .inr (6, [.ref tp, .int (nI N), .int (nI Po_7), .int fo_8])), (tp, .inr (5, [.ref by_, .int (nI T)])), (by_, .inl (cI, 260, .inl fb)), (lf_, .inl (cI, 10, .inl lfo_11)), (ll_, .inl (cI, 10, .inl llo_12))] H := hP
  have hD : va_D A [(h0, .inr (3, [.ref tx, .ref lf_, .ref ll_, .int so_9, .int (nI Ko_10)])), (tx, .inr (6, [.ref tp, .int (nI N), .int (nI Po_7), .int fo_8])), (tp, .inr (5, [.ref by_, .int (nI T)])), (by_, .inl (cI, 260, .inl fb)), (lf_, .inl (cI, 10, .inl lfo_11)), (ll_, .inl (cI, 10, .inl llo_12))] := hD
  refine lv_iconst (v := 0) hx hb dX3_read_22 (by decide) ?_
  refine lv_istore_n (lv' := [(2, .int 0), (0, .ref h0), (1, .int (nI N))]) hx hb dX3_read_23 rfl hl (by decide) rfl (fun ls hl => ?_)
  have loop_24 : ∀ (n i : Nat) (Pa : Nat) (fv : Int32) (sv_ : Int32) (Ka : Nat) (la : Nat → Int32) (lb : Nat → Int32) (gF : Nat → Int32) (gL : Nat → Int32), n + i = N → (fv = 0 ∨ fv < 0) → (Pa ≤ N) → (Ka ≤ 10) → (fv = 0 → i + 1 ≤ Pa ∧ LREL sv_ gF gL la lb ∧ 1 ≤ Ka ∧ (lvTot (chF fb N) N gl) = lvEnd (chF fb N) N (n + 1) Pa Ka gF gL) → (¬ fv = 0 → (lvTot (chF fb N) N gl) = none) → ∀ (H : Heap) (locs : List Loc), va_P D vwCl [(h0, .inr (3, [.ref tx, .ref lf_, .ref ll_, .int sv_, .int (nI Ka)])), (tx, .inr (6, [.ref tp, .int (nI N), .int (nI Pa), .int fv])), (tp, .inr (5, [.ref by_, .int (nI T)])), (by_, .inl (cI, 260, .inl fb)), (lf_, .inl (cI, 10, .inl la)), (ll_, .inl (cI, 10, .inl lb))] H → va_D A [(h0, .inr (3, [.ref tx, .ref lf_, .ref ll_, .int sv_, .int (nI Ka)])), (tx, .inr (6, [.ref tp, .int (nI N), .int (nI Pa), .int fv])), (tp, .inr (5, [.ref by_, .int (nI T)])), (by_, .inl (cI, 260, .inl fb)), (lf_, .inl (cI, 10, .inl la)), (ll_, .inl (cI, 10, .inl lb))] → va_S A s.heap H locs → ∀ (ls : Array Slot), lv_has ls 3 [(0, .ref h0), (1, .int (nI N)), (2, .int (nI i))] → W p l e (rm 5 109) s m ([.ref h0, .int (nI N)] : List Value).toArray below meth c H locs 0 0 Q (F0 m 24 ls []) := by
    intro n
    induction n with
    | zero =>
      intro i Pa fv sv_ Ka la lb gF gL hni hf hPa hKa hz hnz H locs hP hD hS ls hl
      have hni_24 := hni
      have hi : i = N := by omega
      refine lv_iload_n hx hb dX3_read_24 rfl (lv_at hl 2 rfl) ?_
      refine lv_iload_n hx hb dX3_read_25 rfl (lv_at hl 1 rfl) ?_
      refine lv_icmp_ge (tgt := 58) hx hb dX3_read_26 (by decide) (fun _ => ?_) (fun c_26 => absurd (by rw [hi]; exact nI_le (Nat.le_refl _) (by omega)) c_26)
      refine lv_aload_n hx hb dX3_read_58 rfl (lv_at hl 0 rfl) ?_
      refine va_get (D := D) (ci := 3) (v := .ref tx) (C := RX3) (T := TX3) (N := 5) hx hb htb itX3 hown hK hP 0 rfl rfl 0 (by decide) (htb _ k_321) (fun _ h9 => h9) rfl dX3_read_59 ?_
      refine cVR (As := []) (rest := []) (n := 0) (ci := 6) (q0 := 0) X hN hK hP (c_X6_isRight l D cI cB tx tp (nI N) (nI Pa) fv) (gV k_728 k_658 k_659 k_98 k_660) (by decide +kernel) ⟨Nat.le_of_ble_eq_true rfl, Nat.le_of_ble_eq_true rfl⟩ ⟨rfl, rfl⟩ [1] rfl rfl rfl rfl rfl rfl hl.1 (Nat.le_of_ble_eq_true rfl) dX3_read_62 ⟨Nat.le_of_ble_eq_true rfl, Nat.le_of_ble_eq_true rfl⟩ (fun r_16 hr_16 => ?_)
      subst hr_16
      refine lv_if_eq (tgt := 75) hx hb dX3_read_65 (by decide) (fun c_65 => ?_) (fun c_65 => ?_)
      · refine lv_aload_n hx hb dX3_read_75 rfl (lv_at hl 0 rfl) ?_
        refine va_get (D := D) (ci := 3) (v := .ref tx) (C := RX3) (T := TX3) (N := 5) hx hb htb itX3 hown hK hP 0 rfl rfl 0 (by decide) (htb _ k_321) (fun _ h9 => h9) rfl dX3_read_76 ?_
        refine va_getN (D := D) (ci := 6) (v := .int fv) (C := RX6) (T := TX6) (N := 4) hx hb htb itX6 hown hK hP 1 rfl rfl 3 (by decide) (va_Nw.use rfl (hN _ n_269 rfl)) (fun _ h9 => h9) rfl dX3_read_79 ?_
        exact ret _ _ _ _ fv (Pa, fv, sv_, Ka, la, lb) dX3_read_82 rfl (Or.inl ⟨hnz (bIf c_65), hf.resolve_left (bIf c_65)⟩) (hP.sub [0, 1, 2, 3, 4, 5] rfl) (hD.sub [0, 1, 2, 3, 4, 5] (by decide) rfl) hS
      · refine lv_aload_n hx hb dX3_read_68 rfl (lv_at hl 0 rfl) ?_
        refine va_get (D := D) (ci := 3) (v := .int (nI Ka)) (C := RX3) (T := TX3) (N := 5) hx hb htb itX3 hown hK hP 0 rfl rfl 4 (by decide) (htb _ k_325) (fun _ h9 => h9) rfl dX3_read_69 ?_
        refine lv_goto (tgt := 82) hx hb dX3_read_72 (by decide) ?_
        exact ret _ _ _ _ (nI Ka) (Pa, fv, sv_, Ka, la, lb) dX3_read_82 rfl (Or.inr ⟨gF, gL, (hz (bIt c_65)).2.2.2.trans (lvEnd_e (fun w => by have := (hz (bIt c_65)).1; omega)), nI_lt (a := 0) (hz (bIt c_65)).2.2.1 (by omega), (hz (bIt c_65)).2.1⟩) (hP.sub [0, 1, 2, 3, 4, 5] rfl) (hD.sub [0, 1, 2, 3, 4, 5] (by decide) rfl) hS
    | succ n ih_24 =>
      intro i Pa fv sv_ Ka la lb gF gL hni hf hPa hKa hz hnz H locs hP hD hS ls hl
      have hni_24 := hni
      have hi : i < N := by omega
      refine lv_iload_n hx hb dX3_read_24 rfl (lv_at hl 2 rfl) ?_
      refine lv_iload_n hx hb dX3_read_25 rfl (lv_at hl 1 rfl) ?_
      refine lv_icmp_ge (tgt := 58) hx hb dX3_read_26 (by decide) (fun c_26 => absurd c_26 (nI_ge hi (by omega))) (fun _ => ?_)
      refine lv_aload_n hx hb dX3_read_29 rfl (lv_at hl 0 rfl) ?_
      refine va_get (D := D) (ci := 3) (v := .ref tx) (C := RX3) (T := TX3) (N := 5) hx hb htb itX3 hown hK hP 0 rfl rfl 0 (by decide) (htb _ k_321) (fun _ h9 => h9) rfl dX3_read_30 ?_
      refine cVR (As := []) (rest := []) (n := 0) (ci := 6) (q0 := 0) X hN hK hP (c_X6_goesOn l D cI cB tx tp (nI N) (nI Pa) fv) (gV k_727 k_654 k_655 k_98 k_656) (by decide +kernel) ⟨Nat.le_of_ble_eq_true rfl, Nat.le_of_ble_eq_true rfl⟩ ⟨rfl, rfl⟩ [1] rfl rfl rfl rfl rfl rfl hl.1 (Nat.le_of_ble_eq_true rfl) dX3_read_33 ⟨Nat.le_of_ble_eq_true rfl, Nat.le_of_ble_eq_true rfl⟩ (fun r_17 hr_17 => ?_)
      subst hr_17
      refine lv_if_eq (tgt := 58) hx hb dX3_read_36 (by decide) (fun c_36 => ?_) (fun c_36 => ?_)
      · refine lv_aload_n hx hb dX3_read_58 rfl (lv_at hl 0 rfl) ?_
        refine va_get (D := D) (ci := 3) (v := .ref tx) (C := RX3) (T := TX3) (N := 5) hx hb htb itX3 hown hK hP 0 rfl rfl 0 (by decide) (htb _ k_321) (fun _ h9 => h9) rfl dX3_read_59 ?_
        refine cVR (As := []) (rest := []) (n := 0) (ci := 6) (q0 := 0) X hN hK hP (c_X6_isRight l D cI cB tx tp (nI N) (nI Pa) fv) (gV k_728 k_658 k_659 k_98 k_660) (by decide +kernel) ⟨Nat.le_of_ble_eq_true rfl, Nat.le_of_ble_eq_true rfl⟩ ⟨rfl, rfl⟩ [1] rfl rfl rfl rfl rfl rfl hl.1 (Nat.le_of_ble_eq_true rfl) dX3_read_62 ⟨Nat.le_of_ble_eq_true rfl, Nat.le_of_ble_eq_true rfl⟩ (fun r_18 hr_18 => ?_)
        subst hr_18
        refine lv_if_eq (tgt := 75) hx hb dX3_read_65 (by decide) (fun c_65 => ?_) (fun c_65 => ?_)
        · refine lv_aload_n hx hb dX3_read_75 rfl (lv_at hl 0 rfl) ?_
          refine va_get (D := D) (ci := 3) (v := .ref tx) (C := RX3) (T := TX3) (N := 5) hx hb htb itX3 hown hK hP 0 rfl rfl 0 (by decide) (htb _ k_321) (fun _ h9 => h9) rfl dX3_read_76 ?_
          refine va_getN (D := D) (ci := 6) (v := .int fv) (C := RX6) (T := TX6) (N := 4) hx hb htb itX6 hown hK hP 1 rfl rfl 3 (by decide) (va_Nw.use rfl (hN _ n_269 rfl)) (fun _ h9 => h9) rfl dX3_read_79 ?_
          exact ret _ _ _ _ fv (Pa, fv, sv_, Ka, la, lb) dX3_read_82 rfl (Or.inl ⟨hnz (bIf c_65), hf.resolve_left (bIf c_65)⟩) (hP.sub [0, 1, 2, 3, 4, 5] rfl) (hD.sub [0, 1, 2, 3, 4, 5] (by decide) rfl) hS
        · refine lv_aload_n hx hb dX3_read_68 rfl (lv_at hl 0 rfl) ?_
          refine va_get (D := D) (ci := 3) (v := .int (nI Ka)) (C := RX3) (T := TX3) (N := 5) hx hb htb itX3 hown hK hP 0 rfl rfl 4 (by decide) (htb _ k_325) (fun _ h9 => h9) rfl dX3_read_69 ?_
          refine lv_goto (tgt := 82) hx hb dX3_read_72 (by decide) ?_
          exact ret _ _ _ _ (nI Ka) (Pa, fv, sv_, Ka, la, lb) dX3_read_82 rfl (Or.inr ⟨gF, gL, (hz (bIt c_65)).2.2.2.trans (lvEnd_e (fun w => bIf c_36 ⟨bIt c_65, nI_lt w (by omega)⟩)), nI_lt (a := 0) (hz (bIt c_65)).2.2.1 (by omega), (hz (bIt c_65)).2.1⟩) (hP.sub [0, 1, 2, 3, 4, 5] rfl) (hD.sub [0, 1, 2, 3, 4, 5] (by decide) rfl) hS
      · have hg36 := bIt c_36
        have hg36b : Pa < N := (nI_ltI (by omega) (by omega)).mp hg36.2
        refine lv_aload_n hx hb dX3_read_39 rfl (lv_at hl 0 rfl) ?_
        refine va_get (D := D) (ci := 3) (v := .ref tx) (C := RX3) (T := TX3) (N := 5) hx hb htb itX3 hown hK hP 0 rfl rfl 0 (by decide) (htb _ k_321) (fun _ h9 => h9) rfl dX3_read_40 ?_
        refine lv_bipush (v := 44) hx hb dX3_read_43 (by decide) ?_
        refine cVV (As := [.int 44]) (rest := []) (n := 1) (ci := 6) (q0 := 0) (wr := [(h0, .inr (3, [.ref tx, .ref lf_, .ref ll_, .int sv_, .int (nI Ka)])), (lf_, .inl (cI, 10, .inl la)), (ll_, .inl (cI, 10, .inl lb))]) X hN hK hP hD hS hA (c_expectP l D cI cB _ tx tp N Pa fv by_ T fb 44 hT hNT hPa (by decide)) (gV k_726 k_603 k_604 k_98 k_605) (by decide +kernel) ⟨Nat.le_of_ble_eq_true rfl, Nat.le_of_ble_eq_true rfl⟩ ⟨rfl, rfl⟩ [1, 2, 3] [0, 4, 5] rfl rfl (by decide) (by decide) rfl rfl rfl rfl rfl hl.1 (Nat.le_of_ble_eq_true rfl) dX3_read_45 ⟨Nat.le_of_ble_eq_true rfl, Nat.le_of_ble_eq_true rfl⟩ (fun u H locs hw_22 hP hD hS => ?_)
        obtain ⟨Po_20, fo_21⟩ := u
        try dsimp only at hw_22
        have hP : va_P D vwCl [(h0, .inr (3, [.ref tx, .ref lf_, .ref ll_, .int sv_, .int (nI Ka)])), (lf_, .inl (cI, 10, .inl la)), (ll_, .inl (cI, 10, .inl lb)), (tx, .inr (6, [.ref tp, .int (nI N), .int (nI Po_20), .int fo_21])), (tp, .inr (5, [.ref by_, .int (nI T)])), (by_, .inl (cI, 260, .inl fb))] H := hP
        have hD : va_D A [(h0, .inr (3, [.ref tx, .ref lf_, .ref ll_, .int sv_, .int (nI Ka)])), (lf_, .inl (cI, 10, .inl la)), (ll_, .inl (cI, 10, .inl lb)), (tx, .inr (6, [.ref tp, .int (nI N), .int (nI Po_20), .int fo_21])), (tp, .inr (5, [.ref by_, .int (nI T)])), (by_, .inl (cI, 260, .inl fb))] := hD
        refine lv_aload_n hx hb dX3_read_48 rfl (lv_at hl 0 rfl) ?_
        refine cVV (As := []) (rest := []) (n := 0) (ci := 3) (q0 := 0) (wr := []) X hN hK hP hD hS hA (c_readLineP l D cI cB _ h0 lf_ ll_ sv_ Ka tx tp N Po_20 by_ T fb la lb fo_21 gF gL hT hNT hw_22.2.2.2 (fexp hf (p := Pa) (by omega) (fun z => (hw_22.1 z).2) (fun z => (hw_22.2.1 z).2)) hKa (fun _ => (hz hg36.1).2.1)) (gV k_714 k_716 k_13 k_101 k_717) (by decide +kernel) ⟨Nat.le_of_ble_eq_true rfl, Nat.le_of_ble_eq_true rfl⟩ ⟨rfl, rfl⟩ [0, 3, 4, 5, 1, 2] [] rfl rfl (by decide) (by decide) rfl rfl rfl rfl rfl hl.1 (Nat.le_of_ble_eq_true rfl) dX3_read_49 ⟨Nat.le_of_ble_eq_true rfl, Nat.le_of_ble_eq_true rfl⟩ (fun u H locs hw_32 hP hD hS => ?_)
        obtain ⟨Po_24, fo_25, so_26, Ko_27, lfo_28, llo_29, gFo_30, gLo_31⟩ := u
        try dsimp only at hw_32
        have hP : va_P D vwCl [(h0, .inr (3, [.ref tx, .ref lf_, .ref ll_, .int so_26, .int (nI Ko_27)])), (tx, .inr (6, [.ref tp, .int (nI N), .int (nI Po_24), .int fo_25])), (tp, .inr (5, [.ref by_, .int (nI T)])), (by_, .inl (cI, 260, .inl fb)), (lf_, .inl (cI, 10, .inl lfo_28)), (ll_, .inl (cI, 10, .inl llo_29))] H := hP
        have hD : va_D A [(h0, .inr (3, [.ref tx, .ref lf_, .ref ll_, .int so_26, .int (nI Ko_27)])), (tx, .inr (6, [.ref tp, .int (nI N), .int (nI Po_24), .int fo_25])), (tp, .inr (5, [.ref by_, .int (nI T)])), (by_, .inl (cI, 260, .inl fb)), (lf_, .inl (cI, 10, .inl lfo_28)), (ll_, .inl (cI, 10, .inl llo_29))] := hD
        refine lv_iinc (v := (nI (i + 1))) (lv' := [(2, .int (nI (i + 1))), (0, .ref h0), (1, .int (nI N))]) hx hb dX3_read_52 hl (k := 2) rfl (nI_1 i) (by decide) rfl (fun ls hl => ?_)
        refine lv_goto (tgt := 24) hx hb dX3_read_55 (by decide) ?_
        have hst := lvStep hg36.1 hg36b (hz hg36.1).2.2.2 (fun z => hw_22.1 z) (fun z => hw_22.2.1 z) (by omega) hw_32.2.1 (fun z w => (hw_32.2.2.1 z w).1) hw_32.2.2.2.1
        have hfb : fo_25 = 0 → fo_21 = 0 := fun z => Classical.byContradiction (fun w => w ((hw_32.2.1 w).symm.trans z))
        exact ih_24 (i + 1) Po_24 fo_25 so_26 Ko_27 lfo_28 llo_29 gFo_30 gLo_31 (by omega) hw_32.1 hw_32.2.2.2.2.2.1 hw_32.2.2.2.2.2.2 (fun z => (fun g => ⟨by have := hw_22.2.2.1; have := g.2.2.2; have := (hz hg36.1).1; omega, g.2.1, by have := g.2.2.1; omega, by rw [g.2.2.1]; exact hst.1 z⟩) (hw_32.2.2.1 (hfb z) z)) hst.2 _ _ (hP.sub [0, 1, 2, 3, 4, 5] rfl) (hD.sub [0, 1, 2, 3, 4, 5] (by decide) rfl) hS _ (lv_sub hl [1, 2, 0] rfl)
  exact loop_24 N 0 Po_7 fo_8 so_9 Ko_10 lfo_11 llo_12 gFo_13 gLo_14 (by omega) hw_15.1 hw_15.2.2.2.2.2.1 hw_15.2.2.2.2.2.2 (fun z => (fun g => ⟨by have := g.2.2.2; omega, g.2.1, by have := g.2.2.1; omega, by rw [g.2.2.1]; exact (lvTot_1 (fun w => (hw_15.2.2.1 rfl w).1) (hw_15.2.2.2.1 rfl)).1 z⟩) (hw_15.2.2.1 rfl z)) ((lvTot_1 (fun w => (hw_15.2.2.1 rfl w).1) (hw_15.2.2.2.1 rfl)).2) _ _ (hP.sub [0, 1, 2, 3, 4, 5] rfl) (hD.sub [0, 1, 2, 3, 4, 5] (by decide) rfl) hS _ (lv_sub hl [1, 2, 0] rfl)
