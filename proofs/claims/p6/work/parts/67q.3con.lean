set_option maxRecDepth 100000 in
set_option maxHeartbeats 4000000 in
theorem c_rpP_6 (l : Launch) (D : va_G) (cI cB : ClassId) (sz : Nat) (kk : KT) (h0 : Nat) (tx : Nat) (tp : Nat) (N : Nat) (P : Nat) (fa : Int32) (by_ : Nat) (T : Nat) (fb : Nat → Int32) (lw : Nat) (l1 : Nat) (l2 : Nat) (l3 : Nat) (l4 : Nat) (l5 : Nat) (l6 : Nat) (l7 : Nat) (z : Nat) (k : Nat) (q1 : Nat → Int32) (hT : T ≤ 260) (hNT : N ≤ T) (hPN : P ≤ N) (hN2 : N ≤ 240) (hfa : fa = 0 ∨ fa < 0) (hbr : BR N fb) (hz : z ≤ 240) (hk : k ≤ 16) : MVk (S := ((Nat) × (Int32) × (Nat) × (Nat → Int32))) l D cI cB kk yX2_readPiece cX2_readPiece 4 (rm 8 181) [.ref h0, .int 6] [(h0, .inr (2, [.ref tx, .ref lw])), (tx, .inr (6, [.ref tp, .int (nI N), .int (nI P), .int fa])), (tp, .inr (5, [.ref by_, .int (nI T)])), (by_, .inl (cI, 260, .inl fb)), (lw, .inr (1, [.ref l1, .ref l2, .ref l3, .ref l4, .ref l5, .ref l6, .ref l7, .int (nI z), .int (nI k)])), (l1, .inl (cI, 240, .inl q1))] sz (fun u => u.2.2.1 ≤ 240 ∧ PCQ fb N 0 P u.1 fa u.2.1) (fun u : ((Nat) × (Int32) × (Nat) × (Nat → Int32)) => [(h0, .inr (2, [.ref tx, .ref lw])), (tx, .inr (6, [.ref tp, .int (nI N), .int (nI u.1), .int u.2.1])), (tp, .inr (5, [.ref by_, .int (nI T)])), (by_, .inl (cI, 260, .inl fb)), (lw, .inr (1, [.ref l1, .ref l2, .ref l3, .ref l4, .ref l5, .ref l6, .ref l7, .int (nI u.2.2.1), .int (nI k)])), (l1, .inl (cI, 240, .inl u.2.2.2))]) := by
  refine MVk.of (by decide) (Nat.le_of_ble_eq_true rfl) ?_
  intro p e s m below meth c Q ls A X hin hN hKO hP hK hD hA hl ret
  have hS : va_S A s.heap s.heap [] := va_S.rf
  obtain ⟨hx, hb, hml, hown, htb⟩ := id X
  have hl : lv_has ls 4 [(0, .ref h0), (1, .int 6)] := hl
  refine lv_aload_n hx hb dX2_readPiece_0 rfl (lv_at hl 0 rfl) ?_
  refine va_get (D := D) (ci := 2) (v := .ref tx) (C := RX2) (T := TX2) (N := 2) hx hb htb itX2 hown hK hP 0 rfl rfl 0 (by decide) (htb _ k_288) (fun _ h9 => h9) rfl dX2_readPiece_1 ?_
  refine cVR (As := []) (rest := []) (n := 0) (ci := 6) (q0 := 0) X hN hK hP (c_signP l D cI cB tx tp N P fa by_ T fb hT hNT hPN) (gV k_483 k_484 k_485 k_98 k_486) (by decide +kernel) ⟨Nat.le_of_ble_eq_true rfl, Nat.le_of_ble_eq_true rfl⟩ ⟨rfl, rfl⟩ [1, 2, 3] rfl rfl rfl rfl rfl rfl hl.1 (Nat.le_of_ble_eq_true rfl) dX2_readPiece_4 ⟨Nat.le_of_ble_eq_true rfl, Nat.le_of_ble_eq_true rfl⟩ (fun r_1 hr_1 => ?_)
  subst hr_1
  refine lv_topi (fun x_2 ex_2 => ?_)
  refine lv_istore_n (lv' := [(2, .int x_2), (0, .ref h0), (1, .int 6)]) hx hb dX2_readPiece_7 rfl hl (by decide) rfl (fun ls hl => ?_)
  refine lv_iload_n hx hb dX2_readPiece_8 rfl (lv_at hl 0 rfl) ?_
  refine lv_bipush (v := 33) hx hb dX2_readPiece_9 (by decide) ?_
  refine lv_icmp_ne (tgt := 41) hx hb dX2_readPiece_11 (by decide) (fun c_11 => ?_) (fun c_11 => ?_)
  · refine lv_iload_n hx hb dX2_readPiece_41 rfl (lv_at hl 0 rfl) ?_
    refine lv_bipush (v := 40) hx hb dX2_readPiece_42 (by decide) ?_
    refine lv_icmp_ne (tgt := 74) hx hb dX2_readPiece_44 (by decide) (fun c_44 => ?_) (fun c_44 => ?_)
    · refine lv_aload_n hx hb dX2_readPiece_74 rfl (lv_at hl 1 rfl) ?_
      refine lv_iload_n hx hb dX2_readPiece_75 rfl (lv_at hl 2 rfl) ?_
      refine cVVk (As := [.int 6]) (rest := []) (n := 1) (ci := 2) (q0 := 0) (wr := []) X hN hKO hK hP hD hS hA (c_rsP_6 l D cI cB _ kk h0 tx tp N P fa by_ T fb lw l1 l2 l3 l4 l5 l6 l7 z k q1 hT hNT hPN hN2 hfa hbr hz hk) (gV k_581 k_583 k_2 k_99 k_584) (by decide +kernel) ⟨Nat.le_of_ble_eq_true rfl, Nat.le_of_ble_eq_true rfl⟩ ⟨rfl, rfl⟩ [0, 1, 2, 3, 4, 5] [] rfl rfl (by decide) (by decide) rfl rfl rfl rfl rfl hl.1 (Nat.le_of_ble_eq_true rfl) dX2_readPiece_76 ⟨Nat.le_of_ble_eq_true rfl, Nat.le_of_ble_eq_true rfl⟩ (fun u H locs hw_8 hP hD hS => ?_)
      obtain ⟨Po_4, fo_5, zo_6, l1o_7⟩ := u
      try dsimp only at hw_8
      have hP : va_P D vwCl [(h0, .inr (2, [.ref tx, .ref lw])), (tx, .inr (6, [.ref tp, .int (nI N), .int (nI Po_4), .int fo_5])), (tp, .inr (5, [.ref by_, .int (nI T)])), (by_, .inl (cI, 260, .inl fb)), (lw, .inr (1, [.ref l1, .ref l2, .ref l3, .ref l4, .ref l5, .ref l6, .ref l7, .int (nI zo_6), .int (nI k)])), (l1, .inl (cI, 240, .inl l1o_7))] H := hP
      have hD : va_D A [(h0, .inr (2, [.ref tx, .ref lw])), (tx, .inr (6, [.ref tp, .int (nI N), .int (nI Po_4), .int fo_5])), (tp, .inr (5, [.ref by_, .int (nI T)])), (by_, .inl (cI, 260, .inl fb)), (lw, .inr (1, [.ref l1, .ref l2, .ref l3, .ref l4, .ref l5, .ref l6, .ref l7, .int (nI zo_6), .int (nI k)])), (l1, .inl (cI, 240, .inl l1o_7))] := hD
      refine lv_aload_n hx hb dX2_readPiece_79 rfl (lv_at hl 1 rfl) ?_
      refine cVI (As := []) (rest := []) (n := 0) (ci := 2) (q0 := 0) (wr := [(lw, .inr (1, [.ref l1, .ref l2, .ref l3, .ref l4, .ref l5, .ref l6, .ref l7, .int (nI zo_6), .int (nI k)])), (l1, .inl (cI, 240, .inl l1o_7))]) X hN hK hP hD hS hA (c_comparisonP l D cI cB _ h0 lw tx tp N Po_4 fo_5 by_ T fb hT hNT hw_8.2.1.2.2.2.1) (gV k_640 k_642 k_10 k_99 k_643) (by decide +kernel) ⟨Nat.le_of_ble_eq_true rfl, Nat.le_of_ble_eq_true rfl⟩ ⟨rfl, rfl⟩ [0, 1, 2, 3] [4, 5] rfl rfl (by decide) (by decide) rfl rfl rfl rfl rfl hl.1 (Nat.le_of_ble_eq_true rfl) dX2_readPiece_80 ⟨Nat.le_of_ble_eq_true rfl, Nat.le_of_ble_eq_true rfl⟩ (fun r_9 u H locs hw_12 hP hD hS => ?_)
      obtain ⟨Po_10, fo_11⟩ := u
      try dsimp only at hw_12
      have hP : va_P D vwCl [(lw, .inr (1, [.ref l1, .ref l2, .ref l3, .ref l4, .ref l5, .ref l6, .ref l7, .int (nI zo_6), .int (nI k)])), (l1, .inl (cI, 240, .inl l1o_7)), (h0, .inr (2, [.ref tx, .ref lw])), (tx, .inr (6, [.ref tp, .int (nI N), .int (nI Po_10), .int fo_11])), (tp, .inr (5, [.ref by_, .int (nI T)])), (by_, .inl (cI, 260, .inl fb))] H := hP
      have hD : va_D A [(lw, .inr (1, [.ref l1, .ref l2, .ref l3, .ref l4, .ref l5, .ref l6, .ref l7, .int (nI zo_6), .int (nI k)])), (l1, .inl (cI, 240, .inl l1o_7)), (h0, .inr (2, [.ref tx, .ref lw])), (tx, .inr (6, [.ref tp, .int (nI N), .int (nI Po_10), .int fo_11])), (tp, .inr (5, [.ref by_, .int (nI T)])), (by_, .inl (cI, 260, .inl fb))] := hD
      refine lv_istore_n (lv' := [(3, .int r_9), (2, .int x_2), (0, .ref h0), (1, .int 6)]) hx hb dX2_readPiece_83 rfl hl (by decide) rfl (fun ls hl => ?_)
      refine lv_aload_n hx hb dX2_readPiece_84 rfl (lv_at hl 2 rfl) ?_
      refine lv_iload_n hx hb dX2_readPiece_85 rfl (lv_at hl 3 rfl) ?_
      refine cVVk (As := [.int 6]) (rest := []) (n := 1) (ci := 2) (q0 := 0) (wr := []) X hN hKO hK hP hD hS hA (c_rsP_6 l D cI cB _ kk h0 tx tp N Po_10 fo_11 by_ T fb lw l1 l2 l3 l4 l5 l6 l7 zo_6 k l1o_7 hT hNT hw_12.2.2.2 hN2 (fexp (hw_8.2.1.1) (by have := hw_8.2.1.2.2.2.1; omega) (fun z => (hw_12.1 z).2) (fun z => (hw_12.2.1 z).2)) hbr hw_8.1 hk) (gV k_581 k_583 k_2 k_99 k_584) (by decide +kernel) ⟨Nat.le_of_ble_eq_true rfl, Nat.le_of_ble_eq_true rfl⟩ ⟨rfl, rfl⟩ [2, 3, 4, 5, 0, 1] [] rfl rfl (by decide) (by decide) rfl rfl rfl rfl rfl hl.1 (Nat.le_of_ble_eq_true rfl) dX2_readPiece_86 ⟨Nat.le_of_ble_eq_true rfl, Nat.le_of_ble_eq_true rfl⟩ (fun u H locs hw_18 hP hD hS => ?_)
      obtain ⟨Po_14, fo_15, zo_16, l1o_17⟩ := u
      try dsimp only at hw_18
      have hP : va_P D vwCl [(h0, .inr (2, [.ref tx, .ref lw])), (tx, .inr (6, [.ref tp, .int (nI N), .int (nI Po_14), .int fo_15])), (tp, .inr (5, [.ref by_, .int (nI T)])), (by_, .inl (cI, 260, .inl fb)), (lw, .inr (1, [.ref l1, .ref l2, .ref l3, .ref l4, .ref l5, .ref l6, .ref l7, .int (nI zo_16), .int (nI k)])), (l1, .inl (cI, 240, .inl l1o_17))] H := hP
      have hD : va_D A [(h0, .inr (2, [.ref tx, .ref lw])), (tx, .inr (6, [.ref tp, .int (nI N), .int (nI Po_14), .int fo_15])), (tp, .inr (5, [.ref by_, .int (nI T)])), (by_, .inl (cI, 260, .inl fb)), (lw, .inr (1, [.ref l1, .ref l2, .ref l3, .ref l4, .ref l5, .ref l6, .ref l7, .int (nI zo_16), .int (nI k)])), (l1, .inl (cI, 240, .inl l1o_17))] := hD
      refine lv_aload_n hx hb dX2_readPiece_89 rfl (lv_at hl 2 rfl) ?_
      refine va_get (D := D) (ci := 2) (v := .ref lw) (C := RX2) (T := TX2) (N := 2) hx hb htb itX2 hown hK hP 0 rfl rfl 1 (by decide) (htb _ k_289) (fun _ h9 => h9) rfl dX2_readPiece_90 ?_
      refine lv_iload_n hx hb dX2_readPiece_93 rfl (lv_at hl 0 rfl) ?_
      refine lv_iconst (v := 0) hx hb dX2_readPiece_94 (by decide) ?_
      refine cVV (As := [.int r_9, .int 0]) (rest := []) (n := 2) (ci := 1) (q0 := 0) (wr := [(h0, .inr (2, [.ref tx, .ref lw])), (tx, .inr (6, [.ref tp, .int (nI N), .int (nI Po_14), .int fo_15])), (tp, .inr (5, [.ref by_, .int (nI T)])), (by_, .inl (cI, 260, .inl fb))]) X hN hK hP hD hS hA (c_X1_addStep l D cI cB _ lw l1 l2 l3 l4 l5 l6 l7 zo_16 k r_9 0 l1o_17 hw_18.1 hk) (gV k_594 k_595 k_596 k_97 k_597) (by decide +kernel) ⟨Nat.le_of_ble_eq_true rfl, Nat.le_of_ble_eq_true rfl⟩ ⟨rfl, rfl⟩ [4, 5] [0, 1, 2, 3] rfl rfl (by decide) (by decide) rfl rfl rfl rfl rfl hl.1 (Nat.le_of_ble_eq_true rfl) dX2_readPiece_95 ⟨Nat.le_of_ble_eq_true rfl, Nat.le_of_ble_eq_true rfl⟩ (fun u H locs hw_22 hP hD hS => ?_)
      obtain ⟨zo_20, l1_fo_21⟩ := u
      try dsimp only at hw_22
      have hP : va_P D vwCl [(h0, .inr (2, [.ref tx, .ref lw])), (tx, .inr (6, [.ref tp, .int (nI N), .int (nI Po_14), .int fo_15])), (tp, .inr (5, [.ref by_, .int (nI T)])), (by_, .inl (cI, 260, .inl fb)), (lw, .inr (1, [.ref l1, .ref l2, .ref l3, .ref l4, .ref l5, .ref l6, .ref l7, .int (nI zo_20), .int (nI k)])), (l1, .inl (cI, 240, .inl l1_fo_21))] H := hP
      have hD : va_D A [(h0, .inr (2, [.ref tx, .ref lw])), (tx, .inr (6, [.ref tp, .int (nI N), .int (nI Po_14), .int fo_15])), (tp, .inr (5, [.ref by_, .int (nI T)])), (by_, .inl (cI, 260, .inl fb)), (lw, .inr (1, [.ref l1, .ref l2, .ref l3, .ref l4, .ref l5, .ref l6, .ref l7, .int (nI zo_20), .int (nI k)])), (l1, .inl (cI, 240, .inl l1_fo_21))] := hD
      exact ret _ _ _ _ (Po_14, fo_15, zo_20, l1_fo_21) dX2_readPiece_98 (⟨hw_22, PCQ.cmp (by omega) (fun z => c_11 (ex_2.trans z)) (fun z => c_44 (ex_2.trans z)) hw_8.2.1 hw_8.2.2 hw_12.1 hw_12.2.1 hw_18.2.1 hw_18.2.2⟩) (hP.sub [0, 1, 2, 3, 4, 5] rfl) (hD.sub [0, 1, 2, 3, 4, 5] (by decide) rfl) hS
    · obtain ⟨hf0, hlt, hop⟩ := sQj (v := 40) (by decide) (ex_2.symm.trans c_44)
      subst hf0
      refine lv_aload_n hx hb dX2_readPiece_47 rfl (lv_at hl 1 rfl) ?_
      refine lv_iload_n hx hb dX2_readPiece_48 rfl (lv_at hl 2 rfl) ?_
      refine cVI (As := [.int 6]) (rest := []) (n := 1) (ci := 2) (q0 := 0) (wr := [(tp, .inr (5, [.ref by_, .int (nI T)])), (by_, .inl (cI, 260, .inl fb)), (lw, .inr (1, [.ref l1, .ref l2, .ref l3, .ref l4, .ref l5, .ref l6, .ref l7, .int (nI z), .int (nI k)])), (l1, .inl (cI, 240, .inl q1))]) X hN hK hP hD hS hA (c_opensP l D cI cB _ h0 lw tx tp N P 0 6 hlt) (gV k_598 k_600 k_5 k_99 k_601) (by decide +kernel) ⟨Nat.le_of_ble_eq_true rfl, Nat.le_of_ble_eq_true rfl⟩ ⟨rfl, rfl⟩ [0, 1] [2, 3, 4, 5] rfl rfl (by decide) (by decide) rfl rfl rfl rfl rfl hl.1 (Nat.le_of_ble_eq_true rfl) dX2_readPiece_49 ⟨Nat.le_of_ble_eq_true rfl, Nat.le_of_ble_eq_true rfl⟩ (fun r_23 u H locs hw_26 hP hD hS => ?_)
      obtain ⟨Po_24, fo_25⟩ := u
      try dsimp only at hw_26
      have hP : va_P D vwCl [(tp, .inr (5, [.ref by_, .int (nI T)])), (by_, .inl (cI, 260, .inl fb)), (lw, .inr (1, [.ref l1, .ref l2, .ref l3, .ref l4, .ref l5, .ref l6, .ref l7, .int (nI z), .int (nI k)])), (l1, .inl (cI, 240, .inl q1)), (h0, .inr (2, [.ref tx, .ref lw])), (tx, .inr (6, [.ref tp, .int (nI N), .int (nI Po_24), .int fo_25]))] H := hP
      have hD : va_D A [(tp, .inr (5, [.ref by_, .int (nI T)])), (by_, .inl (cI, 260, .inl fb)), (lw, .inr (1, [.ref l1, .ref l2, .ref l3, .ref l4, .ref l5, .ref l6, .ref l7, .int (nI z), .int (nI k)])), (l1, .inl (cI, 240, .inl q1)), (h0, .inr (2, [.ref tx, .ref lw])), (tx, .inr (6, [.ref tp, .int (nI N), .int (nI Po_24), .int fo_25]))] := hD
      obtain rfl : r_23 = 0 := hw_26.1.trans (by decide)
      obtain ⟨eo1, eo2⟩ := hw_26.2.2 (by decide)
      refine lv_if_eq (tgt := 98) hx hb dX2_readPiece_52 (by decide) (fun _ => ?_) (fun c_52 => absurd (by decide) c_52)
      exact ret _ _ _ _ (Po_24, fo_25, z, q1) dX2_readPiece_98 (⟨hz, by show PCQ fb N 0 P Po_24 0 fo_25; rw [eo1]; exact PCQ.five (by omega) hlt (Or.inr hop) eo2⟩) (hP.sub [4, 5, 0, 1, 2, 3] rfl) (hD.sub [4, 5, 0, 1, 2, 3] (by decide) rfl) hS
  · obtain ⟨hf0, hlt, hop⟩ := sQj (v := 33) (by decide) (ex_2.symm.trans c_11)
    subst hf0
    refine lv_aload_n hx hb dX2_readPiece_14 rfl (lv_at hl 1 rfl) ?_
    refine lv_iload_n hx hb dX2_readPiece_15 rfl (lv_at hl 2 rfl) ?_
    refine cVI (As := [.int 6]) (rest := []) (n := 1) (ci := 2) (q0 := 0) (wr := [(tp, .inr (5, [.ref by_, .int (nI T)])), (by_, .inl (cI, 260, .inl fb)), (lw, .inr (1, [.ref l1, .ref l2, .ref l3, .ref l4, .ref l5, .ref l6, .ref l7, .int (nI z), .int (nI k)])), (l1, .inl (cI, 240, .inl q1))]) X hN hK hP hD hS hA (c_opensP l D cI cB _ h0 lw tx tp N P 0 6 hlt) (gV k_598 k_600 k_5 k_99 k_601) (by decide +kernel) ⟨Nat.le_of_ble_eq_true rfl, Nat.le_of_ble_eq_true rfl⟩ ⟨rfl, rfl⟩ [0, 1] [2, 3, 4, 5] rfl rfl (by decide) (by decide) rfl rfl rfl rfl rfl hl.1 (Nat.le_of_ble_eq_true rfl) dX2_readPiece_16 ⟨Nat.le_of_ble_eq_true rfl, Nat.le_of_ble_eq_true rfl⟩ (fun r_27 u H locs hw_30 hP hD hS => ?_)
    obtain ⟨Po_28, fo_29⟩ := u
    try dsimp only at hw_30
    have hP : va_P D vwCl [(tp, .inr (5, [.ref by_, .int (nI T)])), (by_, .inl (cI, 260, .inl fb)), (lw, .inr (1, [.ref l1, .ref l2, .ref l3, .ref l4, .ref l5, .ref l6, .ref l7, .int (nI z), .int (nI k)])), (l1, .inl (cI, 240, .inl q1)), (h0, .inr (2, [.ref tx, .ref lw])), (tx, .inr (6, [.ref tp, .int (nI N), .int (nI Po_28), .int fo_29]))] H := hP
    have hD : va_D A [(tp, .inr (5, [.ref by_, .int (nI T)])), (by_, .inl (cI, 260, .inl fb)), (lw, .inr (1, [.ref l1, .ref l2, .ref l3, .ref l4, .ref l5, .ref l6, .ref l7, .int (nI z), .int (nI k)])), (l1, .inl (cI, 240, .inl q1)), (h0, .inr (2, [.ref tx, .ref lw])), (tx, .inr (6, [.ref tp, .int (nI N), .int (nI Po_28), .int fo_29]))] := hD
    obtain rfl : r_27 = 0 := hw_30.1.trans (by decide)
    obtain ⟨eo1, eo2⟩ := hw_30.2.2 (by decide)
    refine lv_if_eq (tgt := 98) hx hb dX2_readPiece_19 (by decide) (fun _ => ?_) (fun c_19 => absurd (by decide) c_19)
    exact ret _ _ _ _ (Po_28, fo_29, z, q1) dX2_readPiece_98 (⟨hz, by show PCQ fb N 0 P Po_28 0 fo_29; rw [eo1]; exact PCQ.five (by omega) hlt (Or.inl hop) eo2⟩) (hP.sub [4, 5, 0, 1, 2, 3] rfl) (hD.sub [4, 5, 0, 1, 2, 3] (by decide) rfl) hS

set_option maxRecDepth 100000 in
set_option maxHeartbeats 4000000 in
theorem c_raP_6 (l : Launch) (D : va_G) (cI cB : ClassId) (sz : Nat) (kk : KT) (h0 : Nat) (tx : Nat) (tp : Nat) (N : Nat) (P : Nat) (fa : Int32) (by_ : Nat) (T : Nat) (fb : Nat → Int32) (lw : Nat) (l1 : Nat) (l2 : Nat) (l3 : Nat) (l4 : Nat) (l5 : Nat) (l6 : Nat) (l7 : Nat) (z : Nat) (k : Nat) (q1 : Nat → Int32) (hT : T ≤ 260) (hNT : N ≤ T) (hPN : P ≤ N) (hN2 : N ≤ 240) (hfa : fa = 0 ∨ fa < 0) (hbr : BR N fb) (hz : z ≤ 240) (hk : k ≤ 16) : MVk (S := ((Nat) × (Int32) × (Nat) × (Nat → Int32))) l D cI cB kk yX2_readPart cX2_readPart 4 (rm 9 204) [.ref h0, .int 6] [(h0, .inr (2, [.ref tx, .ref lw])), (tx, .inr (6, [.ref tp, .int (nI N), .int (nI P), .int fa])), (tp, .inr (5, [.ref by_, .int (nI T)])), (by_, .inl (cI, 260, .inl fb)), (lw, .inr (1, [.ref l1, .ref l2, .ref l3, .ref l4, .ref l5, .ref l6, .ref l7, .int (nI z), .int (nI k)])), (l1, .inl (cI, 240, .inl q1))] sz (fun u => u.2.2.1 ≤ 240 ∧ PTQ fb N 0 P u.1 fa u.2.1 ∧ (u.2.1 = 0 → ¬ chF fb N u.1 = 38)) (fun u : ((Nat) × (Int32) × (Nat) × (Nat → Int32)) => [(h0, .inr (2, [.ref tx, .ref lw])), (tx, .inr (6, [.ref tp, .int (nI N), .int (nI u.1), .int u.2.1])), (tp, .inr (5, [.ref by_, .int (nI T)])), (by_, .inl (cI, 260, .inl fb)), (lw, .inr (1, [.ref l1, .ref l2, .ref l3, .ref l4, .ref l5, .ref l6, .ref l7, .int (nI u.2.2.1), .int (nI k)])), (l1, .inl (cI, 240, .inl u.2.2.2))]) := by
  refine MVk.of (by decide) (Nat.le_of_ble_eq_true rfl) ?_
  intro p e s m below meth c Q ls A X hin hN hKO hP hK hD hA hl ret
  have hS : va_S A s.heap s.heap [] := va_S.rf
  obtain ⟨hx, hb, hml, hown, htb⟩ := id X
  have hl : lv_has ls 4 [(0, .ref h0), (1, .int 6)] := hl
  refine lv_aload_n hx hb dX2_readPart_0 rfl (lv_at hl 0 rfl) ?_
  refine lv_iload_n hx hb dX2_readPart_1 rfl (lv_at hl 1 rfl) ?_
  refine cVVk (As := [.int 6]) (rest := []) (n := 1) (ci := 2) (q0 := 0) (wr := []) X hN hKO hK hP hD hS hA (c_rpP_6 l D cI cB _ kk h0 tx tp N P fa by_ T fb lw l1 l2 l3 l4 l5 l6 l7 z k q1 hT hNT hPN hN2 hfa hbr hz hk) (gV k_636 k_638 k_9 k_99 k_639) (by decide +kernel) ⟨Nat.le_of_ble_eq_true rfl, Nat.le_of_ble_eq_true rfl⟩ ⟨rfl, rfl⟩ [0, 1, 2, 3, 4, 5] [] rfl rfl (by decide) (by decide) rfl rfl rfl rfl rfl hl.1 (Nat.le_of_ble_eq_true rfl) dX2_readPart_2 ⟨Nat.le_of_ble_eq_true rfl, Nat.le_of_ble_eq_true rfl⟩ (fun u H locs hw_6 hP hD hS => ?_)
  obtain ⟨Po_2, fo_3, zo_4, l1o_5⟩ := u
  try dsimp only at hw_6
  have hP : va_P D vwCl [(h0, .inr (2, [.ref tx, .ref lw])), (tx, .inr (6, [.ref tp, .int (nI N), .int (nI Po_2), .int fo_3])), (tp, .inr (5, [.ref by_, .int (nI T)])), (by_, .inl (cI, 260, .inl fb)), (lw, .inr (1, [.ref l1, .ref l2, .ref l3, .ref l4, .ref l5, .ref l6, .ref l7, .int (nI zo_4), .int (nI k)])), (l1, .inl (cI, 240, .inl l1o_5))] H := hP
  have hD : va_D A [(h0, .inr (2, [.ref tx, .ref lw])), (tx, .inr (6, [.ref tp, .int (nI N), .int (nI Po_2), .int fo_3])), (tp, .inr (5, [.ref by_, .int (nI T)])), (by_, .inl (cI, 260, .inl fb)), (lw, .inr (1, [.ref l1, .ref l2, .ref l3, .ref l4, .ref l5, .ref l6, .ref l7, .int (nI zo_4), .int (nI k)])), (l1, .inl (cI, 240, .inl l1o_5))] := hD
  refine lv_iconst (v := 0) hx hb dX2_readPart_5 (by decide) ?_
  refine lv_istore_n (lv' := [(2, .int 0), (0, .ref h0), (1, .int 6)]) hx hb dX2_readPart_6 rfl hl (by decide) rfl (fun ls hl => ?_)
  have loop_7 : ∀ (n i : Nat) (Pa : Nat) (fv : Int32) (za : Nat) (qa : Nat → Int32), n + i = 240 → (za ≤ 240) → (PTQ fb N 0 P Pa fa fv) → (fv = 0 → fa = 0 → i < Pa) → ∀ (H : Heap) (locs : List Loc), va_P D vwCl [(h0, .inr (2, [.ref tx, .ref lw])), (tx, .inr (6, [.ref tp, .int (nI N), .int (nI Pa), .int fv])), (tp, .inr (5, [.ref by_, .int (nI T)])), (by_, .inl (cI, 260, .inl fb)), (lw, .inr (1, [.ref l1, .ref l2, .ref l3, .ref l4, .ref l5, .ref l6, .ref l7, .int (nI za), .int (nI k)])), (l1, .inl (cI, 240, .inl qa))] H → va_D A [(h0, .inr (2, [.ref tx, .ref lw])), (tx, .inr (6, [.ref tp, .int (nI N), .int (nI Pa), .int fv])), (tp, .inr (5, [.ref by_, .int (nI T)])), (by_, .inl (cI, 260, .inl fb)), (lw, .inr (1, [.ref l1, .ref l2, .ref l3, .ref l4, .ref l5, .ref l6, .ref l7, .int (nI za), .int (nI k)])), (l1, .inl (cI, 240, .inl qa))] → va_S A s.heap H locs → ∀ (ls : Array Slot), lv_has ls 4 [(0, .ref h0), (1, .int 6), (2, .int (nI i))] → W p l e (rm 9 204) s m ([.ref h0, .int 6] : List Value).toArray below meth c H locs 0 0 Q (F0 m 7 ls []) := by
    intro n
    induction n with
    | zero =>
      intro i Pa fv za qa hni hza hq hiP H locs hP hD hS ls hl
      have hni_7 := hni
      have hi : i = 240 := by omega
      refine lv_iload_n hx hb dX2_readPart_7 rfl (lv_at hl 2 rfl) ?_
      refine lv_sipush (v := 240) hx hb dX2_readPart_8 (by decide) ?_
      refine lv_icmp_ge (tgt := 62) hx hb dX2_readPart_11 (by decide) (fun _ => ?_) (fun c_11 => absurd (by rw [hi]; decide) c_11)
      exact ret _ _ _ _ (Pa, fv, za, qa) dX2_readPart_62 (⟨hza, ⟨hq, fun z => absurd z (fun z => by have h2 := hq.2.1; have h4 := hq.2.2.2.1; exact (Classical.em (fa = 0)).elim (fun w => by have := hiP z w; omega) (fun w => w ((h2 w).symm.trans z)))⟩⟩) (hP.sub [0, 1, 2, 3, 4, 5] rfl) (hD.sub [0, 1, 2, 3, 4, 5] (by decide) rfl) hS
    | succ n ih_7 =>
      intro i Pa fv za qa hni hza hq hiP H locs hP hD hS ls hl
      have hni_7 := hni
      have hi : i < 240 := by omega
      refine lv_iload_n hx hb dX2_readPart_7 rfl (lv_at hl 2 rfl) ?_
      refine lv_sipush (v := 240) hx hb dX2_readPart_8 (by decide) ?_
      refine lv_icmp_ge (tgt := 62) hx hb dX2_readPart_11 (by decide) (fun c_11 => absurd c_11 (nI_ge hi (by decide))) (fun _ => ?_)
      refine lv_aload_n hx hb dX2_readPart_14 rfl (lv_at hl 0 rfl) ?_
      refine va_get (D := D) (ci := 2) (v := .ref tx) (C := RX2) (T := TX2) (N := 2) hx hb htb itX2 hown hK hP 0 rfl rfl 0 (by decide) (htb _ k_288) (fun _ h9 => h9) rfl dX2_readPart_15 ?_
      refine lv_bipush (v := 38) hx hb dX2_readPart_18 (by decide) ?_
      refine cVI (As := [.int 38]) (rest := []) (n := 1) (ci := 6) (q0 := 0) (wr := [(h0, .inr (2, [.ref tx, .ref lw])), (lw, .inr (1, [.ref l1, .ref l2, .ref l3, .ref l4, .ref l5, .ref l6, .ref l7, .int (nI za), .int (nI k)])), (l1, .inl (cI, 240, .inl qa))]) X hN hK hP hD hS hA (c_skipP l D cI cB _ tx tp N Pa fv by_ T fb 38 hT hNT hq.2.2.2.1 (by decide)) (gV k_644 k_607 k_608 k_98 k_609) (by decide +kernel) ⟨Nat.le_of_ble_eq_true rfl, Nat.le_of_ble_eq_true rfl⟩ ⟨rfl, rfl⟩ [1, 2, 3] [0, 4, 5] rfl rfl (by decide) (by decide) rfl rfl rfl rfl rfl hl.1 (Nat.le_of_ble_eq_true rfl) dX2_readPart_20 ⟨Nat.le_of_ble_eq_true rfl, Nat.le_of_ble_eq_true rfl⟩ (fun r_7 u H locs hw_9 hP hD hS => ?_)
      obtain ⟨Po_8, rfl⟩ : ∃ z, z = u := ⟨_, rfl⟩
      try dsimp only at hw_9
      have hP : va_P D vwCl [(h0, .inr (2, [.ref tx, .ref lw])), (lw, .inr (1, [.ref l1, .ref l2, .ref l3, .ref l4, .ref l5, .ref l6, .ref l7, .int (nI za), .int (nI k)])), (l1, .inl (cI, 240, .inl qa)), (tx, .inr (6, [.ref tp, .int (nI N), .int (nI Po_8), .int fv])), (tp, .inr (5, [.ref by_, .int (nI T)])), (by_, .inl (cI, 260, .inl fb))] H := hP
      have hD : va_D A [(h0, .inr (2, [.ref tx, .ref lw])), (lw, .inr (1, [.ref l1, .ref l2, .ref l3, .ref l4, .ref l5, .ref l6, .ref l7, .int (nI za), .int (nI k)])), (l1, .inl (cI, 240, .inl qa)), (tx, .inr (6, [.ref tp, .int (nI N), .int (nI Po_8), .int fv])), (tp, .inr (5, [.ref by_, .int (nI T)])), (by_, .inl (cI, 260, .inl fb))] := hD
      refine lv_if_eq (tgt := 62) hx hb dX2_readPart_23 (by decide) (fun c_23 => ?_) (fun c_23 => ?_)
      · have hsn := bIf (hw_9.1.symm.trans c_23)
        have hpl := hw_9.2.2.1 hsn
        rw [hpl] at hP hD
        have hP : va_P D vwCl [(h0, .inr (2, [.ref tx, .ref lw])), (lw, .inr (1, [.ref l1, .ref l2, .ref l3, .ref l4, .ref l5, .ref l6, .ref l7, .int (nI za), .int (nI k)])), (l1, .inl (cI, 240, .inl qa)), (tx, .inr (6, [.ref tp, .int (nI N), .int (nI Pa), .int fv])), (tp, .inr (5, [.ref by_, .int (nI T)])), (by_, .inl (cI, 260, .inl fb))] H := hP
        have hD : va_D A [(h0, .inr (2, [.ref tx, .ref lw])), (lw, .inr (1, [.ref l1, .ref l2, .ref l3, .ref l4, .ref l5, .ref l6, .ref l7, .int (nI za), .int (nI k)])), (l1, .inl (cI, 240, .inl qa)), (tx, .inr (6, [.ref tp, .int (nI N), .int (nI Pa), .int fv])), (tp, .inr (5, [.ref by_, .int (nI T)])), (by_, .inl (cI, 260, .inl fb))] := hD
        exact ret _ _ _ _ (Pa, fv, za, qa) dX2_readPart_62 (⟨hza, ⟨hq, fun (z : fv = 0) => by have w1 := hsn; rw [z, sQ0] at w1; exact w1⟩⟩) (hP.sub [0, 3, 4, 5, 1, 2] rfl) (hD.sub [0, 3, 4, 5, 1, 2] (by decide) rfl) hS
      · have hsk := bIt (fun z => c_23 (hw_9.1.trans z))
        obtain ⟨hf0, hlt, hch⟩ := sQj (by decide) hsk
        have hpl := hw_9.2.1 hsk
        subst hf0
        have hjn : JN2 (chF fb N Pa) := Or.inl hch
        rw [hpl] at hP hD
        have hP : va_P D vwCl [(h0, .inr (2, [.ref tx, .ref lw])), (lw, .inr (1, [.ref l1, .ref l2, .ref l3, .ref l4, .ref l5, .ref l6, .ref l7, .int (nI za), .int (nI k)])), (l1, .inl (cI, 240, .inl qa)), (tx, .inr (6, [.ref tp, .int (nI N), .int (nI (Pa + 1)), .int 0])), (tp, .inr (5, [.ref by_, .int (nI T)])), (by_, .inl (cI, 260, .inl fb))] H := hP
        have hD : va_D A [(h0, .inr (2, [.ref tx, .ref lw])), (lw, .inr (1, [.ref l1, .ref l2, .ref l3, .ref l4, .ref l5, .ref l6, .ref l7, .int (nI za), .int (nI k)])), (l1, .inl (cI, 240, .inl qa)), (tx, .inr (6, [.ref tp, .int (nI N), .int (nI (Pa + 1)), .int 0])), (tp, .inr (5, [.ref by_, .int (nI T)])), (by_, .inl (cI, 260, .inl fb))] := hD
        refine lv_aload_n hx hb dX2_readPart_26 rfl (lv_at hl 0 rfl) ?_
        refine va_get (D := D) (ci := 2) (v := .ref lw) (C := RX2) (T := TX2) (N := 2) hx hb htb itX2 hown hK hP 0 rfl rfl 1 (by decide) (htb _ k_289) (fun _ h9 => h9) rfl dX2_readPart_27 ?_
        refine va_getN (D := D) (ci := 1) (v := .int (nI za)) (C := RX1) (T := TX1) (N := 9) hx hb htb itX1 hown hK hP 1 rfl rfl 7 (by decide) (va_Nw.use rfl (hN _ n_232 rfl)) (fun _ h9 => h9) rfl dX2_readPart_30 ?_
        refine lv_istore_n (lv' := [(3, .int (nI za)), (0, .ref h0), (1, .int 6), (2, .int (nI i))]) hx hb dX2_readPart_33 rfl hl (by decide) rfl (fun ls hl => ?_)
        refine lv_aload_n hx hb dX2_readPart_34 rfl (lv_at hl 1 rfl) ?_
        refine va_get (D := D) (ci := 2) (v := .ref lw) (C := RX2) (T := TX2) (N := 2) hx hb htb itX2 hown hK hP 0 rfl rfl 1 (by decide) (htb _ k_289) (fun _ h9 => h9) rfl dX2_readPart_35 ?_
        refine lv_iconst (v := 4) hx hb dX2_readPart_38 (by decide) ?_
        refine lv_iconst (v := 0) hx hb dX2_readPart_39 (by decide) ?_
        refine cVV (As := [.int 4, .int 0]) (rest := []) (n := 2) (ci := 1) (q0 := 0) (wr := [(h0, .inr (2, [.ref tx, .ref lw])), (tx, .inr (6, [.ref tp, .int (nI N), .int (nI (Pa + 1)), .int 0])), (tp, .inr (5, [.ref by_, .int (nI T)])), (by_, .inl (cI, 260, .inl fb))]) X hN hK hP hD hS hA (c_X1_addStep l D cI cB _ lw l1 l2 l3 l4 l5 l6 l7 za k 4 0 qa hza hk) (gV k_594 k_595 k_596 k_97 k_597) (by decide +kernel) ⟨Nat.le_of_ble_eq_true rfl, Nat.le_of_ble_eq_true rfl⟩ ⟨rfl, rfl⟩ [1, 2] [0, 3, 4, 5] rfl rfl (by decide) (by decide) rfl rfl rfl rfl rfl hl.1 (Nat.le_of_ble_eq_true rfl) dX2_readPart_40 ⟨Nat.le_of_ble_eq_true rfl, Nat.le_of_ble_eq_true rfl⟩ (fun u H locs hw_13 hP hD hS => ?_)
        obtain ⟨zo_11, l1_fo_12⟩ := u
        try dsimp only at hw_13
        have hP : va_P D vwCl [(h0, .inr (2, [.ref tx, .ref lw])), (tx, .inr (6, [.ref tp, .int (nI N), .int (nI (Pa + 1)), .int 0])), (tp, .inr (5, [.ref by_, .int (nI T)])), (by_, .inl (cI, 260, .inl fb)), (lw, .inr (1, [.ref l1, .ref l2, .ref l3, .ref l4, .ref l5, .ref l6, .ref l7, .int (nI zo_11), .int (nI k)])), (l1, .inl (cI, 240, .inl l1_fo_12))] H := hP
        have hD : va_D A [(h0, .inr (2, [.ref tx, .ref lw])), (tx, .inr (6, [.ref tp, .int (nI N), .int (nI (Pa + 1)), .int 0])), (tp, .inr (5, [.ref by_, .int (nI T)])), (by_, .inl (cI, 260, .inl fb)), (lw, .inr (1, [.ref l1, .ref l2, .ref l3, .ref l4, .ref l5, .ref l6, .ref l7, .int (nI zo_11), .int (nI k)])), (l1, .inl (cI, 240, .inl l1_fo_12))] := hD
        refine lv_aload_n hx hb dX2_readPart_43 rfl (lv_at hl 1 rfl) ?_
        refine lv_iload_n hx hb dX2_readPart_44 rfl (lv_at hl 2 rfl) ?_
        refine cVVk (As := [.int 6]) (rest := []) (n := 1) (ci := 2) (q0 := 0) (wr := []) X hN hKO hK hP hD hS hA (c_rpP_6 l D cI cB _ kk h0 tx tp N (Pa + 1) 0 by_ T fb lw l1 l2 l3 l4 l5 l6 l7 zo_11 k l1_fo_12 hT hNT (by omega) hN2 (Or.inl rfl) hbr hw_13 hk) (gV k_636 k_638 k_9 k_99 k_639) (by decide +kernel) ⟨Nat.le_of_ble_eq_true rfl, Nat.le_of_ble_eq_true rfl⟩ ⟨rfl, rfl⟩ [0, 1, 2, 3, 4, 5] [] rfl rfl (by decide) (by decide) rfl rfl rfl rfl rfl hl.1 (Nat.le_of_ble_eq_true rfl) dX2_readPart_45 ⟨Nat.le_of_ble_eq_true rfl, Nat.le_of_ble_eq_true rfl⟩ (fun u H locs hw_19 hP hD hS => ?_)
        obtain ⟨Po_15, fo_16, zo_17, l1o_18⟩ := u
        try dsimp only at hw_19
        have hP : va_P D vwCl [(h0, .inr (2, [.ref tx, .ref lw])), (tx, .inr (6, [.ref tp, .int (nI N), .int (nI Po_15), .int fo_16])), (tp, .inr (5, [.ref by_, .int (nI T)])), (by_, .inl (cI, 260, .inl fb)), (lw, .inr (1, [.ref l1, .ref l2, .ref l3, .ref l4, .ref l5, .ref l6, .ref l7, .int (nI zo_17), .int (nI k)])), (l1, .inl (cI, 240, .inl l1o_18))] H := hP
        have hD : va_D A [(h0, .inr (2, [.ref tx, .ref lw])), (tx, .inr (6, [.ref tp, .int (nI N), .int (nI Po_15), .int fo_16])), (tp, .inr (5, [.ref by_, .int (nI T)])), (by_, .inl (cI, 260, .inl fb)), (lw, .inr (1, [.ref l1, .ref l2, .ref l3, .ref l4, .ref l5, .ref l6, .ref l7, .int (nI zo_17), .int (nI k)])), (l1, .inl (cI, 240, .inl l1o_18))] := hD
        refine lv_aload_n hx hb dX2_readPart_48 rfl (lv_at hl 1 rfl) ?_
        refine va_get (D := D) (ci := 2) (v := .ref lw) (C := RX2) (T := TX2) (N := 2) hx hb htb itX2 hown hK hP 0 rfl rfl 1 (by decide) (htb _ k_289) (fun _ h9 => h9) rfl dX2_readPart_49 ?_
        refine lv_iload_n hx hb dX2_readPart_52 rfl (lv_at hl 0 rfl) ?_
        refine cVV (As := [.int (nI za)]) (rest := []) (n := 1) (ci := 1) (q0 := 0) (wr := [(h0, .inr (2, [.ref tx, .ref lw])), (tx, .inr (6, [.ref tp, .int (nI N), .int (nI Po_15), .int fo_16])), (tp, .inr (5, [.ref by_, .int (nI T)])), (by_, .inl (cI, 260, .inl fb))]) X hN hK hP hD hS hA (c_X1_landSkip l D cI cB _ lw l1 l2 l3 l4 l5 l6 l7 zo_17 k (nI za) l1o_18 hw_19.1 hk) (gV k_645 k_646 k_647 k_97 k_648) (by decide +kernel) ⟨Nat.le_of_ble_eq_true rfl, Nat.le_of_ble_eq_true rfl⟩ ⟨rfl, rfl⟩ [4, 5] [0, 1, 2, 3] rfl rfl (by decide) (by decide) rfl rfl rfl rfl rfl hl.1 (Nat.le_of_ble_eq_true rfl) dX2_readPart_53 ⟨Nat.le_of_ble_eq_true rfl, Nat.le_of_ble_eq_true rfl⟩ (fun u H locs hw_22 hP hD hS => ?_)
        obtain ⟨l1_fo_21, rfl⟩ : ∃ z, z = u := ⟨_, rfl⟩
        try dsimp only at hw_22
        have hP : va_P D vwCl [(h0, .inr (2, [.ref tx, .ref lw])), (tx, .inr (6, [.ref tp, .int (nI N), .int (nI Po_15), .int fo_16])), (tp, .inr (5, [.ref by_, .int (nI T)])), (by_, .inl (cI, 260, .inl fb)), (lw, .inr (1, [.ref l1, .ref l2, .ref l3, .ref l4, .ref l5, .ref l6, .ref l7, .int (nI zo_17), .int (nI k)])), (l1, .inl (cI, 240, .inl l1_fo_21))] H := hP
        have hD : va_D A [(h0, .inr (2, [.ref tx, .ref lw])), (tx, .inr (6, [.ref tp, .int (nI N), .int (nI Po_15), .int fo_16])), (tp, .inr (5, [.ref by_, .int (nI T)])), (by_, .inl (cI, 260, .inl fb)), (lw, .inr (1, [.ref l1, .ref l2, .ref l3, .ref l4, .ref l5, .ref l6, .ref l7, .int (nI zo_17), .int (nI k)])), (l1, .inl (cI, 240, .inl l1_fo_21))] := hD
        refine lv_iinc (v := (nI (i + 1))) (lv' := [(2, .int (nI (i + 1))), (3, .int (nI za)), (0, .ref h0), (1, .int 6)]) hx hb dX2_readPart_56 hl (k := 3) rfl (nI_1 i) (by decide) rfl (fun ls hl => ?_)
        refine lv_goto (tgt := 7) hx hb dX2_readPart_59 (by decide) ?_
        exact ih_7 (i + 1) Po_15 fo_16 zo_17 l1_fo_21 (by omega) hw_19.1 (hq.more hjn hw_19.2.pt) (fun z w => by have := (((hw_19.2.2.2.2.2 rfl).1 z).1); have := hiP rfl w; omega) _ _ (hP.sub [0, 1, 2, 3, 4, 5] rfl) (hD.sub [0, 1, 2, 3, 4, 5] (by decide) rfl) hS _ (lv_sub hl [2, 3, 0] rfl)
  exact loop_7 240 0 Po_2 fo_3 zo_4 l1o_5 (by omega) hw_6.1 hw_6.2.pt (fun z w => (((hw_6.2.2.2.2.2 w).1 z).1 |> fun y => by omega)) _ _ (hP.sub [0, 1, 2, 3, 4, 5] rfl) (hD.sub [0, 1, 2, 3, 4, 5] (by decide) rfl) hS _ (lv_sub hl [1, 2, 0] rfl)

set_option maxRecDepth 100000 in
set_option maxHeartbeats 4000000 in
theorem c_rcP_6 (l : Launch) (D : va_G) (cI cB : ClassId) (sz : Nat) (kk : KT) (h0 : Nat) (tx : Nat) (tp : Nat) (N : Nat) (P : Nat) (fa : Int32) (by_ : Nat) (T : Nat) (fb : Nat → Int32) (lw : Nat) (l1 : Nat) (l2 : Nat) (l3 : Nat) (l4 : Nat) (l5 : Nat) (l6 : Nat) (l7 : Nat) (z : Nat) (k : Nat) (q1 : Nat → Int32) (hT : T ≤ 260) (hNT : N ≤ T) (hPN : P ≤ N) (hN2 : N ≤ 240) (hfa : fa = 0 ∨ fa < 0) (hbr : BR N fb) (hz : z ≤ 240) (hk : k ≤ 16) : MVk (S := ((Nat) × (Int32) × (Nat) × (Nat → Int32))) l D cI cB kk yX2_readChoice cX2_readChoice 4 (rm 10 227) [.ref h0, .int 6] [(h0, .inr (2, [.ref tx, .ref lw])), (tx, .inr (6, [.ref tp, .int (nI N), .int (nI P), .int fa])), (tp, .inr (5, [.ref by_, .int (nI T)])), (by_, .inl (cI, 260, .inl fb)), (lw, .inr (1, [.ref l1, .ref l2, .ref l3, .ref l4, .ref l5, .ref l6, .ref l7, .int (nI z), .int (nI k)])), (l1, .inl (cI, 240, .inl q1))] sz (fun u => u.2.2.1 ≤ 240 ∧ PTQ fb N 0 P u.1 fa u.2.1 ∧ (u.2.1 = 0 → ¬ JN2 (chF fb N u.1))) (fun u : ((Nat) × (Int32) × (Nat) × (Nat → Int32)) => [(h0, .inr (2, [.ref tx, .ref lw])), (tx, .inr (6, [.ref tp, .int (nI N), .int (nI u.1), .int u.2.1])), (tp, .inr (5, [.ref by_, .int (nI T)])), (by_, .inl (cI, 260, .inl fb)), (lw, .inr (1, [.ref l1, .ref l2, .ref l3, .ref l4, .ref l5, .ref l6, .ref l7, .int (nI u.2.2.1), .int (nI k)])), (l1, .inl (cI, 240, .inl u.2.2.2))]) := by
  refine MVk.of (by decide) (Nat.le_of_ble_eq_true rfl) ?_
  intro p e s m below meth c Q ls A X hin hN hKO hP hK hD hA hl ret
  have hS : va_S A s.heap s.heap [] := va_S.rf
  obtain ⟨hx, hb, hml, hown, htb⟩ := id X
  have hl : lv_has ls 4 [(0, .ref h0), (1, .int 6)] := hl
  refine lv_aload_n hx hb dX2_readChoice_0 rfl (lv_at hl 0 rfl) ?_
  refine lv_iload_n hx hb dX2_readChoice_1 rfl (lv_at hl 1 rfl) ?_
  refine cVVk (As := [.int 6]) (rest := []) (n := 1) (ci := 2) (q0 := 0) (wr := []) X hN hKO hK hP hD hS hA (c_raP_6 l D cI cB _ kk h0 tx tp N P fa by_ T fb lw l1 l2 l3 l4 l5 l6 l7 z k q1 hT hNT hPN hN2 hfa hbr hz hk) (gV k_632 k_634 k_8 k_99 k_635) (by decide +kernel) ⟨Nat.le_of_ble_eq_true rfl, Nat.le_of_ble_eq_true rfl⟩ ⟨rfl, rfl⟩ [0, 1, 2, 3, 4, 5] [] rfl rfl (by decide) (by decide) rfl rfl rfl rfl rfl hl.1 (Nat.le_of_ble_eq_true rfl) dX2_readChoice_2 ⟨Nat.le_of_ble_eq_true rfl, Nat.le_of_ble_eq_true rfl⟩ (fun u H locs hw_6 hP hD hS => ?_)
  obtain ⟨Po_2, fo_3, zo_4, l1o_5⟩ := u
  try dsimp only at hw_6
  have hP : va_P D vwCl [(h0, .inr (2, [.ref tx, .ref lw])), (tx, .inr (6, [.ref tp, .int (nI N), .int (nI Po_2), .int fo_3])), (tp, .inr (5, [.ref by_, .int (nI T)])), (by_, .inl (cI, 260, .inl fb)), (lw, .inr (1, [.ref l1, .ref l2, .ref l3, .ref l4, .ref l5, .ref l6, .ref l7, .int (nI zo_4), .int (nI k)])), (l1, .inl (cI, 240, .inl l1o_5))] H := hP
  have hD : va_D A [(h0, .inr (2, [.ref tx, .ref lw])), (tx, .inr (6, [.ref tp, .int (nI N), .int (nI Po_2), .int fo_3])), (tp, .inr (5, [.ref by_, .int (nI T)])), (by_, .inl (cI, 260, .inl fb)), (lw, .inr (1, [.ref l1, .ref l2, .ref l3, .ref l4, .ref l5, .ref l6, .ref l7, .int (nI zo_4), .int (nI k)])), (l1, .inl (cI, 240, .inl l1o_5))] := hD
  refine lv_iconst (v := 0) hx hb dX2_readChoice_5 (by decide) ?_
  refine lv_istore_n (lv' := [(2, .int 0), (0, .ref h0), (1, .int 6)]) hx hb dX2_readChoice_6 rfl hl (by decide) rfl (fun ls hl => ?_)
  have loop_7 : ∀ (n i : Nat) (Pa : Nat) (fv : Int32) (za : Nat) (qa : Nat → Int32), n + i = 240 → (za ≤ 240) → (PTQ fb N 0 P Pa fa fv) → (fv = 0 → fa = 0 → i < Pa) → (fv = 0 → ¬ chF fb N Pa = 38) → ∀ (H : Heap) (locs : List Loc), va_P D vwCl [(h0, .inr (2, [.ref tx, .ref lw])), (tx, .inr (6, [.ref tp, .int (nI N), .int (nI Pa), .int fv])), (tp, .inr (5, [.ref by_, .int (nI T)])), (by_, .inl (cI, 260, .inl fb)), (lw, .inr (1, [.ref l1, .ref l2, .ref l3, .ref l4, .ref l5, .ref l6, .ref l7, .int (nI za), .int (nI k)])), (l1, .inl (cI, 240, .inl qa))] H → va_D A [(h0, .inr (2, [.ref tx, .ref lw])), (tx, .inr (6, [.ref tp, .int (nI N), .int (nI Pa), .int fv])), (tp, .inr (5, [.ref by_, .int (nI T)])), (by_, .inl (cI, 260, .inl fb)), (lw, .inr (1, [.ref l1, .ref l2, .ref l3, .ref l4, .ref l5, .ref l6, .ref l7, .int (nI za), .int (nI k)])), (l1, .inl (cI, 240, .inl qa))] → va_S A s.heap H locs → ∀ (ls : Array Slot), lv_has ls 4 [(0, .ref h0), (1, .int 6), (2, .int (nI i))] → W p l e (rm 10 227) s m ([.ref h0, .int 6] : List Value).toArray below meth c H locs 0 0 Q (F0 m 7 ls []) := by
    intro n
    induction n with
    | zero =>
      intro i Pa fv za qa hni hza hq hiP hmu H locs hP hD hS ls hl
      have hni_7 := hni
      have hi : i = 240 := by omega
      refine lv_iload_n hx hb dX2_readChoice_7 rfl (lv_at hl 2 rfl) ?_
      refine lv_sipush (v := 240) hx hb dX2_readChoice_8 (by decide) ?_
      refine lv_icmp_ge (tgt := 62) hx hb dX2_readChoice_11 (by decide) (fun _ => ?_) (fun c_11 => absurd (by rw [hi]; decide) c_11)
      exact ret _ _ _ _ (Pa, fv, za, qa) dX2_readChoice_62 (⟨hza, ⟨hq, fun z => absurd z (fun z => by have h2 := hq.2.1; have h4 := hq.2.2.2.1; exact (Classical.em (fa = 0)).elim (fun w => by have := hiP z w; omega) (fun w => w ((h2 w).symm.trans z)))⟩⟩) (hP.sub [0, 1, 2, 3, 4, 5] rfl) (hD.sub [0, 1, 2, 3, 4, 5] (by decide) rfl) hS
    | succ n ih_7 =>
      intro i Pa fv za qa hni hza hq hiP hmu H locs hP hD hS ls hl
      have hni_7 := hni
      have hi : i < 240 := by omega
      refine lv_iload_n hx hb dX2_readChoice_7 rfl (lv_at hl 2 rfl) ?_
      refine lv_sipush (v := 240) hx hb dX2_readChoice_8 (by decide) ?_
      refine lv_icmp_ge (tgt := 62) hx hb dX2_readChoice_11 (by decide) (fun c_11 => absurd c_11 (nI_ge hi (by decide))) (fun _ => ?_)
      refine lv_aload_n hx hb dX2_readChoice_14 rfl (lv_at hl 0 rfl) ?_
      refine va_get (D := D) (ci := 2) (v := .ref tx) (C := RX2) (T := TX2) (N := 2) hx hb htb itX2 hown hK hP 0 rfl rfl 0 (by decide) (htb _ k_288) (fun _ h9 => h9) rfl dX2_readChoice_15 ?_
      refine lv_bipush (v := 124) hx hb dX2_readChoice_18 (by decide) ?_
      refine cVI (As := [.int 124]) (rest := []) (n := 1) (ci := 6) (q0 := 0) (wr := [(h0, .inr (2, [.ref tx, .ref lw])), (lw, .inr (1, [.ref l1, .ref l2, .ref l3, .ref l4, .ref l5, .ref l6, .ref l7, .int (nI za), .int (nI k)])), (l1, .inl (cI, 240, .inl qa))]) X hN hK hP hD hS hA (c_skipP l D cI cB _ tx tp N Pa fv by_ T fb 124 hT hNT hq.2.2.2.1 (by decide)) (gV k_644 k_607 k_608 k_98 k_609) (by decide +kernel) ⟨Nat.le_of_ble_eq_true rfl, Nat.le_of_ble_eq_true rfl⟩ ⟨rfl, rfl⟩ [1, 2, 3] [0, 4, 5] rfl rfl (by decide) (by decide) rfl rfl rfl rfl rfl hl.1 (Nat.le_of_ble_eq_true rfl) dX2_readChoice_20 ⟨Nat.le_of_ble_eq_true rfl, Nat.le_of_ble_eq_true rfl⟩ (fun r_7 u H locs hw_9 hP hD hS => ?_)
      obtain ⟨Po_8, rfl⟩ : ∃ z, z = u := ⟨_, rfl⟩
      try dsimp only at hw_9
      have hP : va_P D vwCl [(h0, .inr (2, [.ref tx, .ref lw])), (lw, .inr (1, [.ref l1, .ref l2, .ref l3, .ref l4, .ref l5, .ref l6, .ref l7, .int (nI za), .int (nI k)])), (l1, .inl (cI, 240, .inl qa)), (tx, .inr (6, [.ref tp, .int (nI N), .int (nI Po_8), .int fv])), (tp, .inr (5, [.ref by_, .int (nI T)])), (by_, .inl (cI, 260, .inl fb))] H := hP
      have hD : va_D A [(h0, .inr (2, [.ref tx, .ref lw])), (lw, .inr (1, [.ref l1, .ref l2, .ref l3, .ref l4, .ref l5, .ref l6, .ref l7, .int (nI za), .int (nI k)])), (l1, .inl (cI, 240, .inl qa)), (tx, .inr (6, [.ref tp, .int (nI N), .int (nI Po_8), .int fv])), (tp, .inr (5, [.ref by_, .int (nI T)])), (by_, .inl (cI, 260, .inl fb))] := hD
      refine lv_if_eq (tgt := 62) hx hb dX2_readChoice_23 (by decide) (fun c_23 => ?_) (fun c_23 => ?_)
      · have hsn := bIf (hw_9.1.symm.trans c_23)
        have hpl := hw_9.2.2.1 hsn
        rw [hpl] at hP hD
        have hP : va_P D vwCl [(h0, .inr (2, [.ref tx, .ref lw])), (lw, .inr (1, [.ref l1, .ref l2, .ref l3, .ref l4, .ref l5, .ref l6, .ref l7, .int (nI za), .int (nI k)])), (l1, .inl (cI, 240, .inl qa)), (tx, .inr (6, [.ref tp, .int (nI N), .int (nI Pa), .int fv])), (tp, .inr (5, [.ref by_, .int (nI T)])), (by_, .inl (cI, 260, .inl fb))] H := hP
        have hD : va_D A [(h0, .inr (2, [.ref tx, .ref lw])), (lw, .inr (1, [.ref l1, .ref l2, .ref l3, .ref l4, .ref l5, .ref l6, .ref l7, .int (nI za), .int (nI k)])), (l1, .inl (cI, 240, .inl qa)), (tx, .inr (6, [.ref tp, .int (nI N), .int (nI Pa), .int fv])), (tp, .inr (5, [.ref by_, .int (nI T)])), (by_, .inl (cI, 260, .inl fb))] := hD
        exact ret _ _ _ _ (Pa, fv, za, qa) dX2_readChoice_62 (⟨hza, ⟨hq, fun (z : fv = 0) => by have w1 := hsn; rw [z, sQ0] at w1; exact fun y => y.elim (hmu z) w1⟩⟩) (hP.sub [0, 3, 4, 5, 1, 2] rfl) (hD.sub [0, 3, 4, 5, 1, 2] (by decide) rfl) hS
      · have hsk := bIt (fun z => c_23 (hw_9.1.trans z))
        obtain ⟨hf0, hlt, hch⟩ := sQj (by decide) hsk
        have hpl := hw_9.2.1 hsk
        subst hf0
        have hjn : JN2 (chF fb N Pa) := Or.inr hch
        rw [hpl] at hP hD
        have hP : va_P D vwCl [(h0, .inr (2, [.ref tx, .ref lw])), (lw, .inr (1, [.ref l1, .ref l2, .ref l3, .ref l4, .ref l5, .ref l6, .ref l7, .int (nI za), .int (nI k)])), (l1, .inl (cI, 240, .inl qa)), (tx, .inr (6, [.ref tp, .int (nI N), .int (nI (Pa + 1)), .int 0])), (tp, .inr (5, [.ref by_, .int (nI T)])), (by_, .inl (cI, 260, .inl fb))] H := hP
        have hD : va_D A [(h0, .inr (2, [.ref tx, .ref lw])), (lw, .inr (1, [.ref l1, .ref l2, .ref l3, .ref l4, .ref l5, .ref l6, .ref l7, .int (nI za), .int (nI k)])), (l1, .inl (cI, 240, .inl qa)), (tx, .inr (6, [.ref tp, .int (nI N), .int (nI (Pa + 1)), .int 0])), (tp, .inr (5, [.ref by_, .int (nI T)])), (by_, .inl (cI, 260, .inl fb))] := hD
        refine lv_aload_n hx hb dX2_readChoice_26 rfl (lv_at hl 0 rfl) ?_
        refine va_get (D := D) (ci := 2) (v := .ref lw) (C := RX2) (T := TX2) (N := 2) hx hb htb itX2 hown hK hP 0 rfl rfl 1 (by decide) (htb _ k_289) (fun _ h9 => h9) rfl dX2_readChoice_27 ?_
        refine va_getN (D := D) (ci := 1) (v := .int (nI za)) (C := RX1) (T := TX1) (N := 9) hx hb htb itX1 hown hK hP 1 rfl rfl 7 (by decide) (va_Nw.use rfl (hN _ n_232 rfl)) (fun _ h9 => h9) rfl dX2_readChoice_30 ?_
        refine lv_istore_n (lv' := [(3, .int (nI za)), (0, .ref h0), (1, .int 6), (2, .int (nI i))]) hx hb dX2_readChoice_33 rfl hl (by decide) rfl (fun ls hl => ?_)
        refine lv_aload_n hx hb dX2_readChoice_34 rfl (lv_at hl 1 rfl) ?_
        refine va_get (D := D) (ci := 2) (v := .ref lw) (C := RX2) (T := TX2) (N := 2) hx hb htb itX2 hown hK hP 0 rfl rfl 1 (by decide) (htb _ k_289) (fun _ h9 => h9) rfl dX2_readChoice_35 ?_
        refine lv_iconst (v := 3) hx hb dX2_readChoice_38 (by decide) ?_
        refine lv_iconst (v := 0) hx hb dX2_readChoice_39 (by decide) ?_
        refine cVV (As := [.int 3, .int 0]) (rest := []) (n := 2) (ci := 1) (q0 := 0) (wr := [(h0, .inr (2, [.ref tx, .ref lw])), (tx, .inr (6, [.ref tp, .int (nI N), .int (nI (Pa + 1)), .int 0])), (tp, .inr (5, [.ref by_, .int (nI T)])), (by_, .inl (cI, 260, .inl fb))]) X hN hK hP hD hS hA (c_X1_addStep l D cI cB _ lw l1 l2 l3 l4 l5 l6 l7 za k 3 0 qa hza hk) (gV k_594 k_595 k_596 k_97 k_597) (by decide +kernel) ⟨Nat.le_of_ble_eq_true rfl, Nat.le_of_ble_eq_true rfl⟩ ⟨rfl, rfl⟩ [1, 2] [0, 3, 4, 5] rfl rfl (by decide) (by decide) rfl rfl rfl rfl rfl hl.1 (Nat.le_of_ble_eq_true rfl) dX2_readChoice_40 ⟨Nat.le_of_ble_eq_true rfl, Nat.le_of_ble_eq_true rfl⟩ (fun u H locs hw_13 hP hD hS => ?_)
        obtain ⟨zo_11, l1_fo_12⟩ := u
        try dsimp only at hw_13
        have hP : va_P D vwCl [(h0, .inr (2, [.ref tx, .ref lw])), (tx, .inr (6, [.ref tp, .int (nI N), .int (nI (Pa + 1)), .int 0])), (tp, .inr (5, [.ref by_, .int (nI T)])), (by_, .inl (cI, 260, .inl fb)), (lw, .inr (1, [.ref l1, .ref l2, .ref l3, .ref l4, .ref l5, .ref l6, .ref l7, .int (nI zo_11), .int (nI k)])), (l1, .inl (cI, 240, .inl l1_fo_12))] H := hP
        have hD : va_D A [(h0, .inr (2, [.ref tx, .ref lw])), (tx, .inr (6, [.ref tp, .int (nI N), .int (nI (Pa + 1)), .int 0])), (tp, .inr (5, [.ref by_, .int (nI T)])), (by_, .inl (cI, 260, .inl fb)), (lw, .inr (1, [.ref l1, .ref l2, .ref l3, .ref l4, .ref l5, .ref l6, .ref l7, .int (nI zo_11), .int (nI k)])), (l1, .inl (cI, 240, .inl l1_fo_12))] := hD
        refine lv_aload_n hx hb dX2_readChoice_43 rfl (lv_at hl 1 rfl) ?_
        refine lv_iload_n hx hb dX2_readChoice_44 rfl (lv_at hl 2 rfl) ?_
        refine cVVk (As := [.int 6]) (rest := []) (n := 1) (ci := 2) (q0 := 0) (wr := []) X hN hKO hK hP hD hS hA (c_raP_6 l D cI cB _ kk h0 tx tp N (Pa + 1) 0 by_ T fb lw l1 l2 l3 l4 l5 l6 l7 zo_11 k l1_fo_12 hT hNT (by omega) hN2 (Or.inl rfl) hbr hw_13 hk) (gV k_632 k_634 k_8 k_99 k_635) (by decide +kernel) ⟨Nat.le_of_ble_eq_true rfl, Nat.le_of_ble_eq_true rfl⟩ ⟨rfl, rfl⟩ [0, 1, 2, 3, 4, 5] [] rfl rfl (by decide) (by decide) rfl rfl rfl rfl rfl hl.1 (Nat.le_of_ble_eq_true rfl) dX2_readChoice_45 ⟨Nat.le_of_ble_eq_true rfl, Nat.le_of_ble_eq_true rfl⟩ (fun u H locs hw_19 hP hD hS => ?_)
        obtain ⟨Po_15, fo_16, zo_17, l1o_18⟩ := u
        try dsimp only at hw_19
        have hP : va_P D vwCl [(h0, .inr (2, [.ref tx, .ref lw])), (tx, .inr (6, [.ref tp, .int (nI N), .int (nI Po_15), .int fo_16])), (tp, .inr (5, [.ref by_, .int (nI T)])), (by_, .inl (cI, 260, .inl fb)), (lw, .inr (1, [.ref l1, .ref l2, .ref l3, .ref l4, .ref l5, .ref l6, .ref l7, .int (nI zo_17), .int (nI k)])), (l1, .inl (cI, 240, .inl l1o_18))] H := hP
        have hD : va_D A [(h0, .inr (2, [.ref tx, .ref lw])), (tx, .inr (6, [.ref tp, .int (nI N), .int (nI Po_15), .int fo_16])), (tp, .inr (5, [.ref by_, .int (nI T)])), (by_, .inl (cI, 260, .inl fb)), (lw, .inr (1, [.ref l1, .ref l2, .ref l3, .ref l4, .ref l5, .ref l6, .ref l7, .int (nI zo_17), .int (nI k)])), (l1, .inl (cI, 240, .inl l1o_18))] := hD
        refine lv_aload_n hx hb dX2_readChoice_48 rfl (lv_at hl 1 rfl) ?_
        refine va_get (D := D) (ci := 2) (v := .ref lw) (C := RX2) (T := TX2) (N := 2) hx hb htb itX2 hown hK hP 0 rfl rfl 1 (by decide) (htb _ k_289) (fun _ h9 => h9) rfl dX2_readChoice_49 ?_
        refine lv_iload_n hx hb dX2_readChoice_52 rfl (lv_at hl 0 rfl) ?_
        refine cVV (As := [.int (nI za)]) (rest := []) (n := 1) (ci := 1) (q0 := 0) (wr := [(h0, .inr (2, [.ref tx, .ref lw])), (tx, .inr (6, [.ref tp, .int (nI N), .int (nI Po_15), .int fo_16])), (tp, .inr (5, [.ref by_, .int (nI T)])), (by_, .inl (cI, 260, .inl fb))]) X hN hK hP hD hS hA (c_X1_landSkip l D cI cB _ lw l1 l2 l3 l4 l5 l6 l7 zo_17 k (nI za) l1o_18 hw_19.1 hk) (gV k_645 k_646 k_647 k_97 k_648) (by decide +kernel) ⟨Nat.le_of_ble_eq_true rfl, Nat.le_of_ble_eq_true rfl⟩ ⟨rfl, rfl⟩ [4, 5] [0, 1, 2, 3] rfl rfl (by decide) (by decide) rfl rfl rfl rfl rfl hl.1 (Nat.le_of_ble_eq_true rfl) dX2_readChoice_53 ⟨Nat.le_of_ble_eq_true rfl, Nat.le_of_ble_eq_true rfl⟩ (fun u H locs hw_22 hP hD hS => ?_)
        obtain ⟨l1_fo_21, rfl⟩ : ∃ z, z = u := ⟨_, rfl⟩
        try dsimp only at hw_22
        have hP : va_P D vwCl [(h0, .inr (2, [.ref tx, .ref lw])), (tx, .inr (6, [.ref tp, .int (nI N), .int (nI Po_15), .int fo_16])), (tp, .inr (5, [.ref by_, .int (nI T)])), (by_, .inl (cI, 260, .inl fb)), (lw, .inr (1, [.ref l1, .ref l2, .ref l3, .ref l4, .ref l5, .ref l6, .ref l7, .int (nI zo_17), .int (nI k)])), (l1, .inl (cI, 240, .inl l1_fo_21))] H := hP
        have hD : va_D A [(h0, .inr (2, [.ref tx, .ref lw])), (tx, .inr (6, [.ref tp, .int (nI N), .int (nI Po_15), .int fo_16])), (tp, .inr (5, [.ref by_, .int (nI T)])), (by_, .inl (cI, 260, .inl fb)), (lw, .inr (1, [.ref l1, .ref l2, .ref l3, .ref l4, .ref l5, .ref l6, .ref l7, .int (nI zo_17), .int (nI k)])), (l1, .inl (cI, 240, .inl l1_fo_21))] := hD
        refine lv_iinc (v := (nI (i + 1))) (lv' := [(2, .int (nI (i + 1))), (3, .int (nI za)), (0, .ref h0), (1, .int 6)]) hx hb dX2_readChoice_56 hl (k := 3) rfl (nI_1 i) (by decide) rfl (fun ls hl => ?_)
        refine lv_goto (tgt := 7) hx hb dX2_readChoice_59 (by decide) ?_
        exact ih_7 (i + 1) Po_15 fo_16 zo_17 l1_fo_21 (by omega) hw_19.1 (hq.more hjn hw_19.2.1) (fun z w => by have := (((hw_19.2.1.2.2.2.2 rfl).1 z).1); have := hiP rfl w; omega) hw_19.2.2 _ _ (hP.sub [0, 1, 2, 3, 4, 5] rfl) (hD.sub [0, 1, 2, 3, 4, 5] (by decide) rfl) hS _ (lv_sub hl [2, 3, 0] rfl)
  exact loop_7 240 0 Po_2 fo_3 zo_4 l1o_5 (by omega) hw_6.1 hw_6.2.1 (fun z w => (((hw_6.2.1.2.2.2.2 w).1 z).1 |> fun y => by omega)) hw_6.2.2 _ _ (hP.sub [0, 1, 2, 3, 4, 5] rfl) (hD.sub [0, 1, 2, 3, 4, 5] (by decide) rfl) hS _ (lv_sub hl [1, 2, 0] rfl)

set_option maxRecDepth 100000 in
set_option maxHeartbeats 4000000 in
theorem c_rpP_5 (l : Launch) (D : va_G) (cI cB : ClassId) (sz : Nat) (kk : KT) (h0 : Nat) (tx : Nat) (tp : Nat) (N : Nat) (P : Nat) (fa : Int32) (by_ : Nat) (T : Nat) (fb : Nat → Int32) (lw : Nat) (l1 : Nat) (l2 : Nat) (l3 : Nat) (l4 : Nat) (l5 : Nat) (l6 : Nat) (l7 : Nat) (z : Nat) (k : Nat) (q1 : Nat → Int32) (hT : T ≤ 260) (hNT : N ≤ T) (hPN : P ≤ N) (hN2 : N ≤ 240) (hfa : fa = 0 ∨ fa < 0) (hbr : BR N fb) (hz : z ≤ 240) (hk : k ≤ 16) : MVk (S := ((Nat) × (Int32) × (Nat) × (Nat → Int32))) l D cI cB kk yX2_readPiece cX2_readPiece 4 (rm 11 250) [.ref h0, .int 5] [(h0, .inr (2, [.ref tx, .ref lw])), (tx, .inr (6, [.ref tp, .int (nI N), .int (nI P), .int fa])), (tp, .inr (5, [.ref by_, .int (nI T)])), (by_, .inl (cI, 260, .inl fb)), (lw, .inr (1, [.ref l1, .ref l2, .ref l3, .ref l4, .ref l5, .ref l6, .ref l7, .int (nI z), .int (nI k)])), (l1, .inl (cI, 240, .inl q1))] sz (fun u => u.2.2.1 ≤ 240 ∧ PCQ fb N 1 P u.1 fa u.2.1) (fun u : ((Nat) × (Int32) × (Nat) × (Nat → Int32)) => [(h0, .inr (2, [.ref tx, .ref lw])), (tx, .inr (6, [.ref tp, .int (nI N), .int (nI u.1), .int u.2.1])), (tp, .inr (5, [.ref by_, .int (nI T)])), (by_, .inl (cI, 260, .inl fb)), (lw, .inr (1, [.ref l1, .ref l2, .ref l3, .ref l4, .ref l5, .ref l6, .ref l7, .int (nI u.2.2.1), .int (nI k)])), (l1, .inl (cI, 240, .inl u.2.2.2))]) := by
  refine MVk.of (by decide) (Nat.le_of_ble_eq_true rfl) ?_
  intro p e s m below meth c Q ls A X hin hN hKO hP hK hD hA hl ret
  have hS : va_S A s.heap s.heap [] := va_S.rf
  obtain ⟨hx, hb, hml, hown, htb⟩ := id X
  have hl : lv_has ls 4 [(0, .ref h0), (1, .int 5)] := hl
  refine lv_aload_n hx hb dX2_readPiece_0 rfl (lv_at hl 0 rfl) ?_
  refine va_get (D := D) (ci := 2) (v := .ref tx) (C := RX2) (T := TX2) (N := 2) hx hb htb itX2 hown hK hP 0 rfl rfl 0 (by decide) (htb _ k_288) (fun _ h9 => h9) rfl dX2_readPiece_1 ?_
  refine cVR (As := []) (rest := []) (n := 0) (ci := 6) (q0 := 0) X hN hK hP (c_signP l D cI cB tx tp N P fa by_ T fb hT hNT hPN) (gV k_483 k_484 k_485 k_98 k_486) (by decide +kernel) ⟨Nat.le_of_ble_eq_true rfl, Nat.le_of_ble_eq_true rfl⟩ ⟨rfl, rfl⟩ [1, 2, 3] rfl rfl rfl rfl rfl rfl hl.1 (Nat.le_of_ble_eq_true rfl) dX2_readPiece_4 ⟨Nat.le_of_ble_eq_true rfl, Nat.le_of_ble_eq_true rfl⟩ (fun r_1 hr_1 => ?_)
  subst hr_1
  refine lv_topi (fun x_2 ex_2 => ?_)
  refine lv_istore_n (lv' := [(2, .int x_2), (0, .ref h0), (1, .int 5)]) hx hb dX2_readPiece_7 rfl hl (by decide) rfl (fun ls hl => ?_)
  refine lv_iload_n hx hb dX2_readPiece_8 rfl (lv_at hl 0 rfl) ?_
  refine lv_bipush (v := 33) hx hb dX2_readPiece_9 (by decide) ?_
  refine lv_icmp_ne (tgt := 41) hx hb dX2_readPiece_11 (by decide) (fun c_11 => ?_) (fun c_11 => ?_)
  · refine lv_iload_n hx hb dX2_readPiece_41 rfl (lv_at hl 0 rfl) ?_
    refine lv_bipush (v := 40) hx hb dX2_readPiece_42 (by decide) ?_
    refine lv_icmp_ne (tgt := 74) hx hb dX2_readPiece_44 (by decide) (fun c_44 => ?_) (fun c_44 => ?_)
    · refine lv_aload_n hx hb dX2_readPiece_74 rfl (lv_at hl 1 rfl) ?_
      refine lv_iload_n hx hb dX2_readPiece_75 rfl (lv_at hl 2 rfl) ?_
      refine cVVk (As := [.int 5]) (rest := []) (n := 1) (ci := 2) (q0 := 0) (wr := []) X hN hKO hK hP hD hS hA (c_rsP_5 l D cI cB _ kk h0 tx tp N P fa by_ T fb lw l1 l2 l3 l4 l5 l6 l7 z k q1 hT hNT hPN hN2 hfa hbr hz hk) (gV k_581 k_583 k_2 k_99 k_584) (by decide +kernel) ⟨Nat.le_of_ble_eq_true rfl, Nat.le_of_ble_eq_true rfl⟩ ⟨rfl, rfl⟩ [0, 1, 2, 3, 4, 5] [] rfl rfl (by decide) (by decide) rfl rfl rfl rfl rfl hl.1 (Nat.le_of_ble_eq_true rfl) dX2_readPiece_76 ⟨Nat.le_of_ble_eq_true rfl, Nat.le_of_ble_eq_true rfl⟩ (fun u H locs hw_8 hP hD hS => ?_)
      obtain ⟨Po_4, fo_5, zo_6, l1o_7⟩ := u
      try dsimp only at hw_8
      have hP : va_P D vwCl [(h0, .inr (2, [.ref tx, .ref lw])), (tx, .inr (6, [.ref tp, .int (nI N), .int (nI Po_4), .int fo_5])), (tp, .inr (5, [.ref by_, .int (nI T)])), (by_, .inl (cI, 260, .inl fb)), (lw, .inr (1, [.ref l1, .ref l2, .ref l3, .ref l4, .ref l5, .ref l6, .ref l7, .int (nI zo_6), .int (nI k)])), (l1, .inl (cI, 240, .inl l1o_7))] H := hP
      have hD : va_D A [(h0, .inr (2, [.ref tx, .ref lw])), (tx, .inr (6, [.ref tp, .int (nI N), .int (nI Po_4), .int fo_5])), (tp, .inr (5, [.ref by_, .int (nI T)])), (by_, .inl (cI, 260, .inl fb)), (lw, .inr (1, [.ref l1, .ref l2, .ref l3, .ref l4, .ref l5, .ref l6, .ref l7, .int (nI zo_6), .int (nI k)])), (l1, .inl (cI, 240, .inl l1o_7))] := hD
      refine lv_aload_n hx hb dX2_readPiece_79 rfl (lv_at hl 1 rfl) ?_
      refine cVI (As := []) (rest := []) (n := 0) (ci := 2) (q0 := 0) (wr := [(lw, .inr (1, [.ref l1, .ref l2, .ref l3, .ref l4, .ref l5, .ref l6, .ref l7, .int (nI zo_6), .int (nI k)])), (l1, .inl (cI, 240, .inl l1o_7))]) X hN hK hP hD hS hA (c_comparisonP l D cI cB _ h0 lw tx tp N Po_4 fo_5 by_ T fb hT hNT hw_8.2.1.2.2.2.1) (gV k_640 k_642 k_10 k_99 k_643) (by decide +kernel) ⟨Nat.le_of_ble_eq_true rfl, Nat.le_of_ble_eq_true rfl⟩ ⟨rfl, rfl⟩ [0, 1, 2, 3] [4, 5] rfl rfl (by decide) (by decide) rfl rfl rfl rfl rfl hl.1 (Nat.le_of_ble_eq_true rfl) dX2_readPiece_80 ⟨Nat.le_of_ble_eq_true rfl, Nat.le_of_ble_eq_true rfl⟩ (fun r_9 u H locs hw_12 hP hD hS => ?_)
      obtain ⟨Po_10, fo_11⟩ := u
      try dsimp only at hw_12
      have hP : va_P D vwCl [(lw, .inr (1, [.ref l1, .ref l2, .ref l3, .ref l4, .ref l5, .ref l6, .ref l7, .int (nI zo_6), .int (nI k)])), (l1, .inl (cI, 240, .inl l1o_7)), (h0, .inr (2, [.ref tx, .ref lw])), (tx, .inr (6, [.ref tp, .int (nI N), .int (nI Po_10), .int fo_11])), (tp, .inr (5, [.ref by_, .int (nI T)])), (by_, .inl (cI, 260, .inl fb))] H := hP
      have hD : va_D A [(lw, .inr (1, [.ref l1, .ref l2, .ref l3, .ref l4, .ref l5, .ref l6, .ref l7, .int (nI zo_6), .int (nI k)])), (l1, .inl (cI, 240, .inl l1o_7)), (h0, .inr (2, [.ref tx, .ref lw])), (tx, .inr (6, [.ref tp, .int (nI N), .int (nI Po_10), .int fo_11])), (tp, .inr (5, [.ref by_, .int (nI T)])), (by_, .inl (cI, 260, .inl fb))] := hD
      refine lv_istore_n (lv' := [(3, .int r_9), (2, .int x_2), (0, .ref h0), (1, .int 5)]) hx hb dX2_readPiece_83 rfl hl (by decide) rfl (fun ls hl => ?_)
      refine lv_aload_n hx hb dX2_readPiece_84 rfl (lv_at hl 2 rfl) ?_
      refine lv_iload_n hx hb dX2_readPiece_85 rfl (lv_at hl 3 rfl) ?_
      refine cVVk (As := [.int 5]) (rest := []) (n := 1) (ci := 2) (q0 := 0) (wr := []) X hN hKO hK hP hD hS hA (c_rsP_5 l D cI cB _ kk h0 tx tp N Po_10 fo_11 by_ T fb lw l1 l2 l3 l4 l5 l6 l7 zo_6 k l1o_7 hT hNT hw_12.2.2.2 hN2 (fexp (hw_8.2.1.1) (by have := hw_8.2.1.2.2.2.1; omega) (fun z => (hw_12.1 z).2) (fun z => (hw_12.2.1 z).2)) hbr hw_8.1 hk) (gV k_581 k_583 k_2 k_99 k_584) (by decide +kernel) ⟨Nat.le_of_ble_eq_true rfl, Nat.le_of_ble_eq_true rfl⟩ ⟨rfl, rfl⟩ [2, 3, 4, 5, 0, 1] [] rfl rfl (by decide) (by decide) rfl rfl rfl rfl rfl hl.1 (Nat.le_of_ble_eq_true rfl) dX2_readPiece_86 ⟨Nat.le_of_ble_eq_true rfl, Nat.le_of_ble_eq_true rfl⟩ (fun u H locs hw_18 hP hD hS => ?_)
      obtain ⟨Po_14, fo_15, zo_16, l1o_17⟩ := u
      try dsimp only at hw_18
      have hP : va_P D vwCl [(h0, .inr (2, [.ref tx, .ref lw])), (tx, .inr (6, [.ref tp, .int (nI N), .int (nI Po_14), .int fo_15])), (tp, .inr (5, [.ref by_, .int (nI T)])), (by_, .inl (cI, 260, .inl fb)), (lw, .inr (1, [.ref l1, .ref l2, .ref l3, .ref l4, .ref l5, .ref l6, .ref l7, .int (nI zo_16), .int (nI k)])), (l1, .inl (cI, 240, .inl l1o_17))] H := hP
      have hD : va_D A [(h0, .inr (2, [.ref tx, .ref lw])), (tx, .inr (6, [.ref tp, .int (nI N), .int (nI Po_14), .int fo_15])), (tp, .inr (5, [.ref by_, .int (nI T)])), (by_, .inl (cI, 260, .inl fb)), (lw, .inr (1, [.ref l1, .ref l2, .ref l3, .ref l4, .ref l5, .ref l6, .ref l7, .int (nI zo_16), .int (nI k)])), (l1, .inl (cI, 240, .inl l1o_17))] := hD
      refine lv_aload_n hx hb dX2_readPiece_89 rfl (lv_at hl 2 rfl) ?_
      refine va_get (D := D) (ci := 2) (v := .ref lw) (C := RX2) (T := TX2) (N := 2) hx hb htb itX2 hown hK hP 0 rfl rfl 1 (by decide) (htb _ k_289) (fun _ h9 => h9) rfl dX2_readPiece_90 ?_
      refine lv_iload_n hx hb dX2_readPiece_93 rfl (lv_at hl 0 rfl) ?_
      refine lv_iconst (v := 0) hx hb dX2_readPiece_94 (by decide) ?_
      refine cVV (As := [.int r_9, .int 0]) (rest := []) (n := 2) (ci := 1) (q0 := 0) (wr := [(h0, .inr (2, [.ref tx, .ref lw])), (tx, .inr (6, [.ref tp, .int (nI N), .int (nI Po_14), .int fo_15])), (tp, .inr (5, [.ref by_, .int (nI T)])), (by_, .inl (cI, 260, .inl fb))]) X hN hK hP hD hS hA (c_X1_addStep l D cI cB _ lw l1 l2 l3 l4 l5 l6 l7 zo_16 k r_9 0 l1o_17 hw_18.1 hk) (gV k_594 k_595 k_596 k_97 k_597) (by decide +kernel) ⟨Nat.le_of_ble_eq_true rfl, Nat.le_of_ble_eq_true rfl⟩ ⟨rfl, rfl⟩ [4, 5] [0, 1, 2, 3] rfl rfl (by decide) (by decide) rfl rfl rfl rfl rfl hl.1 (Nat.le_of_ble_eq_true rfl) dX2_readPiece_95 ⟨Nat.le_of_ble_eq_true rfl, Nat.le_of_ble_eq_true rfl⟩ (fun u H locs hw_22 hP hD hS => ?_)
      obtain ⟨zo_20, l1_fo_21⟩ := u
      try dsimp only at hw_22
      have hP : va_P D vwCl [(h0, .inr (2, [.ref tx, .ref lw])), (tx, .inr (6, [.ref tp, .int (nI N), .int (nI Po_14), .int fo_15])), (tp, .inr (5, [.ref by_, .int (nI T)])), (by_, .inl (cI, 260, .inl fb)), (lw, .inr (1, [.ref l1, .ref l2, .ref l3, .ref l4, .ref l5, .ref l6, .ref l7, .int (nI zo_20), .int (nI k)])), (l1, .inl (cI, 240, .inl l1_fo_21))] H := hP
      have hD : va_D A [(h0, .inr (2, [.ref tx, .ref lw])), (tx, .inr (6, [.ref tp, .int (nI N), .int (nI Po_14), .int fo_15])), (tp, .inr (5, [.ref by_, .int (nI T)])), (by_, .inl (cI, 260, .inl fb)), (lw, .inr (1, [.ref l1, .ref l2, .ref l3, .ref l4, .ref l5, .ref l6, .ref l7, .int (nI zo_20), .int (nI k)])), (l1, .inl (cI, 240, .inl l1_fo_21))] := hD
      exact ret _ _ _ _ (Po_14, fo_15, zo_20, l1_fo_21) dX2_readPiece_98 (⟨hw_22, PCQ.cmp (by omega) (fun z => c_11 (ex_2.trans z)) (fun z => c_44 (ex_2.trans z)) hw_8.2.1 hw_8.2.2 hw_12.1 hw_12.2.1 hw_18.2.1 hw_18.2.2⟩) (hP.sub [0, 1, 2, 3, 4, 5] rfl) (hD.sub [0, 1, 2, 3, 4, 5] (by decide) rfl) hS
    · obtain ⟨hf0, hlt, hop⟩ := sQj (v := 40) (by decide) (ex_2.symm.trans c_44)
      subst hf0
      refine lv_aload_n hx hb dX2_readPiece_47 rfl (lv_at hl 1 rfl) ?_
      refine lv_iload_n hx hb dX2_readPiece_48 rfl (lv_at hl 2 rfl) ?_
      refine cVI (As := [.int 5]) (rest := []) (n := 1) (ci := 2) (q0 := 0) (wr := [(tp, .inr (5, [.ref by_, .int (nI T)])), (by_, .inl (cI, 260, .inl fb)), (lw, .inr (1, [.ref l1, .ref l2, .ref l3, .ref l4, .ref l5, .ref l6, .ref l7, .int (nI z), .int (nI k)])), (l1, .inl (cI, 240, .inl q1))]) X hN hK hP hD hS hA (c_opensP l D cI cB _ h0 lw tx tp N P 0 5 hlt) (gV k_598 k_600 k_5 k_99 k_601) (by decide +kernel) ⟨Nat.le_of_ble_eq_true rfl, Nat.le_of_ble_eq_true rfl⟩ ⟨rfl, rfl⟩ [0, 1] [2, 3, 4, 5] rfl rfl (by decide) (by decide) rfl rfl rfl rfl rfl hl.1 (Nat.le_of_ble_eq_true rfl) dX2_readPiece_49 ⟨Nat.le_of_ble_eq_true rfl, Nat.le_of_ble_eq_true rfl⟩ (fun r_23 u H locs hw_26 hP hD hS => ?_)
      obtain ⟨Po_24, fo_25⟩ := u
      try dsimp only at hw_26
      have hP : va_P D vwCl [(tp, .inr (5, [.ref by_, .int (nI T)])), (by_, .inl (cI, 260, .inl fb)), (lw, .inr (1, [.ref l1, .ref l2, .ref l3, .ref l4, .ref l5, .ref l6, .ref l7, .int (nI z), .int (nI k)])), (l1, .inl (cI, 240, .inl q1)), (h0, .inr (2, [.ref tx, .ref lw])), (tx, .inr (6, [.ref tp, .int (nI N), .int (nI Po_24), .int fo_25]))] H := hP
      have hD : va_D A [(tp, .inr (5, [.ref by_, .int (nI T)])), (by_, .inl (cI, 260, .inl fb)), (lw, .inr (1, [.ref l1, .ref l2, .ref l3, .ref l4, .ref l5, .ref l6, .ref l7, .int (nI z), .int (nI k)])), (l1, .inl (cI, 240, .inl q1)), (h0, .inr (2, [.ref tx, .ref lw])), (tx, .inr (6, [.ref tp, .int (nI N), .int (nI Po_24), .int fo_25]))] := hD
      obtain rfl : r_23 = 1 := hw_26.1.trans (by decide)
      obtain ⟨eo1, eo2⟩ := hw_26.2.1 (by decide)
      rw [eo1, eo2] at hP hD
      have hP : va_P D vwCl [(tp, .inr (5, [.ref by_, .int (nI T)])), (by_, .inl (cI, 260, .inl fb)), (lw, .inr (1, [.ref l1, .ref l2, .ref l3, .ref l4, .ref l5, .ref l6, .ref l7, .int (nI z), .int (nI k)])), (l1, .inl (cI, 240, .inl q1)), (h0, .inr (2, [.ref tx, .ref lw])), (tx, .inr (6, [.ref tp, .int (nI N), .int (nI (P + 1)), .int 0]))] H := hP
      have hD : va_D A [(tp, .inr (5, [.ref by_, .int (nI T)])), (by_, .inl (cI, 260, .inl fb)), (lw, .inr (1, [.ref l1, .ref l2, .ref l3, .ref l4, .ref l5, .ref l6, .ref l7, .int (nI z), .int (nI k)])), (l1, .inl (cI, 240, .inl q1)), (h0, .inr (2, [.ref tx, .ref lw])), (tx, .inr (6, [.ref tp, .int (nI N), .int (nI (P + 1)), .int 0]))] := hD
      refine lv_if_eq (tgt := 98) hx hb dX2_readPiece_52 (by decide) (fun c_52 => absurd c_52 (by decide)) (fun _ => ?_)
      refine lv_aload_n hx hb dX2_readPiece_55 rfl (lv_at hl 1 rfl) ?_
      refine lv_iload_n hx hb dX2_readPiece_56 rfl (lv_at hl 2 rfl) ?_
      refine lv_iconst (v := 1) hx hb dX2_readPiece_57 (by decide) ?_
      refine lv_iadd hx hb dX2_readPiece_58 ?_
      refine tv (z := 6) (by decide) ?_
      refine cVVk (As := [.int 6]) (rest := []) (n := 1) (ci := 2) (q0 := 0) (wr := []) X hN hKO hK hP hD hS hA (c_rcP_6 l D cI cB _ kk h0 tx tp N (P + 1) 0 by_ T fb lw l1 l2 l3 l4 l5 l6 l7 z k q1 hT hNT (by omega) hN2 (Or.inl rfl) hbr hz hk) (gV k_628 k_630 k_7 k_99 k_631) (by decide +kernel) ⟨Nat.le_of_ble_eq_true rfl, Nat.le_of_ble_eq_true rfl⟩ ⟨rfl, rfl⟩ [4, 5, 0, 1, 2, 3] [] rfl rfl (by decide) (by decide) rfl rfl rfl rfl rfl hl.1 (Nat.le_of_ble_eq_true rfl) dX2_readPiece_59 ⟨Nat.le_of_ble_eq_true rfl, Nat.le_of_ble_eq_true rfl⟩ (fun u H locs hw_32 hP hD hS => ?_)
      obtain ⟨Po_28, fo_29, zo_30, l1o_31⟩ := u
      try dsimp only at hw_32
      have hP : va_P D vwCl [(h0, .inr (2, [.ref tx, .ref lw])), (tx, .inr (6, [.ref tp, .int (nI N), .int (nI Po_28), .int fo_29])), (tp, .inr (5, [.ref by_, .int (nI T)])), (by_, .inl (cI, 260, .inl fb)), (lw, .inr (1, [.ref l1, .ref l2, .ref l3, .ref l4, .ref l5, .ref l6, .ref l7, .int (nI zo_30), .int (nI k)])), (l1, .inl (cI, 240, .inl l1o_31))] H := hP
      have hD : va_D A [(h0, .inr (2, [.ref tx, .ref lw])), (tx, .inr (6, [.ref tp, .int (nI N), .int (nI Po_28), .int fo_29])), (tp, .inr (5, [.ref by_, .int (nI T)])), (by_, .inl (cI, 260, .inl fb)), (lw, .inr (1, [.ref l1, .ref l2, .ref l3, .ref l4, .ref l5, .ref l6, .ref l7, .int (nI zo_30), .int (nI k)])), (l1, .inl (cI, 240, .inl l1o_31))] := hD
      refine lv_aload_n hx hb dX2_readPiece_62 rfl (lv_at hl 1 rfl) ?_
      refine va_get (D := D) (ci := 2) (v := .ref tx) (C := RX2) (T := TX2) (N := 2) hx hb htb itX2 hown hK hP 0 rfl rfl 0 (by decide) (htb _ k_288) (fun _ h9 => h9) rfl dX2_readPiece_63 ?_
      refine lv_bipush (v := 41) hx hb dX2_readPiece_66 (by decide) ?_
      refine cVV (As := [.int 41]) (rest := []) (n := 1) (ci := 6) (q0 := 0) (wr := [(h0, .inr (2, [.ref tx, .ref lw])), (lw, .inr (1, [.ref l1, .ref l2, .ref l3, .ref l4, .ref l5, .ref l6, .ref l7, .int (nI zo_30), .int (nI k)])), (l1, .inl (cI, 240, .inl l1o_31))]) X hN hK hP hD hS hA (c_expectP l D cI cB _ tx tp N Po_28 fo_29 by_ T fb 41 hT hNT hw_32.2.1.2.2.2.1 (by decide)) (gV k_602 k_603 k_604 k_98 k_605) (by decide +kernel) ⟨Nat.le_of_ble_eq_true rfl, Nat.le_of_ble_eq_true rfl⟩ ⟨rfl, rfl⟩ [1, 2, 3] [0, 4, 5] rfl rfl (by decide) (by decide) rfl rfl rfl rfl rfl hl.1 (Nat.le_of_ble_eq_true rfl) dX2_readPiece_68 ⟨Nat.le_of_ble_eq_true rfl, Nat.le_of_ble_eq_true rfl⟩ (fun u H locs hw_36 hP hD hS => ?_)
      obtain ⟨Po_34, fo_35⟩ := u
      try dsimp only at hw_36
      have hP : va_P D vwCl [(h0, .inr (2, [.ref tx, .ref lw])), (lw, .inr (1, [.ref l1, .ref l2, .ref l3, .ref l4, .ref l5, .ref l6, .ref l7, .int (nI zo_30), .int (nI k)])), (l1, .inl (cI, 240, .inl l1o_31)), (tx, .inr (6, [.ref tp, .int (nI N), .int (nI Po_34), .int fo_35])), (tp, .inr (5, [.ref by_, .int (nI T)])), (by_, .inl (cI, 260, .inl fb))] H := hP
      have hD : va_D A [(h0, .inr (2, [.ref tx, .ref lw])), (lw, .inr (1, [.ref l1, .ref l2, .ref l3, .ref l4, .ref l5, .ref l6, .ref l7, .int (nI zo_30), .int (nI k)])), (l1, .inl (cI, 240, .inl l1o_31)), (tx, .inr (6, [.ref tp, .int (nI N), .int (nI Po_34), .int fo_35])), (tp, .inr (5, [.ref by_, .int (nI T)])), (by_, .inl (cI, 260, .inl fb))] := hD
      refine lv_goto (tgt := 98) hx hb dX2_readPiece_71 (by decide) ?_
      exact ret _ _ _ _ (Po_34, fo_35, zo_30, l1o_31) dX2_readPiece_98 (⟨hw_32.1, PCQ.par (by omega) hop hw_32.2.1 hw_32.2.2 hw_36.1 hw_36.2.1 hw_36.2.2.2⟩) (hP.sub [0, 3, 4, 5, 1, 2] rfl) (hD.sub [0, 3, 4, 5, 1, 2] (by decide) rfl) hS
  · obtain ⟨hf0, hlt, hop⟩ := sQj (v := 33) (by decide) (ex_2.symm.trans c_11)
    subst hf0
    refine lv_aload_n hx hb dX2_readPiece_14 rfl (lv_at hl 1 rfl) ?_
    refine lv_iload_n hx hb dX2_readPiece_15 rfl (lv_at hl 2 rfl) ?_
    refine cVI (As := [.int 5]) (rest := []) (n := 1) (ci := 2) (q0 := 0) (wr := [(tp, .inr (5, [.ref by_, .int (nI T)])), (by_, .inl (cI, 260, .inl fb)), (lw, .inr (1, [.ref l1, .ref l2, .ref l3, .ref l4, .ref l5, .ref l6, .ref l7, .int (nI z), .int (nI k)])), (l1, .inl (cI, 240, .inl q1))]) X hN hK hP hD hS hA (c_opensP l D cI cB _ h0 lw tx tp N P 0 5 hlt) (gV k_598 k_600 k_5 k_99 k_601) (by decide +kernel) ⟨Nat.le_of_ble_eq_true rfl, Nat.le_of_ble_eq_true rfl⟩ ⟨rfl, rfl⟩ [0, 1] [2, 3, 4, 5] rfl rfl (by decide) (by decide) rfl rfl rfl rfl rfl hl.1 (Nat.le_of_ble_eq_true rfl) dX2_readPiece_16 ⟨Nat.le_of_ble_eq_true rfl, Nat.le_of_ble_eq_true rfl⟩ (fun r_37 u H locs hw_40 hP hD hS => ?_)
    obtain ⟨Po_38, fo_39⟩ := u
    try dsimp only at hw_40
    have hP : va_P D vwCl [(tp, .inr (5, [.ref by_, .int (nI T)])), (by_, .inl (cI, 260, .inl fb)), (lw, .inr (1, [.ref l1, .ref l2, .ref l3, .ref l4, .ref l5, .ref l6, .ref l7, .int (nI z), .int (nI k)])), (l1, .inl (cI, 240, .inl q1)), (h0, .inr (2, [.ref tx, .ref lw])), (tx, .inr (6, [.ref tp, .int (nI N), .int (nI Po_38), .int fo_39]))] H := hP
    have hD : va_D A [(tp, .inr (5, [.ref by_, .int (nI T)])), (by_, .inl (cI, 260, .inl fb)), (lw, .inr (1, [.ref l1, .ref l2, .ref l3, .ref l4, .ref l5, .ref l6, .ref l7, .int (nI z), .int (nI k)])), (l1, .inl (cI, 240, .inl q1)), (h0, .inr (2, [.ref tx, .ref lw])), (tx, .inr (6, [.ref tp, .int (nI N), .int (nI Po_38), .int fo_39]))] := hD
    obtain rfl : r_37 = 1 := hw_40.1.trans (by decide)
    obtain ⟨eo1, eo2⟩ := hw_40.2.1 (by decide)
    rw [eo1, eo2] at hP hD
    have hP : va_P D vwCl [(tp, .inr (5, [.ref by_, .int (nI T)])), (by_, .inl (cI, 260, .inl fb)), (lw, .inr (1, [.ref l1, .ref l2, .ref l3, .ref l4, .ref l5, .ref l6, .ref l7, .int (nI z), .int (nI k)])), (l1, .inl (cI, 240, .inl q1)), (h0, .inr (2, [.ref tx, .ref lw])), (tx, .inr (6, [.ref tp, .int (nI N), .int (nI (P + 1)), .int 0]))] H := hP
    have hD : va_D A [(tp, .inr (5, [.ref by_, .int (nI T)])), (by_, .inl (cI, 260, .inl fb)), (lw, .inr (1, [.ref l1, .ref l2, .ref l3, .ref l4, .ref l5, .ref l6, .ref l7, .int (nI z), .int (nI k)])), (l1, .inl (cI, 240, .inl q1)), (h0, .inr (2, [.ref tx, .ref lw])), (tx, .inr (6, [.ref tp, .int (nI N), .int (nI (P + 1)), .int 0]))] := hD
    refine lv_if_eq (tgt := 98) hx hb dX2_readPiece_19 (by decide) (fun c_19 => absurd c_19 (by decide)) (fun _ => ?_)
    refine lv_aload_n hx hb dX2_readPiece_22 rfl (lv_at hl 1 rfl) ?_
    refine lv_iload_n hx hb dX2_readPiece_23 rfl (lv_at hl 2 rfl) ?_
    refine lv_iconst (v := 1) hx hb dX2_readPiece_24 (by decide) ?_
    refine lv_iadd hx hb dX2_readPiece_25 ?_
    refine tv (z := 6) (by decide) ?_
    refine cVVk (As := [.int 6]) (rest := []) (n := 1) (ci := 2) (q0 := 0) (wr := []) X hN hKO hK hP hD hS hA (c_rpP_6 l D cI cB _ kk h0 tx tp N (P + 1) 0 by_ T fb lw l1 l2 l3 l4 l5 l6 l7 z k q1 hT hNT (by omega) hN2 (Or.inl rfl) hbr hz hk) (gV k_636 k_638 k_9 k_99 k_639) (by decide +kernel) ⟨Nat.le_of_ble_eq_true rfl, Nat.le_of_ble_eq_true rfl⟩ ⟨rfl, rfl⟩ [4, 5, 0, 1, 2, 3] [] rfl rfl (by decide) (by decide) rfl rfl rfl rfl rfl hl.1 (Nat.le_of_ble_eq_true rfl) dX2_readPiece_26 ⟨Nat.le_of_ble_eq_true rfl, Nat.le_of_ble_eq_true rfl⟩ (fun u H locs hw_46 hP hD hS => ?_)
    obtain ⟨Po_42, fo_43, zo_44, l1o_45⟩ := u
    try dsimp only at hw_46
    have hP : va_P D vwCl [(h0, .inr (2, [.ref tx, .ref lw])), (tx, .inr (6, [.ref tp, .int (nI N), .int (nI Po_42), .int fo_43])), (tp, .inr (5, [.ref by_, .int (nI T)])), (by_, .inl (cI, 260, .inl fb)), (lw, .inr (1, [.ref l1, .ref l2, .ref l3, .ref l4, .ref l5, .ref l6, .ref l7, .int (nI zo_44), .int (nI k)])), (l1, .inl (cI, 240, .inl l1o_45))] H := hP
    have hD : va_D A [(h0, .inr (2, [.ref tx, .ref lw])), (tx, .inr (6, [.ref tp, .int (nI N), .int (nI Po_42), .int fo_43])), (tp, .inr (5, [.ref by_, .int (nI T)])), (by_, .inl (cI, 260, .inl fb)), (lw, .inr (1, [.ref l1, .ref l2, .ref l3, .ref l4, .ref l5, .ref l6, .ref l7, .int (nI zo_44), .int (nI k)])), (l1, .inl (cI, 240, .inl l1o_45))] := hD
    refine lv_aload_n hx hb dX2_readPiece_29 rfl (lv_at hl 1 rfl) ?_
    refine va_get (D := D) (ci := 2) (v := .ref lw) (C := RX2) (T := TX2) (N := 2) hx hb htb itX2 hown hK hP 0 rfl rfl 1 (by decide) (htb _ k_289) (fun _ h9 => h9) rfl dX2_readPiece_30 ?_
    refine lv_iconst (v := 2) hx hb dX2_readPiece_33 (by decide) ?_
    refine lv_iconst (v := 0) hx hb dX2_readPiece_34 (by decide) ?_
    refine cVV (As := [.int 2, .int 0]) (rest := []) (n := 2) (ci := 1) (q0 := 0) (wr := [(h0, .inr (2, [.ref tx, .ref lw])), (tx, .inr (6, [.ref tp, .int (nI N), .int (nI Po_42), .int fo_43])), (tp, .inr (5, [.ref by_, .int (nI T)])), (by_, .inl (cI, 260, .inl fb))]) X hN hK hP hD hS hA (c_X1_addStep l D cI cB _ lw l1 l2 l3 l4 l5 l6 l7 zo_44 k 2 0 l1o_45 hw_46.1 hk) (gV k_594 k_595 k_596 k_97 k_597) (by decide +kernel) ⟨Nat.le_of_ble_eq_true rfl, Nat.le_of_ble_eq_true rfl⟩ ⟨rfl, rfl⟩ [4, 5] [0, 1, 2, 3] rfl rfl (by decide) (by decide) rfl rfl rfl rfl rfl hl.1 (Nat.le_of_ble_eq_true rfl) dX2_readPiece_35 ⟨Nat.le_of_ble_eq_true rfl, Nat.le_of_ble_eq_true rfl⟩ (fun u H locs hw_50 hP hD hS => ?_)
    obtain ⟨zo_48, l1_fo_49⟩ := u
    try dsimp only at hw_50
    have hP : va_P D vwCl [(h0, .inr (2, [.ref tx, .ref lw])), (tx, .inr (6, [.ref tp, .int (nI N), .int (nI Po_42), .int fo_43])), (tp, .inr (5, [.ref by_, .int (nI T)])), (by_, .inl (cI, 260, .inl fb)), (lw, .inr (1, [.ref l1, .ref l2, .ref l3, .ref l4, .ref l5, .ref l6, .ref l7, .int (nI zo_48), .int (nI k)])), (l1, .inl (cI, 240, .inl l1_fo_49))] H := hP
    have hD : va_D A [(h0, .inr (2, [.ref tx, .ref lw])), (tx, .inr (6, [.ref tp, .int (nI N), .int (nI Po_42), .int fo_43])), (tp, .inr (5, [.ref by_, .int (nI T)])), (by_, .inl (cI, 260, .inl fb)), (lw, .inr (1, [.ref l1, .ref l2, .ref l3, .ref l4, .ref l5, .ref l6, .ref l7, .int (nI zo_48), .int (nI k)])), (l1, .inl (cI, 240, .inl l1_fo_49))] := hD
    refine lv_goto (tgt := 98) hx hb dX2_readPiece_38 (by decide) ?_
    exact ret _ _ _ _ (Po_42, fo_43, zo_48, l1_fo_49) dX2_readPiece_98 (⟨hw_50, PCQ.no hop hw_46.2⟩) (hP.sub [0, 1, 2, 3, 4, 5] rfl) (hD.sub [0, 1, 2, 3, 4, 5] (by decide) rfl) hS

set_option maxRecDepth 100000 in
set_option maxHeartbeats 4000000 in
theorem c_raP_5 (l : Launch) (D : va_G) (cI cB : ClassId) (sz : Nat) (kk : KT) (h0 : Nat) (tx : Nat) (tp : Nat) (N : Nat) (P : Nat) (fa : Int32) (by_ : Nat) (T : Nat) (fb : Nat → Int32) (lw : Nat) (l1 : Nat) (l2 : Nat) (l3 : Nat) (l4 : Nat) (l5 : Nat) (l6 : Nat) (l7 : Nat) (z : Nat) (k : Nat) (q1 : Nat → Int32) (hT : T ≤ 260) (hNT : N ≤ T) (hPN : P ≤ N) (hN2 : N ≤ 240) (hfa : fa = 0 ∨ fa < 0) (hbr : BR N fb) (hz : z ≤ 240) (hk : k ≤ 16) : MVk (S := ((Nat) × (Int32) × (Nat) × (Nat → Int32))) l D cI cB kk yX2_readPart cX2_readPart 4 (rm 12 273) [.ref h0, .int 5] [(h0, .inr (2, [.ref tx, .ref lw])), (tx, .inr (6, [.ref tp, .int (nI N), .int (nI P), .int fa])), (tp, .inr (5, [.ref by_, .int (nI T)])), (by_, .inl (cI, 260, .inl fb)), (lw, .inr (1, [.ref l1, .ref l2, .ref l3, .ref l4, .ref l5, .ref l6, .ref l7, .int (nI z), .int (nI k)])), (l1, .inl (cI, 240, .inl q1))] sz (fun u => u.2.2.1 ≤ 240 ∧ PTQ fb N 1 P u.1 fa u.2.1 ∧ (u.2.1 = 0 → ¬ chF fb N u.1 = 38)) (fun u : ((Nat) × (Int32) × (Nat) × (Nat → Int32)) => [(h0, .inr (2, [.ref tx, .ref lw])), (tx, .inr (6, [.ref tp, .int (nI N), .int (nI u.1), .int u.2.1])), (tp, .inr (5, [.ref by_, .int (nI T)])), (by_, .inl (cI, 260, .inl fb)), (lw, .inr (1, [.ref l1, .ref l2, .ref l3, .ref l4, .ref l5, .ref l6, .ref l7, .int (nI u.2.2.1), .int (nI k)])), (l1, .inl (cI, 240, .inl u.2.2.2))]) := by
  refine MVk.of (by decide) (Nat.le_of_ble_eq_true rfl) ?_
  intro p e s m below meth c Q ls A X hin hN hKO hP hK hD hA hl ret
  have hS : va_S A s.heap s.heap [] := va_S.rf
  obtain ⟨hx, hb, hml, hown, htb⟩ := id X
  have hl : lv_has ls 4 [(0, .ref h0), (1, .int 5)] := hl
  refine lv_aload_n hx hb dX2_readPart_0 rfl (lv_at hl 0 rfl) ?_
  refine lv_iload_n hx hb dX2_readPart_1 rfl (lv_at hl 1 rfl) ?_
  refine cVVk (As := [.int 5]) (rest := []) (n := 1) (ci := 2) (q0 := 0) (wr := []) X hN hKO hK hP hD hS hA (c_rpP_5 l D cI cB _ kk h0 tx tp N P fa by_ T fb lw l1 l2 l3 l4 l5 l6 l7 z k q1 hT hNT hPN hN2 hfa hbr hz hk) (gV k_636 k_638 k_9 k_99 k_639) (by decide +kernel) ⟨Nat.le_of_ble_eq_true rfl, Nat.le_of_ble_eq_true rfl⟩ ⟨rfl, rfl⟩ [0, 1, 2, 3, 4, 5] [] rfl rfl (by decide) (by decide) rfl rfl rfl rfl rfl hl.1 (Nat.le_of_ble_eq_true rfl) dX2_readPart_2 ⟨Nat.le_of_ble_eq_true rfl, Nat.le_of_ble_eq_true rfl⟩ (fun u H locs hw_6 hP hD hS => ?_)
  obtain ⟨Po_2, fo_3, zo_4, l1o_5⟩ := u
  try dsimp only at hw_6
  have hP : va_P D vwCl [(h0, .inr (2, [.ref tx, .ref lw])), (tx, .inr (6, [.ref tp, .int (nI N), .int (nI Po_2), .int fo_3])), (tp, .inr (5, [.ref by_, .int (nI T)])), (by_, .inl (cI, 260, .inl fb)), (lw, .inr (1, [.ref l1, .ref l2, .ref l3, .ref l4, .ref l5, .ref l6, .ref l7, .int (nI zo_4), .int (nI k)])), (l1, .inl (cI, 240, .inl l1o_5))] H := hP
  have hD : va_D A [(h0, .inr (2, [.ref tx, .ref lw])), (tx, .inr (6, [.ref tp, .int (nI N), .int (nI Po_2), .int fo_3])), (tp, .inr (5, [.ref by_, .int (nI T)])), (by_, .inl (cI, 260, .inl fb)), (lw, .inr (1, [.ref l1, .ref l2, .ref l3, .ref l4, .ref l5, .ref l6, .ref l7, .int (nI zo_4), .int (nI k)])), (l1, .inl (cI, 240, .inl l1o_5))] := hD
  refine lv_iconst (v := 0) hx hb dX2_readPart_5 (by decide) ?_
  refine lv_istore_n (lv' := [(2, .int 0), (0, .ref h0), (1, .int 5)]) hx hb dX2_readPart_6 rfl hl (by decide) rfl (fun ls hl => ?_)
  have loop_7 : ∀ (n i : Nat) (Pa : Nat) (fv : Int32) (za : Nat) (qa : Nat → Int32), n + i = 240 → (za ≤ 240) → (PTQ fb N 1 P Pa fa fv) → (fv = 0 → fa = 0 → i < Pa) → ∀ (H : Heap) (locs : List Loc), va_P D vwCl [(h0, .inr (2, [.ref tx, .ref lw])), (tx, .inr (6, [.ref tp, .int (nI N), .int (nI Pa), .int fv])), (tp, .inr (5, [.ref by_, .int (nI T)])), (by_, .inl (cI, 260, .inl fb)), (lw, .inr (1, [.ref l1, .ref l2, .ref l3, .ref l4, .ref l5, .ref l6, .ref l7, .int (nI za), .int (nI k)])), (l1, .inl (cI, 240, .inl qa))] H → va_D A [(h0, .inr (2, [.ref tx, .ref lw])), (tx, .inr (6, [.ref tp, .int (nI N), .int (nI Pa), .int fv])), (tp, .inr (5, [.ref by_, .int (nI T)])), (by_, .inl (cI, 260, .inl fb)), (lw, .inr (1, [.ref l1, .ref l2, .ref l3, .ref l4, .ref l5, .ref l6, .ref l7, .int (nI za), .int (nI k)])), (l1, .inl (cI, 240, .inl qa))] → va_S A s.heap H locs → ∀ (ls : Array Slot), lv_has ls 4 [(0, .ref h0), (1, .int 5), (2, .int (nI i))] → W p l e (rm 12 273) s m ([.ref h0, .int 5] : List Value).toArray below meth c H locs 0 0 Q (F0 m 7 ls []) := by
    intro n
    induction n with
    | zero =>
      intro i Pa fv za qa hni hza hq hiP H locs hP hD hS ls hl
      have hni_7 := hni
      have hi : i = 240 := by omega
      refine lv_iload_n hx hb dX2_readPart_7 rfl (lv_at hl 2 rfl) ?_
      refine lv_sipush (v := 240) hx hb dX2_readPart_8 (by decide) ?_
      refine lv_icmp_ge (tgt := 62) hx hb dX2_readPart_11 (by decide) (fun _ => ?_) (fun c_11 => absurd (by rw [hi]; decide) c_11)
      exact ret _ _ _ _ (Pa, fv, za, qa) dX2_readPart_62 (⟨hza, ⟨hq, fun z => absurd z (fun z => by have h2 := hq.2.1; have h4 := hq.2.2.2.1; exact (Classical.em (fa = 0)).elim (fun w => by have := hiP z w; omega) (fun w => w ((h2 w).symm.trans z)))⟩⟩) (hP.sub [0, 1, 2, 3, 4, 5] rfl) (hD.sub [0, 1, 2, 3, 4, 5] (by decide) rfl) hS
    | succ n ih_7 =>
      intro i Pa fv za qa hni hza hq hiP H locs hP hD hS ls hl
      have hni_7 := hni
      have hi : i < 240 := by omega
      refine lv_iload_n hx hb dX2_readPart_7 rfl (lv_at hl 2 rfl) ?_
      refine lv_sipush (v := 240) hx hb dX2_readPart_8 (by decide) ?_
      refine lv_icmp_ge (tgt := 62) hx hb dX2_readPart_11 (by decide) (fun c_11 => absurd c_11 (nI_ge hi (by decide))) (fun _ => ?_)
      refine lv_aload_n hx hb dX2_readPart_14 rfl (lv_at hl 0 rfl) ?_
      refine va_get (D := D) (ci := 2) (v := .ref tx) (C := RX2) (T := TX2) (N := 2) hx hb htb itX2 hown hK hP 0 rfl rfl 0 (by decide) (htb _ k_288) (fun _ h9 => h9) rfl dX2_readPart_15 ?_
      refine lv_bipush (v := 38) hx hb dX2_readPart_18 (by decide) ?_
      refine cVI (As := [.int 38]) (rest := []) (n := 1) (ci := 6) (q0 := 0) (wr := [(h0, .inr (2, [.ref tx, .ref lw])), (lw, .inr (1, [.ref l1, .ref l2, .ref l3, .ref l4, .ref l5, .ref l6, .ref l7, .int (nI za), .int (nI k)])), (l1, .inl (cI, 240, .inl qa))]) X hN hK hP hD hS hA (c_skipP l D cI cB _ tx tp N Pa fv by_ T fb 38 hT hNT hq.2.2.2.1 (by decide)) (gV k_644 k_607 k_608 k_98 k_609) (by decide +kernel) ⟨Nat.le_of_ble_eq_true rfl, Nat.le_of_ble_eq_true rfl⟩ ⟨rfl, rfl⟩ [1, 2, 3] [0, 4, 5] rfl rfl (by decide) (by decide) rfl rfl rfl rfl rfl hl.1 (Nat.le_of_ble_eq_true rfl) dX2_readPart_20 ⟨Nat.le_of_ble_eq_true rfl, Nat.le_of_ble_eq_true rfl⟩ (fun r_7 u H locs hw_9 hP hD hS => ?_)
      obtain ⟨Po_8, rfl⟩ : ∃ z, z = u := ⟨_, rfl⟩
      try dsimp only at hw_9
      have hP : va_P D vwCl [(h0, .inr (2, [.ref tx, .ref lw])), (lw, .inr (1, [.ref l1, .ref l2, .ref l3, .ref l4, .ref l5, .ref l6, .ref l7, .int (nI za), .int (nI k)])), (l1, .inl (cI, 240, .inl qa)), (tx, .inr (6, [.ref tp, .int (nI N), .int (nI Po_8), .int fv])), (tp, .inr (5, [.ref by_, .int (nI T)])), (by_, .inl (cI, 260, .inl fb))] H := hP
      have hD : va_D A [(h0, .inr (2, [.ref tx, .ref lw])), (lw, .inr (1, [.ref l1, .ref l2, .ref l3, .ref l4, .ref l5, .ref l6, .ref l7, .int (nI za), .int (nI k)])), (l1, .inl (cI, 240, .inl qa)), (tx, .inr (6, [.ref tp, .int (nI N), .int (nI Po_8), .int fv])), (tp, .inr (5, [.ref by_, .int (nI T)])), (by_, .inl (cI, 260, .inl fb))] := hD
      refine lv_if_eq (tgt := 62) hx hb dX2_readPart_23 (by decide) (fun c_23 => ?_) (fun c_23 => ?_)
      · have hsn := bIf (hw_9.1.symm.trans c_23)
        have hpl := hw_9.2.2.1 hsn
        rw [hpl] at hP hD
        have hP : va_P D vwCl [(h0, .inr (2, [.ref tx, .ref lw])), (lw, .inr (1, [.ref l1, .ref l2, .ref l3, .ref l4, .ref l5, .ref l6, .ref l7, .int (nI za), .int (nI k)])), (l1, .inl (cI, 240, .inl qa)), (tx, .inr (6, [.ref tp, .int (nI N), .int (nI Pa), .int fv])), (tp, .inr (5, [.ref by_, .int (nI T)])), (by_, .inl (cI, 260, .inl fb))] H := hP
        have hD : va_D A [(h0, .inr (2, [.ref tx, .ref lw])), (lw, .inr (1, [.ref l1, .ref l2, .ref l3, .ref l4, .ref l5, .ref l6, .ref l7, .int (nI za), .int (nI k)])), (l1, .inl (cI, 240, .inl qa)), (tx, .inr (6, [.ref tp, .int (nI N), .int (nI Pa), .int fv])), (tp, .inr (5, [.ref by_, .int (nI T)])), (by_, .inl (cI, 260, .inl fb))] := hD
        exact ret _ _ _ _ (Pa, fv, za, qa) dX2_readPart_62 (⟨hza, ⟨hq, fun (z : fv = 0) => by have w1 := hsn; rw [z, sQ0] at w1; exact w1⟩⟩) (hP.sub [0, 3, 4, 5, 1, 2] rfl) (hD.sub [0, 3, 4, 5, 1, 2] (by decide) rfl) hS
      · have hsk := bIt (fun z => c_23 (hw_9.1.trans z))
        obtain ⟨hf0, hlt, hch⟩ := sQj (by decide) hsk
        have hpl := hw_9.2.1 hsk
        subst hf0
        have hjn : JN2 (chF fb N Pa) := Or.inl hch
        rw [hpl] at hP hD
        have hP : va_P D vwCl [(h0, .inr (2, [.ref tx, .ref lw])), (lw, .inr (1, [.ref l1, .ref l2, .ref l3, .ref l4, .ref l5, .ref l6, .ref l7, .int (nI za), .int (nI k)])), (l1, .inl (cI, 240, .inl qa)), (tx, .inr (6, [.ref tp, .int (nI N), .int (nI (Pa + 1)), .int 0])), (tp, .inr (5, [.ref by_, .int (nI T)])), (by_, .inl (cI, 260, .inl fb))] H := hP
        have hD : va_D A [(h0, .inr (2, [.ref tx, .ref lw])), (lw, .inr (1, [.ref l1, .ref l2, .ref l3, .ref l4, .ref l5, .ref l6, .ref l7, .int (nI za), .int (nI k)])), (l1, .inl (cI, 240, .inl qa)), (tx, .inr (6, [.ref tp, .int (nI N), .int (nI (Pa + 1)), .int 0])), (tp, .inr (5, [.ref by_, .int (nI T)])), (by_, .inl (cI, 260, .inl fb))] := hD
        refine lv_aload_n hx hb dX2_readPart_26 rfl (lv_at hl 0 rfl) ?_
        refine va_get (D := D) (ci := 2) (v := .ref lw) (C := RX2) (T := TX2) (N := 2) hx hb htb itX2 hown hK hP 0 rfl rfl 1 (by decide) (htb _ k_289) (fun _ h9 => h9) rfl dX2_readPart_27 ?_
        refine va_getN (D := D) (ci := 1) (v := .int (nI za)) (C := RX1) (T := TX1) (N := 9) hx hb htb itX1 hown hK hP 1 rfl rfl 7 (by decide) (va_Nw.use rfl (hN _ n_232 rfl)) (fun _ h9 => h9) rfl dX2_readPart_30 ?_
        refine lv_istore_n (lv' := [(3, .int (nI za)), (0, .ref h0), (1, .int 5), (2, .int (nI i))]) hx hb dX2_readPart_33 rfl hl (by decide) rfl (fun ls hl => ?_)
        refine lv_aload_n hx hb dX2_readPart_34 rfl (lv_at hl 1 rfl) ?_
        refine va_get (D := D) (ci := 2) (v := .ref lw) (C := RX2) (T := TX2) (N := 2) hx hb htb itX2 hown hK hP 0 rfl rfl 1 (by decide) (htb _ k_289) (fun _ h9 => h9) rfl dX2_readPart_35 ?_
        refine lv_iconst (v := 4) hx hb dX2_readPart_38 (by decide) ?_
        refine lv_iconst (v := 0) hx hb dX2_readPart_39 (by decide) ?_
        refine cVV (As := [.int 4, .int 0]) (rest := []) (n := 2) (ci := 1) (q0 := 0) (wr := [(h0, .inr (2, [.ref tx, .ref lw])), (tx, .inr (6, [.ref tp, .int (nI N), .int (nI (Pa + 1)), .int 0])), (tp, .inr (5, [.ref by_, .int (nI T)])), (by_, .inl (cI, 260, .inl fb))]) X hN hK hP hD hS hA (c_X1_addStep l D cI cB _ lw l1 l2 l3 l4 l5 l6 l7 za k 4 0 qa hza hk) (gV k_594 k_595 k_596 k_97 k_597) (by decide +kernel) ⟨Nat.le_of_ble_eq_true rfl, Nat.le_of_ble_eq_true rfl⟩ ⟨rfl, rfl⟩ [1, 2] [0, 3, 4, 5] rfl rfl (by decide) (by decide) rfl rfl rfl rfl rfl hl.1 (Nat.le_of_ble_eq_true rfl) dX2_readPart_40 ⟨Nat.le_of_ble_eq_true rfl, Nat.le_of_ble_eq_true rfl⟩ (fun u H locs hw_13 hP hD hS => ?_)
        obtain ⟨zo_11, l1_fo_12⟩ := u
        try dsimp only at hw_13
        have hP : va_P D vwCl [(h0, .inr (2, [.ref tx, .ref lw])), (tx, .inr (6, [.ref tp, .int (nI N), .int (nI (Pa + 1)), .int 0])), (tp, .inr (5, [.ref by_, .int (nI T)])), (by_, .inl (cI, 260, .inl fb)), (lw, .inr (1, [.ref l1, .ref l2, .ref l3, .ref l4, .ref l5, .ref l6, .ref l7, .int (nI zo_11), .int (nI k)])), (l1, .inl (cI, 240, .inl l1_fo_12))] H := hP
        have hD : va_D A [(h0, .inr (2, [.ref tx, .ref lw])), (tx, .inr (6, [.ref tp, .int (nI N), .int (nI (Pa + 1)), .int 0])), (tp, .inr (5, [.ref by_, .int (nI T)])), (by_, .inl (cI, 260, .inl fb)), (lw, .inr (1, [.ref l1, .ref l2, .ref l3, .ref l4, .ref l5, .ref l6, .ref l7, .int (nI zo_11), .int (nI k)])), (l1, .inl (cI, 240, .inl l1_fo_12))] := hD
        refine lv_aload_n hx hb dX2_readPart_43 rfl (lv_at hl 1 rfl) ?_
        refine lv_iload_n hx hb dX2_readPart_44 rfl (lv_at hl 2 rfl) ?_
        refine cVVk (As := [.int 5]) (rest := []) (n := 1) (ci := 2) (q0 := 0) (wr := []) X hN hKO hK hP hD hS hA (c_rpP_5 l D cI cB _ kk h0 tx tp N (Pa + 1) 0 by_ T fb lw l1 l2 l3 l4 l5 l6 l7 zo_11 k l1_fo_12 hT hNT (by omega) hN2 (Or.inl rfl) hbr hw_13 hk) (gV k_636 k_638 k_9 k_99 k_639) (by decide +kernel) ⟨Nat.le_of_ble_eq_true rfl, Nat.le_of_ble_eq_true rfl⟩ ⟨rfl, rfl⟩ [0, 1, 2, 3, 4, 5] [] rfl rfl (by decide) (by decide) rfl rfl rfl rfl rfl hl.1 (Nat.le_of_ble_eq_true rfl) dX2_readPart_45 ⟨Nat.le_of_ble_eq_true rfl, Nat.le_of_ble_eq_true rfl⟩ (fun u H locs hw_19 hP hD hS => ?_)
        obtain ⟨Po_15, fo_16, zo_17, l1o_18⟩ := u
        try dsimp only at hw_19
        have hP : va_P D vwCl [(h0, .inr (2, [.ref tx, .ref lw])), (tx, .inr (6, [.ref tp, .int (nI N), .int (nI Po_15), .int fo_16])), (tp, .inr (5, [.ref by_, .int (nI T)])), (by_, .inl (cI, 260, .inl fb)), (lw, .inr (1, [.ref l1, .ref l2, .ref l3, .ref l4, .ref l5, .ref l6, .ref l7, .int (nI zo_17), .int (nI k)])), (l1, .inl (cI, 240, .inl l1o_18))] H := hP
        have hD : va_D A [(h0, .inr (2, [.ref tx, .ref lw])), (tx, .inr (6, [.ref tp, .int (nI N), .int (nI Po_15), .int fo_16])), (tp, .inr (5, [.ref by_, .int (nI T)])), (by_, .inl (cI, 260, .inl fb)), (lw, .inr (1, [.ref l1, .ref l2, .ref l3, .ref l4, .ref l5, .ref l6, .ref l7, .int (nI zo_17), .int (nI k)])), (l1, .inl (cI, 240, .inl l1o_18))] := hD
        refine lv_aload_n hx hb dX2_readPart_48 rfl (lv_at hl 1 rfl) ?_
        refine va_get (D := D) (ci := 2) (v := .ref lw) (C := RX2) (T := TX2) (N := 2) hx hb htb itX2 hown hK hP 0 rfl rfl 1 (by decide) (htb _ k_289) (fun _ h9 => h9) rfl dX2_readPart_49 ?_
        refine lv_iload_n hx hb dX2_readPart_52 rfl (lv_at hl 0 rfl) ?_
        refine cVV (As := [.int (nI za)]) (rest := []) (n := 1) (ci := 1) (q0 := 0) (wr := [(h0, .inr (2, [.ref tx, .ref lw])), (tx, .inr (6, [.ref tp, .int (nI N), .int (nI Po_15), .int fo_16])), (tp, .inr (5, [.ref by_, .int (nI T)])), (by_, .inl (cI, 260, .inl fb))]) X hN hK hP hD hS hA (c_X1_landSkip l D cI cB _ lw l1 l2 l3 l4 l5 l6 l7 zo_17 k (nI za) l1o_18 hw_19.1 hk) (gV k_645 k_646 k_647 k_97 k_648) (by decide +kernel) ⟨Nat.le_of_ble_eq_true rfl, Nat.le_of_ble_eq_true rfl⟩ ⟨rfl, rfl⟩ [4, 5] [0, 1, 2, 3] rfl rfl (by decide) (by decide) rfl rfl rfl rfl rfl hl.1 (Nat.le_of_ble_eq_true rfl) dX2_readPart_53 ⟨Nat.le_of_ble_eq_true rfl, Nat.le_of_ble_eq_true rfl⟩ (fun u H locs hw_22 hP hD hS => ?_)
        obtain ⟨l1_fo_21, rfl⟩ : ∃ z, z = u := ⟨_, rfl⟩
        try dsimp only at hw_22
        have hP : va_P D vwCl [(h0, .inr (2, [.ref tx, .ref lw])), (tx, .inr (6, [.ref tp, .int (nI N), .int (nI Po_15), .int fo_16])), (tp, .inr (5, [.ref by_, .int (nI T)])), (by_, .inl (cI, 260, .inl fb)), (lw, .inr (1, [.ref l1, .ref l2, .ref l3, .ref l4, .ref l5, .ref l6, .ref l7, .int (nI zo_17), .int (nI k)])), (l1, .inl (cI, 240, .inl l1_fo_21))] H := hP
        have hD : va_D A [(h0, .inr (2, [.ref tx, .ref lw])), (tx, .inr (6, [.ref tp, .int (nI N), .int (nI Po_15), .int fo_16])), (tp, .inr (5, [.ref by_, .int (nI T)])), (by_, .inl (cI, 260, .inl fb)), (lw, .inr (1, [.ref l1, .ref l2, .ref l3, .ref l4, .ref l5, .ref l6, .ref l7, .int (nI zo_17), .int (nI k)])), (l1, .inl (cI, 240, .inl l1_fo_21))] := hD
        refine lv_iinc (v := (nI (i + 1))) (lv' := [(2, .int (nI (i + 1))), (3, .int (nI za)), (0, .ref h0), (1, .int 5)]) hx hb dX2_readPart_56 hl (k := 3) rfl (nI_1 i) (by decide) rfl (fun ls hl => ?_)
        refine lv_goto (tgt := 7) hx hb dX2_readPart_59 (by decide) ?_
        exact ih_7 (i + 1) Po_15 fo_16 zo_17 l1_fo_21 (by omega) hw_19.1 (hq.more hjn hw_19.2.pt) (fun z w => by have := (((hw_19.2.2.2.2.2 rfl).1 z).1); have := hiP rfl w; omega) _ _ (hP.sub [0, 1, 2, 3, 4, 5] rfl) (hD.sub [0, 1, 2, 3, 4, 5] (by decide) rfl) hS _ (lv_sub hl [2, 3, 0] rfl)
  exact loop_7 240 0 Po_2 fo_3 zo_4 l1o_5 (by omega) hw_6.1 hw_6.2.pt (fun z w => (((hw_6.2.2.2.2.2 w).1 z).1 |> fun y => by omega)) _ _ (hP.sub [0, 1, 2, 3, 4, 5] rfl) (hD.sub [0, 1, 2, 3, 4, 5] (by decide) rfl) hS _ (lv_sub hl [1, 2, 0] rfl)

set_option maxRecDepth 100000 in
set_option maxHeartbeats 4000000 in
theorem c_rcP_5 (l : Launch) (D : va_G) (cI cB : ClassId) (sz : Nat) (kk : KT) (h0 : Nat) (tx : Nat) (tp : Nat) (N : Nat) (P : Nat) (fa : Int32) (by_ : Nat) (T : Nat) (fb : Nat → Int32) (lw : Nat) (l1 : Nat) (l2 : Nat) (l3 : Nat) (l4 : Nat) (l5 : Nat) (l6 : Nat) (l7 : Nat) (z : Nat) (k : Nat) (q1 : Nat → Int32) (hT : T ≤ 260) (hNT : N ≤ T) (hPN : P ≤ N) (hN2 : N ≤ 240) (hfa : fa = 0 ∨ fa < 0) (hbr : BR N fb) (hz : z ≤ 240) (hk : k ≤ 16) : MVk (S := ((Nat) × (Int32) × (Nat) × (Nat → Int32))) l D cI cB kk yX2_readChoice cX2_readChoice 4 (rm 13 296) [.ref h0, .int 5] [(h0, .inr (2, [.ref tx, .ref lw])), (tx, .inr (6, [.ref tp, .int (nI N), .int (nI P), .int fa])), (tp, .inr (5, [.ref by_, .int (nI T)])), (by_, .inl (cI, 260, .inl fb)), (lw, .inr (1, [.ref l1, .ref l2, .ref l3, .ref l4, .ref l5, .ref l6, .ref l7, .int (nI z), .int (nI k)])), (l1, .inl (cI, 240, .inl q1))] sz (fun u => u.2.2.1 ≤ 240 ∧ PTQ fb N 1 P u.1 fa u.2.1 ∧ (u.2.1 = 0 → ¬ JN2 (chF fb N u.1))) (fun u : ((Nat) × (Int32) × (Nat) × (Nat → Int32)) => [(h0, .inr (2, [.ref tx, .ref lw])), (tx, .inr (6, [.ref tp, .int (nI N), .int (nI u.1), .int u.2.1])), (tp, .inr (5, [.ref by_, .int (nI T)])), (by_, .inl (cI, 260, .inl fb)), (lw, .inr (1, [.ref l1, .ref l2, .ref l3, .ref l4, .ref l5, .ref l6, .ref l7, .int (nI u.2.2.1), .int (nI k)])), (l1, .inl (cI, 240, .inl u.2.2.2))]) := by
  refine MVk.of (by decide) (Nat.le_of_ble_eq_true rfl) ?_
  intro p e s m below meth c Q ls A X hin hN hKO hP hK hD hA hl ret
  have hS : va_S A s.heap s.heap [] := va_S.rf
  obtain ⟨hx, hb, hml, hown, htb⟩ := id X
  have hl : lv_has ls 4 [(0, .ref h0), (1, .int 5)] := hl
  refine lv_aload_n hx hb dX2_readChoice_0 rfl (lv_at hl 0 rfl) ?_
  refine lv_iload_n hx hb dX2_readChoice_1 rfl (lv_at hl 1 rfl) ?_
  refine cVVk (As := [.int 5]) (rest := []) (n := 1) (ci := 2) (q0 := 0) (wr := []) X hN hKO hK hP hD hS hA (c_raP_5 l D cI cB _ kk h0 tx tp N P fa by_ T fb lw l1 l2 l3 l4 l5 l6 l7 z k q1 hT hNT hPN hN2 hfa hbr hz hk) (gV k_632 k_634 k_8 k_99 k_635) (by decide +kernel) ⟨Nat.le_of_ble_eq_true rfl, Nat.le_of_ble_eq_true rfl⟩ ⟨rfl, rfl⟩ [0, 1, 2, 3, 4, 5] [] rfl rfl (by decide) (by decide) rfl rfl rfl rfl rfl hl.1 (Nat.le_of_ble_eq_true rfl) dX2_readChoice_2 ⟨Nat.le_of_ble_eq_true rfl, Nat.le_of_ble_eq_true rfl⟩ (fun u H locs hw_6 hP hD hS => ?_)
  obtain ⟨Po_2, fo_3, zo_4, l1o_5⟩ := u
  try dsimp only at hw_6
  have hP : va_P D vwCl [(h0, .inr (2, [.ref tx, .ref lw])), (tx, .inr (6, [.ref tp, .int (nI N), .int (nI Po_2), .int fo_3])), (tp, .inr (5, [.ref by_, .int (nI T)])), (by_, .inl (cI, 260, .inl fb)), (lw, .inr (1, [.ref l1, .ref l2, .ref l3, .ref l4, .ref l5, .ref l6, .ref l7, .int (nI zo_4), .int (nI k)])), (l1, .inl (cI, 240, .inl l1o_5))] H := hP
  have hD : va_D A [(h0, .inr (2, [.ref tx, .ref lw])), (tx, .inr (6, [.ref tp, .int (nI N), .int (nI Po_2), .int fo_3])), (tp, .inr (5, [.ref by_, .int (nI T)])), (by_, .inl (cI, 260, .inl fb)), (lw, .inr (1, [.ref l1, .ref l2, .ref l3, .ref l4, .ref l5, .ref l6, .ref l7, .int (nI zo_4), .int (nI k)])), (l1, .inl (cI, 240, .inl l1o_5))] := hD
  refine lv_iconst (v := 0) hx hb dX2_readChoice_5 (by decide) ?_
  refine lv_istore_n (lv' := [(2, .int 0), (0, .ref h0), (1, .int 5)]) hx hb dX2_readChoice_6 rfl hl (by decide) rfl (fun ls hl => ?_)
  have loop_7 : ∀ (n i : Nat) (Pa : Nat) (fv : Int32) (za : Nat) (qa : Nat → Int32), n + i = 240 → (za ≤ 240) → (PTQ fb N 1 P Pa fa fv) → (fv = 0 → fa = 0 → i < Pa) → (fv = 0 → ¬ chF fb N Pa = 38) → ∀ (H : Heap) (locs : List Loc), va_P D vwCl [(h0, .inr (2, [.ref tx, .ref lw])), (tx, .inr (6, [.ref tp, .int (nI N), .int (nI Pa), .int fv])), (tp, .inr (5, [.ref by_, .int (nI T)])), (by_, .inl (cI, 260, .inl fb)), (lw, .inr (1, [.ref l1, .ref l2, .ref l3, .ref l4, .ref l5, .ref l6, .ref l7, .int (nI za), .int (nI k)])), (l1, .inl (cI, 240, .inl qa))] H → va_D A [(h0, .inr (2, [.ref tx, .ref lw])), (tx, .inr (6, [.ref tp, .int (nI N), .int (nI Pa), .int fv])), (tp, .inr (5, [.ref by_, .int (nI T)])), (by_, .inl (cI, 260, .inl fb)), (lw, .inr (1, [.ref l1, .ref l2, .ref l3, .ref l4, .ref l5, .ref l6, .ref l7, .int (nI za), .int (nI k)])), (l1, .inl (cI, 240, .inl qa))] → va_S A s.heap H locs → ∀ (ls : Array Slot), lv_has ls 4 [(0, .ref h0), (1, .int 5), (2, .int (nI i))] → W p l e (rm 13 296) s m ([.ref h0, .int 5] : List Value).toArray below meth c H locs 0 0 Q (F0 m 7 ls []) := by
    intro n
    induction n with
    | zero =>
      intro i Pa fv za qa hni hza hq hiP hmu H locs hP hD hS ls hl
      have hni_7 := hni
      have hi : i = 240 := by omega
      refine lv_iload_n hx hb dX2_readChoice_7 rfl (lv_at hl 2 rfl) ?_
      refine lv_sipush (v := 240) hx hb dX2_readChoice_8 (by decide) ?_
      refine lv_icmp_ge (tgt := 62) hx hb dX2_readChoice_11 (by decide) (fun _ => ?_) (fun c_11 => absurd (by rw [hi]; decide) c_11)
      exact ret _ _ _ _ (Pa, fv, za, qa) dX2_readChoice_62 (⟨hza, ⟨hq, fun z => absurd z (fun z => by have h2 := hq.2.1; have h4 := hq.2.2.2.1; exact (Classical.em (fa = 0)).elim (fun w => by have := hiP z w; omega) (fun w => w ((h2 w).symm.trans z)))⟩⟩) (hP.sub [0, 1, 2, 3, 4, 5] rfl) (hD.sub [0, 1, 2, 3, 4, 5] (by decide) rfl) hS
    | succ n ih_7 =>
      intro i Pa fv za qa hni hza hq hiP hmu H locs hP hD hS ls hl
      have hni_7 := hni
      have hi : i < 240 := by omega
      refine lv_iload_n hx hb dX2_readChoice_7 rfl (lv_at hl 2 rfl) ?_
      refine lv_sipush (v := 240) hx hb dX2_readChoice_8 (by decide) ?_
      refine lv_icmp_ge (tgt := 62) hx hb dX2_readChoice_11 (by decide) (fun c_11 => absurd c_11 (nI_ge hi (by decide))) (fun _ => ?_)
      refine lv_aload_n hx hb dX2_readChoice_14 rfl (lv_at hl 0 rfl) ?_
      refine va_get (D := D) (ci := 2) (v := .ref tx) (C := RX2) (T := TX2) (N := 2) hx hb htb itX2 hown hK hP 0 rfl rfl 0 (by decide) (htb _ k_288) (fun _ h9 => h9) rfl dX2_readChoice_15 ?_
      refine lv_bipush (v := 124) hx hb dX2_readChoice_18 (by decide) ?_
      refine cVI (As := [.int 124]) (rest := []) (n := 1) (ci := 6) (q0 := 0) (wr := [(h0, .inr (2, [.ref tx, .ref lw])), (lw, .inr (1, [.ref l1, .ref l2, .ref l3, .ref l4, .ref l5, .ref l6, .ref l7, .int (nI za), .int (nI k)])), (l1, .inl (cI, 240, .inl qa))]) X hN hK hP hD hS hA (c_skipP l D cI cB _ tx tp N Pa fv by_ T fb 124 hT hNT hq.2.2.2.1 (by decide)) (gV k_644 k_607 k_608 k_98 k_609) (by decide +kernel) ⟨Nat.le_of_ble_eq_true rfl, Nat.le_of_ble_eq_true rfl⟩ ⟨rfl, rfl⟩ [1, 2, 3] [0, 4, 5] rfl rfl (by decide) (by decide) rfl rfl rfl rfl rfl hl.1 (Nat.le_of_ble_eq_true rfl) dX2_readChoice_20 ⟨Nat.le_of_ble_eq_true rfl, Nat.le_of_ble_eq_true rfl⟩ (fun r_7 u H locs hw_9 hP hD hS => ?_)
      obtain ⟨Po_8, rfl⟩ : ∃ z, z = u := ⟨_, rfl⟩
      try dsimp only at hw_9
      have hP : va_P D vwCl [(h0, .inr (2, [.ref tx, .ref lw])), (lw, .inr (1, [.ref l1, .ref l2, .ref l3, .ref l4, .ref l5, .ref l6, .ref l7, .int (nI za), .int (nI k)])), (l1, .inl (cI, 240, .inl qa)), (tx, .inr (6, [.ref tp, .int (nI N), .int (nI Po_8), .int fv])), (tp, .inr (5, [.ref by_, .int (nI T)])), (by_, .inl (cI, 260, .inl fb))] H := hP
      have hD : va_D A [(h0, .inr (2, [.ref tx, .ref lw])), (lw, .inr (1, [.ref l1, .ref l2, .ref l3, .ref l4, .ref l5, .ref l6, .ref l7, .int (nI za), .int (nI k)])), (l1, .inl (cI, 240, .inl qa)), (tx, .inr (6, [.ref tp, .int (nI N), .int (nI Po_8), .int fv])), (tp, .inr (5, [.ref by_, .int (nI T)])), (by_, .inl (cI, 260, .inl fb))] := hD
      refine lv_if_eq (tgt := 62) hx hb dX2_readChoice_23 (by decide) (fun c_23 => ?_) (fun c_23 => ?_)
      · have hsn := bIf (hw_9.1.symm.trans c_23)
        have hpl := hw_9.2.2.1 hsn
        rw [hpl] at hP hD
        have hP : va_P D vwCl [(h0, .inr (2, [.ref tx, .ref lw])), (lw, .inr (1, [.ref l1, .ref l2, .ref l3, .ref l4, .ref l5, .ref l6, .ref l7, .int (nI za), .int (nI k)])), (l1, .inl (cI, 240, .inl qa)), (tx, .inr (6, [.ref tp, .int (nI N), .int (nI Pa), .int fv])), (tp, .inr (5, [.ref by_, .int (nI T)])), (by_, .inl (cI, 260, .inl fb))] H := hP
        have hD : va_D A [(h0, .inr (2, [.ref tx, .ref lw])), (lw, .inr (1, [.ref l1, .ref l2, .ref l3, .ref l4, .ref l5, .ref l6, .ref l7, .int (nI za), .int (nI k)])), (l1, .inl (cI, 240, .inl qa)), (tx, .inr (6, [.ref tp, .int (nI N), .int (nI Pa), .int fv])), (tp, .inr (5, [.ref by_, .int (nI T)])), (by_, .inl (cI, 260, .inl fb))] := hD
        exact ret _ _ _ _ (Pa, fv, za, qa) dX2_readChoice_62 (⟨hza, ⟨hq, fun (z : fv = 0) => by have w1 := hsn; rw [z, sQ0] at w1; exact fun y => y.elim (hmu z) w1⟩⟩) (hP.sub [0, 3, 4, 5, 1, 2] rfl) (hD.sub [0, 3, 4, 5, 1, 2] (by decide) rfl) hS
      · have hsk := bIt (fun z => c_23 (hw_9.1.trans z))
        obtain ⟨hf0, hlt, hch⟩ := sQj (by decide) hsk
        have hpl := hw_9.2.1 hsk
        subst hf0
        have hjn : JN2 (chF fb N Pa) := Or.inr hch
        rw [hpl] at hP hD
        have hP : va_P D vwCl [(h0, .inr (2, [.ref tx, .ref lw])), (lw, .inr (1, [.ref l1, .ref l2, .ref l3, .ref l4, .ref l5, .ref l6, .ref l7, .int (nI za), .int (nI k)])), (l1, .inl (cI, 240, .inl qa)), (tx, .inr (6, [.ref tp, .int (nI N), .int (nI (Pa + 1)), .int 0])), (tp, .inr (5, [.ref by_, .int (nI T)])), (by_, .inl (cI, 260, .inl fb))] H := hP
        have hD : va_D A [(h0, .inr (2, [.ref tx, .ref lw])), (lw, .inr (1, [.ref l1, .ref l2, .ref l3, .ref l4, .ref l5, .ref l6, .ref l7, .int (nI za), .int (nI k)])), (l1, .inl (cI, 240, .inl qa)), (tx, .inr (6, [.ref tp, .int (nI N), .int (nI (Pa + 1)), .int 0])), (tp, .inr (5, [.ref by_, .int (nI T)])), (by_, .inl (cI, 260, .inl fb))] := hD
        refine lv_aload_n hx hb dX2_readChoice_26 rfl (lv_at hl 0 rfl) ?_
        refine va_get (D := D) (ci := 2) (v := .ref lw) (C := RX2) (T := TX2) (N := 2) hx hb htb itX2 hown hK hP 0 rfl rfl 1 (by decide) (htb _ k_289) (fun _ h9 => h9) rfl dX2_readChoice_27 ?_
        refine va_getN (D := D) (ci := 1) (v := .int (nI za)) (C := RX1) (T := TX1) (N := 9) hx hb htb itX1 hown hK hP 1 rfl rfl 7 (by decide) (va_Nw.use rfl (hN _ n_232 rfl)) (fun _ h9 => h9) rfl dX2_readChoice_30 ?_
        refine lv_istore_n (lv' := [(3, .int (nI za)), (0, .ref h0), (1, .int 5), (2, .int (nI i))]) hx hb dX2_readChoice_33 rfl hl (by decide) rfl (fun ls hl => ?_)
        refine lv_aload_n hx hb dX2_readChoice_34 rfl (lv_at hl 1 rfl) ?_
        refine va_get (D := D) (ci := 2) (v := .ref lw) (C := RX2) (T := TX2) (N := 2) hx hb htb itX2 hown hK hP 0 rfl rfl 1 (by decide) (htb _ k_289) (fun _ h9 => h9) rfl dX2_readChoice_35 ?_
        refine lv_iconst (v := 3) hx hb dX2_readChoice_38 (by decide) ?_
        refine lv_iconst (v := 0) hx hb dX2_readChoice_39 (by decide) ?_
        refine cVV (As := [.int 3, .int 0]) (rest := []) (n := 2) (ci := 1) (q0 := 0) (wr := [(h0, .inr (2, [.ref tx, .ref lw])), (tx, .inr (6, [.ref tp, .int (nI N), .int (nI (Pa + 1)), .int 0])), (tp, .inr (5, [.ref by_, .int (nI T)])), (by_, .inl (cI, 260, .inl fb))]) X hN hK hP hD hS hA (c_X1_addStep l D cI cB _ lw l1 l2 l3 l4 l5 l6 l7 za k 3 0 qa hza hk) (gV k_594 k_595 k_596 k_97 k_597) (by decide +kernel) ⟨Nat.le_of_ble_eq_true rfl, Nat.le_of_ble_eq_true rfl⟩ ⟨rfl, rfl⟩ [1, 2] [0, 3, 4, 5] rfl rfl (by decide) (by decide) rfl rfl rfl rfl rfl hl.1 (Nat.le_of_ble_eq_true rfl) dX2_readChoice_40 ⟨Nat.le_of_ble_eq_true rfl, Nat.le_of_ble_eq_true rfl⟩ (fun u H locs hw_13 hP hD hS => ?_)
        obtain ⟨zo_11, l1_fo_12⟩ := u
        try dsimp only at hw_13
        have hP : va_P D vwCl [(h0, .inr (2, [.ref tx, .ref lw])), (tx, .inr (6, [.ref tp, .int (nI N), .int (nI (Pa + 1)), .int 0])), (tp, .inr (5, [.ref by_, .int (nI T)])), (by_, .inl (cI, 260, .inl fb)), (lw, .inr (1, [.ref l1, .ref l2, .ref l3, .ref l4, .ref l5, .ref l6, .ref l7, .int (nI zo_11), .int (nI k)])), (l1, .inl (cI, 240, .inl l1_fo_12))] H := hP
        have hD : va_D A [(h0, .inr (2, [.ref tx, .ref lw])), (tx, .inr (6, [.ref tp, .int (nI N), .int (nI (Pa + 1)), .int 0])), (tp, .inr (5, [.ref by_, .int (nI T)])), (by_, .inl (cI, 260, .inl fb)), (lw, .inr (1, [.ref l1, .ref l2, .ref l3, .ref l4, .ref l5, .ref l6, .ref l7, .int (nI zo_11), .int (nI k)])), (l1, .inl (cI, 240, .inl l1_fo_12))] := hD
        refine lv_aload_n hx hb dX2_readChoice_43 rfl (lv_at hl 1 rfl) ?_
        refine lv_iload_n hx hb dX2_readChoice_44 rfl (lv_at hl 2 rfl) ?_
        refine cVVk (As := [.int 5]) (rest := []) (n := 1) (ci := 2) (q0 := 0) (wr := []) X hN hKO hK hP hD hS hA (c_raP_5 l D cI cB _ kk h0 tx tp N (Pa + 1) 0 by_ T fb lw l1 l2 l3 l4 l5 l6 l7 zo_11 k l1_fo_12 hT hNT (by omega) hN2 (Or.inl rfl) hbr hw_13 hk) (gV k_632 k_634 k_8 k_99 k_635) (by decide +kernel) ⟨Nat.le_of_ble_eq_true rfl, Nat.le_of_ble_eq_true rfl⟩ ⟨rfl, rfl⟩ [0, 1, 2, 3, 4, 5] [] rfl rfl (by decide) (by decide) rfl rfl rfl rfl rfl hl.1 (Nat.le_of_ble_eq_true rfl) dX2_readChoice_45 ⟨Nat.le_of_ble_eq_true rfl, Nat.le_of_ble_eq_true rfl⟩ (fun u H locs hw_19 hP hD hS => ?_)
        obtain ⟨Po_15, fo_16, zo_17, l1o_18⟩ := u
        try dsimp only at hw_19
        have hP : va_P D vwCl [(h0, .inr (2, [.ref tx, .ref lw])), (tx, .inr (6, [.ref tp, .int (nI N), .int (nI Po_15), .int fo_16])), (tp, .inr (5, [.ref by_, .int (nI T)])), (by_, .inl (cI, 260, .inl fb)), (lw, .inr (1, [.ref l1, .ref l2, .ref l3, .ref l4, .ref l5, .ref l6, .ref l7, .int (nI zo_17), .int (nI k)])), (l1, .inl (cI, 240, .inl l1o_18))] H := hP
        have hD : va_D A [(h0, .inr (2, [.ref tx, .ref lw])), (tx, .inr (6, [.ref tp, .int (nI N), .int (nI Po_15), .int fo_16])), (tp, .inr (5, [.ref by_, .int (nI T)])), (by_, .inl (cI, 260, .inl fb)), (lw, .inr (1, [.ref l1, .ref l2, .ref l3, .ref l4, .ref l5, .ref l6, .ref l7, .int (nI zo_17), .int (nI k)])), (l1, .inl (cI, 240, .inl l1o_18))] := hD
        refine lv_aload_n hx hb dX2_readChoice_48 rfl (lv_at hl 1 rfl) ?_
        refine va_get (D := D) (ci := 2) (v := .ref lw) (C := RX2) (T := TX2) (N := 2) hx hb htb itX2 hown hK hP 0 rfl rfl 1 (by decide) (htb _ k_289) (fun _ h9 => h9) rfl dX2_readChoice_49 ?_
        refine lv_iload_n hx hb dX2_readChoice_52 rfl (lv_at hl 0 rfl) ?_
        refine cVV (As := [.int (nI za)]) (rest := []) (n := 1) (ci := 1) (q0 := 0) (wr := [(h0, .inr (2, [.ref tx, .ref lw])), (tx, .inr (6, [.ref tp, .int (nI N), .int (nI Po_15), .int fo_16])), (tp, .inr (5, [.ref by_, .int (nI T)])), (by_, .inl (cI, 260, .inl fb))]) X hN hK hP hD hS hA (c_X1_landSkip l D cI cB _ lw l1 l2 l3 l4 l5 l6 l7 zo_17 k (nI za) l1o_18 hw_19.1 hk) (gV k_645 k_646 k_647 k_97 k_648) (by decide +kernel) ⟨Nat.le_of_ble_eq_true rfl, Nat.le_of_ble_eq_true rfl⟩ ⟨rfl, rfl⟩ [4, 5] [0, 1, 2, 3] rfl rfl (by decide) (by decide) rfl rfl rfl rfl rfl hl.1 (Nat.le_of_ble_eq_true rfl) dX2_readChoice_53 ⟨Nat.le_of_ble_eq_true rfl, Nat.le_of_ble_eq_true rfl⟩ (fun u H locs hw_22 hP hD hS => ?_)
        obtain ⟨l1_fo_21, rfl⟩ : ∃ z, z = u := ⟨_, rfl⟩
        try dsimp only at hw_22
        have hP : va_P D vwCl [(h0, .inr (2, [.ref tx, .ref lw])), (tx, .inr (6, [.ref tp, .int (nI N), .int (nI Po_15), .int fo_16])), (tp, .inr (5, [.ref by_, .int (nI T)])), (by_, .inl (cI, 260, .inl fb)), (lw, .inr (1, [.ref l1, .ref l2, .ref l3, .ref l4, .ref l5, .ref l6, .ref l7, .int (nI zo_17), .int (nI k)])), (l1, .inl (cI, 240, .inl l1_fo_21))] H := hP
        have hD : va_D A [(h0, .inr (2, [.ref tx, .ref lw])), (tx, .inr (6, [.ref tp, .int (nI N), .int (nI Po_15), .int fo_16])), (tp, .inr (5, [.ref by_, .int (nI T)])), (by_, .inl (cI, 260, .inl fb)), (lw, .inr (1, [.ref l1, .ref l2, .ref l3, .ref l4, .ref l5, .ref l6, .ref l7, .int (nI zo_17), .int (nI k)])), (l1, .inl (cI, 240, .inl l1_fo_21))] := hD
        refine lv_iinc (v := (nI (i + 1))) (lv' := [(2, .int (nI (i + 1))), (3, .int (nI za)), (0, .ref h0), (1, .int 5)]) hx hb dX2_readChoice_56 hl (k := 3) rfl (nI_1 i) (by decide) rfl (fun ls hl => ?_)
        refine lv_goto (tgt := 7) hx hb dX2_readChoice_59 (by decide) ?_
        exact ih_7 (i + 1) Po_15 fo_16 zo_17 l1_fo_21 (by omega) hw_19.1 (hq.more hjn hw_19.2.1) (fun z w => by have := (((hw_19.2.1.2.2.2.2 rfl).1 z).1); have := hiP rfl w; omega) hw_19.2.2 _ _ (hP.sub [0, 1, 2, 3, 4, 5] rfl) (hD.sub [0, 1, 2, 3, 4, 5] (by decide) rfl) hS _ (lv_sub hl [2, 3, 0] rfl)
  exact loop_7 240 0 Po_2 fo_3 zo_4 l1o_5 (by omega) hw_6.1 hw_6.2.1 (fun z w => (((hw_6.2.1.2.2.2.2 w).1 z).1 |> fun y => by omega)) hw_6.2.2 _ _ (hP.sub [0, 1, 2, 3, 4, 5] rfl) (hD.sub [0, 1, 2, 3, 4, 5] (by decide) rfl) hS _ (lv_sub hl [1, 2, 0] rfl)

set_option maxRecDepth 100000 in
set_option maxHeartbeats 4000000 in
theorem c_rpP_4 (l : Launch) (D : va_G) (cI cB : ClassId) (sz : Nat) (kk : KT) (h0 : Nat) (tx : Nat) (tp : Nat) (N : Nat) (P : Nat) (fa : Int32) (by_ : Nat) (T : Nat) (fb : Nat → Int32) (lw : Nat) (l1 : Nat) (l2 : Nat) (l3 : Nat) (l4 : Nat) (l5 : Nat) (l6 : Nat) (l7 : Nat) (z : Nat) (k : Nat) (q1 : Nat → Int32) (hT : T ≤ 260) (hNT : N ≤ T) (hPN : P ≤ N) (hN2 : N ≤ 240) (hfa : fa = 0 ∨ fa < 0) (hbr : BR N fb) (hz : z ≤ 240) (hk : k ≤ 16) : MVk (S := ((Nat) × (Int32) × (Nat) × (Nat → Int32))) l D cI cB kk yX2_readPiece cX2_readPiece 4 (rm 14 319) [.ref h0, .int 4] [(h0, .inr (2, [.ref tx, .ref lw])), (tx, .inr (6, [.ref tp, .int (nI N), .int (nI P), .int fa])), (tp, .inr (5, [.ref by_, .int (nI T)])), (by_, .inl (cI, 260, .inl fb)), (lw, .inr (1, [.ref l1, .ref l2, .ref l3, .ref l4, .ref l5, .ref l6, .ref l7, .int (nI z), .int (nI k)])), (l1, .inl (cI, 240, .inl q1))] sz (fun u => u.2.2.1 ≤ 240 ∧ PCQ fb N 2 P u.1 fa u.2.1) (fun u : ((Nat) × (Int32) × (Nat) × (Nat → Int32)) => [(h0, .inr (2, [.ref tx, .ref lw])), (tx, .inr (6, [.ref tp, .int (nI N), .int (nI u.1), .int u.2.1])), (tp, .inr (5, [.ref by_, .int (nI T)])), (by_, .inl (cI, 260, .inl fb)), (lw, .inr (1, [.ref l1, .ref l2, .ref l3, .ref l4, .ref l5, .ref l6, .ref l7, .int (nI u.2.2.1), .int (nI k)])), (l1, .inl (cI, 240, .inl u.2.2.2))]) := by
  refine MVk.of (by decide) (Nat.le_of_ble_eq_true rfl) ?_
  intro p e s m below meth c Q ls A X hin hN hKO hP hK hD hA hl ret
  have hS : va_S A s.heap s.heap [] := va_S.rf
  obtain ⟨hx, hb, hml, hown, htb⟩ := id X
  have hl : lv_has ls 4 [(0, .ref h0), (1, .int 4)] := hl
  refine lv_aload_n hx hb dX2_readPiece_0 rfl (lv_at hl 0 rfl) ?_
  refine va_get (D := D) (ci := 2) (v := .ref tx) (C := RX2) (T := TX2) (N := 2) hx hb htb itX2 hown hK hP 0 rfl rfl 0 (by decide) (htb _ k_288) (fun _ h9 => h9) rfl dX2_readPiece_1 ?_
  refine cVR (As := []) (rest := []) (n := 0) (ci := 6) (q0 := 0) X hN hK hP (c_signP l D cI cB tx tp N P fa by_ T fb hT hNT hPN) (gV k_483 k_484 k_485 k_98 k_486) (by decide +kernel) ⟨Nat.le_of_ble_eq_true rfl, Nat.le_of_ble_eq_true rfl⟩ ⟨rfl, rfl⟩ [1, 2, 3] rfl rfl rfl rfl rfl rfl hl.1 (Nat.le_of_ble_eq_true rfl) dX2_readPiece_4 ⟨Nat.le_of_ble_eq_true rfl, Nat.le_of_ble_eq_true rfl⟩ (fun r_1 hr_1 => ?_)
  subst hr_1
  refine lv_topi (fun x_2 ex_2 => ?_)
  refine lv_istore_n (lv' := [(2, .int x_2), (0, .ref h0), (1, .int 4)]) hx hb dX2_readPiece_7 rfl hl (by decide) rfl (fun ls hl => ?_)
  refine lv_iload_n hx hb dX2_readPiece_8 rfl (lv_at hl 0 rfl) ?_
  refine lv_bipush (v := 33) hx hb dX2_readPiece_9 (by decide) ?_
  refine lv_icmp_ne (tgt := 41) hx hb dX2_readPiece_11 (by decide) (fun c_11 => ?_) (fun c_11 => ?_)
  · refine lv_iload_n hx hb dX2_readPiece_41 rfl (lv_at hl 0 rfl) ?_
    refine lv_bipush (v := 40) hx hb dX2_readPiece_42 (by decide) ?_
    refine lv_icmp_ne (tgt := 74) hx hb dX2_readPiece_44 (by decide) (fun c_44 => ?_) (fun c_44 => ?_)
    · refine lv_aload_n hx hb dX2_readPiece_74 rfl (lv_at hl 1 rfl) ?_
      refine lv_iload_n hx hb dX2_readPiece_75 rfl (lv_at hl 2 rfl) ?_
      refine cVVk (As := [.int 4]) (rest := []) (n := 1) (ci := 2) (q0 := 0) (wr := []) X hN hKO hK hP hD hS hA (c_rsP_4 l D cI cB _ kk h0 tx tp N P fa by_ T fb lw l1 l2 l3 l4 l5 l6 l7 z k q1 hT hNT hPN hN2 hfa hbr hz hk) (gV k_581 k_583 k_2 k_99 k_584) (by decide +kernel) ⟨Nat.le_of_ble_eq_true rfl, Nat.le_of_ble_eq_true rfl⟩ ⟨rfl, rfl⟩ [0, 1, 2, 3, 4, 5] [] rfl rfl (by decide) (by decide) rfl rfl rfl rfl rfl hl.1 (Nat.le_of_ble_eq_true rfl) dX2_readPiece_76 ⟨Nat.le_of_ble_eq_true rfl, Nat.le_of_ble_eq_true rfl⟩ (fun u H locs hw_8 hP hD hS => ?_)
      obtain ⟨Po_4, fo_5, zo_6, l1o_7⟩ := u
      try dsimp only at hw_8
      have hP : va_P D vwCl [(h0, .inr (2, [.ref tx, .ref lw])), (tx, .inr (6, [.ref tp, .int (nI N), .int (nI Po_4), .int fo_5])), (tp, .inr (5, [.ref by_, .int (nI T)])), (by_, .inl (cI, 260, .inl fb)), (lw, .inr (1, [.ref l1, .ref l2, .ref l3, .ref l4, .ref l5, .ref l6, .ref l7, .int (nI zo_6), .int (nI k)])), (l1, .inl (cI, 240, .inl l1o_7))] H := hP
      have hD : va_D A [(h0, .inr (2, [.ref tx, .ref lw])), (tx, .inr (6, [.ref tp, .int (nI N), .int (nI Po_4), .int fo_5])), (tp, .inr (5, [.ref by_, .int (nI T)])), (by_, .inl (cI, 260, .inl fb)), (lw, .inr (1, [.ref l1, .ref l2, .ref l3, .ref l4, .ref l5, .ref l6, .ref l7, .int (nI zo_6), .int (nI k)])), (l1, .inl (cI, 240, .inl l1o_7))] := hD
      refine lv_aload_n hx hb dX2_readPiece_79 rfl (lv_at hl 1 rfl) ?_
      refine cVI (As := []) (rest := []) (n := 0) (ci := 2) (q0 := 0) (wr := [(lw, .inr (1, [.ref l1, .ref l2, .ref l3, .ref l4, .ref l5, .ref l6, .ref l7, .int (nI zo_6), .int (nI k)])), (l1, .inl (cI, 240, .inl l1o_7))]) X hN hK hP hD hS hA (c_comparisonP l D cI cB _ h0 lw tx tp N Po_4 fo_5 by_ T fb hT hNT hw_8.2.1.2.2.2.1) (gV k_640 k_642 k_10 k_99 k_643) (by decide +kernel) ⟨Nat.le_of_ble_eq_true rfl, Nat.le_of_ble_eq_true rfl⟩ ⟨rfl, rfl⟩ [0, 1, 2, 3] [4, 5] rfl rfl (by decide) (by decide) rfl rfl rfl rfl rfl hl.1 (Nat.le_of_ble_eq_true rfl) dX2_readPiece_80 ⟨Nat.le_of_ble_eq_true rfl, Nat.le_of_ble_eq_true rfl⟩ (fun r_9 u H locs hw_12 hP hD hS => ?_)
      obtain ⟨Po_10, fo_11⟩ := u
      try dsimp only at hw_12
      have hP : va_P D vwCl [(lw, .inr (1, [.ref l1, .ref l2, .ref l3, .ref l4, .ref l5, .ref l6, .ref l7, .int (nI zo_6), .int (nI k)])), (l1, .inl (cI, 240, .inl l1o_7)), (h0, .inr (2, [.ref tx, .ref lw])), (tx, .inr (6, [.ref tp, .int (nI N), .int (nI Po_10), .int fo_11])), (tp, .inr (5, [.ref by_, .int (nI T)])), (by_, .inl (cI, 260, .inl fb))] H := hP
      have hD : va_D A [(lw, .inr (1, [.ref l1, .ref l2, .ref l3, .ref l4, .ref l5, .ref l6, .ref l7, .int (nI zo_6), .int (nI k)])), (l1, .inl (cI, 240, .inl l1o_7)), (h0, .inr (2, [.ref tx, .ref lw])), (tx, .inr (6, [.ref tp, .int (nI N), .int (nI Po_10), .int fo_11])), (tp, .inr (5, [.ref by_, .int (nI T)])), (by_, .inl (cI, 260, .inl fb))] := hD
      refine lv_istore_n (lv' := [(3, .int r_9), (2, .int x_2), (0, .ref h0), (1, .int 4)]) hx hb dX2_readPiece_83 rfl hl (by decide) rfl (fun ls hl => ?_)
      refine lv_aload_n hx hb dX2_readPiece_84 rfl (lv_at hl 2 rfl) ?_
      refine lv_iload_n hx hb dX2_readPiece_85 rfl (lv_at hl 3 rfl) ?_
      refine cVVk (As := [.int 4]) (rest := []) (n := 1) (ci := 2) (q0 := 0) (wr := []) X hN hKO hK hP hD hS hA (c_rsP_4 l D cI cB _ kk h0 tx tp N Po_10 fo_11 by_ T fb lw l1 l2 l3 l4 l5 l6 l7 zo_6 k l1o_7 hT hNT hw_12.2.2.2 hN2 (fexp (hw_8.2.1.1) (by have := hw_8.2.1.2.2.2.1; omega) (fun z => (hw_12.1 z).2) (fun z => (hw_12.2.1 z).2)) hbr hw_8.1 hk) (gV k_581 k_583 k_2 k_99 k_584) (by decide +kernel) ⟨Nat.le_of_ble_eq_true rfl, Nat.le_of_ble_eq_true rfl⟩ ⟨rfl, rfl⟩ [2, 3, 4, 5, 0, 1] [] rfl rfl (by decide) (by decide) rfl rfl rfl rfl rfl hl.1 (Nat.le_of_ble_eq_true rfl) dX2_readPiece_86 ⟨Nat.le_of_ble_eq_true rfl, Nat.le_of_ble_eq_true rfl⟩ (fun u H locs hw_18 hP hD hS => ?_)
      obtain ⟨Po_14, fo_15, zo_16, l1o_17⟩ := u
      try dsimp only at hw_18
      have hP : va_P D vwCl [(h0, .inr (2, [.ref tx, .ref lw])), (tx, .inr (6, [.ref tp, .int (nI N), .int (nI Po_14), .int fo_15])), (tp, .inr (5, [.ref by_, .int (nI T)])), (by_, .inl (cI, 260, .inl fb)), (lw, .inr (1, [.ref l1, .ref l2, .ref l3, .ref l4, .ref l5, .ref l6, .ref l7, .int (nI zo_16), .int (nI k)])), (l1, .inl (cI, 240, .inl l1o_17))] H := hP
      have hD : va_D A [(h0, .inr (2, [.ref tx, .ref lw])), (tx, .inr (6, [.ref tp, .int (nI N), .int (nI Po_14), .int fo_15])), (tp, .inr (5, [.ref by_, .int (nI T)])), (by_, .inl (cI, 260, .inl fb)), (lw, .inr (1, [.ref l1, .ref l2, .ref l3, .ref l4, .ref l5, .ref l6, .ref l7, .int (nI zo_16), .int (nI k)])), (l1, .inl (cI, 240, .inl l1o_17))] := hD
      refine lv_aload_n hx hb dX2_readPiece_89 rfl (lv_at hl 2 rfl) ?_
      refine va_get (D := D) (ci := 2) (v := .ref lw) (C := RX2) (T := TX2) (N := 2) hx hb htb itX2 hown hK hP 0 rfl rfl 1 (by decide) (htb _ k_289) (fun _ h9 => h9) rfl dX2_readPiece_90 ?_
      refine lv_iload_n hx hb dX2_readPiece_93 rfl (lv_at hl 0 rfl) ?_
      refine lv_iconst (v := 0) hx hb dX2_readPiece_94 (by decide) ?_
      refine cVV (As := [.int r_9, .int 0]) (rest := []) (n := 2) (ci := 1) (q0 := 0) (wr := [(h0, .inr (2, [.ref tx, .ref lw])), (tx, .inr (6, [.ref tp, .int (nI N), .int (nI Po_14), .int fo_15])), (tp, .inr (5, [.ref by_, .int (nI T)])), (by_, .inl (cI, 260, .inl fb))]) X hN hK hP hD hS hA (c_X1_addStep l D cI cB _ lw l1 l2 l3 l4 l5 l6 l7 zo_16 k r_9 0 l1o_17 hw_18.1 hk) (gV k_594 k_595 k_596 k_97 k_597) (by decide +kernel) ⟨Nat.le_of_ble_eq_true rfl, Nat.le_of_ble_eq_true rfl⟩ ⟨rfl, rfl⟩ [4, 5] [0, 1, 2, 3] rfl rfl (by decide) (by decide) rfl rfl rfl rfl rfl hl.1 (Nat.le_of_ble_eq_true rfl) dX2_readPiece_95 ⟨Nat.le_of_ble_eq_true rfl, Nat.le_of_ble_eq_true rfl⟩ (fun u H locs hw_22 hP hD hS => ?_)
      obtain ⟨zo_20, l1_fo_21⟩ := u
      try dsimp only at hw_22
      have hP : va_P D vwCl [(h0, .inr (2, [.ref tx, .ref lw])), (tx, .inr (6, [.ref tp, .int (nI N), .int (nI Po_14), .int fo_15])), (tp, .inr (5, [.ref by_, .int (nI T)])), (by_, .inl (cI, 260, .inl fb)), (lw, .inr (1, [.ref l1, .ref l2, .ref l3, .ref l4, .ref l5, .ref l6, .ref l7, .int (nI zo_20), .int (nI k)])), (l1, .inl (cI, 240, .inl l1_fo_21))] H := hP
      have hD : va_D A [(h0, .inr (2, [.ref tx, .ref lw])), (tx, .inr (6, [.ref tp, .int (nI N), .int (nI Po_14), .int fo_15])), (tp, .inr (5, [.ref by_, .int (nI T)])), (by_, .inl (cI, 260, .inl fb)), (lw, .inr (1, [.ref l1, .ref l2, .ref l3, .ref l4, .ref l5, .ref l6, .ref l7, .int (nI zo_20), .int (nI k)])), (l1, .inl (cI, 240, .inl l1_fo_21))] := hD
      exact ret _ _ _ _ (Po_14, fo_15, zo_20, l1_fo_21) dX2_readPiece_98 (⟨hw_22, PCQ.cmp (by omega) (fun z => c_11 (ex_2.trans z)) (fun z => c_44 (ex_2.trans z)) hw_8.2.1 hw_8.2.2 hw_12.1 hw_12.2.1 hw_18.2.1 hw_18.2.2⟩) (hP.sub [0, 1, 2, 3, 4, 5] rfl) (hD.sub [0, 1, 2, 3, 4, 5] (by decide) rfl) hS
    · obtain ⟨hf0, hlt, hop⟩ := sQj (v := 40) (by decide) (ex_2.symm.trans c_44)
      subst hf0
      refine lv_aload_n hx hb dX2_readPiece_47 rfl (lv_at hl 1 rfl) ?_
      refine lv_iload_n hx hb dX2_readPiece_48 rfl (lv_at hl 2 rfl) ?_
      refine cVI (As := [.int 4]) (rest := []) (n := 1) (ci := 2) (q0 := 0) (wr := [(tp, .inr (5, [.ref by_, .int (nI T)])), (by_, .inl (cI, 260, .inl fb)), (lw, .inr (1, [.ref l1, .ref l2, .ref l3, .ref l4, .ref l5, .ref l6, .ref l7, .int (nI z), .int (nI k)])), (l1, .inl (cI, 240, .inl q1))]) X hN hK hP hD hS hA (c_opensP l D cI cB _ h0 lw tx tp N P 0 4 hlt) (gV k_598 k_600 k_5 k_99 k_601) (by decide +kernel) ⟨Nat.le_of_ble_eq_true rfl, Nat.le_of_ble_eq_true rfl⟩ ⟨rfl, rfl⟩ [0, 1] [2, 3, 4, 5] rfl rfl (by decide) (by decide) rfl rfl rfl rfl rfl hl.1 (Nat.le_of_ble_eq_true rfl) dX2_readPiece_49 ⟨Nat.le_of_ble_eq_true rfl, Nat.le_of_ble_eq_true rfl⟩ (fun r_23 u H locs hw_26 hP hD hS => ?_)
      obtain ⟨Po_24, fo_25⟩ := u
      try dsimp only at hw_26
      have hP : va_P D vwCl [(tp, .inr (5, [.ref by_, .int (nI T)])), (by_, .inl (cI, 260, .inl fb)), (lw, .inr (1, [.ref l1, .ref l2, .ref l3, .ref l4, .ref l5, .ref l6, .ref l7, .int (nI z), .int (nI k)])), (l1, .inl (cI, 240, .inl q1)), (h0, .inr (2, [.ref tx, .ref lw])), (tx, .inr (6, [.ref tp, .int (nI N), .int (nI Po_24), .int fo_25]))] H := hP
      have hD : va_D A [(tp, .inr (5, [.ref by_, .int (nI T)])), (by_, .inl (cI, 260, .inl fb)), (lw, .inr (1, [.ref l1, .ref l2, .ref l3, .ref l4, .ref l5, .ref l6, .ref l7, .int (nI z), .int (nI k)])), (l1, .inl (cI, 240, .inl q1)), (h0, .inr (2, [.ref tx, .ref lw])), (tx, .inr (6, [.ref tp, .int (nI N), .int (nI Po_24), .int fo_25]))] := hD
      obtain rfl : r_23 = 1 := hw_26.1.trans (by decide)
      obtain ⟨eo1, eo2⟩ := hw_26.2.1 (by decide)
      rw [eo1, eo2] at hP hD
      have hP : va_P D vwCl [(tp, .inr (5, [.ref by_, .int (nI T)])), (by_, .inl (cI, 260, .inl fb)), (lw, .inr (1, [.ref l1, .ref l2, .ref l3, .ref l4, .ref l5, .ref l6, .ref l7, .int (nI z), .int (nI k)])), (l1, .inl (cI, 240, .inl q1)), (h0, .inr (2, [.ref tx, .ref lw])), (tx, .inr (6, [.ref tp, .int (nI N), .int (nI (P + 1)), .int 0]))] H := hP
      have hD : va_D A [(tp, .inr (5, [.ref by_, .int (nI T)])), (by_, .inl (cI, 260, .inl fb)), (lw, .inr (1, [.ref l1, .ref l2, .ref l3, .ref l4, .ref l5, .ref l6, .ref l7, .int (nI z), .int (nI k)])), (l1, .inl (cI, 240, .inl q1)), (h0, .inr (2, [.ref tx, .ref lw])), (tx, .inr (6, [.ref tp, .int (nI N), .int (nI (P + 1)), .int 0]))] := hD
      refine lv_if_eq (tgt := 98) hx hb dX2_readPiece_52 (by decide) (fun c_52 => absurd c_52 (by decide)) (fun _ => ?_)
      refine lv_aload_n hx hb dX2_readPiece_55 rfl (lv_at hl 1 rfl) ?_
      refine lv_iload_n hx hb dX2_readPiece_56 rfl (lv_at hl 2 rfl) ?_
      refine lv_iconst (v := 1) hx hb dX2_readPiece_57 (by decide) ?_
      refine lv_iadd hx hb dX2_readPiece_58 ?_
      refine tv (z := 5) (by decide) ?_
      refine cVVk (As := [.int 5]) (rest := []) (n := 1) (ci := 2) (q0 := 0) (wr := []) X hN hKO hK hP hD hS hA (c_rcP_5 l D cI cB _ kk h0 tx tp N (P + 1) 0 by_ T fb lw l1 l2 l3 l4 l5 l6 l7 z k q1 hT hNT (by omega) hN2 (Or.inl rfl) hbr hz hk) (gV k_628 k_630 k_7 k_99 k_631) (by decide +kernel) ⟨Nat.le_of_ble_eq_true rfl, Nat.le_of_ble_eq_true rfl⟩ ⟨rfl, rfl⟩ [4, 5, 0, 1, 2, 3] [] rfl rfl (by decide) (by decide) rfl rfl rfl rfl rfl hl.1 (Nat.le_of_ble_eq_true rfl) dX2_readPiece_59 ⟨Nat.le_of_ble_eq_true rfl, Nat.le_of_ble_eq_true rfl⟩ (fun u H locs hw_32 hP hD hS => ?_)
      obtain ⟨Po_28, fo_29, zo_30, l1o_31⟩ := u
      try dsimp only at hw_32
      have hP : va_P D vwCl [(h0, .inr (2, [.ref tx, .ref lw])), (tx, .inr (6, [.ref tp, .int (nI N), .int (nI Po_28), .int fo_29])), (tp, .inr (5, [.ref by_, .int (nI T)])), (by_, .inl (cI, 260, .inl fb)), (lw, .inr (1, [.ref l1, .ref l2, .ref l3, .ref l4, .ref l5, .ref l6, .ref l7, .int (nI zo_30), .int (nI k)])), (l1, .inl (cI, 240, .inl l1o_31))] H := hP
      have hD : va_D A [(h0, .inr (2, [.ref tx, .ref lw])), (tx, .inr (6, [.ref tp, .int (nI N), .int (nI Po_28), .int fo_29])), (tp, .inr (5, [.ref by_, .int (nI T)])), (by_, .inl (cI, 260, .inl fb)), (lw, .inr (1, [.ref l1, .ref l2, .ref l3, .ref l4, .ref l5, .ref l6, .ref l7, .int (nI zo_30), .int (nI k)])), (l1, .inl (cI, 240, .inl l1o_31))] := hD
      refine lv_aload_n hx hb dX2_readPiece_62 rfl (lv_at hl 1 rfl) ?_
      refine va_get (D := D) (ci := 2) (v := .ref tx) (C := RX2) (T := TX2) (N := 2) hx hb htb itX2 hown hK hP 0 rfl rfl 0 (by decide) (htb _ k_288) (fun _ h9 => h9) rfl dX2_readPiece_63 ?_
      refine lv_bipush (v := 41) hx hb dX2_readPiece_66 (by decide) ?_
      refine cVV (As := [.int 41]) (rest := []) (n := 1) (ci := 6) (q0 := 0) (wr := [(h0, .inr (2, [.ref tx, .ref lw])), (lw, .inr (1, [.ref l1, .ref l2, .ref l3, .ref l4, .ref l5, .ref l6, .ref l7, .int (nI zo_30), .int (nI k)])), (l1, .inl (cI, 240, .inl l1o_31))]) X hN hK hP hD hS hA (c_expectP l D cI cB _ tx tp N Po_28 fo_29 by_ T fb 41 hT hNT hw_32.2.1.2.2.2.1 (by decide)) (gV k_602 k_603 k_604 k_98 k_605) (by decide +kernel) ⟨Nat.le_of_ble_eq_true rfl, Nat.le_of_ble_eq_true rfl⟩ ⟨rfl, rfl⟩ [1, 2, 3] [0, 4, 5] rfl rfl (by decide) (by decide) rfl rfl rfl rfl rfl hl.1 (Nat.le_of_ble_eq_true rfl) dX2_readPiece_68 ⟨Nat.le_of_ble_eq_true rfl, Nat.le_of_ble_eq_true rfl⟩ (fun u H locs hw_36 hP hD hS => ?_)
      obtain ⟨Po_34, fo_35⟩ := u
      try dsimp only at hw_36
      have hP : va_P D vwCl [(h0, .inr (2, [.ref tx, .ref lw])), (lw, .inr (1, [.ref l1, .ref l2, .ref l3, .ref l4, .ref l5, .ref l6, .ref l7, .int (nI zo_30), .int (nI k)])), (l1, .inl (cI, 240, .inl l1o_31)), (tx, .inr (6, [.ref tp, .int (nI N), .int (nI Po_34), .int fo_35])), (tp, .inr (5, [.ref by_, .int (nI T)])), (by_, .inl (cI, 260, .inl fb))] H := hP
      have hD : va_D A [(h0, .inr (2, [.ref tx, .ref lw])), (lw, .inr (1, [.ref l1, .ref l2, .ref l3, .ref l4, .ref l5, .ref l6, .ref l7, .int (nI zo_30), .int (nI k)])), (l1, .inl (cI, 240, .inl l1o_31)), (tx, .inr (6, [.ref tp, .int (nI N), .int (nI Po_34), .int fo_35])), (tp, .inr (5, [.ref by_, .int (nI T)])), (by_, .inl (cI, 260, .inl fb))] := hD
      refine lv_goto (tgt := 98) hx hb dX2_readPiece_71 (by decide) ?_
      exact ret _ _ _ _ (Po_34, fo_35, zo_30, l1o_31) dX2_readPiece_98 (⟨hw_32.1, PCQ.par (by omega) hop hw_32.2.1 hw_32.2.2 hw_36.1 hw_36.2.1 hw_36.2.2.2⟩) (hP.sub [0, 3, 4, 5, 1, 2] rfl) (hD.sub [0, 3, 4, 5, 1, 2] (by decide) rfl) hS
  · obtain ⟨hf0, hlt, hop⟩ := sQj (v := 33) (by decide) (ex_2.symm.trans c_11)
    subst hf0
    refine lv_aload_n hx hb dX2_readPiece_14 rfl (lv_at hl 1 rfl) ?_
    refine lv_iload_n hx hb dX2_readPiece_15 rfl (lv_at hl 2 rfl) ?_
    refine cVI (As := [.int 4]) (rest := []) (n := 1) (ci := 2) (q0 := 0) (wr := [(tp, .inr (5, [.ref by_, .int (nI T)])), (by_, .inl (cI, 260, .inl fb)), (lw, .inr (1, [.ref l1, .ref l2, .ref l3, .ref l4, .ref l5, .ref l6, .ref l7, .int (nI z), .int (nI k)])), (l1, .inl (cI, 240, .inl q1))]) X hN hK hP hD hS hA (c_opensP l D cI cB _ h0 lw tx tp N P 0 4 hlt) (gV k_598 k_600 k_5 k_99 k_601) (by decide +kernel) ⟨Nat.le_of_ble_eq_true rfl, Nat.le_of_ble_eq_true rfl⟩ ⟨rfl, rfl⟩ [0, 1] [2, 3, 4, 5] rfl rfl (by decide) (by decide) rfl rfl rfl rfl rfl hl.1 (Nat.le_of_ble_eq_true rfl) dX2_readPiece_16 ⟨Nat.le_of_ble_eq_true rfl, Nat.le_of_ble_eq_true rfl⟩ (fun r_37 u H locs hw_40 hP hD hS => ?_)
    obtain ⟨Po_38, fo_39⟩ := u
    try dsimp only at hw_40
    have hP : va_P D vwCl [(tp, .inr (5, [.ref by_, .int (nI T)])), (by_, .inl (cI, 260, .inl fb)), (lw, .inr (1, [.ref l1, .ref l2, .ref l3, .ref l4, .ref l5, .ref l6, .ref l7, .int (nI z), .int (nI k)])), (l1, .inl (cI, 240, .inl q1)), (h0, .inr (2, [.ref tx, .ref lw])), (tx, .inr (6, [.ref tp, .int (nI N), .int (nI Po_38), .int fo_39]))] H := hP
    have hD : va_D A [(tp, .inr (5, [.ref by_, .int (nI T)])), (by_, .inl (cI, 260, .inl fb)), (lw, .inr (1, [.ref l1, .ref l2, .ref l3, .ref l4, .ref l5, .ref l6, .ref l7, .int (nI z), .int (nI k)])), (l1, .inl (cI, 240, .inl q1)), (h0, .inr (2, [.ref tx, .ref lw])), (tx, .inr (6, [.ref tp, .int (nI N), .int (nI Po_38), .int fo_39]))] := hD
    obtain rfl : r_37 = 1 := hw_40.1.trans (by decide)
    obtain ⟨eo1, eo2⟩ := hw_40.2.1 (by decide)
    rw [eo1, eo2] at hP hD
    have hP : va_P D vwCl [(tp, .inr (5, [.ref by_, .int (nI T)])), (by_, .inl (cI, 260, .inl fb)), (lw, .inr (1, [.ref l1, .ref l2, .ref l3, .ref l4, .ref l5, .ref l6, .ref l7, .int (nI z), .int (nI k)])), (l1, .inl (cI, 240, .inl q1)), (h0, .inr (2, [.ref tx, .ref lw])), (tx, .inr (6, [.ref tp, .int (nI N), .int (nI (P + 1)), .int 0]))] H := hP
    have hD : va_D A [(tp, .inr (5, [.ref by_, .int (nI T)])), (by_, .inl (cI, 260, .inl fb)), (lw, .inr (1, [.ref l1, .ref l2, .ref l3, .ref l4, .ref l5, .ref l6, .ref l7, .int (nI z), .int (nI k)])), (l1, .inl (cI, 240, .inl q1)), (h0, .inr (2, [.ref tx, .ref lw])), (tx, .inr (6, [.ref tp, .int (nI N), .int (nI (P + 1)), .int 0]))] := hD
    refine lv_if_eq (tgt := 98) hx hb dX2_readPiece_19 (by decide) (fun c_19 => absurd c_19 (by decide)) (fun _ => ?_)
    refine lv_aload_n hx hb dX2_readPiece_22 rfl (lv_at hl 1 rfl) ?_
    refine lv_iload_n hx hb dX2_readPiece_23 rfl (lv_at hl 2 rfl) ?_
    refine lv_iconst (v := 1) hx hb dX2_readPiece_24 (by decide) ?_
    refine lv_iadd hx hb dX2_readPiece_25 ?_
    refine tv (z := 5) (by decide) ?_
    refine cVVk (As := [.int 5]) (rest := []) (n := 1) (ci := 2) (q0 := 0) (wr := []) X hN hKO hK hP hD hS hA (c_rpP_5 l D cI cB _ kk h0 tx tp N (P + 1) 0 by_ T fb lw l1 l2 l3 l4 l5 l6 l7 z k q1 hT hNT (by omega) hN2 (Or.inl rfl) hbr hz hk) (gV k_636 k_638 k_9 k_99 k_639) (by decide +kernel) ⟨Nat.le_of_ble_eq_true rfl, Nat.le_of_ble_eq_true rfl⟩ ⟨rfl, rfl⟩ [4, 5, 0, 1, 2, 3] [] rfl rfl (by decide) (by decide) rfl rfl rfl rfl rfl hl.1 (Nat.le_of_ble_eq_true rfl) dX2_readPiece_26 ⟨Nat.le_of_ble_eq_true rfl, Nat.le_of_ble_eq_true rfl⟩ (fun u H locs hw_46 hP hD hS => ?_)
    obtain ⟨Po_42, fo_43, zo_44, l1o_45⟩ := u
    try dsimp only at hw_46
    have hP : va_P D vwCl [(h0, .inr (2, [.ref tx, .ref lw])), (tx, .inr (6, [.ref tp, .int (nI N), .int (nI Po_42), .int fo_43])), (tp, .inr (5, [.ref by_, .int (nI T)])), (by_, .inl (cI, 260, .inl fb)), (lw, .inr (1, [.ref l1, .ref l2, .ref l3, .ref l4, .ref l5, .ref l6, .ref l7, .int (nI zo_44), .int (nI k)])), (l1, .inl (cI, 240, .inl l1o_45))] H := hP
    have hD : va_D A [(h0, .inr (2, [.ref tx, .ref lw])), (tx, .inr (6, [.ref tp, .int (nI N), .int (nI Po_42), .int fo_43])), (tp, .inr (5, [.ref by_, .int (nI T)])), (by_, .inl (cI, 260, .inl fb)), (lw, .inr (1, [.ref l1, .ref l2, .ref l3, .ref l4, .ref l5, .ref l6, .ref l7, .int (nI zo_44), .int (nI k)])), (l1, .inl (cI, 240, .inl l1o_45))] := hD
    refine lv_aload_n hx hb dX2_readPiece_29 rfl (lv_at hl 1 rfl) ?_
    refine va_get (D := D) (ci := 2) (v := .ref lw) (C := RX2) (T := TX2) (N := 2) hx hb htb itX2 hown hK hP 0 rfl rfl 1 (by decide) (htb _ k_289) (fun _ h9 => h9) rfl dX2_readPiece_30 ?_
    refine lv_iconst (v := 2) hx hb dX2_readPiece_33 (by decide) ?_
    refine lv_iconst (v := 0) hx hb dX2_readPiece_34 (by decide) ?_
    refine cVV (As := [.int 2, .int 0]) (rest := []) (n := 2) (ci := 1) (q0 := 0) (wr := [(h0, .inr (2, [.ref tx, .ref lw])), (tx, .inr (6, [.ref tp, .int (nI N), .int (nI Po_42), .int fo_43])), (tp, .inr (5, [.ref by_, .int (nI T)])), (by_, .inl (cI, 260, .inl fb))]) X hN hK hP hD hS hA (c_X1_addStep l D cI cB _ lw l1 l2 l3 l4 l5 l6 l7 zo_44 k 2 0 l1o_45 hw_46.1 hk) (gV k_594 k_595 k_596 k_97 k_597) (by decide +kernel) ⟨Nat.le_of_ble_eq_true rfl, Nat.le_of_ble_eq_true rfl⟩ ⟨rfl, rfl⟩ [4, 5] [0, 1, 2, 3] rfl rfl (by decide) (by decide) rfl rfl rfl rfl rfl hl.1 (Nat.le_of_ble_eq_true rfl) dX2_readPiece_35 ⟨Nat.le_of_ble_eq_true rfl, Nat.le_of_ble_eq_true rfl⟩ (fun u H locs hw_50 hP hD hS => ?_)
    obtain ⟨zo_48, l1_fo_49⟩ := u
    try dsimp only at hw_50
    have hP : va_P D vwCl [(h0, .inr (2, [.ref tx, .ref lw])), (tx, .inr (6, [.ref tp, .int (nI N), .int (nI Po_42), .int fo_43])), (tp, .inr (5, [.ref by_, .int (nI T)])), (by_, .inl (cI, 260, .inl fb)), (lw, .inr (1, [.ref l1, .ref l2, .ref l3, .ref l4, .ref l5, .ref l6, .ref l7, .int (nI zo_48), .int (nI k)])), (l1, .inl (cI, 240, .inl l1_fo_49))] H := hP
    have hD : va_D A [(h0, .inr (2, [.ref tx, .ref lw])), (tx, .inr (6, [.ref tp, .int (nI N), .int (nI Po_42), .int fo_43])), (tp, .inr (5, [.ref by_, .int (nI T)])), (by_, .inl (cI, 260, .inl fb)), (lw, .inr (1, [.ref l1, .ref l2, .ref l3, .ref l4, .ref l5, .ref l6, .ref l7, .int (nI zo_48), .int (nI k)])), (l1, .inl (cI, 240, .inl l1_fo_49))] := hD
    refine lv_goto (tgt := 98) hx hb dX2_readPiece_38 (by decide) ?_
    exact ret _ _ _ _ (Po_42, fo_43, zo_48, l1_fo_49) dX2_readPiece_98 (⟨hw_50, PCQ.no hop hw_46.2⟩) (hP.sub [0, 1, 2, 3, 4, 5] rfl) (hD.sub [0, 1, 2, 3, 4, 5] (by decide) rfl) hS

set_option maxRecDepth 100000 in
set_option maxHeartbeats 4000000 in
theorem c_raP_4 (l : Launch) (D : va_G) (cI cB : ClassId) (sz : Nat) (kk : KT) (h0 : Nat) (tx : Nat) (tp : Nat) (N : Nat) (P : Nat) (fa : Int32) (by_ : Nat) (T : Nat) (fb : Nat → Int32) (lw : Nat) (l1 : Nat) (l2 : Nat) (l3 : Nat) (l4 : Nat) (l5 : Nat) (l6 : Nat) (l7 : Nat) (z : Nat) (k : Nat) (q1 : Nat → Int32) (hT : T ≤ 260) (hNT : N ≤ T) (hPN : P ≤ N) (hN2 : N ≤ 240) (hfa : fa = 0 ∨ fa < 0) (hbr : BR N fb) (hz : z ≤ 240) (hk : k ≤ 16) : MVk (S := ((Nat) × (Int32) × (Nat) × (Nat → Int32))) l D cI cB kk yX2_readPart cX2_readPart 4 (rm 15 342) [.ref h0, .int 4] [(h0, .inr (2, [.ref tx, .ref lw])), (tx, .inr (6, [.ref tp, .int (nI N), .int (nI P), .int fa])), (tp, .inr (5, [.ref by_, .int (nI T)])), (by_, .inl (cI, 260, .inl fb)), (lw, .inr (1, [.ref l1, .ref l2, .ref l3, .ref l4, .ref l5, .ref l6, .ref l7, .int (nI z), .int (nI k)])), (l1, .inl (cI, 240, .inl q1))] sz (fun u => u.2.2.1 ≤ 240 ∧ PTQ fb N 2 P u.1 fa u.2.1 ∧ (u.2.1 = 0 → ¬ chF fb N u.1 = 38)) (fun u : ((Nat) × (Int32) × (Nat) × (Nat → Int32)) => [(h0, .inr (2, [.ref tx, .ref lw])), (tx, .inr (6, [.ref tp, .int (nI N), .int (nI u.1), .int u.2.1])), (tp, .inr (5, [.ref by_, .int (nI T)])), (by_, .inl (cI, 260, .inl fb)), (lw, .inr (1, [.ref l1, .ref l2, .ref l3, .ref l4, .ref l5, .ref l6, .ref l7, .int (nI u.2.2.1), .int (nI k)])), (l1, .inl (cI, 240, .inl u.2.2.2))]) := by
  refine MVk.of (by decide) (Nat.le_of_ble_eq_true rfl) ?_
  intro p e s m below meth c Q ls A X hin hN hKO hP hK hD hA hl ret
  have hS : va_S A s.heap s.heap [] := va_S.rf
  obtain ⟨hx, hb, hml, hown, htb⟩ := id X
  have hl : lv_has ls 4 [(0, .ref h0), (1, .int 4)] := hl
  refine lv_aload_n hx hb dX2_readPart_0 rfl (lv_at hl 0 rfl) ?_
  refine lv_iload_n hx hb dX2_readPart_1 rfl (lv_at hl 1 rfl) ?_
  refine cVVk (As := [.int 4]) (rest := []) (n := 1) (ci := 2) (q0 := 0) (wr := []) X hN hKO hK hP hD hS hA (c_rpP_4 l D cI cB _ kk h0 tx tp N P fa by_ T fb lw l1 l2 l3 l4 l5 l6 l7 z k q1 hT hNT hPN hN2 hfa hbr hz hk) (gV k_636 k_638 k_9 k_99 k_639) (by decide +kernel) ⟨Nat.le_of_ble_eq_true rfl, Nat.le_of_ble_eq_true rfl⟩ ⟨rfl, rfl⟩ [0, 1, 2, 3, 4, 5] [] rfl rfl (by decide) (by decide) rfl rfl rfl rfl rfl hl.1 (Nat.le_of_ble_eq_true rfl) dX2_readPart_2 ⟨Nat.le_of_ble_eq_true rfl, Nat.le_of_ble_eq_true rfl⟩ (fun u H locs hw_6 hP hD hS => ?_)
  obtain ⟨Po_2, fo_3, zo_4, l1o_5⟩ := u
  try dsimp only at hw_6
  have hP : va_P D vwCl [(h0, .inr (2, [.ref tx, .ref lw])), (tx, .inr (6, [.ref tp, .int (nI N), .int (nI Po_2), .int fo_3])), (tp, .inr (5, [.ref by_, .int (nI T)])), (by_, .inl (cI, 260, .inl fb)), (lw, .inr (1, [.ref l1, .ref l2, .ref l3, .ref l4, .ref l5, .ref l6, .ref l7, .int (nI zo_4), .int (nI k)])), (l1, .inl (cI, 240, .inl l1o_5))] H := hP
  have hD : va_D A [(h0, .inr (2, [.ref tx, .ref lw])), (tx, .inr (6, [.ref tp, .int (nI N), .int (nI Po_2), .int fo_3])), (tp, .inr (5, [.ref by_, .int (nI T)])), (by_, .inl (cI, 260, .inl fb)), (lw, .inr (1, [.ref l1, .ref l2, .ref l3, .ref l4, .ref l5, .ref l6, .ref l7, .int (nI zo_4), .int (nI k)])), (l1, .inl (cI, 240, .inl l1o_5))] := hD
  refine lv_iconst (v := 0) hx hb dX2_readPart_5 (by decide) ?_
  refine lv_istore_n (lv' := [(2, .int 0), (0, .ref h0), (1, .int 4)]) hx hb dX2_readPart_6 rfl hl (by decide) rfl (fun ls hl => ?_)
  have loop_7 : ∀ (n i : Nat) (Pa : Nat) (fv : Int32) (za : Nat) (qa : Nat → Int32), n + i = 240 → (za ≤ 240) → (PTQ fb N 2 P Pa fa fv) → (fv = 0 → fa = 0 → i < Pa) → ∀ (H : Heap) (locs : List Loc), va_P D vwCl [(h0, .inr (2, [.ref tx, .ref lw])), (tx, .inr (6, [.ref tp, .int (nI N), .int (nI Pa), .int fv])), (tp, .inr (5, [.ref by_, .int (nI T)])), (by_, .inl (cI, 260, .inl fb)), (lw, .inr (1, [.ref l1, .ref l2, .ref l3, .ref l4, .ref l5, .ref l6, .ref l7, .int (nI za), .int (nI k)])), (l1, .inl (cI, 240, .inl qa))] H → va_D A [(h0, .inr (2, [.ref tx, .ref lw])), (tx, .inr (6, [.ref tp, .int (nI N), .int (nI Pa), .int fv])), (tp, .inr (5, [.ref by_, .int (nI T)])), (by_, .inl (cI, 260, .inl fb)), (lw, .inr (1, [.ref l1, .ref l2, .ref l3, .ref l4, .ref l5, .ref l6, .ref l7, .int (nI za), .int (nI k)])), (l1, .inl (cI, 240, .inl qa))] → va_S A s.heap H locs → ∀ (ls : Array Slot), lv_has ls 4 [(0, .ref h0), (1, .int 4), (2, .int (nI i))] → W p l e (rm 15 342) s m ([.ref h0, .int 4] : List Value).toArray below meth c H locs 0 0 Q (F0 m 7 ls []) := by
    intro n
    induction n with
    | zero =>
      intro i Pa fv za qa hni hza hq hiP H locs hP hD hS ls hl
      have hni_7 := hni
      have hi : i = 240 := by omega
      refine lv_iload_n hx hb dX2_readPart_7 rfl (lv_at hl 2 rfl) ?_
      refine lv_sipush (v := 240) hx hb dX2_readPart_8 (by decide) ?_
      refine lv_icmp_ge (tgt := 62) hx hb dX2_readPart_11 (by decide) (fun _ => ?_) (fun c_11 => absurd (by rw [hi]; decide) c_11)
      exact ret _ _ _ _ (Pa, fv, za, qa) dX2_readPart_62 (⟨hza, ⟨hq, fun z => absurd z (fun z => by have h2 := hq.2.1; have h4 := hq.2.2.2.1; exact (Classical.em (fa = 0)).elim (fun w => by have := hiP z w; omega) (fun w => w ((h2 w).symm.trans z)))⟩⟩) (hP.sub [0, 1, 2, 3, 4, 5] rfl) (hD.sub [0, 1, 2, 3, 4, 5] (by decide) rfl) hS
    | succ n ih_7 =>
      intro i Pa fv za qa hni hza hq hiP H locs hP hD hS ls hl
      have hni_7 := hni
      have hi : i < 240 := by omega
      refine lv_iload_n hx hb dX2_readPart_7 rfl (lv_at hl 2 rfl) ?_
      refine lv_sipush (v := 240) hx hb dX2_readPart_8 (by decide) ?_
      refine lv_icmp_ge (tgt := 62) hx hb dX2_readPart_11 (by decide) (fun c_11 => absurd c_11 (nI_ge hi (by decide))) (fun _ => ?_)
      refine lv_aload_n hx hb dX2_readPart_14 rfl (lv_at hl 0 rfl) ?_
      refine va_get (D := D) (ci := 2) (v := .ref tx) (C := RX2) (T := TX2) (N := 2) hx hb htb itX2 hown hK hP 0 rfl rfl 0 (by decide) (htb _ k_288) (fun _ h9 => h9) rfl dX2_readPart_15 ?_
      refine lv_bipush (v := 38) hx hb dX2_readPart_18 (by decide) ?_
      refine cVI (As := [.int 38]) (rest := []) (n := 1) (ci := 6) (q0 := 0) (wr := [(h0, .inr (2, [.ref tx, .ref lw])), (lw, .inr (1, [.ref l1, .ref l2, .ref l3, .ref l4, .ref l5, .ref l6, .ref l7, .int (nI za), .int (nI k)])), (l1, .inl (cI, 240, .inl qa))]) X hN hK hP hD hS hA (c_skipP l D cI cB _ tx tp N Pa fv by_ T fb 38 hT hNT hq.2.2.2.1 (by decide)) (gV k_644 k_607 k_608 k_98 k_609) (by decide +kernel) ⟨Nat.le_of_ble_eq_true rfl, Nat.le_of_ble_eq_true rfl⟩ ⟨rfl, rfl⟩ [1, 2, 3] [0, 4, 5] rfl rfl (by decide) (by decide) rfl rfl rfl rfl rfl hl.1 (Nat.le_of_ble_eq_true rfl) dX2_readPart_20 ⟨Nat.le_of_ble_eq_true rfl, Nat.le_of_ble_eq_true rfl⟩ (fun r_7 u H locs hw_9 hP hD hS => ?_)
      obtain ⟨Po_8, rfl⟩ : ∃ z, z = u := ⟨_, rfl⟩
      try dsimp only at hw_9
      have hP : va_P D vwCl [(h0, .inr (2, [.ref tx, .ref lw])), (lw, .inr (1, [.ref l1, .ref l2, .ref l3, .ref l4, .ref l5, .ref l6, .ref l7, .int (nI za), .int (nI k)])), (l1, .inl (cI, 240, .inl qa)), (tx, .inr (6, [.ref tp, .int (nI N), .int (nI Po_8), .int fv])), (tp, .inr (5, [.ref by_, .int (nI T)])), (by_, .inl (cI, 260, .inl fb))] H := hP
      have hD : va_D A [(h0, .inr (2, [.ref tx, .ref lw])), (lw, .inr (1, [.ref l1, .ref l2, .ref l3, .ref l4, .ref l5, .ref l6, .ref l7, .int (nI za), .int (nI k)])), (l1, .inl (cI, 240, .inl qa)), (tx, .inr (6, [.ref tp, .int (nI N), .int (nI Po_8), .int fv])), (tp, .inr (5, [.ref by_, .int (nI T)])), (by_, .inl (cI, 260, .inl fb))] := hD
      refine lv_if_eq (tgt := 62) hx hb dX2_readPart_23 (by decide) (fun c_23 => ?_) (fun c_23 => ?_)
      · have hsn := bIf (hw_9.1.symm.trans c_23)
        have hpl := hw_9.2.2.1 hsn
        rw [hpl] at hP hD
        have hP : va_P D vwCl [(h0, .inr (2, [.ref tx, .ref lw])), (lw, .inr (1, [.ref l1, .ref l2, .ref l3, .ref l4, .ref l5, .ref l6, .ref l7, .int (nI za), .int (nI k)])), (l1, .inl (cI, 240, .inl qa)), (tx, .inr (6, [.ref tp, .int (nI N), .int (nI Pa), .int fv])), (tp, .inr (5, [.ref by_, .int (nI T)])), (by_, .inl (cI, 260, .inl fb))] H := hP
        have hD : va_D A [(h0, .inr (2, [.ref tx, .ref lw])), (lw, .inr (1, [.ref l1, .ref l2, .ref l3, .ref l4, .ref l5, .ref l6, .ref l7, .int (nI za), .int (nI k)])), (l1, .inl (cI, 240, .inl qa)), (tx, .inr (6, [.ref tp, .int (nI N), .int (nI Pa), .int fv])), (tp, .inr (5, [.ref by_, .int (nI T)])), (by_, .inl (cI, 260, .inl fb))] := hD
        exact ret _ _ _ _ (Pa, fv, za, qa) dX2_readPart_62 (⟨hza, ⟨hq, fun (z : fv = 0) => by have w1 := hsn; rw [z, sQ0] at w1; exact w1⟩⟩) (hP.sub [0, 3, 4, 5, 1, 2] rfl) (hD.sub [0, 3, 4, 5, 1, 2] (by decide) rfl) hS
      · have hsk := bIt (fun z => c_23 (hw_9.1.trans z))
        obtain ⟨hf0, hlt, hch⟩ := sQj (by decide) hsk
        have hpl := hw_9.2.1 hsk
        subst hf0
        have hjn : JN2 (chF fb N Pa) := Or.inl hch
        rw [hpl] at hP hD
        have hP : va_P D vwCl [(h0, .inr (2, [.ref tx, .ref lw])), (lw, .inr (1, [.ref l1, .ref l2, .ref l3, .ref l4, .ref l5, .ref l6, .ref l7, .int (nI za), .int (nI k)])), (l1, .inl (cI, 240, .inl qa)), (tx, .inr (6, [.ref tp, .int (nI N), .int (nI (Pa + 1)), .int 0])), (tp, .inr (5, [.ref by_, .int (nI T)])), (by_, .inl (cI, 260, .inl fb))] H := hP
        have hD : va_D A [(h0, .inr (2, [.ref tx, .ref lw])), (lw, .inr (1, [.ref l1, .ref l2, .ref l3, .ref l4, .ref l5, .ref l6, .ref l7, .int (nI za), .int (nI k)])), (l1, .inl (cI, 240, .inl qa)), (tx, .inr (6, [.ref tp, .int (nI N), .int (nI (Pa + 1)), .int 0])), (tp, .inr (5, [.ref by_, .int (nI T)])), (by_, .inl (cI, 260, .inl fb))] := hD
        refine lv_aload_n hx hb dX2_readPart_26 rfl (lv_at hl 0 rfl) ?_
        refine va_get (D := D) (ci := 2) (v := .ref lw) (C := RX2) (T := TX2) (N := 2) hx hb htb itX2 hown hK hP 0 rfl rfl 1 (by decide) (htb _ k_289) (fun _ h9 => h9) rfl dX2_readPart_27 ?_
        refine va_getN (D := D) (ci := 1) (v := .int (nI za)) (C := RX1) (T := TX1) (N := 9) hx hb htb itX1 hown hK hP 1 rfl rfl 7 (by decide) (va_Nw.use rfl (hN _ n_232 rfl)) (fun _ h9 => h9) rfl dX2_readPart_30 ?_
        refine lv_istore_n (lv' := [(3, .int (nI za)), (0, .ref h0), (1, .int 4), (2, .int (nI i))]) hx hb dX2_readPart_33 rfl hl (by decide) rfl (fun ls hl => ?_)
        refine lv_aload_n hx hb dX2_readPart_34 rfl (lv_at hl 1 rfl) ?_
        refine va_get (D := D) (ci := 2) (v := .ref lw) (C := RX2) (T := TX2) (N := 2) hx hb htb itX2 hown hK hP 0 rfl rfl 1 (by decide) (htb _ k_289) (fun _ h9 => h9) rfl dX2_readPart_35 ?_
        refine lv_iconst (v := 4) hx hb dX2_readPart_38 (by decide) ?_
        refine lv_iconst (v := 0) hx hb dX2_readPart_39 (by decide) ?_
        refine cVV (As := [.int 4, .int 0]) (rest := []) (n := 2) (ci := 1) (q0 := 0) (wr := [(h0, .inr (2, [.ref tx, .ref lw])), (tx, .inr (6, [.ref tp, .int (nI N), .int (nI (Pa + 1)), .int 0])), (tp, .inr (5, [.ref by_, .int (nI T)])), (by_, .inl (cI, 260, .inl fb))]) X hN hK hP hD hS hA (c_X1_addStep l D cI cB _ lw l1 l2 l3 l4 l5 l6 l7 za k 4 0 qa hza hk) (gV k_594 k_595 k_596 k_97 k_597) (by decide +kernel) ⟨Nat.le_of_ble_eq_true rfl, Nat.le_of_ble_eq_true rfl⟩ ⟨rfl, rfl⟩ [1, 2] [0, 3, 4, 5] rfl rfl (by decide) (by decide) rfl rfl rfl rfl rfl hl.1 (Nat.le_of_ble_eq_true rfl) dX2_readPart_40 ⟨Nat.le_of_ble_eq_true rfl, Nat.le_of_ble_eq_true rfl⟩ (fun u H locs hw_13 hP hD hS => ?_)
        obtain ⟨zo_11, l1_fo_12⟩ := u
        try dsimp only at hw_13
        have hP : va_P D vwCl [(h0, .inr (2, [.ref tx, .ref lw])), (tx, .inr (6, [.ref tp, .int (nI N), .int (nI (Pa + 1)), .int 0])), (tp, .inr (5, [.ref by_, .int (nI T)])), (by_, .inl (cI, 260, .inl fb)), (lw, .inr (1, [.ref l1, .ref l2, .ref l3, .ref l4, .ref l5, .ref l6, .ref l7, .int (nI zo_11), .int (nI k)])), (l1, .inl (cI, 240, .inl l1_fo_12))] H := hP
        have hD : va_D A [(h0, .inr (2, [.ref tx, .ref lw])), (tx, .inr (6, [.ref tp, .int (nI N), .int (nI (Pa + 1)), .int 0])), (tp, .inr (5, [.ref by_, .int (nI T)])), (by_, .inl (cI, 260, .inl fb)), (lw, .inr (1, [.ref l1, .ref l2, .ref l3, .ref l4, .ref l5, .ref l6, .ref l7, .int (nI zo_11), .int (nI k)])), (l1, .inl (cI, 240, .inl l1_fo_12))] := hD
        refine lv_aload_n hx hb dX2_readPart_43 rfl (lv_at hl 1 rfl) ?_
        refine lv_iload_n hx hb dX2_readPart_44 rfl (lv_at hl 2 rfl) ?_
        refine cVVk (As := [.int 4]) (rest := []) (n := 1) (ci := 2) (q0 := 0) (wr := []) X hN hKO hK hP hD hS hA (c_rpP_4 l D cI cB _ kk h0 tx tp N (Pa + 1) 0 by_ T fb lw l1 l2 l3 l4 l5 l6 l7 zo_11 k l1_fo_12 hT hNT (by omega) hN2 (Or.inl rfl) hbr hw_13 hk) (gV k_636 k_638 k_9 k_99 k_639) (by decide +kernel) ⟨Nat.le_of_ble_eq_true rfl, Nat.le_of_ble_eq_true rfl⟩ ⟨rfl, rfl⟩ [0, 1, 2, 3, 4, 5] [] rfl rfl (by decide) (by decide) rfl rfl rfl rfl rfl hl.1 (Nat.le_of_ble_eq_true rfl) dX2_readPart_45 ⟨Nat.le_of_ble_eq_true rfl, Nat.le_of_ble_eq_true rfl⟩ (fun u H locs hw_19 hP hD hS => ?_)
        obtain ⟨Po_15, fo_16, zo_17, l1o_18⟩ := u
        try dsimp only at hw_19
        have hP : va_P D vwCl [(h0, .inr (2, [.ref tx, .ref lw])), (tx, .inr (6, [.ref tp, .int (nI N), .int (nI Po_15), .int fo_16])), (tp, .inr (5, [.ref by_, .int (nI T)])), (by_, .inl (cI, 260, .inl fb)), (lw, .inr (1, [.ref l1, .ref l2, .ref l3, .ref l4, .ref l5, .ref l6, .ref l7, .int (nI zo_17), .int (nI k)])), (l1, .inl (cI, 240, .inl l1o_18))] H := hP
        have hD : va_D A [(h0, .inr (2, [.ref tx, .ref lw])), (tx, .inr (6, [.ref tp, .int (nI N), .int (nI Po_15), .int fo_16])), (tp, .inr (5, [.ref by_, .int (nI T)])), (by_, .inl (cI, 260, .inl fb)), (lw, .inr (1, [.ref l1, .ref l2, .ref l3, .ref l4, .ref l5, .ref l6, .ref l7, .int (nI zo_17), .int (nI k)])), (l1, .inl (cI, 240, .inl l1o_18))] := hD
        refine lv_aload_n hx hb dX2_readPart_48 rfl (lv_at hl 1 rfl) ?_
        refine va_get (D := D) (ci := 2) (v := .ref lw) (C := RX2) (T := TX2) (N := 2) hx hb htb itX2 hown hK hP 0 rfl rfl 1 (by decide) (htb _ k_289) (fun _ h9 => h9) rfl dX2_readPart_49 ?_
        refine lv_iload_n hx hb dX2_readPart_52 rfl (lv_at hl 0 rfl) ?_
        refine cVV (As := [.int (nI za)]) (rest := []) (n := 1) (ci := 1) (q0 := 0) (wr := [(h0, .inr (2, [.ref tx, .ref lw])), (tx, .inr (6, [.ref tp, .int (nI N), .int (nI Po_15), .int fo_16])), (tp, .inr (5, [.ref by_, .int (nI T)])), (by_, .inl (cI, 260, .inl fb))]) X hN hK hP hD hS hA (c_X1_landSkip l D cI cB _ lw l1 l2 l3 l4 l5 l6 l7 zo_17 k (nI za) l1o_18 hw_19.1 hk) (gV k_645 k_646 k_647 k_97 k_648) (by decide +kernel) ⟨Nat.le_of_ble_eq_true rfl, Nat.le_of_ble_eq_true rfl⟩ ⟨rfl, rfl⟩ [4, 5] [0, 1, 2, 3] rfl rfl (by decide) (by decide) rfl rfl rfl rfl rfl hl.1 (Nat.le_of_ble_eq_true rfl) dX2_readPart_53 ⟨Nat.le_of_ble_eq_true rfl, Nat.le_of_ble_eq_true rfl⟩ (fun u H locs hw_22 hP hD hS => ?_)
        obtain ⟨l1_fo_21, rfl⟩ : ∃ z, z = u := ⟨_, rfl⟩
        try dsimp only at hw_22
        have hP : va_P D vwCl [(h0, .inr (2, [.ref tx, .ref lw])), (tx, .inr (6, [.ref tp, .int (nI N), .int (nI Po_15), .int fo_16])), (tp, .inr (5, [.ref by_, .int (nI T)])), (by_, .inl (cI, 260, .inl fb)), (lw, .inr (1, [.ref l1, .ref l2, .ref l3, .ref l4, .ref l5, .ref l6, .ref l7, .int (nI zo_17), .int (nI k)])), (l1, .inl (cI, 240, .inl l1_fo_21))] H := hP
        have hD : va_D A [(h0, .inr (2, [.ref tx, .ref lw])), (tx, .inr (6, [.ref tp, .int (nI N), .int (nI Po_15), .int fo_16])), (tp, .inr (5, [.ref by_, .int (nI T)])), (by_, .inl (cI, 260, .inl fb)), (lw, .inr (1, [.ref l1, .ref l2, .ref l3, .ref l4, .ref l5, .ref l6, .ref l7, .int (nI zo_17), .int (nI k)])), (l1, .inl (cI, 240, .inl l1_fo_21))] := hD
        refine lv_iinc (v := (nI (i + 1))) (lv' := [(2, .int (nI (i + 1))), (3, .int (nI za)), (0, .ref h0), (1, .int 4)]) hx hb dX2_readPart_56 hl (k := 3) rfl (nI_1 i) (by decide) rfl (fun ls hl => ?_)
        refine lv_goto (tgt := 7) hx hb dX2_readPart_59 (by decide) ?_
        exact ih_7 (i + 1) Po_15 fo_16 zo_17 l1_fo_21 (by omega) hw_19.1 (hq.more hjn hw_19.2.pt) (fun z w => by have := (((hw_19.2.2.2.2.2 rfl).1 z).1); have := hiP rfl w; omega) _ _ (hP.sub [0, 1, 2, 3, 4, 5] rfl) (hD.sub [0, 1, 2, 3, 4, 5] (by decide) rfl) hS _ (lv_sub hl [2, 3, 0] rfl)
  exact loop_7 240 0 Po_2 fo_3 zo_4 l1o_5 (by omega) hw_6.1 hw_6.2.pt (fun z w => (((hw_6.2.2.2.2.2 w).1 z).1 |> fun y => by omega)) _ _ (hP.sub [0, 1, 2, 3, 4, 5] rfl) (hD.sub [0, 1, 2, 3, 4, 5] (by decide) rfl) hS _ (lv_sub hl [1, 2, 0] rfl)

set_option maxRecDepth 100000 in
set_option maxHeartbeats 4000000 in
theorem c_rcP_4 (l : Launch) (D : va_G) (cI cB : ClassId) (sz : Nat) (kk : KT) (h0 : Nat) (tx : Nat) (tp : Nat) (N : Nat) (P : Nat) (fa : Int32) (by_ : Nat) (T : Nat) (fb : Nat → Int32) (lw : Nat) (l1 : Nat) (l2 : Nat) (l3 : Nat) (l4 : Nat) (l5 : Nat) (l6 : Nat) (l7 : Nat) (z : Nat) (k : Nat) (q1 : Nat → Int32) (hT : T ≤ 260) (hNT : N ≤ T) (hPN : P ≤ N) (hN2 : N ≤ 240) (hfa : fa = 0 ∨ fa < 0) (hbr : BR N fb) (hz : z ≤ 240) (hk : k ≤ 16) : MVk (S := ((Nat) × (Int32) × (Nat) × (Nat → Int32))) l D cI cB kk yX2_readChoice cX2_readChoice 4 (rm 16 365) [.ref h0, .int 4] [(h0, .inr (2, [.ref tx, .ref lw])), (tx, .inr (6, [.ref tp, .int (nI N), .int (nI P), .int fa])), (tp, .inr (5, [.ref by_, .int (nI T)])), (by_, .inl (cI, 260, .inl fb)), (lw, .inr (1, [.ref l1, .ref l2, .ref l3, .ref l4, .ref l5, .ref l6, .ref l7, .int (nI z), .int (nI k)])), (l1, .inl (cI, 240, .inl q1))] sz (fun u => u.2.2.1 ≤ 240 ∧ PTQ fb N 2 P u.1 fa u.2.1 ∧ (u.2.1 = 0 → ¬ JN2 (chF fb N u.1))) (fun u : ((Nat) × (Int32) × (Nat) × (Nat → Int32)) => [(h0, .inr (2, [.ref tx, .ref lw])), (tx, .inr (6, [.ref tp, .int (nI N), .int (nI u.1), .int u.2.1])), (tp, .inr (5, [.ref by_, .int (nI T)])), (by_, .inl (cI, 260, .inl fb)), (lw, .inr (1, [.ref l1, .ref l2, .ref l3, .ref l4, .ref l5, .ref l6, .ref l7, .int (nI u.2.2.1), .int (nI k)])), (l1, .inl (cI, 240, .inl u.2.2.2))]) := by
  refine MVk.of (by decide) (Nat.le_of_ble_eq_true rfl) ?_
  intro p e s m below meth c Q ls A X hin hN hKO hP hK hD hA hl ret
  have hS : va_S A s.heap s.heap [] := va_S.rf
  obtain ⟨hx, hb, hml, hown, htb⟩ := id X
  have hl : lv_has ls 4 [(0, .ref h0), (1, .int 4)] := hl
  refine lv_aload_n hx hb dX2_readChoice_0 rfl (lv_at hl 0 rfl) ?_
  refine lv_iload_n hx hb dX2_readChoice_1 rfl (lv_at hl 1 rfl) ?_
  refine cVVk (As := [.int 4]) (rest := []) (n := 1) (ci := 2) (q0 := 0) (wr := []) X hN hKO hK hP hD hS hA (c_raP_4 l D cI cB _ kk h0 tx tp N P fa by_ T fb lw l1 l2 l3 l4 l5 l6 l7 z k q1 hT hNT hPN hN2 hfa hbr hz hk) (gV k_632 k_634 k_8 k_99 k_635) (by decide +kernel) ⟨Nat.le_of_ble_eq_true rfl, Nat.le_of_ble_eq_true rfl⟩ ⟨rfl, rfl⟩ [0, 1, 2, 3, 4, 5] [] rfl rfl (by decide) (by decide) rfl rfl rfl rfl rfl hl.1 (Nat.le_of_ble_eq_true rfl) dX2_readChoice_2 ⟨Nat.le_of_ble_eq_true rfl, Nat.le_of_ble_eq_true rfl⟩ (fun u H locs hw_6 hP hD hS => ?_)
  obtain ⟨Po_2, fo_3, zo_4, l1o_5⟩ := u
  try dsimp only at hw_6
  have hP : va_P D vwCl [(h0, .inr (2, [.ref tx, .ref lw])), (tx, .inr (6, [.ref tp, .int (nI N), .int (nI Po_2), .int fo_3])), (tp, .inr (5, [.ref by_, .int (nI T)])), (by_, .inl (cI, 260, .inl fb)), (lw, .inr (1, [.ref l1, .ref l2, .ref l3, .ref l4, .ref l5, .ref l6, .ref l7, .int (nI zo_4), .int (nI k)])), (l1, .inl (cI, 240, .inl l1o_5))] H := hP
  have hD : va_D A [(h0, .inr (2, [.ref tx, .ref lw])), (tx, .inr (6, [.ref tp, .int (nI N), .int (nI Po_2), .int fo_3])), (tp, .inr (5, [.ref by_, .int (nI T)])), (by_, .inl (cI, 260, .inl fb)), (lw, .inr (1, [.ref l1, .ref l2, .ref l3, .ref l4, .ref l5, .ref l6, .ref l7, .int (nI zo_4), .int (nI k)])), (l1, .inl (cI, 240, .inl l1o_5))] := hD
  refine lv_iconst (v := 0) hx hb dX2_readChoice_5 (by decide) ?_
  refine lv_istore_n (lv' := [(2, .int 0), (0, .ref h0), (1, .int 4)]) hx hb dX2_readChoice_6 rfl hl (by decide) rfl (fun ls hl => ?_)
  have loop_7 : ∀ (n i : Nat) (Pa : Nat) (fv : Int32) (za : Nat) (qa : Nat → Int32), n + i = 240 → (za ≤ 240) → (PTQ fb N 2 P Pa fa fv) → (fv = 0 → fa = 0 → i < Pa) → (fv = 0 → ¬ chF fb N Pa = 38) → ∀ (H : Heap) (locs : List Loc), va_P D vwCl [(h0, .inr (2, [.ref tx, .ref lw])), (tx, .inr (6, [.ref tp, .int (nI N), .int (nI Pa), .int fv])), (tp, .inr (5, [.ref by_, .int (nI T)])), (by_, .inl (cI, 260, .inl fb)), (lw, .inr (1, [.ref l1, .ref l2, .ref l3, .ref l4, .ref l5, .ref l6, .ref l7, .int (nI za), .int (nI k)])), (l1, .inl (cI, 240, .inl qa))] H → va_D A [(h0, .inr (2, [.ref tx, .ref lw])), (tx, .inr (6, [.ref tp, .int (nI N), .int (nI Pa), .int fv])), (tp, .inr (5, [.ref by_, .int (nI T)])), (by_, .inl (cI, 260, .inl fb)), (lw, .inr (1, [.ref l1, .ref l2, .ref l3, .ref l4, .ref l5, .ref l6, .ref l7, .int (nI za), .int (nI k)])), (l1, .inl (cI, 240, .inl qa))] → va_S A s.heap H locs → ∀ (ls : Array Slot), lv_has ls 4 [(0, .ref h0), (1, .int 4), (2, .int (nI i))] → W p l e (rm 16 365) s m ([.ref h0, .int 4] : List Value).toArray below meth c H locs 0 0 Q (F0 m 7 ls []) := by
    intro n
    induction n with
    | zero =>
      intro i Pa fv za qa hni hza hq hiP hmu H locs hP hD hS ls hl
      have hni_7 := hni
      have hi : i = 240 := by omega
      refine lv_iload_n hx hb dX2_readChoice_7 rfl (lv_at hl 2 rfl) ?_
      refine lv_sipush (v := 240) hx hb dX2_readChoice_8 (by decide) ?_
      refine lv_icmp_ge (tgt := 62) hx hb dX2_readChoice_11 (by decide) (fun _ => ?_) (fun c_11 => absurd (by rw [hi]; decide) c_11)
      exact ret _ _ _ _ (Pa, fv, za, qa) dX2_readChoice_62 (⟨hza, ⟨hq, fun z => absurd z (fun z => by have h2 := hq.2.1; have h4 := hq.2.2.2.1; exact (Classical.em (fa = 0)).elim (fun w => by have := hiP z w; omega) (fun w => w ((h2 w).symm.trans z)))⟩⟩) (hP.sub [0, 1, 2, 3, 4, 5] rfl) (hD.sub [0, 1, 2, 3, 4, 5] (by decide) rfl) hS
    | succ n ih_7 =>
      intro i Pa fv za qa hni hza hq hiP hmu H locs hP hD hS ls hl
      have hni_7 := hni
      have hi : i < 240 := by omega
      refine lv_iload_n hx hb dX2_readChoice_7 rfl (lv_at hl 2 rfl) ?_
      refine lv_sipush (v := 240) hx hb dX2_readChoice_8 (by decide) ?_
      refine lv_icmp_ge (tgt := 62) hx hb dX2_readChoice_11 (by decide) (fun c_11 => absurd c_11 (nI_ge hi (by decide))) (fun _ => ?_)
      refine lv_aload_n hx hb dX2_readChoice_14 rfl (lv_at hl 0 rfl) ?_
      refine va_get (D := D) (ci := 2) (v := .ref tx) (C := RX2) (T := TX2) (N := 2) hx hb htb itX2 hown hK hP 0 rfl rfl 0 (by decide) (htb _ k_288) (fun _ h9 => h9) rfl dX2_readChoice_15 ?_
      refine lv_bipush (v := 124) hx hb dX2_readChoice_18 (by decide) ?_
      refine cVI (As := [.int 124]) (rest := []) (n := 1) (ci := 6) (q0 := 0) (wr := [(h0, .inr (2, [.ref tx, .ref lw])), (lw, .inr (1, [.ref l1, .ref l2, .ref l3, .ref l4, .ref l5, .ref l6, .ref l7, .int (nI za), .int (nI k)])), (l1, .inl (cI, 240, .inl qa))]) X hN hK hP hD hS hA (c_skipP l D cI cB _ tx tp N Pa fv by_ T fb 124 hT hNT hq.2.2.2.1 (by decide)) (gV k_644 k_607 k_608 k_98 k_609) (by decide +kernel) ⟨Nat.le_of_ble_eq_true rfl, Nat.le_of_ble_eq_true rfl⟩ ⟨rfl, rfl⟩ [1, 2, 3] [0, 4, 5] rfl rfl (by decide) (by decide) rfl rfl rfl rfl rfl hl.1 (Nat.le_of_ble_eq_true rfl) dX2_readChoice_20 ⟨Nat.le_of_ble_eq_true rfl, Nat.le_of_ble_eq_true rfl⟩ (fun r_7 u H locs hw_9 hP hD hS => ?_)
      obtain ⟨Po_8, rfl⟩ : ∃ z, z = u := ⟨_, rfl⟩
      try dsimp only at hw_9
      have hP : va_P D vwCl [(h0, .inr (2, [.ref tx, .ref lw])), (lw, .inr (1, [.ref l1, .ref l2, .ref l3, .ref l4, .ref l5, .ref l6, .ref l7, .int (nI za), .int (nI k)])), (l1, .inl (cI, 240, .inl qa)), (tx, .inr (6, [.ref tp, .int (nI N), .int (nI Po_8), .int fv])), (tp, .inr (5, [.ref by_, .int (nI T)])), (by_, .inl (cI, 260, .inl fb))] H := hP
      have hD : va_D A [(h0, .inr (2, [.ref tx, .ref lw])), (lw, .inr (1, [.ref l1, .ref l2, .ref l3, .ref l4, .ref l5, .ref l6, .ref l7, .int (nI za), .int (nI k)])), (l1, .inl (cI, 240, .inl qa)), (tx, .inr (6, [.ref tp, .int (nI N), .int (nI Po_8), .int fv])), (tp, .inr (5, [.ref by_, .int (nI T)])), (by_, .inl (cI, 260, .inl fb))] := hD
      refine lv_if_eq (tgt := 62) hx hb dX2_readChoice_23 (by decide) (fun c_23 => ?_) (fun c_23 => ?_)
      · have hsn := bIf (hw_9.1.symm.trans c_23)
        have hpl := hw_9.2.2.1 hsn
        rw [hpl] at hP hD
        have hP : va_P D vwCl [(h0, .inr (2, [.ref tx, .ref lw])), (lw, .inr (1, [.ref l1, .ref l2, .ref l3, .ref l4, .ref l5, .ref l6, .ref l7, .int (nI za), .int (nI k)])), (l1, .inl (cI, 240, .inl qa)), (tx, .inr (6, [.ref tp, .int (nI N), .int (nI Pa), .int fv])), (tp, .inr (5, [.ref by_, .int (nI T)])), (by_, .inl (cI, 260, .inl fb))] H := hP
        have hD : va_D A [(h0, .inr (2, [.ref tx, .ref lw])), (lw, .inr (1, [.ref l1, .ref l2, .ref l3, .ref l4, .ref l5, .ref l6, .ref l7, .int (nI za), .int (nI k)])), (l1, .inl (cI, 240, .inl qa)), (tx, .inr (6, [.ref tp, .int (nI N), .int (nI Pa), .int fv])), (tp, .inr (5, [.ref by_, .int (nI T)])), (by_, .inl (cI, 260, .inl fb))] := hD
        exact ret _ _ _ _ (Pa, fv, za, qa) dX2_readChoice_62 (⟨hza, ⟨hq, fun (z : fv = 0) => by have w1 := hsn; rw [z, sQ0] at w1; exact fun y => y.elim (hmu z) w1⟩⟩) (hP.sub [0, 3, 4, 5, 1, 2] rfl) (hD.sub [0, 3, 4, 5, 1, 2] (by decide) rfl) hS
      · have hsk := bIt (fun z => c_23 (hw_9.1.trans z))
        obtain ⟨hf0, hlt, hch⟩ := sQj (by decide) hsk
        have hpl := hw_9.2.1 hsk
        subst hf0
        have hjn : JN2 (chF fb N Pa) := Or.inr hch
        rw [hpl] at hP hD
        have hP : va_P D vwCl [(h0, .inr (2, [.ref tx, .ref lw])), (lw, .inr (1, [.ref l1, .ref l2, .ref l3, .ref l4, .ref l5, .ref l6, .ref l7, .int (nI za), .int (nI k)])), (l1, .inl (cI, 240, .inl qa)), (tx, .inr (6, [.ref tp, .int (nI N), .int (nI (Pa + 1)), .int 0])), (tp, .inr (5, [.ref by_, .int (nI T)])), (by_, .inl (cI, 260, .inl fb))] H := hP
        have hD : va_D A [(h0, .inr (2, [.ref tx, .ref lw])), (lw, .inr (1, [.ref l1, .ref l2, .ref l3, .ref l4, .ref l5, .ref l6, .ref l7, .int (nI za), .int (nI k)])), (l1, .inl (cI, 240, .inl qa)), (tx, .inr (6, [.ref tp, .int (nI N), .int (nI (Pa + 1)), .int 0])), (tp, .inr (5, [.ref by_, .int (nI T)])), (by_, .inl (cI, 260, .inl fb))] := hD
        refine lv_aload_n hx hb dX2_readChoice_26 rfl (lv_at hl 0 rfl) ?_
        refine va_get (D := D) (ci := 2) (v := .ref lw) (C := RX2) (T := TX2) (N := 2) hx hb htb itX2 hown hK hP 0 rfl rfl 1 (by decide) (htb _ k_289) (fun _ h9 => h9) rfl dX2_readChoice_27 ?_
        refine va_getN (D := D) (ci := 1) (v := .int (nI za)) (C := RX1) (T := TX1) (N := 9) hx hb htb itX1 hown hK hP 1 rfl rfl 7 (by decide) (va_Nw.use rfl (hN _ n_232 rfl)) (fun _ h9 => h9) rfl dX2_readChoice_30 ?_
        refine lv_istore_n (lv' := [(3, .int (nI za)), (0, .ref h0), (1, .int 4), (2, .int (nI i))]) hx hb dX2_readChoice_33 rfl hl (by decide) rfl (fun ls hl => ?_)
        refine lv_aload_n hx hb dX2_readChoice_34 rfl (lv_at hl 1 rfl) ?_
        refine va_get (D := D) (ci := 2) (v := .ref lw) (C := RX2) (T := TX2) (N := 2) hx hb htb itX2 hown hK hP 0 rfl rfl 1 (by decide) (htb _ k_289) (fun _ h9 => h9) rfl dX2_readChoice_35 ?_
        refine lv_iconst (v := 3) hx hb dX2_readChoice_38 (by decide) ?_
        refine lv_iconst (v := 0) hx hb dX2_readChoice_39 (by decide) ?_
        refine cVV (As := [.int 3, .int 0]) (rest := []) (n := 2) (ci := 1) (q0 := 0) (wr := [(h0, .inr (2, [.ref tx, .ref lw])), (tx, .inr (6, [.ref tp, .int (nI N), .int (nI (Pa + 1)), .int 0])), (tp, .inr (5, [.ref by_, .int (nI T)])), (by_, .inl (cI, 260, .inl fb))]) X hN hK hP hD hS hA (c_X1_addStep l D cI cB _ lw l1 l2 l3 l4 l5 l6 l7 za k 3 0 qa hza hk) (gV k_594 k_595 k_596 k_97 k_597) (by decide +kernel) ⟨Nat.le_of_ble_eq_true rfl, Nat.le_of_ble_eq_true rfl⟩ ⟨rfl, rfl⟩ [1, 2] [0, 3, 4, 5] rfl rfl (by decide) (by decide) rfl rfl rfl rfl rfl hl.1 (Nat.le_of_ble_eq_true rfl) dX2_readChoice_40 ⟨Nat.le_of_ble_eq_true rfl, Nat.le_of_ble_eq_true rfl⟩ (fun u H locs hw_13 hP hD hS => ?_)
        obtain ⟨zo_11, l1_fo_12⟩ := u
        try dsimp only at hw_13
        have hP : va_P D vwCl [(h0, .inr (2, [.ref tx, .ref lw])), (tx, .inr (6, [.ref tp, .int (nI N), .int (nI (Pa + 1)), .int 0])), (tp, .inr (5, [.ref by_, .int (nI T)])), (by_, .inl (cI, 260, .inl fb)), (lw, .inr (1, [.ref l1, .ref l2, .ref l3, .ref l4, .ref l5, .ref l6, .ref l7, .int (nI zo_11), .int (nI k)])), (l1, .inl (cI, 240, .inl l1_fo_12))] H := hP
        have hD : va_D A [(h0, .inr (2, [.ref tx, .ref lw])), (tx, .inr (6, [.ref tp, .int (nI N), .int (nI (Pa + 1)), .int 0])), (tp, .inr (5, [.ref by_, .int (nI T)])), (by_, .inl (cI, 260, .inl fb)), (lw, .inr (1, [.ref l1, .ref l2, .ref l3, .ref l4, .ref l5, .ref l6, .ref l7, .int (nI zo_11), .int (nI k)])), (l1, .inl (cI, 240, .inl l1_fo_12))] := hD
        refine lv_aload_n hx hb dX2_readChoice_43 rfl (lv_at hl 1 rfl) ?_
        refine lv_iload_n hx hb dX2_readChoice_44 rfl (lv_at hl 2 rfl) ?_
        refine cVVk (As := [.int 4]) (rest := []) (n := 1) (ci := 2) (q0 := 0) (wr := []) X hN hKO hK hP hD hS hA (c_raP_4 l D cI cB _ kk h0 tx tp N (Pa + 1) 0 by_ T fb lw l1 l2 l3 l4 l5 l6 l7 zo_11 k l1_fo_12 hT hNT (by omega) hN2 (Or.inl rfl) hbr hw_13 hk) (gV k_632 k_634 k_8 k_99 k_635) (by decide +kernel) ⟨Nat.le_of_ble_eq_true rfl, Nat.le_of_ble_eq_true rfl⟩ ⟨rfl, rfl⟩ [0, 1, 2, 3, 4, 5] [] rfl rfl (by decide) (by decide) rfl rfl rfl rfl rfl hl.1 (Nat.le_of_ble_eq_true rfl) dX2_readChoice_45 ⟨Nat.le_of_ble_eq_true rfl, Nat.le_of_ble_eq_true rfl⟩ (fun u H locs hw_19 hP hD hS => ?_)
        obtain ⟨Po_15, fo_16, zo_17, l1o_18⟩ := u
        try dsimp only at hw_19
        have hP : va_P D vwCl [(h0, .inr (2, [.ref tx, .ref lw])), (tx, .inr (6, [.ref tp, .int (nI N), .int (nI Po_15), .int fo_16])), (tp, .inr (5, [.ref by_, .int (nI T)])), (by_, .inl (cI, 260, .inl fb)), (lw, .inr (1, [.ref l1, .ref l2, .ref l3, .ref l4, .ref l5, .ref l6, .ref l7, .int (nI zo_17), .int (nI k)])), (l1, .inl (cI, 240, .inl l1o_18))] H := hP
        have hD : va_D A [(h0, .inr (2, [.ref tx, .ref lw])), (tx, .inr (6, [.ref tp, .int (nI N), .int (nI Po_15), .int fo_16])), (tp, .inr (5, [.ref by_, .int (nI T)])), (by_, .inl (cI, 260, .inl fb)), (lw, .inr (1, [.ref l1, .ref l2, .ref l3, .ref l4, .ref l5, .ref l6, .ref l7, .int (nI zo_17), .int (nI k)])), (l1, .inl (cI, 240, .inl l1o_18))] := hD
        refine lv_aload_n hx hb dX2_readChoice_48 rfl (lv_at hl 1 rfl) ?_
        refine va_get (D := D) (ci := 2) (v := .ref lw) (C := RX2) (T := TX2) (N := 2) hx hb htb itX2 hown hK hP 0 rfl rfl 1 (by decide) (htb _ k_289) (fun _ h9 => h9) rfl dX2_readChoice_49 ?_
        refine lv_iload_n hx hb dX2_readChoice_52 rfl (lv_at hl 0 rfl) ?_
        refine cVV (As := [.int (nI za)]) (rest := []) (n := 1) (ci := 1) (q0 := 0) (wr := [(h0, .inr (2, [.ref tx, .ref lw])), (tx, .inr (6, [.ref tp, .int (nI N), .int (nI Po_15), .int fo_16])), (tp, .inr (5, [.ref by_, .int (nI T)])), (by_, .inl (cI, 260, .inl fb))]) X hN hK hP hD hS hA (c_X1_landSkip l D cI cB _ lw l1 l2 l3 l4 l5 l6 l7 zo_17 k (nI za) l1o_18 hw_19.1 hk) (gV k_645 k_646 k_647 k_97 k_648) (by decide +kernel) ⟨Nat.le_of_ble_eq_true rfl, Nat.le_of_ble_eq_true rfl⟩ ⟨rfl, rfl⟩ [4, 5] [0, 1, 2, 3] rfl rfl (by decide) (by decide) rfl rfl rfl rfl rfl hl.1 (Nat.le_of_ble_eq_true rfl) dX2_readChoice_53 ⟨Nat.le_of_ble_eq_true rfl, Nat.le_of_ble_eq_true rfl⟩ (fun u H locs hw_22 hP hD hS => ?_)
        obtain ⟨l1_fo_21, rfl⟩ : ∃ z, z = u := ⟨_, rfl⟩
        try dsimp only at hw_22
        have hP : va_P D vwCl [(h0, .inr (2, [.ref tx, .ref lw])), (tx, .inr (6, [.ref tp, .int (nI N), .int (nI Po_15), .int fo_16])), (tp, .inr (5, [.ref by_, .int (nI T)])), (by_, .inl (cI, 260, .inl fb)), (lw, .inr (1, [.ref l1, .ref l2, .ref l3, .ref l4, .ref l5, .ref l6, .ref l7, .int (nI zo_17), .int (nI k)])), (l1, .inl (cI, 240, .inl l1_fo_21))] H := hP
        have hD : va_D A [(h0, .inr (2, [.ref tx, .ref lw])), (tx, .inr (6, [.ref tp, .int (nI N), .int (nI Po_15), .int fo_16])), (tp, .inr (5, [.ref by_, .int (nI T)])), (by_, .inl (cI, 260, .inl fb)), (lw, .inr (1, [.ref l1, .ref l2, .ref l3, .ref l4, .ref l5, .ref l6, .ref l7, .int (nI zo_17), .int (nI k)])), (l1, .inl (cI, 240, .inl l1_fo_21))] := hD
        refine lv_iinc (v := (nI (i + 1))) (lv' := [(2, .int (nI (i + 1))), (3, .int (nI za)), (0, .ref h0), (1, .int 4)]) hx hb dX2_readChoice_56 hl (k := 3) rfl (nI_1 i) (by decide) rfl (fun ls hl => ?_)
        refine lv_goto (tgt := 7) hx hb dX2_readChoice_59 (by decide) ?_
        exact ih_7 (i + 1) Po_15 fo_16 zo_17 l1_fo_21 (by omega) hw_19.1 (hq.more hjn hw_19.2.1) (fun z w => by have := (((hw_19.2.1.2.2.2.2 rfl).1 z).1); have := hiP rfl w; omega) hw_19.2.2 _ _ (hP.sub [0, 1, 2, 3, 4, 5] rfl) (hD.sub [0, 1, 2, 3, 4, 5] (by decide) rfl) hS _ (lv_sub hl [2, 3, 0] rfl)
  exact loop_7 240 0 Po_2 fo_3 zo_4 l1o_5 (by omega) hw_6.1 hw_6.2.1 (fun z w => (((hw_6.2.1.2.2.2.2 w).1 z).1 |> fun y => by omega)) hw_6.2.2 _ _ (hP.sub [0, 1, 2, 3, 4, 5] rfl) (hD.sub [0, 1, 2, 3, 4, 5] (by decide) rfl) hS _ (lv_sub hl [1, 2, 0] rfl)

set_option maxRecDepth 100000 in
set_option maxHeartbeats 4000000 in
theorem c_rpP_3 (l : Launch) (D : va_G) (cI cB : ClassId) (sz : Nat) (kk : KT) (h0 : Nat) (tx : Nat) (tp : Nat) (N : Nat) (P : Nat) (fa : Int32) (by_ : Nat) (T : Nat) (fb : Nat → Int32) (lw : Nat) (l1 : Nat) (l2 : Nat) (l3 : Nat) (l4 : Nat) (l5 : Nat) (l6 : Nat) (l7 : Nat) (z : Nat) (k : Nat) (q1 : Nat → Int32) (hT : T ≤ 260) (hNT : N ≤ T) (hPN : P ≤ N) (hN2 : N ≤ 240) (hfa : fa = 0 ∨ fa < 0) (hbr : BR N fb) (hz : z ≤ 240) (hk : k ≤ 16) : MVk (S := ((Nat) × (Int32) × (Nat) × (Nat → Int32))) l D cI cB kk yX2_readPiece cX2_readPiece 4 (rm 17 388) [.ref h0, .int 3] [(h0, .inr (2, [.ref tx, .ref lw])), (tx, .inr (6, [.ref tp, .int (nI N), .int (nI P), .int fa])), (tp, .inr (5, [.ref by_, .int (nI T)])), (by_, .inl (cI, 260, .inl fb)), (lw, .inr (1, [.ref l1, .ref l2, .ref l3, .ref l4, .ref l5, .ref l6, .ref l7, .int (nI z), .int (nI k)])), (l1, .inl (cI, 240, .inl q1))] sz (fun u => u.2.2.1 ≤ 240 ∧ PCQ fb N 3 P u.1 fa u.2.1) (fun u : ((Nat) × (Int32) × (Nat) × (Nat → Int32)) => [(h0, .inr (2, [.ref tx, .ref lw])), (tx, .inr (6, [.ref tp, .int (nI N), .int (nI u.1), .int u.2.1])), (tp, .inr (5, [.ref by_, .int (nI T)])), (by_, .inl (cI, 260, .inl fb)), (lw, .inr (1, [.ref l1, .ref l2, .ref l3, .ref l4, .ref l5, .ref l6, .ref l7, .int (nI u.2.2.1), .int (nI k)])), (l1, .inl (cI, 240, .inl u.2.2.2))]) := by
  refine MVk.of (by decide) (Nat.le_of_ble_eq_true rfl) ?_
  intro p e s m below meth c Q ls A X hin hN hKO hP hK hD hA hl ret
  have hS : va_S A s.heap s.heap [] := va_S.rf
  obtain ⟨hx, hb, hml, hown, htb⟩ := id X
  have hl : lv_has ls 4 [(0, .ref h0), (1, .int 3)] := hl
  refine lv_aload_n hx hb dX2_readPiece_0 rfl (lv_at hl 0 rfl) ?_
  refine va_get (D := D) (ci := 2) (v := .ref tx) (C := RX2) (T := TX2) (N := 2) hx hb htb itX2 hown hK hP 0 rfl rfl 0 (by decide) (htb _ k_288) (fun _ h9 => h9) rfl dX2_readPiece_1 ?_
  refine cVR (As := []) (rest := []) (n := 0) (ci := 6) (q0 := 0) X hN hK hP (c_signP l D cI cB tx tp N P fa by_ T fb hT hNT hPN) (gV k_483 k_484 k_485 k_98 k_486) (by decide +kernel) ⟨Nat.le_of_ble_eq_true rfl, Nat.le_of_ble_eq_true rfl⟩ ⟨rfl, rfl⟩ [1, 2, 3] rfl rfl rfl rfl rfl rfl hl.1 (Nat.le_of_ble_eq_true rfl) dX2_readPiece_4 ⟨Nat.le_of_ble_eq_true rfl, Nat.le_of_ble_eq_true rfl⟩ (fun r_1 hr_1 => ?_)
  subst hr_1
  refine lv_topi (fun x_2 ex_2 => ?_)
  refine lv_istore_n (lv' := [(2, .int x_2), (0, .ref h0), (1, .int 3)]) hx hb dX2_readPiece_7 rfl hl (by decide) rfl (fun ls hl => ?_)
  refine lv_iload_n hx hb dX2_readPiece_8 rfl (lv_at hl 0 rfl) ?_
  refine lv_bipush (v := 33) hx hb dX2_readPiece_9 (by decide) ?_
  refine lv_icmp_ne (tgt := 41) hx hb dX2_readPiece_11 (by decide) (fun c_11 => ?_) (fun c_11 => ?_)
  · refine lv_iload_n hx hb dX2_readPiece_41 rfl (lv_at hl 0 rfl) ?_
    refine lv_bipush (v := 40) hx hb dX2_readPiece_42 (by decide) ?_
    refine lv_icmp_ne (tgt := 74) hx hb dX2_readPiece_44 (by decide) (fun c_44 => ?_) (fun c_44 => ?_)
    · refine lv_aload_n hx hb dX2_readPiece_74 rfl (lv_at hl 1 rfl) ?_
      refine lv_iload_n hx hb dX2_readPiece_75 rfl (lv_at hl 2 rfl) ?_
      refine cVVk (As := [.int 3]) (rest := []) (n := 1) (ci := 2) (q0 := 0) (wr := []) X hN hKO hK hP hD hS hA (c_rsP_3 l D cI cB _ kk h0 tx tp N P fa by_ T fb lw l1 l2 l3 l4 l5 l6 l7 z k q1 hT hNT hPN hN2 hfa hbr hz hk) (gV k_581 k_583 k_2 k_99 k_584) (by decide +kernel) ⟨Nat.le_of_ble_eq_true rfl, Nat.le_of_ble_eq_true rfl⟩ ⟨rfl, rfl⟩ [0, 1, 2, 3, 4, 5] [] rfl rfl (by decide) (by decide) rfl rfl rfl rfl rfl hl.1 (Nat.le_of_ble_eq_true rfl) dX2_readPiece_76 ⟨Nat.le_of_ble_eq_true rfl, Nat.le_of_ble_eq_true rfl⟩ (fun u H locs hw_8 hP hD hS => ?_)
      obtain ⟨Po_4, fo_5, zo_6, l1o_7⟩ := u
      try dsimp only at hw_8
      have hP : va_P D vwCl [(h0, .inr (2, [.ref tx, .ref lw])), (tx, .inr (6, [.ref tp, .int (nI N), .int (nI Po_4), .int fo_5])), (tp, .inr (5, [.ref by_, .int (nI T)])), (by_, .inl (cI, 260, .inl fb)), (lw, .inr (1, [.ref l1, .ref l2, .ref l3, .ref l4, .ref l5, .ref l6, .ref l7, .int (nI zo_6), .int (nI k)])), (l1, .inl (cI, 240, .inl l1o_7))] H := hP
      have hD : va_D A [(h0, .inr (2, [.ref tx, .ref lw])), (tx, .inr (6, [.ref tp, .int (nI N), .int (nI Po_4), .int fo_5])), (tp, .inr (5, [.ref by_, .int (nI T)])), (by_, .inl (cI, 260, .inl fb)), (lw, .inr (1, [.ref l1, .ref l2, .ref l3, .ref l4, .ref l5, .ref l6, .ref l7, .int (nI zo_6), .int (nI k)])), (l1, .inl (cI, 240, .inl l1o_7))] := hD
      refine lv_aload_n hx hb dX2_readPiece_79 rfl (lv_at hl 1 rfl) ?_
      refine cVI (As := []) (rest := []) (n := 0) (ci := 2) (q0 := 0) (wr := [(lw, .inr (1, [.ref l1, .ref l2, .ref l3, .ref l4, .ref l5, .ref l6, .ref l7, .int (nI zo_6), .int (nI k)])), (l1, .inl (cI, 240, .inl l1o_7))]) X hN hK hP hD hS hA (c_comparisonP l D cI cB _ h0 lw tx tp N Po_4 fo_5 by_ T fb hT hNT hw_8.2.1.2.2.2.1) (gV k_640 k_642 k_10 k_99 k_643) (by decide +kernel) ⟨Nat.le_of_ble_eq_true rfl, Nat.le_of_ble_eq_true rfl⟩ ⟨rfl, rfl⟩ [0, 1, 2, 3] [4, 5] rfl rfl (by decide) (by decide) rfl rfl rfl rfl rfl hl.1 (Nat.le_of_ble_eq_true rfl) dX2_readPiece_80 ⟨Nat.le_of_ble_eq_true rfl, Nat.le_of_ble_eq_true rfl⟩ (fun r_9 u H locs hw_12 hP hD hS => ?_)
      obtain ⟨Po_10, fo_11⟩ := u
      try dsimp only at hw_12
      have hP : va_P D vwCl [(lw, .inr (1, [.ref l1, .ref l2, .ref l3, .ref l4, .ref l5, .ref l6, .ref l7, .int (nI zo_6), .int (nI k)])), (l1, .inl (cI, 240, .inl l1o_7)), (h0, .inr (2, [.ref tx, .ref lw])), (tx, .inr (6, [.ref tp, .int (nI N), .int (nI Po_10), .int fo_11])), (tp, .inr (5, [.ref by_, .int (nI T)])), (by_, .inl (cI, 260, .inl fb))] H := hP
      have hD : va_D A [(lw, .inr (1, [.ref l1, .ref l2, .ref l3, .ref l4, .ref l5, .ref l6, .ref l7, .int (nI zo_6), .int (nI k)])), (l1, .inl (cI, 240, .inl l1o_7)), (h0, .inr (2, [.ref tx, .ref lw])), (tx, .inr (6, [.ref tp, .int (nI N), .int (nI Po_10), .int fo_11])), (tp, .inr (5, [.ref by_, .int (nI T)])), (by_, .inl (cI, 260, .inl fb))] := hD
      refine lv_istore_n (lv' := [(3, .int r_9), (2, .int x_2), (0, .ref h0), (1, .int 3)]) hx hb dX2_readPiece_83 rfl hl (by decide) rfl (fun ls hl => ?_)
      refine lv_aload_n hx hb dX2_readPiece_84 rfl (lv_at hl 2 rfl) ?_
      refine lv_iload_n hx hb dX2_readPiece_85 rfl (lv_at hl 3 rfl) ?_
      refine cVVk (As := [.int 3]) (rest := []) (n := 1) (ci := 2) (q0 := 0) (wr := []) X hN hKO hK hP hD hS hA (c_rsP_3 l D cI cB _ kk h0 tx tp N Po_10 fo_11 by_ T fb lw l1 l2 l3 l4 l5 l6 l7 zo_6 k l1o_7 hT hNT hw_12.2.2.2 hN2 (fexp (hw_8.2.1.1) (by have := hw_8.2.1.2.2.2.1; omega) (fun z => (hw_12.1 z).2) (fun z => (hw_12.2.1 z).2)) hbr hw_8.1 hk) (gV k_581 k_583 k_2 k_99 k_584) (by decide +kernel) ⟨Nat.le_of_ble_eq_true rfl, Nat.le_of_ble_eq_true rfl⟩ ⟨rfl, rfl⟩ [2, 3, 4, 5, 0, 1] [] rfl rfl (by decide) (by decide) rfl rfl rfl rfl rfl hl.1 (Nat.le_of_ble_eq_true rfl) dX2_readPiece_86 ⟨Nat.le_of_ble_eq_true rfl, Nat.le_of_ble_eq_true rfl⟩ (fun u H locs hw_18 hP hD hS => ?_)
      obtain ⟨Po_14, fo_15, zo_16, l1o_17⟩ := u
      try dsimp only at hw_18
      have hP : va_P D vwCl [(h0, .inr (2, [.ref tx, .ref lw])), (tx, .inr (6, [.ref tp, .int (nI N), .int (nI Po_14), .int fo_15])), (tp, .inr (5, [.ref by_, .int (nI T)])), (by_, .inl (cI, 260, .inl fb)), (lw, .inr (1, [.ref l1, .ref l2, .ref l3, .ref l4, .ref l5, .ref l6, .ref l7, .int (nI zo_16), .int (nI k)])), (l1, .inl (cI, 240, .inl l1o_17))] H := hP
      have hD : va_D A [(h0, .inr (2, [.ref tx, .ref lw])), (tx, .inr (6, [.ref tp, .int (nI N), .int (nI Po_14), .int fo_15])), (tp, .inr (5, [.ref by_, .int (nI T)])), (by_, .inl (cI, 260, .inl fb)), (lw, .inr (1, [.ref l1, .ref l2, .ref l3, .ref l4, .ref l5, .ref l6, .ref l7, .int (nI zo_16), .int (nI k)])), (l1, .inl (cI, 240, .inl l1o_17))] := hD
      refine lv_aload_n hx hb dX2_readPiece_89 rfl (lv_at hl 2 rfl) ?_
      refine va_get (D := D) (ci := 2) (v := .ref lw) (C := RX2) (T := TX2) (N := 2) hx hb htb itX2 hown hK hP 0 rfl rfl 1 (by decide) (htb _ k_289) (fun _ h9 => h9) rfl dX2_readPiece_90 ?_
      refine lv_iload_n hx hb dX2_readPiece_93 rfl (lv_at hl 0 rfl) ?_
      refine lv_iconst (v := 0) hx hb dX2_readPiece_94 (by decide) ?_
      refine cVV (As := [.int r_9, .int 0]) (rest := []) (n := 2) (ci := 1) (q0 := 0) (wr := [(h0, .inr (2, [.ref tx, .ref lw])), (tx, .inr (6, [.ref tp, .int (nI N), .int (nI Po_14), .int fo_15])), (tp, .inr (5, [.ref by_, .int (nI T)])), (by_, .inl (cI, 260, .inl fb))]) X hN hK hP hD hS hA (c_X1_addStep l D cI cB _ lw l1 l2 l3 l4 l5 l6 l7 zo_16 k r_9 0 l1o_17 hw_18.1 hk) (gV k_594 k_595 k_596 k_97 k_597) (by decide +kernel) ⟨Nat.le_of_ble_eq_true rfl, Nat.le_of_ble_eq_true rfl⟩ ⟨rfl, rfl⟩ [4, 5] [0, 1, 2, 3] rfl rfl (by decide) (by decide) rfl rfl rfl rfl rfl hl.1 (Nat.le_of_ble_eq_true rfl) dX2_readPiece_95 ⟨Nat.le_of_ble_eq_true rfl, Nat.le_of_ble_eq_true rfl⟩ (fun u H locs hw_22 hP hD hS => ?_)
      obtain ⟨zo_20, l1_fo_21⟩ := u
      try dsimp only at hw_22
      have hP : va_P D vwCl [(h0, .inr (2, [.ref tx, .ref lw])), (tx, .inr (6, [.ref tp, .int (nI N), .int (nI Po_14), .int fo_15])), (tp, .inr (5, [.ref by_, .int (nI T)])), (by_, .inl (cI, 260, .inl fb)), (lw, .inr (1, [.ref l1, .ref l2, .ref l3, .ref l4, .ref l5, .ref l6, .ref l7, .int (nI zo_20), .int (nI k)])), (l1, .inl (cI, 240, .inl l1_fo_21))] H := hP
      have hD : va_D A [(h0, .inr (2, [.ref tx, .ref lw])), (tx, .inr (6, [.ref tp, .int (nI N), .int (nI Po_14), .int fo_15])), (tp, .inr (5, [.ref by_, .int (nI T)])), (by_, .inl (cI, 260, .inl fb)), (lw, .inr (1, [.ref l1, .ref l2, .ref l3, .ref l4, .ref l5, .ref l6, .ref l7, .int (nI zo_20), .int (nI k)])), (l1, .inl (cI, 240, .inl l1_fo_21))] := hD
      exact ret _ _ _ _ (Po_14, fo_15, zo_20, l1_fo_21) dX2_readPiece_98 (⟨hw_22, PCQ.cmp (by omega) (fun z => c_11 (ex_2.trans z)) (fun z => c_44 (ex_2.trans z)) hw_8.2.1 hw_8.2.2 hw_12.1 hw_12.2.1 hw_18.2.1 hw_18.2.2⟩) (hP.sub [0, 1, 2, 3, 4, 5] rfl) (hD.sub [0, 1, 2, 3, 4, 5] (by decide) rfl) hS
    · obtain ⟨hf0, hlt, hop⟩ := sQj (v := 40) (by decide) (ex_2.symm.trans c_44)
      subst hf0
      refine lv_aload_n hx hb dX2_readPiece_47 rfl (lv_at hl 1 rfl) ?_
      refine lv_iload_n hx hb dX2_readPiece_48 rfl (lv_at hl 2 rfl) ?_
      refine cVI (As := [.int 3]) (rest := []) (n := 1) (ci := 2) (q0 := 0) (wr := [(tp, .inr (5, [.ref by_, .int (nI T)])), (by_, .inl (cI, 260, .inl fb)), (lw, .inr (1, [.ref l1, .ref l2, .ref l3, .ref l4, .ref l5, .ref l6, .ref l7, .int (nI z), .int (nI k)])), (l1, .inl (cI, 240, .inl q1))]) X hN hK hP hD hS hA (c_opensP l D cI cB _ h0 lw tx tp N P 0 3 hlt) (gV k_598 k_600 k_5 k_99 k_601) (by decide +kernel) ⟨Nat.le_of_ble_eq_true rfl, Nat.le_of_ble_eq_true rfl⟩ ⟨rfl, rfl⟩ [0, 1] [2, 3, 4, 5] rfl rfl (by decide) (by decide) rfl rfl rfl rfl rfl hl.1 (Nat.le_of_ble_eq_true rfl) dX2_readPiece_49 ⟨Nat.le_of_ble_eq_true rfl, Nat.le_of_ble_eq_true rfl⟩ (fun r_23 u H locs hw_26 hP hD hS => ?_)
      obtain ⟨Po_24, fo_25⟩ := u
      try dsimp only at hw_26
      have hP : va_P D vwCl [(tp, .inr (5, [.ref by_, .int (nI T)])), (by_, .inl (cI, 260, .inl fb)), (lw, .inr (1, [.ref l1, .ref l2, .ref l3, .ref l4, .ref l5, .ref l6, .ref l7, .int (nI z), .int (nI k)])), (l1, .inl (cI, 240, .inl q1)), (h0, .inr (2, [.ref tx, .ref lw])), (tx, .inr (6, [.ref tp, .int (nI N), .int (nI Po_24), .int fo_25]))] H := hP
      have hD : va_D A [(tp, .inr (5, [.ref by_, .int (nI T)])), (by_, .inl (cI, 260, .inl fb)), (lw, .inr (1, [.ref l1, .ref l2, .ref l3, .ref l4, .ref l5, .ref l6, .ref l7, .int (nI z), .int (nI k)])), (l1, .inl (cI, 240, .inl q1)), (h0, .inr (2, [.ref tx, .ref lw])), (tx, .inr (6, [.ref tp, .int (nI N), .int (nI Po_24), .int fo_25]))] := hD
      obtain rfl : r_23 = 1 := hw_26.1.trans (by decide)
      obtain ⟨eo1, eo2⟩ := hw_26.2.1 (by decide)
      rw [eo1, eo2] at hP hD
      have hP : va_P D vwCl [(tp, .inr (5, [.ref by_, .int (nI T)])), (by_, .inl (cI, 260, .inl fb)), (lw, .inr (1, [.ref l1, .ref l2, .ref l3, .ref l4, .ref l5, .ref l6, .ref l7, .int (nI z), .int (nI k)])), (l1, .inl (cI, 240, .inl q1)), (h0, .inr (2, [.ref tx, .ref lw])), (tx, .inr (6, [.ref tp, .int (nI N), .int (nI (P + 1)), .int 0]))] H := hP
      have hD : va_D A [(tp, .inr (5, [.ref by_, .int (nI T)])), (by_, .inl (cI, 260, .inl fb)), (lw, .inr (1, [.ref l1, .ref l2, .ref l3, .ref l4, .ref l5, .ref l6, .ref l7, .int (nI z), .int (nI k)])), (l1, .inl (cI, 240, .inl q1)), (h0, .inr (2, [.ref tx, .ref lw])), (tx, .inr (6, [.ref tp, .int (nI N), .int (nI (P + 1)), .int 0]))] := hD
      refine lv_if_eq (tgt := 98) hx hb dX2_readPiece_52 (by decide) (fun c_52 => absurd c_52 (by decide)) (fun _ => ?_)
      refine lv_aload_n hx hb dX2_readPiece_55 rfl (lv_at hl 1 rfl) ?_
      refine lv_iload_n hx hb dX2_readPiece_56 rfl (lv_at hl 2 rfl) ?_
      refine lv_iconst (v := 1) hx hb dX2_readPiece_57 (by decide) ?_
      refine lv_iadd hx hb dX2_readPiece_58 ?_
      refine tv (z := 4) (by decide) ?_
      refine cVVk (As := [.int 4]) (rest := []) (n := 1) (ci := 2) (q0 := 0) (wr := []) X hN hKO hK hP hD hS hA (c_rcP_4 l D cI cB _ kk h0 tx tp N (P + 1) 0 by_ T fb lw l1 l2 l3 l4 l5 l6 l7 z k q1 hT hNT (by omega) hN2 (Or.inl rfl) hbr hz hk) (gV k_628 k_630 k_7 k_99 k_631) (by decide +kernel) ⟨Nat.le_of_ble_eq_true rfl, Nat.le_of_ble_eq_true rfl⟩ ⟨rfl, rfl⟩ [4, 5, 0, 1, 2, 3] [] rfl rfl (by decide) (by decide) rfl rfl rfl rfl rfl hl.1 (Nat.le_of_ble_eq_true rfl) dX2_readPiece_59 ⟨Nat.le_of_ble_eq_true rfl, Nat.le_of_ble_eq_true rfl⟩ (fun u H locs hw_32 hP hD hS => ?_)
      obtain ⟨Po_28, fo_29, zo_30, l1o_31⟩ := u
      try dsimp only at hw_32
      have hP : va_P D vwCl [(h0, .inr (2, [.ref tx, .ref lw])), (tx, .inr (6, [.ref tp, .int (nI N), .int (nI Po_28), .int fo_29])), (tp, .inr (5, [.ref by_, .int (nI T)])), (by_, .inl (cI, 260, .inl fb)), (lw, .inr (1, [.ref l1, .ref l2, .ref l3, .ref l4, .ref l5, .ref l6, .ref l7, .int (nI zo_30), .int (nI k)])), (l1, .inl (cI, 240, .inl l1o_31))] H := hP
      have hD : va_D A [(h0, .inr (2, [.ref tx, .ref lw])), (tx, .inr (6, [.ref tp, .int (nI N), .int (nI Po_28), .int fo_29])), (tp, .inr (5, [.ref by_, .int (nI T)])), (by_, .inl (cI, 260, .inl fb)), (lw, .inr (1, [.ref l1, .ref l2, .ref l3, .ref l4, .ref l5, .ref l6, .ref l7, .int (nI zo_30), .int (nI k)])), (l1, .inl (cI, 240, .inl l1o_31))] := hD
      refine lv_aload_n hx hb dX2_readPiece_62 rfl (lv_at hl 1 rfl) ?_
      refine va_get (D := D) (ci := 2) (v := .ref tx) (C := RX2) (T := TX2) (N := 2) hx hb htb itX2 hown hK hP 0 rfl rfl 0 (by decide) (htb _ k_288) (fun _ h9 => h9) rfl dX2_readPiece_63 ?_
      refine lv_bipush (v := 41) hx hb dX2_readPiece_66 (by decide) ?_
      refine cVV (As := [.int 41]) (rest := []) (n := 1) (ci := 6) (q0 := 0) (wr := [(h0, .inr (2, [.ref tx, .ref lw])), (lw, .inr (1, [.ref l1, .ref l2, .ref l3, .ref l4, .ref l5, .ref l6, .ref l7, .int (nI zo_30), .int (nI k)])), (l1, .inl (cI, 240, .inl l1o_31))]) X hN hK hP hD hS hA (c_expectP l D cI cB _ tx tp N Po_28 fo_29 by_ T fb 41 hT hNT hw_32.2.1.2.2.2.1 (by decide)) (gV k_602 k_603 k_604 k_98 k_605) (by decide +kernel) ⟨Nat.le_of_ble_eq_true rfl, Nat.le_of_ble_eq_true rfl⟩ ⟨rfl, rfl⟩ [1, 2, 3] [0, 4, 5] rfl rfl (by decide) (by decide) rfl rfl rfl rfl rfl hl.1 (Nat.le_of_ble_eq_true rfl) dX2_readPiece_68 ⟨Nat.le_of_ble_eq_true rfl, Nat.le_of_ble_eq_true rfl⟩ (fun u H locs hw_36 hP hD hS => ?_)
      obtain ⟨Po_34, fo_35⟩ := u
      try dsimp only at hw_36
      have hP : va_P D vwCl [(h0, .inr (2, [.ref tx, .ref lw])), (lw, .inr (1, [.ref l1, .ref l2, .ref l3, .ref l4, .ref l5, .ref l6, .ref l7, .int (nI zo_30), .int (nI k)])), (l1, .inl (cI, 240, .inl l1o_31)), (tx, .inr (6, [.ref tp, .int (nI N), .int (nI Po_34), .int fo_35])), (tp, .inr (5, [.ref by_, .int (nI T)])), (by_, .inl (cI, 260, .inl fb))] H := hP
      have hD : va_D A [(h0, .inr (2, [.ref tx, .ref lw])), (lw, .inr (1, [.ref l1, .ref l2, .ref l3, .ref l4, .ref l5, .ref l6, .ref l7, .int (nI zo_30), .int (nI k)])), (l1, .inl (cI, 240, .inl l1o_31)), (tx, .inr (6, [.ref tp, .int (nI N), .int (nI Po_34), .int fo_35])), (tp, .inr (5, [.ref by_, .int (nI T)])), (by_, .inl (cI, 260, .inl fb))] := hD
      refine lv_goto (tgt := 98) hx hb dX2_readPiece_71 (by decide) ?_
      exact ret _ _ _ _ (Po_34, fo_35, zo_30, l1o_31) dX2_readPiece_98 (⟨hw_32.1, PCQ.par (by omega) hop hw_32.2.1 hw_32.2.2 hw_36.1 hw_36.2.1 hw_36.2.2.2⟩) (hP.sub [0, 3, 4, 5, 1, 2] rfl) (hD.sub [0, 3, 4, 5, 1, 2] (by decide) rfl) hS
  · obtain ⟨hf0, hlt, hop⟩ := sQj (v := 33) (by decide) (ex_2.symm.trans c_11)
    subst hf0
    refine lv_aload_n hx hb dX2_readPiece_14 rfl (lv_at hl 1 rfl) ?_
    refine lv_iload_n hx hb dX2_readPiece_15 rfl (lv_at hl 2 rfl) ?_
    refine cVI (As := [.int 3]) (rest := []) (n := 1) (ci := 2) (q0 := 0) (wr := [(tp, .inr (5, [.ref by_, .int (nI T)])), (by_, .inl (cI, 260, .inl fb)), (lw, .inr (1, [.ref l1, .ref l2, .ref l3, .ref l4, .ref l5, .ref l6, .ref l7, .int (nI z), .int (nI k)])), (l1, .inl (cI, 240, .inl q1))]) X hN hK hP hD hS hA (c_opensP l D cI cB _ h0 lw tx tp N P 0 3 hlt) (gV k_598 k_600 k_5 k_99 k_601) (by decide +kernel) ⟨Nat.le_of_ble_eq_true rfl, Nat.le_of_ble_eq_true rfl⟩ ⟨rfl, rfl⟩ [0, 1] [2, 3, 4, 5] rfl rfl (by decide) (by decide) rfl rfl rfl rfl rfl hl.1 (Nat.le_of_ble_eq_true rfl) dX2_readPiece_16 ⟨Nat.le_of_ble_eq_true rfl, Nat.le_of_ble_eq_true rfl⟩ (fun r_37 u H locs hw_40 hP hD hS => ?_)
    obtain ⟨Po_38, fo_39⟩ := u
    try dsimp only at hw_40
    have hP : va_P D vwCl [(tp, .inr (5, [.ref by_, .int (nI T)])), (by_, .inl (cI, 260, .inl fb)), (lw, .inr (1, [.ref l1, .ref l2, .ref l3, .ref l4, .ref l5, .ref l6, .ref l7, .int (nI z), .int (nI k)])), (l1, .inl (cI, 240, .inl q1)), (h0, .inr (2, [.ref tx, .ref lw])), (tx, .inr (6, [.ref tp, .int (nI N), .int (nI Po_38), .int fo_39]))] H := hP
    have hD : va_D A [(tp, .inr (5, [.ref by_, .int (nI T)])), (by_, .inl (cI, 260, .inl fb)), (lw, .inr (1, [.ref l1, .ref l2, .ref l3, .ref l4, .ref l5, .ref l6, .ref l7, .int (nI z), .int (nI k)])), (l1, .inl (cI, 240, .inl q1)), (h0, .inr (2, [.ref tx, .ref lw])), (tx, .inr (6, [.ref tp, .int (nI N), .int (nI Po_38), .int fo_39]))] := hD
    obtain rfl : r_37 = 1 := hw_40.1.trans (by decide)
    obtain ⟨eo1, eo2⟩ := hw_40.2.1 (by decide)
    rw [eo1, eo2] at hP hD
    have hP : va_P D vwCl [(tp, .inr (5, [.ref by_, .int (nI T)])), (by_, .inl (cI, 260, .inl fb)), (lw, .inr (1, [.ref l1, .ref l2, .ref l3, .ref l4, .ref l5, .ref l6, .ref l7, .int (nI z), .int (nI k)])), (l1, .inl (cI, 240, .inl q1)), (h0, .inr (2, [.ref tx, .ref lw])), (tx, .inr (6, [.ref tp, .int (nI N), .int (nI (P + 1)), .int 0]))] H := hP
    have hD : va_D A [(tp, .inr (5, [.ref by_, .int (nI T)])), (by_, .inl (cI, 260, .inl fb)), (lw, .inr (1, [.ref l1, .ref l2, .ref l3, .ref l4, .ref l5, .ref l6, .ref l7, .int (nI z), .int (nI k)])), (l1, .inl (cI, 240, .inl q1)), (h0, .inr (2, [.ref tx, .ref lw])), (tx, .inr (6, [.ref tp, .int (nI N), .int (nI (P + 1)), .int 0]))] := hD
    refine lv_if_eq (tgt := 98) hx hb dX2_readPiece_19 (by decide) (fun c_19 => absurd c_19 (by decide)) (fun _ => ?_)
    refine lv_aload_n hx hb dX2_readPiece_22 rfl (lv_at hl 1 rfl) ?_
    refine lv_iload_n hx hb dX2_readPiece_23 rfl (lv_at hl 2 rfl) ?_
    refine lv_iconst (v := 1) hx hb dX2_readPiece_24 (by decide) ?_
    refine lv_iadd hx hb dX2_readPiece_25 ?_
    refine tv (z := 4) (by decide) ?_
    refine cVVk (As := [.int 4]) (rest := []) (n := 1) (ci := 2) (q0 := 0) (wr := []) X hN hKO hK hP hD hS hA (c_rpP_4 l D cI cB _ kk h0 tx tp N (P + 1) 0 by_ T fb lw l1 l2 l3 l4 l5 l6 l7 z k q1 hT hNT (by omega) hN2 (Or.inl rfl) hbr hz hk) (gV k_636 k_638 k_9 k_99 k_639) (by decide +kernel) ⟨Nat.le_of_ble_eq_true rfl, Nat.le_of_ble_eq_true rfl⟩ ⟨rfl, rfl⟩ [4, 5, 0, 1, 2, 3] [] rfl rfl (by decide) (by decide) rfl rfl rfl rfl rfl hl.1 (Nat.le_of_ble_eq_true rfl) dX2_readPiece_26 ⟨Nat.le_of_ble_eq_true rfl, Nat.le_of_ble_eq_true rfl⟩ (fun u H locs hw_46 hP hD hS => ?_)
    obtain ⟨Po_42, fo_43, zo_44, l1o_45⟩ := u
    try dsimp only at hw_46
    have hP : va_P D vwCl [(h0, .inr (2, [.ref tx, .ref lw])), (tx, .inr (6, [.ref tp, .int (nI N), .int (nI Po_42), .int fo_43])), (tp, .inr (5, [.ref by_, .int (nI T)])), (by_, .inl (cI, 260, .inl fb)), (lw, .inr (1, [.ref l1, .ref l2, .ref l3, .ref l4, .ref l5, .ref l6, .ref l7, .int (nI zo_44), .int (nI k)])), (l1, .inl (cI, 240, .inl l1o_45))] H := hP
    have hD : va_D A [(h0, .inr (2, [.ref tx, .ref lw])), (tx, .inr (6, [.ref tp, .int (nI N), .int (nI Po_42), .int fo_43])), (tp, .inr (5, [.ref by_, .int (nI T)])), (by_, .inl (cI, 260, .inl fb)), (lw, .inr (1, [.ref l1, .ref l2, .ref l3, .ref l4, .ref l5, .ref l6, .ref l7, .int (nI zo_44), .int (nI k)])), (l1, .inl (cI, 240, .inl l1o_45))] := hD
    refine lv_aload_n hx hb dX2_readPiece_29 rfl (lv_at hl 1 rfl) ?_
    refine va_get (D := D) (ci := 2) (v := .ref lw) (C := RX2) (T := TX2) (N := 2) hx hb htb itX2 hown hK hP 0 rfl rfl 1 (by decide) (htb _ k_289) (fun _ h9 => h9) rfl dX2_readPiece_30 ?_
    refine lv_iconst (v := 2) hx hb dX2_readPiece_33 (by decide) ?_
    refine lv_iconst (v := 0) hx hb dX2_readPiece_34 (by decide) ?_
    refine cVV (As := [.int 2, .int 0]) (rest := []) (n := 2) (ci := 1) (q0 := 0) (wr := [(h0, .inr (2, [.ref tx, .ref lw])), (tx, .inr (6, [.ref tp, .int (nI N), .int (nI Po_42), .int fo_43])), (tp, .inr (5, [.ref by_, .int (nI T)])), (by_, .inl (cI, 260, .inl fb))]) X hN hK hP hD hS hA (c_X1_addStep l D cI cB _ lw l1 l2 l3 l4 l5 l6 l7 zo_44 k 2 0 l1o_45 hw_46.1 hk) (gV k_594 k_595 k_596 k_97 k_597) (by decide +kernel) ⟨Nat.le_of_ble_eq_true rfl, Nat.le_of_ble_eq_true rfl⟩ ⟨rfl, rfl⟩ [4, 5] [0, 1, 2, 3] rfl rfl (by decide) (by decide) rfl rfl rfl rfl rfl hl.1 (Nat.le_of_ble_eq_true rfl) dX2_readPiece_35 ⟨Nat.le_of_ble_eq_true rfl, Nat.le_of_ble_eq_true rfl⟩ (fun u H locs hw_50 hP hD hS => ?_)
    obtain ⟨zo_48, l1_fo_49⟩ := u
    try dsimp only at hw_50
    have hP : va_P D vwCl [(h0, .inr (2, [.ref tx, .ref lw])), (tx, .inr (6, [.ref tp, .int (nI N), .int (nI Po_42), .int fo_43])), (tp, .inr (5, [.ref by_, .int (nI T)])), (by_, .inl (cI, 260, .inl fb)), (lw, .inr (1, [.ref l1, .ref l2, .ref l3, .ref l4, .ref l5, .ref l6, .ref l7, .int (nI zo_48), .int (nI k)])), (l1, .inl (cI, 240, .inl l1_fo_49))] H := hP
    have hD : va_D A [(h0, .inr (2, [.ref tx, .ref lw])), (tx, .inr (6, [.ref tp, .int (nI N), .int (nI Po_42), .int fo_43])), (tp, .inr (5, [.ref by_, .int (nI T)])), (by_, .inl (cI, 260, .inl fb)), (lw, .inr (1, [.ref l1, .ref l2, .ref l3, .ref l4, .ref l5, .ref l6, .ref l7, .int (nI zo_48), .int (nI k)])), (l1, .inl (cI, 240, .inl l1_fo_49))] := hD
    refine lv_goto (tgt := 98) hx hb dX2_readPiece_38 (by decide) ?_
    exact ret _ _ _ _ (Po_42, fo_43, zo_48, l1_fo_49) dX2_readPiece_98 (⟨hw_50, PCQ.no hop hw_46.2⟩) (hP.sub [0, 1, 2, 3, 4, 5] rfl) (hD.sub [0, 1, 2, 3, 4, 5] (by decide) rfl) hS

set_option maxRecDepth 100000 in
set_option maxHeartbeats 4000000 in
theorem c_raP_3 (l : Launch) (D : va_G) (cI cB : ClassId) (sz : Nat) (kk : KT) (h0 : Nat) (tx : Nat) (tp : Nat) (N : Nat) (P : Nat) (fa : Int32) (by_ : Nat) (T : Nat) (fb : Nat → Int32) (lw : Nat) (l1 : Nat) (l2 : Nat) (l3 : Nat) (l4 : Nat) (l5 : Nat) (l6 : Nat) (l7 : Nat) (z : Nat) (k : Nat) (q1 : Nat → Int32) (hT : T ≤ 260) (hNT : N ≤ T) (hPN : P ≤ N) (hN2 : N ≤ 240) (hfa : fa = 0 ∨ fa < 0) (hbr : BR N fb) (hz : z ≤ 240) (hk : k ≤ 16) : MVk (S := ((Nat) × (Int32) × (Nat) × (Nat → Int32))) l D cI cB kk yX2_readPart cX2_readPart 4 (rm 18 411) [.ref h0, .int 3] [(h0, .inr (2, [.ref tx, .ref lw])), (tx, .inr (6, [.ref tp, .int (nI N), .int (nI P), .int fa])), (tp, .inr (5, [.ref by_, .int (nI T)])), (by_, .inl (cI, 260, .inl fb)), (lw, .inr (1, [.ref l1, .ref l2, .ref l3, .ref l4, .ref l5, .ref l6, .ref l7, .int (nI z), .int (nI k)])), (l1, .inl (cI, 240, .inl q1))] sz (fun u => u.2.2.1 ≤ 240 ∧ PTQ fb N 3 P u.1 fa u.2.1 ∧ (u.2.1 = 0 → ¬ chF fb N u.1 = 38)) (fun u : ((Nat) × (Int32) × (Nat) × (Nat → Int32)) => [(h0, .inr (2, [.ref tx, .ref lw])), (tx, .inr (6, [.ref tp, .int (nI N), .int (nI u.1), .int u.2.1])), (tp, .inr (5, [.ref by_, .int (nI T)])), (by_, .inl (cI, 260, .inl fb)), (lw, .inr (1, [.ref l1, .ref l2, .ref l3, .ref l4, .ref l5, .ref l6, .ref l7, .int (nI u.2.2.1), .int (nI k)])), (l1, .inl (cI, 240, .inl u.2.2.2))]) := by
  refine MVk.of (by decide) (Nat.le_of_ble_eq_true rfl) ?_
  intro p e s m below meth c Q ls A X hin hN hKO hP hK hD hA hl ret
  have hS : va_S A s.heap s.heap [] := va_S.rf
  obtain ⟨hx, hb, hml, hown, htb⟩ := id X
  have hl : lv_has ls 4 [(0, .ref h0), (1, .int 3)] := hl
  refine lv_aload_n hx hb dX2_readPart_0 rfl (lv_at hl 0 rfl) ?_
  refine lv_iload_n hx hb dX2_readPart_1 rfl (lv_at hl 1 rfl) ?_
  refine cVVk (As := [.int 3]) (rest := []) (n := 1) (ci := 2) (q0 := 0) (wr := []) X hN hKO hK hP hD hS hA (c_rpP_3 l D cI cB _ kk h0 tx tp N P fa by_ T fb lw l1 l2 l3 l4 l5 l6 l7 z k q1 hT hNT hPN hN2 hfa hbr hz hk) (gV k_636 k_638 k_9 k_99 k_639) (by decide +kernel) ⟨Nat.le_of_ble_eq_true rfl, Nat.le_of_ble_eq_true rfl⟩ ⟨rfl, rfl⟩ [0, 1, 2, 3, 4, 5] [] rfl rfl (by decide) (by decide) rfl rfl rfl rfl rfl hl.1 (Nat.le_of_ble_eq_true rfl) dX2_readPart_2 ⟨Nat.le_of_ble_eq_true rfl, Nat.le_of_ble_eq_true rfl⟩ (fun u H locs hw_6 hP hD hS => ?_)
  obtain ⟨Po_2, fo_3, zo_4, l1o_5⟩ := u
  try dsimp only at hw_6
  have hP : va_P D vwCl [(h0, .inr (2, [.ref tx, .ref lw])), (tx, .inr (6, [.ref tp, .int (nI N), .int (nI Po_2), .int fo_3])), (tp, .inr (5, [.ref by_, .int (nI T)])), (by_, .inl (cI, 260, .inl fb)), (lw, .inr (1, [.ref l1, .ref l2, .ref l3, .ref l4, .ref l5, .ref l6, .ref l7, .int (nI zo_4), .int (nI k)])), (l1, .inl (cI, 240, .inl l1o_5))] H := hP
  have hD : va_D A [(h0, .inr (2, [.ref tx, .ref lw])), (tx, .inr (6, [.ref tp, .int (nI N), .int (nI Po_2), .int fo_3])), (tp, .inr (5, [.ref by_, .int (nI T)])), (by_, .inl (cI, 260, .inl fb)), (lw, .inr (1, [.ref l1, .ref l2, .ref l3, .ref l4, .ref l5, .ref l6, .ref l7, .int (nI zo_4), .int (nI k)])), (l1, .inl (cI, 240, .inl l1o_5))] := hD
  refine lv_iconst (v := 0) hx hb dX2_readPart_5 (by decide) ?_
  refine lv_istore_n (lv' := [(2, .int 0), (0, .ref h0), (1, .int 3)]) hx hb dX2_readPart_6 rfl hl (by decide) rfl (fun ls hl => ?_)
  have loop_7 : ∀ (n i : Nat) (Pa : Nat) (fv : Int32) (za : Nat) (qa : Nat → Int32), n + i = 240 → (za ≤ 240) → (PTQ fb N 3 P Pa fa fv) → (fv = 0 → fa = 0 → i < Pa) → ∀ (H : Heap) (locs : List Loc), va_P D vwCl [(h0, .inr (2, [.ref tx, .ref lw])), (tx, .inr (6, [.ref tp, .int (nI N), .int (nI Pa), .int fv])), (tp, .inr (5, [.ref by_, .int (nI T)])), (by_, .inl (cI, 260, .inl fb)), (lw, .inr (1, [.ref l1, .ref l2, .ref l3, .ref l4, .ref l5, .ref l6, .ref l7, .int (nI za), .int (nI k)])), (l1, .inl (cI, 240, .inl qa))] H → va_D A [(h0, .inr (2, [.ref tx, .ref lw])), (tx, .inr (6, [.ref tp, .int (nI N), .int (nI Pa), .int fv])), (tp, .inr (5, [.ref by_, .int (nI T)])), (by_, .inl (cI, 260, .inl fb)), (lw, .inr (1, [.ref l1, .ref l2, .ref l3, .ref l4, .ref l5, .ref l6, .ref l7, .int (nI za), .int (nI k)])), (l1, .inl (cI, 240, .inl qa))] → va_S A s.heap H locs → ∀ (ls : Array Slot), lv_has ls 4 [(0, .ref h0), (1, .int 3), (2, .int (nI i))] → W p l e (rm 18 411) s m ([.ref h0, .int 3] : List Value).toArray below meth c H locs 0 0 Q (F0 m 7 ls []) := by
    intro n
    induction n with
    | zero =>
      intro i Pa fv za qa hni hza hq hiP H locs hP hD hS ls hl
      have hni_7 := hni
      have hi : i = 240 := by omega
      refine lv_iload_n hx hb dX2_readPart_7 rfl (lv_at hl 2 rfl) ?_
      refine lv_sipush (v := 240) hx hb dX2_readPart_8 (by decide) ?_
      refine lv_icmp_ge (tgt := 62) hx hb dX2_readPart_11 (by decide) (fun _ => ?_) (fun c_11 => absurd (by rw [hi]; decide) c_11)
      exact ret _ _ _ _ (Pa, fv, za, qa) dX2_readPart_62 (⟨hza, ⟨hq, fun z => absurd z (fun z => by have h2 := hq.2.1; have h4 := hq.2.2.2.1; exact (Classical.em (fa = 0)).elim (fun w => by have := hiP z w; omega) (fun w => w ((h2 w).symm.trans z)))⟩⟩) (hP.sub [0, 1, 2, 3, 4, 5] rfl) (hD.sub [0, 1, 2, 3, 4, 5] (by decide) rfl) hS
    | succ n ih_7 =>
      intro i Pa fv za qa hni hza hq hiP H locs hP hD hS ls hl
      have hni_7 := hni
      have hi : i < 240 := by omega
      refine lv_iload_n hx hb dX2_readPart_7 rfl (lv_at hl 2 rfl) ?_
      refine lv_sipush (v := 240) hx hb dX2_readPart_8 (by decide) ?_
      refine lv_icmp_ge (tgt := 62) hx hb dX2_readPart_11 (by decide) (fun c_11 => absurd c_11 (nI_ge hi (by decide))) (fun _ => ?_)
      refine lv_aload_n hx hb dX2_readPart_14 rfl (lv_at hl 0 rfl) ?_
      refine va_get (D := D) (ci := 2) (v := .ref tx) (C := RX2) (T := TX2) (N := 2) hx hb htb itX2 hown hK hP 0 rfl rfl 0 (by decide) (htb _ k_288) (fun _ h9 => h9) rfl dX2_readPart_15 ?_
      refine lv_bipush (v := 38) hx hb dX2_readPart_18 (by decide) ?_
      refine cVI (As := [.int 38]) (rest := []) (n := 1) (ci := 6) (q0 := 0) (wr := [(h0, .inr (2, [.ref tx, .ref lw])), (lw, .inr (1, [.ref l1, .ref l2, .ref l3, .ref l4, .ref l5, .ref l6, .ref l7, .int (nI za), .int (nI k)])), (l1, .inl (cI, 240, .inl qa))]) X hN hK hP hD hS hA (c_skipP l D cI cB _ tx tp N Pa fv by_ T fb 38 hT hNT hq.2.2.2.1 (by decide)) (gV k_644 k_607 k_608 k_98 k_609) (by decide +kernel) ⟨Nat.le_of_ble_eq_true rfl, Nat.le_of_ble_eq_true rfl⟩ ⟨rfl, rfl⟩ [1, 2, 3] [0, 4, 5] rfl rfl (by decide) (by decide) rfl rfl rfl rfl rfl hl.1 (Nat.le_of_ble_eq_true rfl) dX2_readPart_20 ⟨Nat.le_of_ble_eq_true rfl, Nat.le_of_ble_eq_true rfl⟩ (fun r_7 u H locs hw_9 hP hD hS => ?_)
      obtain ⟨Po_8, rfl⟩ : ∃ z, z = u := ⟨_, rfl⟩
      try dsimp only at hw_9
      have hP : va_P D vwCl [(h0, .inr (2, [.ref tx, .ref lw])), (lw, .inr (1, [.ref l1, .ref l2, .ref l3, .ref l4, .ref l5, .ref l6, .ref l7, .int (nI za), .int (nI k)])), (l1, .inl (cI, 240, .inl qa)), (tx, .inr (6, [.ref tp, .int (nI N), .int (nI Po_8), .int fv])), (tp, .inr (5, [.ref by_, .int (nI T)])), (by_, .inl (cI, 260, .inl fb))] H := hP
      have hD : va_D A [(h0, .inr (2, [.ref tx, .ref lw])), (lw, .inr (1, [.ref l1, .ref l2, .ref l3, .ref l4, .ref l5, .ref l6, .ref l7, .int (nI za), .int (nI k)])), (l1, .inl (cI, 240, .inl qa)), (tx, .inr (6, [.ref tp, .int (nI N), .int (nI Po_8), .int fv])), (tp, .inr (5, [.ref by_, .int (nI T)])), (by_, .inl (cI, 260, .inl fb))] := hD
      refine lv_if_eq (tgt := 62) hx hb dX2_readPart_23 (by decide) (fun c_23 => ?_) (fun c_23 => ?_)
      · have hsn := bIf (hw_9.1.symm.trans c_23)
        have hpl := hw_9.2.2.1 hsn
        rw [hpl] at hP hD
        have hP : va_P D vwCl [(h0, .inr (2, [.ref tx, .ref lw])), (lw, .inr (1, [.ref l1, .ref l2, .ref l3, .ref l4, .ref l5, .ref l6, .ref l7, .int (nI za), .int (nI k)])), (l1, .inl (cI, 240, .inl qa)), (tx, .inr (6, [.ref tp, .int (nI N), .int (nI Pa), .int fv])), (tp, .inr (5, [.ref by_, .int (nI T)])), (by_, .inl (cI, 260, .inl fb))] H := hP
        have hD : va_D A [(h0, .inr (2, [.ref tx, .ref lw])), (lw, .inr (1, [.ref l1, .ref l2, .ref l3, .ref l4, .ref l5, .ref l6, .ref l7, .int (nI za), .int (nI k)])), (l1, .inl (cI, 240, .inl qa)), (tx, .inr (6, [.ref tp, .int (nI N), .int (nI Pa), .int fv])), (tp, .inr (5, [.ref by_, .int (nI T)])), (by_, .inl (cI, 260, .inl fb))] := hD
        exact ret _ _ _ _ (Pa, fv, za, qa) dX2_readPart_62 (⟨hza, ⟨hq, fun (z : fv = 0) => by have w1 := hsn; rw [z, sQ0] at w1; exact w1⟩⟩) (hP.sub [0, 3, 4, 5, 1, 2] rfl) (hD.sub [0, 3, 4, 5, 1, 2] (by decide) rfl) hS
      · have hsk := bIt (fun z => c_23 (hw_9.1.trans z))
        obtain ⟨hf0, hlt, hch⟩ := sQj (by decide) hsk
        have hpl := hw_9.2.1 hsk
        subst hf0
        have hjn : JN2 (chF fb N Pa) := Or.inl hch
        rw [hpl] at hP hD
        have hP : va_P D vwCl [(h0, .inr (2, [.ref tx, .ref lw])), (lw, .inr (1, [.ref l1, .ref l2, .ref l3, .ref l4, .ref l5, .ref l6, .ref l7, .int (nI za), .int (nI k)])), (l1, .inl (cI, 240, .inl qa)), (tx, .inr (6, [.ref tp, .int (nI N), .int (nI (Pa + 1)), .int 0])), (tp, .inr (5, [.ref by_, .int (nI T)])), (by_, .inl (cI, 260, .inl fb))] H := hP
        have hD : va_D A [(h0, .inr (2, [.ref tx, .ref lw])), (lw, .inr (1, [.ref l1, .ref l2, .ref l3, .ref l4, .ref l5, .ref l6, .ref l7, .int (nI za), .int (nI k)])), (l1, .inl (cI, 240, .inl qa)), (tx, .inr (6, [.ref tp, .int (nI N), .int (nI (Pa + 1)), .int 0])), (tp, .inr (5, [.ref by_, .int (nI T)])), (by_, .inl (cI, 260, .inl fb))] := hD
        refine lv_aload_n hx hb dX2_readPart_26 rfl (lv_at hl 0 rfl) ?_
        refine va_get (D := D) (ci := 2) (v := .ref lw) (C := RX2) (T := TX2) (N := 2) hx hb htb itX2 hown hK hP 0 rfl rfl 1 (by decide) (htb _ k_289) (fun _ h9 => h9) rfl dX2_readPart_27 ?_
        refine va_getN (D := D) (ci := 1) (v := .int (nI za)) (C := RX1) (T := TX1) (N := 9) hx hb htb itX1 hown hK hP 1 rfl rfl 7 (by decide) (va_Nw.use rfl (hN _ n_232 rfl)) (fun _ h9 => h9) rfl dX2_readPart_30 ?_
        refine lv_istore_n (lv' := [(3, .int (nI za)), (0, .ref h0), (1, .int 3), (2, .int (nI i))]) hx hb dX2_readPart_33 rfl hl (by decide) rfl (fun ls hl => ?_)
        refine lv_aload_n hx hb dX2_readPart_34 rfl (lv_at hl 1 rfl) ?_
        refine va_get (D := D) (ci := 2) (v := .ref lw) (C := RX2) (T := TX2) (N := 2) hx hb htb itX2 hown hK hP 0 rfl rfl 1 (by decide) (htb _ k_289) (fun _ h9 => h9) rfl dX2_readPart_35 ?_
        refine lv_iconst (v := 4) hx hb dX2_readPart_38 (by decide) ?_
        refine lv_iconst (v := 0) hx hb dX2_readPart_39 (by decide) ?_
        refine cVV (As := [.int 4, .int 0]) (rest := []) (n := 2) (ci := 1) (q0 := 0) (wr := [(h0, .inr (2, [.ref tx, .ref lw])), (tx, .inr (6, [.ref tp, .int (nI N), .int (nI (Pa + 1)), .int 0])), (tp, .inr (5, [.ref by_, .int (nI T)])), (by_, .inl (cI, 260, .inl fb))]) X hN hK hP hD hS hA (c_X1_addStep l D cI cB _ lw l1 l2 l3 l4 l5 l6 l7 za k 4 0 qa hza hk) (gV k_594 k_595 k_596 k_97 k_597) (by decide +kernel) ⟨Nat.le_of_ble_eq_true rfl, Nat.le_of_ble_eq_true rfl⟩ ⟨rfl, rfl⟩ [1, 2] [0, 3, 4, 5] rfl rfl (by decide) (by decide) rfl rfl rfl rfl rfl hl.1 (Nat.le_of_ble_eq_true rfl) dX2_readPart_40 ⟨Nat.le_of_ble_eq_true rfl, Nat.le_of_ble_eq_true rfl⟩ (fun u H locs hw_13 hP hD hS => ?_)
        obtain ⟨zo_11, l1_fo_12⟩ := u
        try dsimp only at hw_13
        have hP : va_P D vwCl [(h0, .inr (2, [.ref tx, .ref lw])), (tx, .inr (6, [.ref tp, .int (nI N), .int (nI (Pa + 1)), .int 0])), (tp, .inr (5, [.ref by_, .int (nI T)])), (by_, .inl (cI, 260, .inl fb)), (lw, .inr (1, [.ref l1, .ref l2, .ref l3, .ref l4, .ref l5, .ref l6, .ref l7, .int (nI zo_11), .int (nI k)])), (l1, .inl (cI, 240, .inl l1_fo_12))] H := hP
        have hD : va_D A [(h0, .inr (2, [.ref tx, .ref lw])), (tx, .inr (6, [.ref tp, .int (nI N), .int (nI (Pa + 1)), .int 0])), (tp, .inr (5, [.ref by_, .int (nI T)])), (by_, .inl (cI, 260, .inl fb)), (lw, .inr (1, [.ref l1, .ref l2, .ref l3, .ref l4, .ref l5, .ref l6, .ref l7, .int (nI zo_11), .int (nI k)])), (l1, .inl (cI, 240, .inl l1_fo_12))] := hD
        refine lv_aload_n hx hb dX2_readPart_43 rfl (lv_at hl 1 rfl) ?_
        refine lv_iload_n hx hb dX2_readPart_44 rfl (lv_at hl 2 rfl) ?_
        refine cVVk (As := [.int 3]) (rest := []) (n := 1) (ci := 2) (q0 := 0) (wr := []) X hN hKO hK hP hD hS hA (c_rpP_3 l D cI cB _ kk h0 tx tp N (Pa + 1) 0 by_ T fb lw l1 l2 l3 l4 l5 l6 l7 zo_11 k l1_fo_12 hT hNT (by omega) hN2 (Or.inl rfl) hbr hw_13 hk) (gV k_636 k_638 k_9 k_99 k_639) (by decide +kernel) ⟨Nat.le_of_ble_eq_true rfl, Nat.le_of_ble_eq_true rfl⟩ ⟨rfl, rfl⟩ [0, 1, 2, 3, 4, 5] [] rfl rfl (by decide) (by decide) rfl rfl rfl rfl rfl hl.1 (Nat.le_of_ble_eq_true rfl) dX2_readPart_45 ⟨Nat.le_of_ble_eq_true rfl, Nat.le_of_ble_eq_true rfl⟩ (fun u H locs hw_19 hP hD hS => ?_)
        obtain ⟨Po_15, fo_16, zo_17, l1o_18⟩ := u
        try dsimp only at hw_19
        have hP : va_P D vwCl [(h0, .inr (2, [.ref tx, .ref lw])), (tx, .inr (6, [.ref tp, .int (nI N), .int (nI Po_15), .int fo_16])), (tp, .inr (5, [.ref by_, .int (nI T)])), (by_, .inl (cI, 260, .inl fb)), (lw, .inr (1, [.ref l1, .ref l2, .ref l3, .ref l4, .ref l5, .ref l6, .ref l7, .int (nI zo_17), .int (nI k)])), (l1, .inl (cI, 240, .inl l1o_18))] H := hP
        have hD : va_D A [(h0, .inr (2, [.ref tx, .ref lw])), (tx, .inr (6, [.ref tp, .int (nI N), .int (nI Po_15), .int fo_16])), (tp, .inr (5, [.ref by_, .int (nI T)])), (by_, .inl (cI, 260, .inl fb)), (lw, .inr (1, [.ref l1, .ref l2, .ref l3, .ref l4, .ref l5, .ref l6, .ref l7, .int (nI zo_17), .int (nI k)])), (l1, .inl (cI, 240, .inl l1o_18))] := hD
        refine lv_aload_n hx hb dX2_readPart_48 rfl (lv_at hl 1 rfl) ?_
        refine va_get (D := D) (ci := 2) (v := .ref lw) (C := RX2) (T := TX2) (N := 2) hx hb htb itX2 hown hK hP 0 rfl rfl 1 (by decide) (htb _ k_289) (fun _ h9 => h9) rfl dX2_readPart_49 ?_
        refine lv_iload_n hx hb dX2_readPart_52 rfl (lv_at hl 0 rfl) ?_
        refine cVV (As := [.int (nI za)]) (rest := []) (n := 1) (ci := 1) (q0 := 0) (wr := [(h0, .inr (2, [.ref tx, .ref lw])), (tx, .inr (6, [.ref tp, .int (nI N), .int (nI Po_15), .int fo_16])), (tp, .inr (5, [.ref by_, .int (nI T)])), (by_, .inl (cI, 260, .inl fb))]) X hN hK hP hD hS hA (c_X1_landSkip l D cI cB _ lw l1 l2 l3 l4 l5 l6 l7 zo_17 k (nI za) l1o_18 hw_19.1 hk) (gV k_645 k_646 k_647 k_97 k_648) (by decide +kernel) ⟨Nat.le_of_ble_eq_true rfl, Nat.le_of_ble_eq_true rfl⟩ ⟨rfl, rfl⟩ [4, 5] [0, 1, 2, 3] rfl rfl (by decide) (by decide) rfl rfl rfl rfl rfl hl.1 (Nat.le_of_ble_eq_true rfl) dX2_readPart_53 ⟨Nat.le_of_ble_eq_true rfl, Nat.le_of_ble_eq_true rfl⟩ (fun u H locs hw_22 hP hD hS => ?_)
        obtain ⟨l1_fo_21, rfl⟩ : ∃ z, z = u := ⟨_, rfl⟩
        try dsimp only at hw_22
        have hP : va_P D vwCl [(h0, .inr (2, [.ref tx, .ref lw])), (tx, .inr (6, [.ref tp, .int (nI N), .int (nI Po_15), .int fo_16])), (tp, .inr (5, [.ref by_, .int (nI T)])), (by_, .inl (cI, 260, .inl fb)), (lw, .inr (1, [.ref l1, .ref l2, .ref l3, .ref l4, .ref l5, .ref l6, .ref l7, .int (nI zo_17), .int (nI k)])), (l1, .inl (cI, 240, .inl l1_fo_21))] H := hP
        have hD : va_D A [(h0, .inr (2, [.ref tx, .ref lw])), (tx, .inr (6, [.ref tp, .int (nI N), .int (nI Po_15), .int fo_16])), (tp, .inr (5, [.ref by_, .int (nI T)])), (by_, .inl (cI, 260, .inl fb)), (lw, .inr (1, [.ref l1, .ref l2, .ref l3, .ref l4, .ref l5, .ref l6, .ref l7, .int (nI zo_17), .int (nI k)])), (l1, .inl (cI, 240, .inl l1_fo_21))] := hD
        refine lv_iinc (v := (nI (i + 1))) (lv' := [(2, .int (nI (i + 1))), (3, .int (nI za)), (0, .ref h0), (1, .int 3)]) hx hb dX2_readPart_56 hl (k := 3) rfl (nI_1 i) (by decide) rfl (fun ls hl => ?_)
        refine lv_goto (tgt := 7) hx hb dX2_readPart_59 (by decide) ?_
        exact ih_7 (i + 1) Po_15 fo_16 zo_17 l1_fo_21 (by omega) hw_19.1 (hq.more hjn hw_19.2.pt) (fun z w => by have := (((hw_19.2.2.2.2.2 rfl).1 z).1); have := hiP rfl w; omega) _ _ (hP.sub [0, 1, 2, 3, 4, 5] rfl) (hD.sub [0, 1, 2, 3, 4, 5] (by decide) rfl) hS _ (lv_sub hl [2, 3, 0] rfl)
  exact loop_7 240 0 Po_2 fo_3 zo_4 l1o_5 (by omega) hw_6.1 hw_6.2.pt (fun z w => (((hw_6.2.2.2.2.2 w).1 z).1 |> fun y => by omega)) _ _ (hP.sub [0, 1, 2, 3, 4, 5] rfl) (hD.sub [0, 1, 2, 3, 4, 5] (by decide) rfl) hS _ (lv_sub hl [1, 2, 0] rfl)

set_option maxRecDepth 100000 in
set_option maxHeartbeats 4000000 in
theorem c_rcP_3 (l : Launch) (D : va_G) (cI cB : ClassId) (sz : Nat) (kk : KT) (h0 : Nat) (tx : Nat) (tp : Nat) (N : Nat) (P : Nat) (fa : Int32) (by_ : Nat) (T : Nat) (fb : Nat → Int32) (lw : Nat) (l1 : Nat) (l2 : Nat) (l3 : Nat) (l4 : Nat) (l5 : Nat) (l6 : Nat) (l7 : Nat) (z : Nat) (k : Nat) (q1 : Nat → Int32) (hT : T ≤ 260) (hNT : N ≤ T) (hPN : P ≤ N) (hN2 : N ≤ 240) (hfa : fa = 0 ∨ fa < 0) (hbr : BR N fb) (hz : z ≤ 240) (hk : k ≤ 16) : MVk (S := ((Nat) × (Int32) × (Nat) × (Nat → Int32))) l D cI cB kk yX2_readChoice cX2_readChoice 4 (rm 19 434) [.ref h0, .int 3] [(h0, .inr (2, [.ref tx, .ref lw])), (tx, .inr (6, [.ref tp, .int (nI N), .int (nI P), .int fa])), (tp, .inr (5, [.ref by_, .int (nI T)])), (by_, .inl (cI, 260, .inl fb)), (lw, .inr (1, [.ref l1, .ref l2, .ref l3, .ref l4, .ref l5, .ref l6, .ref l7, .int (nI z), .int (nI k)])), (l1, .inl (cI, 240, .inl q1))] sz (fun u => u.2.2.1 ≤ 240 ∧ PTQ fb N 3 P u.1 fa u.2.1 ∧ (u.2.1 = 0 → ¬ JN2 (chF fb N u.1))) (fun u : ((Nat) × (Int32) × (Nat) × (Nat → Int32)) => [(h0, .inr (2, [.ref tx, .ref lw])), (tx, .inr (6, [.ref tp, .int (nI N), .int (nI u.1), .int u.2.1])), (tp, .inr (5, [.ref by_, .int (nI T)])), (by_, .inl (cI, 260, .inl fb)), (lw, .inr (1, [.ref l1, .ref l2, .ref l3, .ref l4, .ref l5, .ref l6, .ref l7, .int (nI u.2.2.1), .int (nI k)])), (l1, .inl (cI, 240, .inl u.2.2.2))]) := by
  refine MVk.of (by decide) (Nat.le_of_ble_eq_true rfl) ?_
  intro p e s m below meth c Q ls A X hin hN hKO hP hK hD hA hl ret
  have hS : va_S A s.heap s.heap [] := va_S.rf
  obtain ⟨hx, hb, hml, hown, htb⟩ := id X
  have hl : lv_has ls 4 [(0, .ref h0), (1, .int 3)] := hl
  refine lv_aload_n hx hb dX2_readChoice_0 rfl (lv_at hl 0 rfl) ?_
  refine lv_iload_n hx hb dX2_readChoice_1 rfl (lv_at hl 1 rfl) ?_
  refine cVVk (As := [.int 3]) (rest := []) (n := 1) (ci := 2) (q0 := 0) (wr := []) X hN hKO hK hP hD hS hA (c_raP_3 l D cI cB _ kk h0 tx tp N P fa by_ T fb lw l1 l2 l3 l4 l5 l6 l7 z k q1 hT hNT hPN hN2 hfa hbr hz hk) (gV k_632 k_634 k_8 k_99 k_635) (by decide +kernel) ⟨Nat.le_of_ble_eq_true rfl, Nat.le_of_ble_eq_true rfl⟩ ⟨rfl, rfl⟩ [0, 1, 2, 3, 4, 5] [] rfl rfl (by decide) (by decide) rfl rfl rfl rfl rfl hl.1 (Nat.le_of_ble_eq_true rfl) dX2_readChoice_2 ⟨Nat.le_of_ble_eq_true rfl, Nat.le_of_ble_eq_true rfl⟩ (fun u H locs hw_6 hP hD hS => ?_)
  obtain ⟨Po_2, fo_3, zo_4, l1o_5⟩ := u
  try dsimp only at hw_6
  have hP : va_P D vwCl [(h0, .inr (2, [.ref tx, .ref lw])), (tx, .inr (6, [.ref tp, .int (nI N), .int (nI Po_2), .int fo_3])), (tp, .inr (5, [.ref by_, .int (nI T)])), (by_, .inl (cI, 260, .inl fb)), (lw, .inr (1, [.ref l1, .ref l2, .ref l3, .ref l4, .ref l5, .ref l6, .ref l7, .int (nI zo_4), .int (nI k)])), (l1, .inl (cI, 240, .inl l1o_5))] H := hP
  have hD : va_D A [(h0, .inr (2, [.ref tx, .ref lw])), (tx, .inr (6, [.ref tp, .int (nI N), .int (nI Po_2), .int fo_3])), (tp, .inr (5, [.ref by_, .int (nI T)])), (by_, .inl (cI, 260, .inl fb)), (lw, .inr (1, [.ref l1, .ref l2, .ref l3, .ref l4, .ref l5, .ref l6, .ref l7, .int (nI zo_4), .int (nI k)])), (l1, .inl (cI, 240, .inl l1o_5))] := hD
  refine lv_iconst (v := 0) hx hb dX2_readChoice_5 (by decide) ?_
  refine lv_istore_n (lv' := [(2, .int 0), (0, .ref h0), (1, .int 3)]) hx hb dX2_readChoice_6 rfl hl (by decide) rfl (fun ls hl => ?_)
  have loop_7 : ∀ (n i : Nat) (Pa : Nat) (fv : Int32) (za : Nat) (qa : Nat → Int32), n + i = 240 → (za ≤ 240) → (PTQ fb N 3 P Pa fa fv) → (fv = 0 → fa = 0 → i < Pa) → (fv = 0 → ¬ chF fb N Pa = 38) → ∀ (H : Heap) (locs : List Loc), va_P D vwCl [(h0, .inr (2, [.ref tx, .ref lw])), (tx, .inr (6, [.ref tp, .int (nI N), .int (nI Pa), .int fv])), (tp, .inr (5, [.ref by_, .int (nI T)])), (by_, .inl (cI, 260, .inl fb)), (lw, .inr (1, [.ref l1, .ref l2, .ref l3, .ref l4, .ref l5, .ref l6, .ref l7, .int (nI za), .int (nI k)])), (l1, .inl (cI, 240, .inl qa))] H → va_D A [(h0, .inr (2, [.ref tx, .ref lw])), (tx, .inr (6, [.ref tp, .int (nI N), .int (nI Pa), .int fv])), (tp, .inr (5, [.ref by_, .int (nI T)])), (by_, .inl (cI, 260, .inl fb)), (lw, .inr (1, [.ref l1, .ref l2, .ref l3, .ref l4, .ref l5, .ref l6, .ref l7, .int (nI za), .int (nI k)])), (l1, .inl (cI, 240, .inl qa))] → va_S A s.heap H locs → ∀ (ls : Array Slot), lv_has ls 4 [(0, .ref h0), (1, .int 3), (2, .int (nI i))] → W p l e (rm 19 434) s m ([.ref h0, .int 3] : List Value).toArray below meth c H locs 0 0 Q (F0 m 7 ls []) := by
    intro n
    induction n with
    | zero =>
      intro i Pa fv za qa hni hza hq hiP hmu H locs hP hD hS ls hl
      have hni_7 := hni
      have hi : i = 240 := by omega
      refine lv_iload_n hx hb dX2_readChoice_7 rfl (lv_at hl 2 rfl) ?_
      refine lv_sipush (v := 240) hx hb dX2_readChoice_8 (by decide) ?_
      refine lv_icmp_ge (tgt := 62) hx hb dX2_readChoice_11 (by decide) (fun _ => ?_) (fun c_11 => absurd (by rw [hi]; decide) c_11)
      exact ret _ _ _ _ (Pa, fv, za, qa) dX2_readChoice_62 (⟨hza, ⟨hq, fun z => absurd z (fun z => by have h2 := hq.2.1; have h4 := hq.2.2.2.1; exact (Classical.em (fa = 0)).elim (fun w => by have := hiP z w; omega) (fun w => w ((h2 w).symm.trans z)))⟩⟩) (hP.sub [0, 1, 2, 3, 4, 5] rfl) (hD.sub [0, 1, 2, 3, 4, 5] (by decide) rfl) hS
    | succ n ih_7 =>
      intro i Pa fv za qa hni hza hq hiP hmu H locs hP hD hS ls hl
      have hni_7 := hni
      have hi : i < 240 := by omega
      refine lv_iload_n hx hb dX2_readChoice_7 rfl (lv_at hl 2 rfl) ?_
      refine lv_sipush (v := 240) hx hb dX2_readChoice_8 (by decide) ?_
      refine lv_icmp_ge (tgt := 62) hx hb dX2_readChoice_11 (by decide) (fun c_11 => absurd c_11 (nI_ge hi (by decide))) (fun _ => ?_)
      refine lv_aload_n hx hb dX2_readChoice_14 rfl (lv_at hl 0 rfl) ?_
      refine va_get (D := D) (ci := 2) (v := .ref tx) (C := RX2) (T := TX2) (N := 2) hx hb htb itX2 hown hK hP 0 rfl rfl 0 (by decide) (htb _ k_288) (fun _ h9 => h9) rfl dX2_readChoice_15 ?_
      refine lv_bipush (v := 124) hx hb dX2_readChoice_18 (by decide) ?_
      refine cVI (As := [.int 124]) (rest := []) (n := 1) (ci := 6) (q0 := 0) (wr := [(h0, .inr (2, [.ref tx, .ref lw])), (lw, .inr (1, [.ref l1, .ref l2, .ref l3, .ref l4, .ref l5, .ref l6, .ref l7, .int (nI za), .int (nI k)])), (l1, .inl (cI, 240, .inl qa))]) X hN hK hP hD hS hA (c_skipP l D cI cB _ tx tp N Pa fv by_ T fb 124 hT hNT hq.2.2.2.1 (by decide)) (gV k_644 k_607 k_608 k_98 k_609) (by decide +kernel) ⟨Nat.le_of_ble_eq_true rfl, Nat.le_of_ble_eq_true rfl⟩ ⟨rfl, rfl⟩ [1, 2, 3] [0, 4, 5] rfl rfl (by decide) (by decide) rfl rfl rfl rfl rfl hl.1 (Nat.le_of_ble_eq_true rfl) dX2_readChoice_20 ⟨Nat.le_of_ble_eq_true rfl, Nat.le_of_ble_eq_true rfl⟩ (fun r_7 u H locs hw_9 hP hD hS => ?_)
      obtain ⟨Po_8, rfl⟩ : ∃ z, z = u := ⟨_, rfl⟩
      try dsimp only at hw_9
      have hP : va_P D vwCl [(h0, .inr (2, [.ref tx, .ref lw])), (lw, .inr (1, [.ref l1, .ref l2, .ref l3, .ref l4, .ref l5, .ref l6, .ref l7, .int (nI za), .int (nI k)])), (l1, .inl (cI, 240, .inl qa)), (tx, .inr (6, [.ref tp, .int (nI N), .int (nI Po_8), .int fv])), (tp, .inr (5, [.ref by_, .int (nI T)])), (by_, .inl (cI, 260, .inl fb))] H := hP
      have hD : va_D A [(h0, .inr (2, [.ref tx, .ref lw])), (lw, .inr (1, [.ref l1, .ref l2, .ref l3, .ref l4, .ref l5, .ref l6, .ref l7, .int (nI za), .int (nI k)])), (l1, .inl (cI, 240, .inl qa)), (tx, .inr (6, [.ref tp, .int (nI N), .int (nI Po_8), .int fv])), (tp, .inr (5, [.ref by_, .int (nI T)])), (by_, .inl (cI, 260, .inl fb))] := hD
      refine lv_if_eq (tgt := 62) hx hb dX2_readChoice_23 (by decide) (fun c_23 => ?_) (fun c_23 => ?_)
      · have hsn := bIf (hw_9.1.symm.trans c_23)
        have hpl := hw_9.2.2.1 hsn
        rw [hpl] at hP hD
        have hP : va_P D vwCl [(h0, .inr (2, [.ref tx, .ref lw])), (lw, .inr (1, [.ref l1, .ref l2, .ref l3, .ref l4, .ref l5, .ref l6, .ref l7, .int (nI za), .int (nI k)])), (l1, .inl (cI, 240, .inl qa)), (tx, .inr (6, [.ref tp, .int (nI N), .int (nI Pa), .int fv])), (tp, .inr (5, [.ref by_, .int (nI T)])), (by_, .inl (cI, 260, .inl fb))] H := hP
        have hD : va_D A [(h0, .inr (2, [.ref tx, .ref lw])), (lw, .inr (1, [.ref l1, .ref l2, .ref l3, .ref l4, .ref l5, .ref l6, .ref l7, .int (nI za), .int (nI k)])), (l1, .inl (cI, 240, .inl qa)), (tx, .inr (6, [.ref tp, .int (nI N), .int (nI Pa), .int fv])), (tp, .inr (5, [.ref by_, .int (nI T)])), (by_, .inl (cI, 260, .inl fb))] := hD
        exact ret _ _ _ _ (Pa, fv, za, qa) dX2_readChoice_62 (⟨hza, ⟨hq, fun (z : fv = 0) => by have w1 := hsn; rw [z, sQ0] at w1; exact fun y => y.elim (hmu z) w1⟩⟩) (hP.sub [0, 3, 4, 5, 1, 2] rfl) (hD.sub [0, 3, 4, 5, 1, 2] (by decide) rfl) hS
      · have hsk := bIt (fun z => c_23 (hw_9.1.trans z))
        obtain ⟨hf0, hlt, hch⟩ := sQj (by decide) hsk
        have hpl := hw_9.2.1 hsk
        subst hf0
        have hjn : JN2 (chF fb N Pa) := Or.inr hch
        rw [hpl] at hP hD
        have hP : va_P D vwCl [(h0, .inr (2, [.ref tx, .ref lw])), (lw, .inr (1, [.ref l1, .ref l2, .ref l3, .ref l4, .ref l5, .ref l6, .ref l7, .int (nI za), .int (nI k)])), (l1, .inl (cI, 240, .inl qa)), (tx, .inr (6, [.ref tp, .int (nI N), .int (nI (Pa + 1)), .int 0])), (tp, .inr (5, [.ref by_, .int (nI T)])), (by_, .inl (cI, 260, .inl fb))] H := hP
        have hD : va_D A [(h0, .inr (2, [.ref tx, .ref lw])), (lw, .inr (1, [.ref l1, .ref l2, .ref l3, .ref l4, .ref l5, .ref l6, .ref l7, .int (nI za), .int (nI k)])), (l1, .inl (cI, 240, .inl qa)), (tx, .inr (6, [.ref tp, .int (nI N), .int (nI (Pa + 1)), .int 0])), (tp, .inr (5, [.ref by_, .int (nI T)])), (by_, .inl (cI, 260, .inl fb))] := hD
        refine lv_aload_n hx hb dX2_readChoice_26 rfl (lv_at hl 0 rfl) ?_
        refine va_get (D := D) (ci := 2) (v := .ref lw) (C := RX2) (T := TX2) (N := 2) hx hb htb itX2 hown hK hP 0 rfl rfl 1 (by decide) (htb _ k_289) (fun _ h9 => h9) rfl dX2_readChoice_27 ?_
        refine va_getN (D := D) (ci := 1) (v := .int (nI za)) (C := RX1) (T := TX1) (N := 9) hx hb htb itX1 hown hK hP 1 rfl rfl 7 (by decide) (va_Nw.use rfl (hN _ n_232 rfl)) (fun _ h9 => h9) rfl dX2_readChoice_30 ?_
        refine lv_istore_n (lv' := [(3, .int (nI za)), (0, .ref h0), (1, .int 3), (2, .int (nI i))]) hx hb dX2_readChoice_33 rfl hl (by decide) rfl (fun ls hl => ?_)
        refine lv_aload_n hx hb dX2_readChoice_34 rfl (lv_at hl 1 rfl) ?_
        refine va_get (D := D) (ci := 2) (v := .ref lw) (C := RX2) (T := TX2) (N := 2) hx hb htb itX2 hown hK hP 0 rfl rfl 1 (by decide) (htb _ k_289) (fun _ h9 => h9) rfl dX2_readChoice_35 ?_
        refine lv_iconst (v := 3) hx hb dX2_readChoice_38 (by decide) ?_
        refine lv_iconst (v := 0) hx hb dX2_readChoice_39 (by decide) ?_
        refine cVV (As := [.int 3, .int 0]) (rest := []) (n := 2) (ci := 1) (q0 := 0) (wr := [(h0, .inr (2, [.ref tx, .ref lw])), (tx, .inr (6, [.ref tp, .int (nI N), .int (nI (Pa + 1)), .int 0])), (tp, .inr (5, [.ref by_, .int (nI T)])), (by_, .inl (cI, 260, .inl fb))]) X hN hK hP hD hS hA (c_X1_addStep l D cI cB _ lw l1 l2 l3 l4 l5 l6 l7 za k 3 0 qa hza hk) (gV k_594 k_595 k_596 k_97 k_597) (by decide +kernel) ⟨Nat.le_of_ble_eq_true rfl, Nat.le_of_ble_eq_true rfl⟩ ⟨rfl, rfl⟩ [1, 2] [0, 3, 4, 5] rfl rfl (by decide) (by decide) rfl rfl rfl rfl rfl hl.1 (Nat.le_of_ble_eq_true rfl) dX2_readChoice_40 ⟨Nat.le_of_ble_eq_true rfl, Nat.le_of_ble_eq_true rfl⟩ (fun u H locs hw_13 hP hD hS => ?_)
        obtain ⟨zo_11, l1_fo_12⟩ := u
        try dsimp only at hw_13
        have hP : va_P D vwCl [(h0, .inr (2, [.ref tx, .ref lw])), (tx, .inr (6, [.ref tp, .int (nI N), .int (nI (Pa + 1)), .int 0])), (tp, .inr (5, [.ref by_, .int (nI T)])), (by_, .inl (cI, 260, .inl fb)), (lw, .inr (1, [.ref l1, .ref l2, .ref l3, .ref l4, .ref l5, .ref l6, .ref l7, .int (nI zo_11), .int (nI k)])), (l1, .inl (cI, 240, .inl l1_fo_12))] H := hP
        have hD : va_D A [(h0, .inr (2, [.ref tx, .ref lw])), (tx, .inr (6, [.ref tp, .int (nI N), .int (nI (Pa + 1)), .int 0])), (tp, .inr (5, [.ref by_, .int (nI T)])), (by_, .inl (cI, 260, .inl fb)), (lw, .inr (1, [.ref l1, .ref l2, .ref l3, .ref l4, .ref l5, .ref l6, .ref l7, .int (nI zo_11), .int (nI k)])), (l1, .inl (cI, 240, .inl l1_fo_12))] := hD
        refine lv_aload_n hx hb dX2_readChoice_43 rfl (lv_at hl 1 rfl) ?_
        refine lv_iload_n hx hb dX2_readChoice_44 rfl (lv_at hl 2 rfl) ?_
        refine cVVk (As := [.int 3]) (rest := []) (n := 1) (ci := 2) (q0 := 0) (wr := []) X hN hKO hK hP hD hS hA (c_raP_3 l D cI cB _ kk h0 tx tp N (Pa + 1) 0 by_ T fb lw l1 l2 l3 l4 l5 l6 l7 zo_11 k l1_fo_12 hT hNT (by omega) hN2 (Or.inl rfl) hbr hw_13 hk) (gV k_632 k_634 k_8 k_99 k_635) (by decide +kernel) ⟨Nat.le_of_ble_eq_true rfl, Nat.le_of_ble_eq_true rfl⟩ ⟨rfl, rfl⟩ [0, 1, 2, 3, 4, 5] [] rfl rfl (by decide) (by decide) rfl rfl rfl rfl rfl hl.1 (Nat.le_of_ble_eq_true rfl) dX2_readChoice_45 ⟨Nat.le_of_ble_eq_true rfl, Nat.le_of_ble_eq_true rfl⟩ (fun u H locs hw_19 hP hD hS => ?_)
        obtain ⟨Po_15, fo_16, zo_17, l1o_18⟩ := u
        try dsimp only at hw_19
        have hP : va_P D vwCl [(h0, .inr (2, [.ref tx, .ref lw])), (tx, .inr (6, [.ref tp, .int (nI N), .int (nI Po_15), .int fo_16])), (tp, .inr (5, [.ref by_, .int (nI T)])), (by_, .inl (cI, 260, .inl fb)), (lw, .inr (1, [.ref l1, .ref l2, .ref l3, .ref l4, .ref l5, .ref l6, .ref l7, .int (nI zo_17), .int (nI k)])), (l1, .inl (cI, 240, .inl l1o_18))] H := hP
        have hD : va_D A [(h0, .inr (2, [.ref tx, .ref lw])), (tx, .inr (6, [.ref tp, .int (nI N), .int (nI Po_15), .int fo_16])), (tp, .inr (5, [.ref by_, .int (nI T)])), (by_, .inl (cI, 260, .inl fb)), (lw, .inr (1, [.ref l1, .ref l2, .ref l3, .ref l4, .ref l5, .ref l6, .ref l7, .int (nI zo_17), .int (nI k)])), (l1, .inl (cI, 240, .inl l1o_18))] := hD
        refine lv_aload_n hx hb dX2_readChoice_48 rfl (lv_at hl 1 rfl) ?_
        refine va_get (D := D) (ci := 2) (v := .ref lw) (C := RX2) (T := TX2) (N := 2) hx hb htb itX2 hown hK hP 0 rfl rfl 1 (by decide) (htb _ k_289) (fun _ h9 => h9) rfl dX2_readChoice_49 ?_
        refine lv_iload_n hx hb dX2_readChoice_52 rfl (lv_at hl 0 rfl) ?_
        refine cVV (As := [.int (nI za)]) (rest := []) (n := 1) (ci := 1) (q0 := 0) (wr := [(h0, .inr (2, [.ref tx, .ref lw])), (tx, .inr (6, [.ref tp, .int (nI N), .int (nI Po_15), .int fo_16])), (tp, .inr (5, [.ref by_, .int (nI T)])), (by_, .inl (cI, 260, .inl fb))]) X hN hK hP hD hS hA (c_X1_landSkip l D cI cB _ lw l1 l2 l3 l4 l5 l6 l7 zo_17 k (nI za) l1o_18 hw_19.1 hk) (gV k_645 k_646 k_647 k_97 k_648) (by decide +kernel) ⟨Nat.le_of_ble_eq_true rfl, Nat.le_of_ble_eq_true rfl⟩ ⟨rfl, rfl⟩ [4, 5] [0, 1, 2, 3] rfl rfl (by decide) (by decide) rfl rfl rfl rfl rfl hl.1 (Nat.le_of_ble_eq_true rfl) dX2_readChoice_53 ⟨Nat.le_of_ble_eq_true rfl, Nat.le_of_ble_eq_true rfl⟩ (fun u H locs hw_22 hP hD hS => ?_)
        obtain ⟨l1_fo_21, rfl⟩ : ∃ z, z = u := ⟨_, rfl⟩
        try dsimp only at hw_22
        have hP : va_P D vwCl [(h0, .inr (2, [.ref tx, .ref lw])), (tx, .inr (6, [.ref tp, .int (nI N), .int (nI Po_15), .int fo_16])), (tp, .inr (5, [.ref by_, .int (nI T)])), (by_, .inl (cI, 260, .inl fb)), (lw, .inr (1, [.ref l1, .ref l2, .ref l3, .ref l4, .ref l5, .ref l6, .ref l7, .int (nI zo_17), .int (nI k)])), (l1, .inl (cI, 240, .inl l1_fo_21))] H := hP
        have hD : va_D A [(h0, .inr (2, [.ref tx, .ref lw])), (tx, .inr (6, [.ref tp, .int (nI N), .int (nI Po_15), .int fo_16])), (tp, .inr (5, [.ref by_, .int (nI T)])), (by_, .inl (cI, 260, .inl fb)), (lw, .inr (1, [.ref l1, .ref l2, .ref l3, .ref l4, .ref l5, .ref l6, .ref l7, .int (nI zo_17), .int (nI k)])), (l1, .inl (cI, 240, .inl l1_fo_21))] := hD
        refine lv_iinc (v := (nI (i + 1))) (lv' := [(2, .int (nI (i + 1))), (3, .int (nI za)), (0, .ref h0), (1, .int 3)]) hx hb dX2_readChoice_56 hl (k := 3) rfl (nI_1 i) (by decide) rfl (fun ls hl => ?_)
        refine lv_goto (tgt := 7) hx hb dX2_readChoice_59 (by decide) ?_
        exact ih_7 (i + 1) Po_15 fo_16 zo_17 l1_fo_21 (by omega) hw_19.1 (hq.more hjn hw_19.2.1) (fun z w => by have := (((hw_19.2.1.2.2.2.2 rfl).1 z).1); have := hiP rfl w; omega) hw_19.2.2 _ _ (hP.sub [0, 1, 2, 3, 4, 5] rfl) (hD.sub [0, 1, 2, 3, 4, 5] (by decide) rfl) hS _ (lv_sub hl [2, 3, 0] rfl)
  exact loop_7 240 0 Po_2 fo_3 zo_4 l1o_5 (by omega) hw_6.1 hw_6.2.1 (fun z w => (((hw_6.2.1.2.2.2.2 w).1 z).1 |> fun y => by omega)) hw_6.2.2 _ _ (hP.sub [0, 1, 2, 3, 4, 5] rfl) (hD.sub [0, 1, 2, 3, 4, 5] (by decide) rfl) hS _ (lv_sub hl [1, 2, 0] rfl)

set_option maxRecDepth 100000 in
set_option maxHeartbeats 4000000 in
theorem c_rpP_2 (l : Launch) (D : va_G) (cI cB : ClassId) (sz : Nat) (kk : KT) (h0 : Nat) (tx : Nat) (tp : Nat) (N : Nat) (P : Nat) (fa : Int32) (by_ : Nat) (T : Nat) (fb : Nat → Int32) (lw : Nat) (l1 : Nat) (l2 : Nat) (l3 : Nat) (l4 : Nat) (l5 : Nat) (l6 : Nat) (l7 : Nat) (z : Nat) (k : Nat) (q1 : Nat → Int32) (hT : T ≤ 260) (hNT : N ≤ T) (hPN : P ≤ N) (hN2 : N ≤ 240) (hfa : fa = 0 ∨ fa < 0) (hbr : BR N fb) (hz : z ≤ 240) (hk : k ≤ 16) : MVk (S := ((Nat) × (Int32) × (Nat) × (Nat → Int32))) l D cI cB kk yX2_readPiece cX2_readPiece 4 (rm 20 457) [.ref h0, .int 2] [(h0, .inr (2, [.ref tx, .ref lw])), (tx, .inr (6, [.ref tp, .int (nI N), .int (nI P), .int fa])), (tp, .inr (5, [.ref by_, .int (nI T)])), (by_, .inl (cI, 260, .inl fb)), (lw, .inr (1, [.ref l1, .ref l2, .ref l3, .ref l4, .ref l5, .ref l6, .ref l7, .int (nI z), .int (nI k)])), (l1, .inl (cI, 240, .inl q1))] sz (fun u => u.2.2.1 ≤ 240 ∧ PCQ fb N 4 P u.1 fa u.2.1) (fun u : ((Nat) × (Int32) × (Nat) × (Nat → Int32)) => [(h0, .inr (2, [.ref tx, .ref lw])), (tx, .inr (6, [.ref tp, .int (nI N), .int (nI u.1), .int u.2.1])), (tp, .inr (5, [.ref by_, .int (nI T)])), (by_, .inl (cI, 260, .inl fb)), (lw, .inr (1, [.ref l1, .ref l2, .ref l3, .ref l4, .ref l5, .ref l6, .ref l7, .int (nI u.2.2.1), .int (nI k)])), (l1, .inl (cI, 240, .inl u.2.2.2))]) := by
  refine MVk.of (by decide) (Nat.le_of_ble_eq_true rfl) ?_
  intro p e s m below meth c Q ls A X hin hN hKO hP hK hD hA hl ret
  have hS : va_S A s.heap s.heap [] := va_S.rf
  obtain ⟨hx, hb, hml, hown, htb⟩ := id X
  have hl : lv_has ls 4 [(0, .ref h0), (1, .int 2)] := hl
  refine lv_aload_n hx hb dX2_readPiece_0 rfl (lv_at hl 0 rfl) ?_
  refine va_get (D := D) (ci := 2) (v := .ref tx) (C := RX2) (T := TX2) (N := 2) hx hb htb itX2 hown hK hP 0 rfl rfl 0 (by decide) (htb _ k_288) (fun _ h9 => h9) rfl dX2_readPiece_1 ?_
  refine cVR (As := []) (rest := []) (n := 0) (ci := 6) (q0 := 0) X hN hK hP (c_signP l D cI cB tx tp N P fa by_ T fb hT hNT hPN) (gV k_483 k_484 k_485 k_98 k_486) (by decide +kernel) ⟨Nat.le_of_ble_eq_true rfl, Nat.le_of_ble_eq_true rfl⟩ ⟨rfl, rfl⟩ [1, 2, 3] rfl rfl rfl rfl rfl rfl hl.1 (Nat.le_of_ble_eq_true rfl) dX2_readPiece_4 ⟨Nat.le_of_ble_eq_true rfl, Nat.le_of_ble_eq_true rfl⟩ (fun r_1 hr_1 => ?_)
  subst hr_1
  refine lv_topi (fun x_2 ex_2 => ?_)
  refine lv_istore_n (lv' := [(2, .int x_2), (0, .ref h0), (1, .int 2)]) hx hb dX2_readPiece_7 rfl hl (by decide) rfl (fun ls hl => ?_)
  refine lv_iload_n hx hb dX2_readPiece_8 rfl (lv_at hl 0 rfl) ?_
  refine lv_bipush (v := 33) hx hb dX2_readPiece_9 (by decide) ?_
  refine lv_icmp_ne (tgt := 41) hx hb dX2_readPiece_11 (by decide) (fun c_11 => ?_) (fun c_11 => ?_)
  · refine lv_iload_n hx hb dX2_readPiece_41 rfl (lv_at hl 0 rfl) ?_
    refine lv_bipush (v := 40) hx hb dX2_readPiece_42 (by decide) ?_
    refine lv_icmp_ne (tgt := 74) hx hb dX2_readPiece_44 (by decide) (fun c_44 => ?_) (fun c_44 => ?_)
    · refine lv_aload_n hx hb dX2_readPiece_74 rfl (lv_at hl 1 rfl) ?_
      refine lv_iload_n hx hb dX2_readPiece_75 rfl (lv_at hl 2 rfl) ?_
      refine cVVk (As := [.int 2]) (rest := []) (n := 1) (ci := 2) (q0 := 0) (wr := []) X hN hKO hK hP hD hS hA (c_rsP_2 l D cI cB _ kk h0 tx tp N P fa by_ T fb lw l1 l2 l3 l4 l5 l6 l7 z k q1 hT hNT hPN hN2 hfa hbr hz hk) (gV k_581 k_583 k_2 k_99 k_584) (by decide +kernel) ⟨Nat.le_of_ble_eq_true rfl, Nat.le_of_ble_eq_true rfl⟩ ⟨rfl, rfl⟩ [0, 1, 2, 3, 4, 5] [] rfl rfl (by decide) (by decide) rfl rfl rfl rfl rfl hl.1 (Nat.le_of_ble_eq_true rfl) dX2_readPiece_76 ⟨Nat.le_of_ble_eq_true rfl, Nat.le_of_ble_eq_true rfl⟩ (fun u H locs hw_8 hP hD hS => ?_)
      obtain ⟨Po_4, fo_5, zo_6, l1o_7⟩ := u
      try dsimp only at hw_8
      have hP : va_P D vwCl [(h0, .inr (2, [.ref tx, .ref lw])), (tx, .inr (6, [.ref tp, .int (nI N), .int (nI Po_4), .int fo_5])), (tp, .inr (5, [.ref by_, .int (nI T)])), (by_, .inl (cI, 260, .inl fb)), (lw, .inr (1, [.ref l1, .ref l2, .ref l3, .ref l4, .ref l5, .ref l6, .ref l7, .int (nI zo_6), .int (nI k)])), (l1, .inl (cI, 240, .inl l1o_7))] H := hP
      have hD : va_D A [(h0, .inr (2, [.ref tx, .ref lw])), (tx, .inr (6, [.ref tp, .int (nI N), .int (nI Po_4), .int fo_5])), (tp, .inr (5, [.ref by_, .int (nI T)])), (by_, .inl (cI, 260, .inl fb)), (lw, .inr (1, [.ref l1, .ref l2, .ref l3, .ref l4, .ref l5, .ref l6, .ref l7, .int (nI zo_6), .int (nI k)])), (l1, .inl (cI, 240, .inl l1o_7))] := hD
      refine lv_aload_n hx hb dX2_readPiece_79 rfl (lv_at hl 1 rfl) ?_
      refine cVI (As := []) (rest := []) (n := 0) (ci := 2) (q0 := 0) (wr := [(lw, .inr (1, [.ref l1, .ref l2, .ref l3, .ref l4, .ref l5, .ref l6, .ref l7, .int (nI zo_6), .int (nI k)])), (l1, .inl (cI, 240, .inl l1o_7))]) X hN hK hP hD hS hA (c_comparisonP l D cI cB _ h0 lw tx tp N Po_4 fo_5 by_ T fb hT hNT hw_8.2.1.2.2.2.1) (gV k_640 k_642 k_10 k_99 k_643) (by decide +kernel) ⟨Nat.le_of_ble_eq_true rfl, Nat.le_of_ble_eq_true rfl⟩ ⟨rfl, rfl⟩ [0, 1, 2, 3] [4, 5] rfl rfl (by decide) (by decide) rfl rfl rfl rfl rfl hl.1 (Nat.le_of_ble_eq_true rfl) dX2_readPiece_80 ⟨Nat.le_of_ble_eq_true rfl, Nat.le_of_ble_eq_true rfl⟩ (fun r_9 u H locs hw_12 hP hD hS => ?_)
      obtain ⟨Po_10, fo_11⟩ := u
      try dsimp only at hw_12
      have hP : va_P D vwCl [(lw, .inr (1, [.ref l1, .ref l2, .ref l3, .ref l4, .ref l5, .ref l6, .ref l7, .int (nI zo_6), .int (nI k)])), (l1, .inl (cI, 240, .inl l1o_7)), (h0, .inr (2, [.ref tx, .ref lw])), (tx, .inr (6, [.ref tp, .int (nI N), .int (nI Po_10), .int fo_11])), (tp, .inr (5, [.ref by_, .int (nI T)])), (by_, .inl (cI, 260, .inl fb))] H := hP
      have hD : va_D A [(lw, .inr (1, [.ref l1, .ref l2, .ref l3, .ref l4, .ref l5, .ref l6, .ref l7, .int (nI zo_6), .int (nI k)])), (l1, .inl (cI, 240, .inl l1o_7)), (h0, .inr (2, [.ref tx, .ref lw])), (tx, .inr (6, [.ref tp, .int (nI N), .int (nI Po_10), .int fo_11])), (tp, .inr (5, [.ref by_, .int (nI T)])), (by_, .inl (cI, 260, .inl fb))] := hD
      refine lv_istore_n (lv' := [(3, .int r_9), (2, .int x_2), (0, .ref h0), (1, .int 2)]) hx hb dX2_readPiece_83 rfl hl (by decide) rfl (fun ls hl => ?_)
      refine lv_aload_n hx hb dX2_readPiece_84 rfl (lv_at hl 2 rfl) ?_
      refine lv_iload_n hx hb dX2_readPiece_85 rfl (lv_at hl 3 rfl) ?_
      refine cVVk (As := [.int 2]) (rest := []) (n := 1) (ci := 2) (q0 := 0) (wr := []) X hN hKO hK hP hD hS hA (c_rsP_2 l D cI cB _ kk h0 tx tp N Po_10 fo_11 by_ T fb lw l1 l2 l3 l4 l5 l6 l7 zo_6 k l1o_7 hT hNT hw_12.2.2.2 hN2 (fexp (hw_8.2.1.1) (by have := hw_8.2.1.2.2.2.1; omega) (fun z => (hw_12.1 z).2) (fun z => (hw_12.2.1 z).2)) hbr hw_8.1 hk) (gV k_581 k_583 k_2 k_99 k_584) (by decide +kernel) ⟨Nat.le_of_ble_eq_true rfl, Nat.le_of_ble_eq_true rfl⟩ ⟨rfl, rfl⟩ [2, 3, 4, 5, 0, 1] [] rfl rfl (by decide) (by decide) rfl rfl rfl rfl rfl hl.1 (Nat.le_of_ble_eq_true rfl) dX2_readPiece_86 ⟨Nat.le_of_ble_eq_true rfl, Nat.le_of_ble_eq_true rfl⟩ (fun u H locs hw_18 hP hD hS => ?_)
      obtain ⟨Po_14, fo_15, zo_16, l1o_17⟩ := u
      try dsimp only at hw_18
      have hP : va_P D vwCl [(h0, .inr (2, [.ref tx, .ref lw])), (tx, .inr (6, [.ref tp, .int (nI N), .int (nI Po_14), .int fo_15])), (tp, .inr (5, [.ref by_, .int (nI T)])), (by_, .inl (cI, 260, .inl fb)), (lw, .inr (1, [.ref l1, .ref l2, .ref l3, .ref l4, .ref l5, .ref l6, .ref l7, .int (nI zo_16), .int (nI k)])), (l1, .inl (cI, 240, .inl l1o_17))] H := hP
      have hD : va_D A [(h0, .inr (2, [.ref tx, .ref lw])), (tx, .inr (6, [.ref tp, .int (nI N), .int (nI Po_14), .int fo_15])), (tp, .inr (5, [.ref by_, .int (nI T)])), (by_, .inl (cI, 260, .inl fb)), (lw, .inr (1, [.ref l1, .ref l2, .ref l3, .ref l4, .ref l5, .ref l6, .ref l7, .int (nI zo_16), .int (nI k)])), (l1, .inl (cI, 240, .inl l1o_17))] := hD
      refine lv_aload_n hx hb dX2_readPiece_89 rfl (lv_at hl 2 rfl) ?_
      refine va_get (D := D) (ci := 2) (v := .ref lw) (C := RX2) (T := TX2) (N := 2) hx hb htb itX2 hown hK hP 0 rfl rfl 1 (by decide) (htb _ k_289) (fun _ h9 => h9) rfl dX2_readPiece_90 ?_
      refine lv_iload_n hx hb dX2_readPiece_93 rfl (lv_at hl 0 rfl) ?_
      refine lv_iconst (v := 0) hx hb dX2_readPiece_94 (by decide) ?_
      refine cVV (As := [.int r_9, .int 0]) (rest := []) (n := 2) (ci := 1) (q0 := 0) (wr := [(h0, .inr (2, [.ref tx, .ref lw])), (tx, .inr (6, [.ref tp, .int (nI N), .int (nI Po_14), .int fo_15])), (tp, .inr (5, [.ref by_, .int (nI T)])), (by_, .inl (cI, 260, .inl fb))]) X hN hK hP hD hS hA (c_X1_addStep l D cI cB _ lw l1 l2 l3 l4 l5 l6 l7 zo_16 k r_9 0 l1o_17 hw_18.1 hk) (gV k_594 k_595 k_596 k_97 k_597) (by decide +kernel) ⟨Nat.le_of_ble_eq_true rfl, Nat.le_of_ble_eq_true rfl⟩ ⟨rfl, rfl⟩ [4, 5] [0, 1, 2, 3] rfl rfl (by decide) (by decide) rfl rfl rfl rfl rfl hl.1 (Nat.le_of_ble_eq_true rfl) dX2_readPiece_95 ⟨Nat.le_of_ble_eq_true rfl, Nat.le_of_ble_eq_true rfl⟩ (fun u H locs hw_22 hP hD hS => ?_)
      obtain ⟨zo_20, l1_fo_21⟩ := u
      try dsimp only at hw_22
      have hP : va_P D vwCl [(h0, .inr (2, [.ref tx, .ref lw])), (tx, .inr (6, [.ref tp, .int (nI N), .int (nI Po_14), .int fo_15])), (tp, .inr (5, [.ref by_, .int (nI T)])), (by_, .inl (cI, 260, .inl fb)), (lw, .inr (1, [.ref l1, .ref l2, .ref l3, .ref l4, .ref l5, .ref l6, .ref l7, .int (nI zo_20), .int (nI k)])), (l1, .inl (cI, 240, .inl l1_fo_21))] H := hP
      have hD : va_D A [(h0, .inr (2, [.ref tx, .ref lw])), (tx, .inr (6, [.ref tp, .int (nI N), .int (nI Po_14), .int fo_15])), (tp, .inr (5, [.ref by_, .int (nI T)])), (by_, .inl (cI, 260, .inl fb)), (lw, .inr (1, [.ref l1, .ref l2, .ref l3, .ref l4, .ref l5, .ref l6, .ref l7, .int (nI zo_20), .int (nI k)])), (l1, .inl (cI, 240, .inl l1_fo_21))] := hD
      exact ret _ _ _ _ (Po_14, fo_15, zo_20, l1_fo_21) dX2_readPiece_98 (⟨hw_22, PCQ.cmp (by omega) (fun z => c_11 (ex_2.trans z)) (fun z => c_44 (ex_2.trans z)) hw_8.2.1 hw_8.2.2 hw_12.1 hw_12.2.1 hw_18.2.1 hw_18.2.2⟩) (hP.sub [0, 1, 2, 3, 4, 5] rfl) (hD.sub [0, 1, 2, 3, 4, 5] (by decide) rfl) hS
    · obtain ⟨hf0, hlt, hop⟩ := sQj (v := 40) (by decide) (ex_2.symm.trans c_44)
      subst hf0
      refine lv_aload_n hx hb dX2_readPiece_47 rfl (lv_at hl 1 rfl) ?_
      refine lv_iload_n hx hb dX2_readPiece_48 rfl (lv_at hl 2 rfl) ?_
      refine cVI (As := [.int 2]) (rest := []) (n := 1) (ci := 2) (q0 := 0) (wr := [(tp, .inr (5, [.ref by_, .int (nI T)])), (by_, .inl (cI, 260, .inl fb)), (lw, .inr (1, [.ref l1, .ref l2, .ref l3, .ref l4, .ref l5, .ref l6, .ref l7, .int (nI z), .int (nI k)])), (l1, .inl (cI, 240, .inl q1))]) X hN hK hP hD hS hA (c_opensP l D cI cB _ h0 lw tx tp N P 0 2 hlt) (gV k_598 k_600 k_5 k_99 k_601) (by decide +kernel) ⟨Nat.le_of_ble_eq_true rfl, Nat.le_of_ble_eq_true rfl⟩ ⟨rfl, rfl⟩ [0, 1] [2, 3, 4, 5] rfl rfl (by decide) (by decide) rfl rfl rfl rfl rfl hl.1 (Nat.le_of_ble_eq_true rfl) dX2_readPiece_49 ⟨Nat.le_of_ble_eq_true rfl, Nat.le_of_ble_eq_true rfl⟩ (fun r_23 u H locs hw_26 hP hD hS => ?_)
      obtain ⟨Po_24, fo_25⟩ := u
      try dsimp only at hw_26
      have hP : va_P D vwCl [(tp, .inr (5, [.ref by_, .int (nI T)])), (by_, .inl (cI, 260, .inl fb)), (lw, .inr (1, [.ref l1, .ref l2, .ref l3, .ref l4, .ref l5, .ref l6, .ref l7, .int (nI z), .int (nI k)])), (l1, .inl (cI, 240, .inl q1)), (h0, .inr (2, [.ref tx, .ref lw])), (tx, .inr (6, [.ref tp, .int (nI N), .int (nI Po_24), .int fo_25]))] H := hP
      have hD : va_D A [(tp, .inr (5, [.ref by_, .int (nI T)])), (by_, .inl (cI, 260, .inl fb)), (lw, .inr (1, [.ref l1, .ref l2, .ref l3, .ref l4, .ref l5, .ref l6, .ref l7, .int (nI z), .int (nI k)])), (l1, .inl (cI, 240, .inl q1)), (h0, .inr (2, [.ref tx, .ref lw])), (tx, .inr (6, [.ref tp, .int (nI N), .int (nI Po_24), .int fo_25]))] := hD
      obtain rfl : r_23 = 1 := hw_26.1.trans (by decide)
      obtain ⟨eo1, eo2⟩ := hw_26.2.1 (by decide)
      rw [eo1, eo2] at hP hD
      have hP : va_P D vwCl [(tp, .inr (5, [.ref by_, .int (nI T)])), (by_, .inl (cI, 260, .inl fb)), (lw, .inr (1, [.ref l1, .ref l2, .ref l3, .ref l4, .ref l5, .ref l6, .ref l7, .int (nI z), .int (nI k)])), (l1, .inl (cI, 240, .inl q1)), (h0, .inr (2, [.ref tx, .ref lw])), (tx, .inr (6, [.ref tp, .int (nI N), .int (nI (P + 1)), .int 0]))] H := hP
      have hD : va_D A [(tp, .inr (5, [.ref by_, .int (nI T)])), (by_, .inl (cI, 260, .inl fb)), (lw, .inr (1, [.ref l1, .ref l2, .ref l3, .ref l4, .ref l5, .ref l6, .ref l7, .int (nI z), .int (nI k)])), (l1, .inl (cI, 240, .inl q1)), (h0, .inr (2, [.ref tx, .ref lw])), (tx, .inr (6, [.ref tp, .int (nI N), .int (nI (P + 1)), .int 0]))] := hD
      refine lv_if_eq (tgt := 98) hx hb dX2_readPiece_52 (by decide) (fun c_52 => absurd c_52 (by decide)) (fun _ => ?_)
      refine lv_aload_n hx hb dX2_readPiece_55 rfl (lv_at hl 1 rfl) ?_
      refine lv_iload_n hx hb dX2_readPiece_56 rfl (lv_at hl 2 rfl) ?_
      refine lv_iconst (v := 1) hx hb dX2_readPiece_57 (by decide) ?_
      refine lv_iadd hx hb dX2_readPiece_58 ?_
      refine tv (z := 3) (by decide) ?_
      refine cVVk (As := [.int 3]) (rest := []) (n := 1) (ci := 2) (q0 := 0) (wr := []) X hN hKO hK hP hD hS hA (c_rcP_3 l D cI cB _ kk h0 tx tp N (P + 1) 0 by_ T fb lw l1 l2 l3 l4 l5 l6 l7 z k q1 hT hNT (by omega) hN2 (Or.inl rfl) hbr hz hk) (gV k_628 k_630 k_7 k_99 k_631) (by decide +kernel) ⟨Nat.le_of_ble_eq_true rfl, Nat.le_of_ble_eq_true rfl⟩ ⟨rfl, rfl⟩ [4, 5, 0, 1, 2, 3] [] rfl rfl (by decide) (by decide) rfl rfl rfl rfl rfl hl.1 (Nat.le_of_ble_eq_true rfl) dX2_readPiece_59 ⟨Nat.le_of_ble_eq_true rfl, Nat.le_of_ble_eq_true rfl⟩ (fun u H locs hw_32 hP hD hS => ?_)
      obtain ⟨Po_28, fo_29, zo_30, l1o_31⟩ := u
      try dsimp only at hw_32
      have hP : va_P D vwCl [(h0, .inr (2, [.ref tx, .ref lw])), (tx, .inr (6, [.ref tp, .int (nI N), .int (nI Po_28), .int fo_29])), (tp, .inr (5, [.ref by_, .int (nI T)])), (by_, .inl (cI, 260, .inl fb)), (lw, .inr (1, [.ref l1, .ref l2, .ref l3, .ref l4, .ref l5, .ref l6, .ref l7, .int (nI zo_30), .int (nI k)])), (l1, .inl (cI, 240, .inl l1o_31))] H := hP
      have hD : va_D A [(h0, .inr (2, [.ref tx, .ref lw])), (tx, .inr (6, [.ref tp, .int (nI N), .int (nI Po_28), .int fo_29])), (tp, .inr (5, [.ref by_, .int (nI T)])), (by_, .inl (cI, 260, .inl fb)), (lw, .inr (1, [.ref l1, .ref l2, .ref l3, .ref l4, .ref l5, .ref l6, .ref l7, .int (nI zo_30), .int (nI k)])), (l1, .inl (cI, 240, .inl l1o_31))] := hD
      refine lv_aload_n hx hb dX2_readPiece_62 rfl (lv_at hl 1 rfl) ?_
      refine va_get (D := D) (ci := 2) (v := .ref tx) (C := RX2) (T := TX2) (N := 2) hx hb htb itX2 hown hK hP 0 rfl rfl 0 (by decide) (htb _ k_288) (fun _ h9 => h9) rfl dX2_readPiece_63 ?_
      refine lv_bipush (v := 41) hx hb dX2_readPiece_66 (by decide) ?_
      refine cVV (As := [.int 41]) (rest := []) (n := 1) (ci := 6) (q0 := 0) (wr := [(h0, .inr (2, [.ref tx, .ref lw])), (lw, .inr (1, [.ref l1, .ref l2, .ref l3, .ref l4, .ref l5, .ref l6, .ref l7, .int (nI zo_30), .int (nI k)])), (l1, .inl (cI, 240, .inl l1o_31))]) X hN hK hP hD hS hA (c_expectP l D cI cB _ tx tp N Po_28 fo_29 by_ T fb 41 hT hNT hw_32.2.1.2.2.2.1 (by decide)) (gV k_602 k_603 k_604 k_98 k_605) (by decide +kernel) ⟨Nat.le_of_ble_eq_true rfl, Nat.le_of_ble_eq_true rfl⟩ ⟨rfl, rfl⟩ [1, 2, 3] [0, 4, 5] rfl rfl (by decide) (by decide) rfl rfl rfl rfl rfl hl.1 (Nat.le_of_ble_eq_true rfl) dX2_readPiece_68 ⟨Nat.le_of_ble_eq_true rfl, Nat.le_of_ble_eq_true rfl⟩ (fun u H locs hw_36 hP hD hS => ?_)
      obtain ⟨Po_34, fo_35⟩ := u
      try dsimp only at hw_36
      have hP : va_P D vwCl [(h0, .inr (2, [.ref tx, .ref lw])), (lw, .inr (1, [.ref l1, .ref l2, .ref l3, .ref l4, .ref l5, .ref l6, .ref l7, .int (nI zo_30), .int (nI k)])), (l1, .inl (cI, 240, .inl l1o_31)), (tx, .inr (6, [.ref tp, .int (nI N), .int (nI Po_34), .int fo_35])), (tp, .inr (5, [.ref by_, .int (nI T)])), (by_, .inl (cI, 260, .inl fb))] H := hP
      have hD : va_D A [(h0, .inr (2, [.ref tx, .ref lw])), (lw, .inr (1, [.ref l1, .ref l2, .ref l3, .ref l4, .ref l5, .ref l6, .ref l7, .int (nI zo_30), .int (nI k)])), (l1, .inl (cI, 240, .inl l1o_31)), (tx, .inr (6, [.ref tp, .int (nI N), .int (nI Po_34), .int fo_35])), (tp, .inr (5, [.ref by_, .int (nI T)])), (by_, .inl (cI, 260, .inl fb))] := hD
      refine lv_goto (tgt := 98) hx hb dX2_readPiece_71 (by decide) ?_
      exact ret _ _ _ _ (Po_34, fo_35, zo_30, l1o_31) dX2_readPiece_98 (⟨hw_32.1, PCQ.par (by omega) hop hw_32.2.1 hw_32.2.2 hw_36.1 hw_36.2.1 hw_36.2.2.2⟩) (hP.sub [0, 3, 4, 5, 1, 2] rfl) (hD.sub [0, 3, 4, 5, 1, 2] (by decide) rfl) hS
  · obtain ⟨hf0, hlt, hop⟩ := sQj (v := 33) (by decide) (ex_2.symm.trans c_11)
    subst hf0
    refine lv_aload_n hx hb dX2_readPiece_14 rfl (lv_at hl 1 rfl) ?_
    refine lv_iload_n hx hb dX2_readPiece_15 rfl (lv_at hl 2 rfl) ?_
    refine cVI (As := [.int 2]) (rest := []) (n := 1) (ci := 2) (q0 := 0) (wr := [(tp, .inr (5, [.ref by_, .int (nI T)])), (by_, .inl (cI, 260, .inl fb)), (lw, .inr (1, [.ref l1, .ref l2, .ref l3, .ref l4, .ref l5, .ref l6, .ref l7, .int (nI z), .int (nI k)])), (l1, .inl (cI, 240, .inl q1))]) X hN hK hP hD hS hA (c_opensP l D cI cB _ h0 lw tx tp N P 0 2 hlt) (gV k_598 k_600 k_5 k_99 k_601) (by decide +kernel) ⟨Nat.le_of_ble_eq_true rfl, Nat.le_of_ble_eq_true rfl⟩ ⟨rfl, rfl⟩ [0, 1] [2, 3, 4, 5] rfl rfl (by decide) (by decide) rfl rfl rfl rfl rfl hl.1 (Nat.le_of_ble_eq_true rfl) dX2_readPiece_16 ⟨Nat.le_of_ble_eq_true rfl, Nat.le_of_ble_eq_true rfl⟩ (fun r_37 u H locs hw_40 hP hD hS => ?_)
    obtain ⟨Po_38, fo_39⟩ := u
    try dsimp only at hw_40
    have hP : va_P D vwCl [(tp, .inr (5, [.ref by_, .int (nI T)])), (by_, .inl (cI, 260, .inl fb)), (lw, .inr (1, [.ref l1, .ref l2, .ref l3, .ref l4, .ref l5, .ref l6, .ref l7, .int (nI z), .int (nI k)])), (l1, .inl (cI, 240, .inl q1)), (h0, .inr (2, [.ref tx, .ref lw])), (tx, .inr (6, [.ref tp, .int (nI N), .int (nI Po_38), .int fo_39]))] H := hP
    have hD : va_D A [(tp, .inr (5, [.ref by_, .int (nI T)])), (by_, .inl (cI, 260, .inl fb)), (lw, .inr (1, [.ref l1, .ref l2, .ref l3, .ref l4, .ref l5, .ref l6, .ref l7, .int (nI z), .int (nI k)])), (l1, .inl (cI, 240, .inl q1)), (h0, .inr (2, [.ref tx, .ref lw])), (tx, .inr (6, [.ref tp, .int (nI N), .int (nI Po_38), .int fo_39]))] := hD
    obtain rfl : r_37 = 1 := hw_40.1.trans (by decide)
    obtain ⟨eo1, eo2⟩ := hw_40.2.1 (by decide)
    rw [eo1, eo2] at hP hD
    have hP : va_P D vwCl [(tp, .inr (5, [.ref by_, .int (nI T)])), (by_, .inl (cI, 260, .inl fb)), (lw, .inr (1, [.ref l1, .ref l2, .ref l3, .ref l4, .ref l5, .ref l6, .ref l7, .int (nI z), .int (nI k)])), (l1, .inl (cI, 240, .inl q1)), (h0, .inr (2, [.ref tx, .ref lw])), (tx, .inr (6, [.ref tp, .int (nI N), .int (nI (P + 1)), .int 0]))] H := hP
    have hD : va_D A [(tp, .inr (5, [.ref by_, .int (nI T)])), (by_, .inl (cI, 260, .inl fb)), (lw, .inr (1, [.ref l1, .ref l2, .ref l3, .ref l4, .ref l5, .ref l6, .ref l7, .int (nI z), .int (nI k)])), (l1, .inl (cI, 240, .inl q1)), (h0, .inr (2, [.ref tx, .ref lw])), (tx, .inr (6, [.ref tp, .int (nI N), .int (nI (P + 1)), .int 0]))] := hD
    refine lv_if_eq (tgt := 98) hx hb dX2_readPiece_19 (by decide) (fun c_19 => absurd c_19 (by decide)) (fun _ => ?_)
    refine lv_aload_n hx hb dX2_readPiece_22 rfl (lv_at hl 1 rfl) ?_
    refine lv_iload_n hx hb dX2_readPiece_23 rfl (lv_at hl 2 rfl) ?_
    refine lv_iconst (v := 1) hx hb dX2_readPiece_24 (by decide) ?_
    refine lv_iadd hx hb dX2_readPiece_25 ?_
    refine tv (z := 3) (by decide) ?_
    refine cVVk (As := [.int 3]) (rest := []) (n := 1) (ci := 2) (q0 := 0) (wr := []) X hN hKO hK hP hD hS hA (c_rpP_3 l D cI cB _ kk h0 tx tp N (P + 1) 0 by_ T fb lw l1 l2 l3 l4 l5 l6 l7 z k q1 hT hNT (by omega) hN2 (Or.inl rfl) hbr hz hk) (gV k_636 k_638 k_9 k_99 k_639) (by decide +kernel) ⟨Nat.le_of_ble_eq_true rfl, Nat.le_of_ble_eq_true rfl⟩ ⟨rfl, rfl⟩ [4, 5, 0, 1, 2, 3] [] rfl rfl (by decide) (by decide) rfl rfl rfl rfl rfl hl.1 (Nat.le_of_ble_eq_true rfl) dX2_readPiece_26 ⟨Nat.le_of_ble_eq_true rfl, Nat.le_of_ble_eq_true rfl⟩ (fun u H locs hw_46 hP hD hS => ?_)
    obtain ⟨Po_42, fo_43, zo_44, l1o_45⟩ := u
    try dsimp only at hw_46
    have hP : va_P D vwCl [(h0, .inr (2, [.ref tx, .ref lw])), (tx, .inr (6, [.ref tp, .int (nI N), .int (nI Po_42), .int fo_43])), (tp, .inr (5, [.ref by_, .int (nI T)])), (by_, .inl (cI, 260, .inl fb)), (lw, .inr (1, [.ref l1, .ref l2, .ref l3, .ref l4, .ref l5, .ref l6, .ref l7, .int (nI zo_44), .int (nI k)])), (l1, .inl (cI, 240, .inl l1o_45))] H := hP
    have hD : va_D A [(h0, .inr (2, [.ref tx, .ref lw])), (tx, .inr (6, [.ref tp, .int (nI N), .int (nI Po_42), .int fo_43])), (tp, .inr (5, [.ref by_, .int (nI T)])), (by_, .inl (cI, 260, .inl fb)), (lw, .inr (1, [.ref l1, .ref l2, .ref l3, .ref l4, .ref l5, .ref l6, .ref l7, .int (nI zo_44), .int (nI k)])), (l1, .inl (cI, 240, .inl l1o_45))] := hD
    refine lv_aload_n hx hb dX2_readPiece_29 rfl (lv_at hl 1 rfl) ?_
    refine va_get (D := D) (ci := 2) (v := .ref lw) (C := RX2) (T := TX2) (N := 2) hx hb htb itX2 hown hK hP 0 rfl rfl 1 (by decide) (htb _ k_289) (fun _ h9 => h9) rfl dX2_readPiece_30 ?_
    refine lv_iconst (v := 2) hx hb dX2_readPiece_33 (by decide) ?_
    refine lv_iconst (v := 0) hx hb dX2_readPiece_34 (by decide) ?_
    refine cVV (As := [.int 2, .int 0]) (rest := []) (n := 2) (ci := 1) (q0 := 0) (wr := [(h0, .inr (2, [.ref tx, .ref lw])), (tx, .inr (6, [.ref tp, .int (nI N), .int (nI Po_42), .int fo_43])), (tp, .inr (5, [.ref by_, .int (nI T)])), (by_, .inl (cI, 260, .inl fb))]) X hN hK hP hD hS hA (c_X1_addStep l D cI cB _ lw l1 l2 l3 l4 l5 l6 l7 zo_44 k 2 0 l1o_45 hw_46.1 hk) (gV k_594 k_595 k_596 k_97 k_597) (by decide +kernel) ⟨Nat.le_of_ble_eq_true rfl, Nat.le_of_ble_eq_true rfl⟩ ⟨rfl, rfl⟩ [4, 5] [0, 1, 2, 3] rfl rfl (by decide) (by decide) rfl rfl rfl rfl rfl hl.1 (Nat.le_of_ble_eq_true rfl) dX2_readPiece_35 ⟨Nat.le_of_ble_eq_true rfl, Nat.le_of_ble_eq_true rfl⟩ (fun u H locs hw_50 hP hD hS => ?_)
    obtain ⟨zo_48, l1_fo_49⟩ := u
    try dsimp only at hw_50
    have hP : va_P D vwCl [(h0, .inr (2, [.ref tx, .ref lw])), (tx, .inr (6, [.ref tp, .int (nI N), .int (nI Po_42), .int fo_43])), (tp, .inr (5, [.ref by_, .int (nI T)])), (by_, .inl (cI, 260, .inl fb)), (lw, .inr (1, [.ref l1, .ref l2, .ref l3, .ref l4, .ref l5, .ref l6, .ref l7, .int (nI zo_48), .int (nI k)])), (l1, .inl (cI, 240, .inl l1_fo_49))] H := hP
    have hD : va_D A [(h0, .inr (2, [.ref tx, .ref lw])), (tx, .inr (6, [.ref tp, .int (nI N), .int (nI Po_42), .int fo_43])), (tp, .inr (5, [.ref by_, .int (nI T)])), (by_, .inl (cI, 260, .inl fb)), (lw, .inr (1, [.ref l1, .ref l2, .ref l3, .ref l4, .ref l5, .ref l6, .ref l7, .int (nI zo_48), .int (nI k)])), (l1, .inl (cI, 240, .inl l1_fo_49))] := hD
    refine lv_goto (tgt := 98) hx hb dX2_readPiece_38 (by decide) ?_
    exact ret _ _ _ _ (Po_42, fo_43, zo_48, l1_fo_49) dX2_readPiece_98 (⟨hw_50, PCQ.no hop hw_46.2⟩) (hP.sub [0, 1, 2, 3, 4, 5] rfl) (hD.sub [0, 1, 2, 3, 4, 5] (by decide) rfl) hS

set_option maxRecDepth 100000 in
set_option maxHeartbeats 4000000 in
theorem c_raP_2 (l : Launch) (D : va_G) (cI cB : ClassId) (sz : Nat) (kk : KT) (h0 : Nat) (tx : Nat) (tp : Nat) (N : Nat) (P : Nat) (fa : Int32) (by_ : Nat) (T : Nat) (fb : Nat → Int32) (lw : Nat) (l1 : Nat) (l2 : Nat) (l3 : Nat) (l4 : Nat) (l5 : Nat) (l6 : Nat) (l7 : Nat) (z : Nat) (k : Nat) (q1 : Nat → Int32) (hT : T ≤ 260) (hNT : N ≤ T) (hPN : P ≤ N) (hN2 : N ≤ 240) (hfa : fa = 0 ∨ fa < 0) (hbr : BR N fb) (hz : z ≤ 240) (hk : k ≤ 16) : MVk (S := ((Nat) × (Int32) × (Nat) × (Nat → Int32))) l D cI cB kk yX2_readPart cX2_readPart 4 (rm 21 480) [.ref h0, .int 2] [(h0, .inr (2, [.ref tx, .ref lw])), (tx, .inr (6, [.ref tp, .int (nI N), .int (nI P), .int fa])), (tp, .inr (5, [.ref by_, .int (nI T)])), (by_, .inl (cI, 260, .inl fb)), (lw, .inr (1, [.ref l1, .ref l2, .ref l3, .ref l4, .ref l5, .ref l6, .ref l7, .int (nI z), .int (nI k)])), (l1, .inl (cI, 240, .inl q1))] sz (fun u => u.2.2.1 ≤ 240 ∧ PTQ fb N 4 P u.1 fa u.2.1 ∧ (u.2.1 = 0 → ¬ chF fb N u.1 = 38)) (fun u : ((Nat) × (Int32) × (Nat) × (Nat → Int32)) => [(h0, .inr (2, [.ref tx, .ref lw])), (tx, .inr (6, [.ref tp, .int (nI N), .int (nI u.1), .int u.2.1])), (tp, .inr (5, [.ref by_, .int (nI T)])), (by_, .inl (cI, 260, .inl fb)), (lw, .inr (1, [.ref l1, .ref l2, .ref l3, .ref l4, .ref l5, .ref l6, .ref l7, .int (nI u.2.2.1), .int (nI k)])), (l1, .inl (cI, 240, .inl u.2.2.2))]) := by
  refine MVk.of (by decide) (Nat.le_of_ble_eq_true rfl) ?_
  intro p e s m below meth c Q ls A X hin hN hKO hP hK hD hA hl ret
  have hS : va_S A s.heap s.heap [] := va_S.rf
  obtain ⟨hx, hb, hml, hown, htb⟩ := id X
  have hl : lv_has ls 4 [(0, .ref h0), (1, .int 2)] := hl
  refine lv_aload_n hx hb dX2_readPart_0 rfl (lv_at hl 0 rfl) ?_
  refine lv_iload_n hx hb dX2_readPart_1 rfl (lv_at hl 1 rfl) ?_
  refine cVVk (As := [.int 2]) (rest := []) (n := 1) (ci := 2) (q0 := 0) (wr := []) X hN hKO hK hP hD hS hA (c_rpP_2 l D cI cB _ kk h0 tx tp N P fa by_ T fb lw l1 l2 l3 l4 l5 l6 l7 z k q1 hT hNT hPN hN2 hfa hbr hz hk) (gV k_636 k_638 k_9 k_99 k_639) (by decide +kernel) ⟨Nat.le_of_ble_eq_true rfl, Nat.le_of_ble_eq_true rfl⟩ ⟨rfl, rfl⟩ [0, 1, 2, 3, 4, 5] [] rfl rfl (by decide) (by decide) rfl rfl rfl rfl rfl hl.1 (Nat.le_of_ble_eq_true rfl) dX2_readPart_2 ⟨Nat.le_of_ble_eq_true rfl, Nat.le_of_ble_eq_true rfl⟩ (fun u H locs hw_6 hP hD hS => ?_)
  obtain ⟨Po_2, fo_3, zo_4, l1o_5⟩ := u
  try dsimp only at hw_6
  have hP : va_P D vwCl [(h0, .inr (2, [.ref tx, .ref lw])), (tx, .inr (6, [.ref tp, .int (nI N), .int (nI Po_2), .int fo_3])), (tp, .inr (5, [.ref by_, .int (nI T)])), (by_, .inl (cI, 260, .inl fb)), (lw, .inr (1, [.ref l1, .ref l2, .ref l3, .ref l4, .ref l5, .ref l6, .ref l7, .int (nI zo_4), .int (nI k)])), (l1, .inl (cI, 240, .inl l1o_5))] H := hP
  have hD : va_D A [(h0, .inr (2, [.ref tx, .ref lw])), (tx, .inr (6, [.ref tp, .int (nI N), .int (nI Po_2), .int fo_3])), (tp, .inr (5, [.ref by_, .int (nI T)])), (by_, .inl (cI, 260, .inl fb)), (lw, .inr (1, [.ref l1, .ref l2, .ref l3, .ref l4, .ref l5, .ref l6, .ref l7, .int (nI zo_4), .int (nI k)])), (l1, .inl (cI, 240, .inl l1o_5))] := hD
  refine lv_iconst (v := 0) hx hb dX2_readPart_5 (by decide) ?_
  refine lv_istore_n (lv' := [(2, .int 0), (0, .ref h0), (1, .int 2)]) hx hb dX2_readPart_6 rfl hl (by decide) rfl (fun ls hl => ?_)
  have loop_7 : ∀ (n i : Nat) (Pa : Nat) (fv : Int32) (za : Nat) (qa : Nat → Int32), n + i = 240 → (za ≤ 240) → (PTQ fb N 4 P Pa fa fv) → (fv = 0 → fa = 0 → i < Pa) → ∀ (H : Heap) (locs : List Loc), va_P D vwCl [(h0, .inr (2, [.ref tx, .ref lw])), (tx, .inr (6, [.ref tp, .int (nI N), .int (nI Pa), .int fv])), (tp, .inr (5, [.ref by_, .int (nI T)])), (by_, .inl (cI, 260, .inl fb)), (lw, .inr (1, [.ref l1, .ref l2, .ref l3, .ref l4, .ref l5, .ref l6, .ref l7, .int (nI za), .int (nI k)])), (l1, .inl (cI, 240, .inl qa))] H → va_D A [(h0, .inr (2, [.ref tx, .ref lw])), (tx, .inr (6, [.ref tp, .int (nI N), .int (nI Pa), .int fv])), (tp, .inr (5, [.ref by_, .int (nI T)])), (by_, .inl (cI, 260, .inl fb)), (lw, .inr (1, [.ref l1, .ref l2, .ref l3, .ref l4, .ref l5, .ref l6, .ref l7, .int (nI za), .int (nI k)])), (l1, .inl (cI, 240, .inl qa))] → va_S A s.heap H locs → ∀ (ls : Array Slot), lv_has ls 4 [(0, .ref h0), (1, .int 2), (2, .int (nI i))] → W p l e (rm 21 480) s m ([.ref h0, .int 2] : List Value).toArray below meth c H locs 0 0 Q (F0 m 7 ls []) := by
    intro n
    induction n with
    | zero =>
      intro i Pa fv za qa hni hza hq hiP H locs hP hD hS ls hl
      have hni_7 := hni
      have hi : i = 240 := by omega
      refine lv_iload_n hx hb dX2_readPart_7 rfl (lv_at hl 2 rfl) ?_
      refine lv_sipush (v := 240) hx hb dX2_readPart_8 (by decide) ?_
      refine lv_icmp_ge (tgt := 62) hx hb dX2_readPart_11 (by decide) (fun _ => ?_) (fun c_11 => absurd (by rw [hi]; decide) c_11)
      exact ret _ _ _ _ (Pa, fv, za, qa) dX2_readPart_62 (⟨hza, ⟨hq, fun z => absurd z (fun z => by have h2 := hq.2.1; have h4 := hq.2.2.2.1; exact (Classical.em (fa = 0)).elim (fun w => by have := hiP z w; omega) (fun w => w ((h2 w).symm.trans z)))⟩⟩) (hP.sub [0, 1, 2, 3, 4, 5] rfl) (hD.sub [0, 1, 2, 3, 4, 5] (by decide) rfl) hS
    | succ n ih_7 =>
      intro i Pa fv za qa hni hza hq hiP H locs hP hD hS ls hl
      have hni_7 := hni
      have hi : i < 240 := by omega
      refine lv_iload_n hx hb dX2_readPart_7 rfl (lv_at hl 2 rfl) ?_
      refine lv_sipush (v := 240) hx hb dX2_readPart_8 (by decide) ?_
      refine lv_icmp_ge (tgt := 62) hx hb dX2_readPart_11 (by decide) (fun c_11 => absurd c_11 (nI_ge hi (by decide))) (fun _ => ?_)
      refine lv_aload_n hx hb dX2_readPart_14 rfl (lv_at hl 0 rfl) ?_
      refine va_get (D := D) (ci := 2) (v := .ref tx) (C := RX2) (T := TX2) (N := 2) hx hb htb itX2 hown hK hP 0 rfl rfl 0 (by decide) (htb _ k_288) (fun _ h9 => h9) rfl dX2_readPart_15 ?_
      refine lv_bipush (v := 38) hx hb dX2_readPart_18 (by decide) ?_
      refine cVI (As := [.int 38]) (rest := []) (n := 1) (ci := 6) (q0 := 0) (wr := [(h0, .inr (2, [.ref tx, .ref lw])), (lw, .inr (1, [.ref l1, .ref l2, .ref l3, .ref l4, .ref l5, .ref l6, .ref l7, .int (nI za), .int (nI k)])), (l1, .inl (cI, 240, .inl qa))]) X hN hK hP hD hS hA (c_skipP l D cI cB _ tx tp N Pa fv by_ T fb 38 hT hNT hq.2.2.2.1 (by decide)) (gV k_644 k_607 k_608 k_98 k_609) (by decide +kernel) ⟨Nat.le_of_ble_eq_true rfl, Nat.le_of_ble_eq_true rfl⟩ ⟨rfl, rfl⟩ [1, 2, 3] [0, 4, 5] rfl rfl (by decide) (by decide) rfl rfl rfl rfl rfl hl.1 (Nat.le_of_ble_eq_true rfl) dX2_readPart_20 ⟨Nat.le_of_ble_eq_true rfl, Nat.le_of_ble_eq_true rfl⟩ (fun r_7 u H locs hw_9 hP hD hS => ?_)
      obtain ⟨Po_8, rfl⟩ : ∃ z, z = u := ⟨_, rfl⟩
      try dsimp only at hw_9
      have hP : va_P D vwCl [(h0, .inr (2, [.ref tx, .ref lw])), (lw, .inr (1, [.ref l1, .ref l2, .ref l3, .ref l4, .ref l5, .ref l6, .ref l7, .int (nI za), .int (nI k)])), (l1, .inl (cI, 240, .inl qa)), (tx, .inr (6, [.ref tp, .int (nI N), .int (nI Po_8), .int fv])), (tp, .inr (5, [.ref by_, .int (nI T)])), (by_, .inl (cI, 260, .inl fb))] H := hP
      have hD : va_D A [(h0, .inr (2, [.ref tx, .ref lw])), (lw, .inr (1, [.ref l1, .ref l2, .ref l3, .ref l4, .ref l5, .ref l6, .ref l7, .int (nI za), .int (nI k)])), (l1, .inl (cI, 240, .inl qa)), (tx, .inr (6, [.ref tp, .int (nI N), .int (nI Po_8), .int fv])), (tp, .inr (5, [.ref by_, .int (nI T)])), (by_, .inl (cI, 260, .inl fb))] := hD
      refine lv_if_eq (tgt := 62) hx hb dX2_readPart_23 (by decide) (fun c_23 => ?_) (fun c_23 => ?_)
      · have hsn := bIf (hw_9.1.symm.trans c_23)
        have hpl := hw_9.2.2.1 hsn
        rw [hpl] at hP hD
        have hP : va_P D vwCl [(h0, .inr (2, [.ref tx, .ref lw])), (lw, .inr (1, [.ref l1, .ref l2, .ref l3, .ref l4, .ref l5, .ref l6, .ref l7, .int (nI za), .int (nI k)])), (l1, .inl (cI, 240, .inl qa)), (tx, .inr (6, [.ref tp, .int (nI N), .int (nI Pa), .int fv])), (tp, .inr (5, [.ref by_, .int (nI T)])), (by_, .inl (cI, 260, .inl fb))] H := hP
        have hD : va_D A [(h0, .inr (2, [.ref tx, .ref lw])), (lw, .inr (1, [.ref l1, .ref l2, .ref l3, .ref l4, .ref l5, .ref l6, .ref l7, .int (nI za), .int (nI k)])), (l1, .inl (cI, 240, .inl qa)), (tx, .inr (6, [.ref tp, .int (nI N), .int (nI Pa), .int fv])), (tp, .inr (5, [.ref by_, .int (nI T)])), (by_, .inl (cI, 260, .inl fb))] := hD
        exact ret _ _ _ _ (Pa, fv, za, qa) dX2_readPart_62 (⟨hza, ⟨hq, fun (z : fv = 0) => by have w1 := hsn; rw [z, sQ0] at w1; exact w1⟩⟩) (hP.sub [0, 3, 4, 5, 1, 2] rfl) (hD.sub [0, 3, 4, 5, 1, 2] (by decide) rfl) hS
      · have hsk := bIt (fun z => c_23 (hw_9.1.trans z))
        obtain ⟨hf0, hlt, hch⟩ := sQj (by decide) hsk
        have hpl := hw_9.2.1 hsk
        subst hf0
        have hjn : JN2 (chF fb N Pa) := Or.inl hch
        rw [hpl] at hP hD
        have hP : va_P D vwCl [(h0, .inr (2, [.ref tx, .ref lw])), (lw, .inr (1, [.ref l1, .ref l2, .ref l3, .ref l4, .ref l5, .ref l6, .ref l7, .int (nI za), .int (nI k)])), (l1, .inl (cI, 240, .inl qa)), (tx, .inr (6, [.ref tp, .int (nI N), .int (nI (Pa + 1)), .int 0])), (tp, .inr (5, [.ref by_, .int (nI T)])), (by_, .inl (cI, 260, .inl fb))] H := hP
        have hD : va_D A [(h0, .inr (2, [.ref tx, .ref lw])), (lw, .inr (1, [.ref l1, .ref l2, .ref l3, .ref l4, .ref l5, .ref l6, .ref l7, .int (nI za), .int (nI k)])), (l1, .inl (cI, 240, .inl qa)), (tx, .inr (6, [.ref tp, .int (nI N), .int (nI (Pa + 1)), .int 0])), (tp, .inr (5, [.ref by_, .int (nI T)])), (by_, .inl (cI, 260, .inl fb))] := hD
        refine lv_aload_n hx hb dX2_readPart_26 rfl (lv_at hl 0 rfl) ?_
        refine va_get (D := D) (ci := 2) (v := .ref lw) (C := RX2) (T := TX2) (N := 2) hx hb htb itX2 hown hK hP 0 rfl rfl 1 (by decide) (htb _ k_289) (fun _ h9 => h9) rfl dX2_readPart_27 ?_
        refine va_getN (D := D) (ci := 1) (v := .int (nI za)) (C := RX1) (T := TX1) (N := 9) hx hb htb itX1 hown hK hP 1 rfl rfl 7 (by decide) (va_Nw.use rfl (hN _ n_232 rfl)) (fun _ h9 => h9) rfl dX2_readPart_30 ?_
        refine lv_istore_n (lv' := [(3, .int (nI za)), (0, .ref h0), (1, .int 2), (2, .int (nI i))]) hx hb dX2_readPart_33 rfl hl (by decide) rfl (fun ls hl => ?_)
        refine lv_aload_n hx hb dX2_readPart_34 rfl (lv_at hl 1 rfl) ?_
        refine va_get (D := D) (ci := 2) (v := .ref lw) (C := RX2) (T := TX2) (N := 2) hx hb htb itX2 hown hK hP 0 rfl rfl 1 (by decide) (htb _ k_289) (fun _ h9 => h9) rfl dX2_readPart_35 ?_
        refine lv_iconst (v := 4) hx hb dX2_readPart_38 (by decide) ?_
        refine lv_iconst (v := 0) hx hb dX2_readPart_39 (by decide) ?_
        refine cVV (As := [.int 4, .int 0]) (rest := []) (n := 2) (ci := 1) (q0 := 0) (wr := [(h0, .inr (2, [.ref tx, .ref lw])), (tx, .inr (6, [.ref tp, .int (nI N), .int (nI (Pa + 1)), .int 0])), (tp, .inr (5, [.ref by_, .int (nI T)])), (by_, .inl (cI, 260, .inl fb))]) X hN hK hP hD hS hA (c_X1_addStep l D cI cB _ lw l1 l2 l3 l4 l5 l6 l7 za k 4 0 qa hza hk) (gV k_594 k_595 k_596 k_97 k_597) (by decide +kernel) ⟨Nat.le_of_ble_eq_true rfl, Nat.le_of_ble_eq_true rfl⟩ ⟨rfl, rfl⟩ [1, 2] [0, 3, 4, 5] rfl rfl (by decide) (by decide) rfl rfl rfl rfl rfl hl.1 (Nat.le_of_ble_eq_true rfl) dX2_readPart_40 ⟨Nat.le_of_ble_eq_true rfl, Nat.le_of_ble_eq_true rfl⟩ (fun u H locs hw_13 hP hD hS => ?_)
        obtain ⟨zo_11, l1_fo_12⟩ := u
        try dsimp only at hw_13
        have hP : va_P D vwCl [(h0, .inr (2, [.ref tx, .ref lw])), (tx, .inr (6, [.ref tp, .int (nI N), .int (nI (Pa + 1)), .int 0])), (tp, .inr (5, [.ref by_, .int (nI T)])), (by_, .inl (cI, 260, .inl fb)), (lw, .inr (1, [.ref l1, .ref l2, .ref l3, .ref l4, .ref l5, .ref l6, .ref l7, .int (nI zo_11), .int (nI k)])), (l1, .inl (cI, 240, .inl l1_fo_12))] H := hP
        have hD : va_D A [(h0, .inr (2, [.ref tx, .ref lw])), (tx, .inr (6, [.ref tp, .int (nI N), .int (nI (Pa + 1)), .int 0])), (tp, .inr (5, [.ref by_, .int (nI T)])), (by_, .inl (cI, 260, .inl fb)), (lw, .inr (1, [.ref l1, .ref l2, .ref l3, .ref l4, .ref l5, .ref l6, .ref l7, .int (nI zo_11), .int (nI k)])), (l1, .inl (cI, 240, .inl l1_fo_12))] := hD
        refine lv_aload_n hx hb dX2_readPart_43 rfl (lv_at hl 1 rfl) ?_
        refine lv_iload_n hx hb dX2_readPart_44 rfl (lv_at hl 2 rfl) ?_
        refine cVVk (As := [.int 2]) (rest := []) (n := 1) (ci := 2) (q0 := 0) (wr := []) X hN hKO hK hP hD hS hA (c_rpP_2 l D cI cB _ kk h0 tx tp N (Pa + 1) 0 by_ T fb lw l1 l2 l3 l4 l5 l6 l7 zo_11 k l1_fo_12 hT hNT (by omega) hN2 (Or.inl rfl) hbr hw_13 hk) (gV k_636 k_638 k_9 k_99 k_639) (by decide +kernel) ⟨Nat.le_of_ble_eq_true rfl, Nat.le_of_ble_eq_true rfl⟩ ⟨rfl, rfl⟩ [0, 1, 2, 3, 4, 5] [] rfl rfl (by decide) (by decide) rfl rfl rfl rfl rfl hl.1 (Nat.le_of_ble_eq_true rfl) dX2_readPart_45 ⟨Nat.le_of_ble_eq_true rfl, Nat.le_of_ble_eq_true rfl⟩ (fun u H locs hw_19 hP hD hS => ?_)
        obtain ⟨Po_15, fo_16, zo_17, l1o_18⟩ := u
        try dsimp only at hw_19
        have hP : va_P D vwCl [(h0, .inr (2, [.ref tx, .ref lw])), (tx, .inr (6, [.ref tp, .int (nI N), .int (nI Po_15), .int fo_16])), (tp, .inr (5, [.ref by_, .int (nI T)])), (by_, .inl (cI, 260, .inl fb)), (lw, .inr (1, [.ref l1, .ref l2, .ref l3, .ref l4, .ref l5, .ref l6, .ref l7, .int (nI zo_17), .int (nI k)])), (l1, .inl (cI, 240, .inl l1o_18))] H := hP
        have hD : va_D A [(h0, .inr (2, [.ref tx, .ref lw])), (tx, .inr (6, [.ref tp, .int (nI N), .int (nI Po_15), .int fo_16])), (tp, .inr (5, [.ref by_, .int (nI T)])), (by_, .inl (cI, 260, .inl fb)), (lw, .inr (1, [.ref l1, .ref l2, .ref l3, .ref l4, .ref l5, .ref l6, .ref l7, .int (nI zo_17), .int (nI k)])), (l1, .inl (cI, 240, .inl l1o_18))] := hD
        refine lv_aload_n hx hb dX2_readPart_48 rfl (lv_at hl 1 rfl) ?_
        refine va_get (D := D) (ci := 2) (v := .ref lw) (C := RX2) (T := TX2) (N := 2) hx hb htb itX2 hown hK hP 0 rfl rfl 1 (by decide) (htb _ k_289) (fun _ h9 => h9) rfl dX2_readPart_49 ?_
        refine lv_iload_n hx hb dX2_readPart_52 rfl (lv_at hl 0 rfl) ?_
        refine cVV (As := [.int (nI za)]) (rest := []) (n := 1) (ci := 1) (q0 := 0) (wr := [(h0, .inr (2, [.ref tx, .ref lw])), (tx, .inr (6, [.ref tp, .int (nI N), .int (nI Po_15), .int fo_16])), (tp, .inr (5, [.ref by_, .int (nI T)])), (by_, .inl (cI, 260, .inl fb))]) X hN hK hP hD hS hA (c_X1_landSkip l D cI cB _ lw l1 l2 l3 l4 l5 l6 l7 zo_17 k (nI za) l1o_18 hw_19.1 hk) (gV k_645 k_646 k_647 k_97 k_648) (by decide +kernel) ⟨Nat.le_of_ble_eq_true rfl, Nat.le_of_ble_eq_true rfl⟩ ⟨rfl, rfl⟩ [4, 5] [0, 1, 2, 3] rfl rfl (by decide) (by decide) rfl rfl rfl rfl rfl hl.1 (Nat.le_of_ble_eq_true rfl) dX2_readPart_53 ⟨Nat.le_of_ble_eq_true rfl, Nat.le_of_ble_eq_true rfl⟩ (fun u H locs hw_22 hP hD hS => ?_)
        obtain ⟨l1_fo_21, rfl⟩ : ∃ z, z = u := ⟨_, rfl⟩
        try dsimp only at hw_22
        have hP : va_P D vwCl [(h0, .inr (2, [.ref tx, .ref lw])), (tx, .inr (6, [.ref tp, .int (nI N), .int (nI Po_15), .int fo_16])), (tp, .inr (5, [.ref by_, .int (nI T)])), (by_, .inl (cI, 260, .inl fb)), (lw, .inr (1, [.ref l1, .ref l2, .ref l3, .ref l4, .ref l5, .ref l6, .ref l7, .int (nI zo_17), .int (nI k)])), (l1, .inl (cI, 240, .inl l1_fo_21))] H := hP
        have hD : va_D A [(h0, .inr (2, [.ref tx, .ref lw])), (tx, .inr (6, [.ref tp, .int (nI N), .int (nI Po_15), .int fo_16])), (tp, .inr (5, [.ref by_, .int (nI T)])), (by_, .inl (cI, 260, .inl fb)), (lw, .inr (1, [.ref l1, .ref l2, .ref l3, .ref l4, .ref l5, .ref l6, .ref l7, .int (nI zo_17), .int (nI k)])), (l1, .inl (cI, 240, .inl l1_fo_21))] := hD
        refine lv_iinc (v := (nI (i + 1))) (lv' := [(2, .int (nI (i + 1))), (3, .int (nI za)), (0, .ref h0), (1, .int 2)]) hx hb dX2_readPart_56 hl (k := 3) rfl (nI_1 i) (by decide) rfl (fun ls hl => ?_)
        refine lv_goto (tgt := 7) hx hb dX2_readPart_59 (by decide) ?_
        exact ih_7 (i + 1) Po_15 fo_16 zo_17 l1_fo_21 (by omega) hw_19.1 (hq.more hjn hw_19.2.pt) (fun z w => by have := (((hw_19.2.2.2.2.2 rfl).1 z).1); have := hiP rfl w; omega) _ _ (hP.sub [0, 1, 2, 3, 4, 5] rfl) (hD.sub [0, 1, 2, 3, 4, 5] (by decide) rfl) hS _ (lv_sub hl [2, 3, 0] rfl)
  exact loop_7 240 0 Po_2 fo_3 zo_4 l1o_5 (by omega) hw_6.1 hw_6.2.pt (fun z w => (((hw_6.2.2.2.2.2 w).1 z).1 |> fun y => by omega)) _ _ (hP.sub [0, 1, 2, 3, 4, 5] rfl) (hD.sub [0, 1, 2, 3, 4, 5] (by decide) rfl) hS _ (lv_sub hl [1, 2, 0] rfl)

set_option maxRecDepth 100000 in
set_option maxHeartbeats 4000000 in
theorem c_rcP_2 (l : Launch) (D : va_G) (cI cB : ClassId) (sz : Nat) (kk : KT) (h0 : Nat) (tx : Nat) (tp : Nat) (N : Nat) (P : Nat) (fa : Int32) (by_ : Nat) (T : Nat) (fb : Nat → Int32) (lw : Nat) (l1 : Nat) (l2 : Nat) (l3 : Nat) (l4 : Nat) (l5 : Nat) (l6 : Nat) (l7 : Nat) (z : Nat) (k : Nat) (q1 : Nat → Int32) (hT : T ≤ 260) (hNT : N ≤ T) (hPN : P ≤ N) (hN2 : N ≤ 240) (hfa : fa = 0 ∨ fa < 0) (hbr : BR N fb) (hz : z ≤ 240) (hk : k ≤ 16) : MVk (S := ((Nat) × (Int32) × (Nat) × (Nat → Int32))) l D cI cB kk yX2_readChoice cX2_readChoice 4 (rm 22 503) [.ref h0, .int 2] [(h0, .inr (2, [.ref tx, .ref lw])), (tx, .inr (6, [.ref tp, .int (nI N), .int (nI P), .int fa])), (tp, .inr (5, [.ref by_, .int (nI T)])), (by_, .inl (cI, 260, .inl fb)), (lw, .inr (1, [.ref l1, .ref l2, .ref l3, .ref l4, .ref l5, .ref l6, .ref l7, .int (nI z), .int (nI k)])), (l1, .inl (cI, 240, .inl q1))] sz (fun u => u.2.2.1 ≤ 240 ∧ PTQ fb N 4 P u.1 fa u.2.1 ∧ (u.2.1 = 0 → ¬ JN2 (chF fb N u.1))) (fun u : ((Nat) × (Int32) × (Nat) × (Nat → Int32)) => [(h0, .inr (2, [.ref tx, .ref lw])), (tx, .inr (6, [.ref tp, .int (nI N), .int (nI u.1), .int u.2.1])), (tp, .inr (5, [.ref by_, .int (nI T)])), (by_, .inl (cI, 260, .inl fb)), (lw, .inr (1, [.ref l1, .ref l2, .ref l3, .ref l4, .ref l5, .ref l6, .ref l7, .int (nI u.2.2.1), .int (nI k)])), (l1, .inl (cI, 240, .inl u.2.2.2))]) := by
  refine MVk.of (by decide) (Nat.le_of_ble_eq_true rfl) ?_
  intro p e s m below meth c Q ls A X hin hN hKO hP hK hD hA hl ret
  have hS : va_S A s.heap s.heap [] := va_S.rf
  obtain ⟨hx, hb, hml, hown, htb⟩ := id X
  have hl : lv_has ls 4 [(0, .ref h0), (1, .int 2)] := hl
  refine lv_aload_n hx hb dX2_readChoice_0 rfl (lv_at hl 0 rfl) ?_
  refine lv_iload_n hx hb dX2_readChoice_1 rfl (lv_at hl 1 rfl) ?_
  refine cVVk (As := [.int 2]) (rest := []) (n := 1) (ci := 2) (q0 := 0) (wr := []) X hN hKO hK hP hD hS hA (c_raP_2 l D cI cB _ kk h0 tx tp N P fa by_ T fb lw l1 l2 l3 l4 l5 l6 l7 z k q1 hT hNT hPN hN2 hfa hbr hz hk) (gV k_632 k_634 k_8 k_99 k_635) (by decide +kernel) ⟨Nat.le_of_ble_eq_true rfl, Nat.le_of_ble_eq_true rfl⟩ ⟨rfl, rfl⟩ [0, 1, 2, 3, 4, 5] [] rfl rfl (by decide) (by decide) rfl rfl rfl rfl rfl hl.1 (Nat.le_of_ble_eq_true rfl) dX2_readChoice_2 ⟨Nat.le_of_ble_eq_true rfl, Nat.le_of_ble_eq_true rfl⟩ (fun u H locs hw_6 hP hD hS => ?_)
  obtain ⟨Po_2, fo_3, zo_4, l1o_5⟩ := u
  try dsimp only at hw_6
  have hP : va_P D vwCl [(h0, .inr (2, [.ref tx, .ref lw])), (tx, .inr (6, [.ref tp, .int (nI N), .int (nI Po_2), .int fo_3])), (tp, .inr (5, [.ref by_, .int (nI T)])), (by_, .inl (cI, 260, .inl fb)), (lw, .inr (1, [.ref l1, .ref l2, .ref l3, .ref l4, .ref l5, .ref l6, .ref l7, .int (nI zo_4), .int (nI k)])), (l1, .inl (cI, 240, .inl l1o_5))] H := hP
  have hD : va_D A [(h0, .inr (2, [.ref tx, .ref lw])), (tx, .inr (6, [.ref tp, .int (nI N), .int (nI Po_2), .int fo_3])), (tp, .inr (5, [.ref by_, .int (nI T)])), (by_, .inl (cI, 260, .inl fb)), (lw, .inr (1, [.ref l1, .ref l2, .ref l3, .ref l4, .ref l5, .ref l6, .ref l7, .int (nI zo_4), .int (nI k)])), (l1, .inl (cI, 240, .inl l1o_5))] := hD
  refine lv_iconst (v := 0) hx hb dX2_readChoice_5 (by decide) ?_
  refine lv_istore_n (lv' := [(2, .int 0), (0, .ref h0), (1, .int 2)]) hx hb dX2_readChoice_6 rfl hl (by decide) rfl (fun ls hl => ?_)
  have loop_7 : ∀ (n i : Nat) (Pa : Nat) (fv : Int32) (za : Nat) (qa : Nat → Int32), n + i = 240 → (za ≤ 240) → (PTQ fb N 4 P Pa fa fv) → (fv = 0 → fa = 0 → i < Pa) → (fv = 0 → ¬ chF fb N Pa = 38) → ∀ (H : Heap) (locs : List Loc), va_P D vwCl [(h0, .inr (2, [.ref tx, .ref lw])), (tx, .inr (6, [.ref tp, .int (nI N), .int (nI Pa), .int fv])), (tp, .inr (5, [.ref by_, .int (nI T)])), (by_, .inl (cI, 260, .inl fb)), (lw, .inr (1, [.ref l1, .ref l2, .ref l3, .ref l4, .ref l5, .ref l6, .ref l7, .int (nI za), .int (nI k)])), (l1, .inl (cI, 240, .inl qa))] H → va_D A [(h0, .inr (2, [.ref tx, .ref lw])), (tx, .inr (6, [.ref tp, .int (nI N), .int (nI Pa), .int fv])), (tp, .inr (5, [.ref by_, .int (nI T)])), (by_, .inl (cI, 260, .inl fb)), (lw, .inr (1, [.ref l1, .ref l2, .ref l3, .ref l4, .ref l5, .ref l6, .ref l7, .int (nI za), .int (nI k)])), (l1, .inl (cI, 240, .inl qa))] → va_S A s.heap H locs → ∀ (ls : Array Slot), lv_has ls 4 [(0, .ref h0), (1, .int 2), (2, .int (nI i))] → W p l e (rm 22 503) s m ([.ref h0, .int 2] : List Value).toArray below meth c H locs 0 0 Q (F0 m 7 ls []) := by
    intro n
    induction n with
    | zero =>
      intro i Pa fv za qa hni hza hq hiP hmu H locs hP hD hS ls hl
      have hni_7 := hni
      have hi : i = 240 := by omega
      refine lv_iload_n hx hb dX2_readChoice_7 rfl (lv_at hl 2 rfl) ?_
      refine lv_sipush (v := 240) hx hb dX2_readChoice_8 (by decide) ?_
      refine lv_icmp_ge (tgt := 62) hx hb dX2_readChoice_11 (by decide) (fun _ => ?_) (fun c_11 => absurd (by rw [hi]; decide) c_11)
      exact ret _ _ _ _ (Pa, fv, za, qa) dX2_readChoice_62 (⟨hza, ⟨hq, fun z => absurd z (fun z => by have h2 := hq.2.1; have h4 := hq.2.2.2.1; exact (Classical.em (fa = 0)).elim (fun w => by have := hiP z w; omega) (fun w => w ((h2 w).symm.trans z)))⟩⟩) (hP.sub [0, 1, 2, 3, 4, 5] rfl) (hD.sub [0, 1, 2, 3, 4, 5] (by decide) rfl) hS
    | succ n ih_7 =>
      intro i Pa fv za qa hni hza hq hiP hmu H locs hP hD hS ls hl
      have hni_7 := hni
      have hi : i < 240 := by omega
      refine lv_iload_n hx hb dX2_readChoice_7 rfl (lv_at hl 2 rfl) ?_
      refine lv_sipush (v := 240) hx hb dX2_readChoice_8 (by decide) ?_
      refine lv_icmp_ge (tgt := 62) hx hb dX2_readChoice_11 (by decide) (fun c_11 => absurd c_11 (nI_ge hi (by decide))) (fun _ => ?_)
      refine lv_aload_n hx hb dX2_readChoice_14 rfl (lv_at hl 0 rfl) ?_
      refine va_get (D := D) (ci := 2) (v := .ref tx) (C := RX2) (T := TX2) (N := 2) hx hb htb itX2 hown hK hP 0 rfl rfl 0 (by decide) (htb _ k_288) (fun _ h9 => h9) rfl dX2_readChoice_15 ?_
      refine lv_bipush (v := 124) hx hb dX2_readChoice_18 (by decide) ?_
      refine cVI (As := [.int 124]) (rest := []) (n := 1) (ci := 6) (q0 := 0) (wr := [(h0, .inr (2, [.ref tx, .ref lw])), (lw, .inr (1, [.ref l1, .ref l2, .ref l3, .ref l4, .ref l5, .ref l6, .ref l7, .int (nI za), .int (nI k)])), (l1, .inl (cI, 240, .inl qa))]) X hN hK hP hD hS hA (c_skipP l D cI cB _ tx tp N Pa fv by_ T fb 124 hT hNT hq.2.2.2.1 (by decide)) (gV k_644 k_607 k_608 k_98 k_609) (by decide +kernel) ⟨Nat.le_of_ble_eq_true rfl, Nat.le_of_ble_eq_true rfl⟩ ⟨rfl, rfl⟩ [1, 2, 3] [0, 4, 5] rfl rfl (by decide) (by decide) rfl rfl rfl rfl rfl hl.1 (Nat.le_of_ble_eq_true rfl) dX2_readChoice_20 ⟨Nat.le_of_ble_eq_true rfl, Nat.le_of_ble_eq_true rfl⟩ (fun r_7 u H locs hw_9 hP hD hS => ?_)
      obtain ⟨Po_8, rfl⟩ : ∃ z, z = u := ⟨_, rfl⟩
      try dsimp only at hw_9
      have hP : va_P D vwCl [(h0, .inr (2, [.ref tx, .ref lw])), (lw, .inr (1, [.ref l1, .ref l2, .ref l3, .ref l4, .ref l5, .ref l6, .ref l7, .int (nI za), .int (nI k)])), (l1, .inl (cI, 240, .inl qa)), (tx, .inr (6, [.ref tp, .int (nI N), .int (nI Po_8), .int fv])), (tp, .inr (5, [.ref by_, .int (nI T)])), (by_, .inl (cI, 260, .inl fb))] H := hP
      have hD : va_D A [(h0, .inr (2, [.ref tx, .ref lw])), (lw, .inr (1, [.ref l1, .ref l2, .ref l3, .ref l4, .ref l5, .ref l6, .ref l7, .int (nI za), .int (nI k)])), (l1, .inl (cI, 240, .inl qa)), (tx, .inr (6, [.ref tp, .int (nI N), .int (nI Po_8), .int fv])), (tp, .inr (5, [.ref by_, .int (nI T)])), (by_, .inl (cI, 260, .inl fb))] := hD
      refine lv_if_eq (tgt := 62) hx hb dX2_readChoice_23 (by decide) (fun c_23 => ?_) (fun c_23 => ?_)
      · have hsn := bIf (hw_9.1.symm.trans c_23)
        have hpl := hw_9.2.2.1 hsn
        rw [hpl] at hP hD
        have hP : va_P D vwCl [(h0, .inr (2, [.ref tx, .ref lw])), (lw, .inr (1, [.ref l1, .ref l2, .ref l3, .ref l4, .ref l5, .ref l6, .ref l7, .int (nI za), .int (nI k)])), (l1, .inl (cI, 240, .inl qa)), (tx, .inr (6, [.ref tp, .int (nI N), .int (nI Pa), .int fv])), (tp, .inr (5, [.ref by_, .int (nI T)])), (by_, .inl (cI, 260, .inl fb))] H := hP
        have hD : va_D A [(h0, .inr (2, [.ref tx, .ref lw])), (lw, .inr (1, [.ref l1, .ref l2, .ref l3, .ref l4, .ref l5, .ref l6, .ref l7, .int (nI za), .int (nI k)])), (l1, .inl (cI, 240, .inl qa)), (tx, .inr (6, [.ref tp, .int (nI N), .int (nI Pa), .int fv])), (tp, .inr (5, [.ref by_, .int (nI T)])), (by_, .inl (cI, 260, .inl fb))] := hD
        exact ret _ _ _ _ (Pa, fv, za, qa) dX2_readChoice_62 (⟨hza, ⟨hq, fun (z : fv = 0) => by have w1 := hsn; rw [z, sQ0] at w1; exact fun y => y.elim (hmu z) w1⟩⟩) (hP.sub [0, 3, 4, 5, 1, 2] rfl) (hD.sub [0, 3, 4, 5, 1, 2] (by decide) rfl) hS
      · have hsk := bIt (fun z => c_23 (hw_9.1.trans z))
        obtain ⟨hf0, hlt, hch⟩ := sQj (by decide) hsk
        have hpl := hw_9.2.1 hsk
        subst hf0
        have hjn : JN2 (chF fb N Pa) := Or.inr hch
        rw [hpl] at hP hD
        have hP : va_P D vwCl [(h0, .inr (2, [.ref tx, .ref lw])), (lw, .inr (1, [.ref l1, .ref l2, .ref l3, .ref l4, .ref l5, .ref l6, .ref l7, .int (nI za), .int (nI k)])), (l1, .inl (cI, 240, .inl qa)), (tx, .inr (6, [.ref tp, .int (nI N), .int (nI (Pa + 1)), .int 0])), (tp, .inr (5, [.ref by_, .int (nI T)])), (by_, .inl (cI, 260, .inl fb))] H := hP
        have hD : va_D A [(h0, .inr (2, [.ref tx, .ref lw])), (lw, .inr (1, [.ref l1, .ref l2, .ref l3, .ref l4, .ref l5, .ref l6, .ref l7, .int (nI za), .int (nI k)])), (l1, .inl (cI, 240, .inl qa)), (tx, .inr (6, [.ref tp, .int (nI N), .int (nI (Pa + 1)), .int 0])), (tp, .inr (5, [.ref by_, .int (nI T)])), (by_, .inl (cI, 260, .inl fb))] := hD
        refine lv_aload_n hx hb dX2_readChoice_26 rfl (lv_at hl 0 rfl) ?_
        refine va_get (D := D) (ci := 2) (v := .ref lw) (C := RX2) (T := TX2) (N := 2) hx hb htb itX2 hown hK hP 0 rfl rfl 1 (by decide) (htb _ k_289) (fun _ h9 => h9) rfl dX2_readChoice_27 ?_
        refine va_getN (D := D) (ci := 1) (v := .int (nI za)) (C := RX1) (T := TX1) (N := 9) hx hb htb itX1 hown hK hP 1 rfl rfl 7 (by decide) (va_Nw.use rfl (hN _ n_232 rfl)) (fun _ h9 => h9) rfl dX2_readChoice_30 ?_
        refine lv_istore_n (lv' := [(3, .int (nI za)), (0, .ref h0), (1, .int 2), (2, .int (nI i))]) hx hb dX2_readChoice_33 rfl hl (by decide) rfl (fun ls hl => ?_)
        refine lv_aload_n hx hb dX2_readChoice_34 rfl (lv_at hl 1 rfl) ?_
        refine va_get (D := D) (ci := 2) (v := .ref lw) (C := RX2) (T := TX2) (N := 2) hx hb htb itX2 hown hK hP 0 rfl rfl 1 (by decide) (htb _ k_289) (fun _ h9 => h9) rfl dX2_readChoice_35 ?_
        refine lv_iconst (v := 3) hx hb dX2_readChoice_38 (by decide) ?_
        refine lv_iconst (v := 0) hx hb dX2_readChoice_39 (by decide) ?_
        refine cVV (As := [.int 3, .int 0]) (rest := []) (n := 2) (ci := 1) (q0 := 0) (wr := [(h0, .inr (2, [.ref tx, .ref lw])), (tx, .inr (6, [.ref tp, .int (nI N), .int (nI (Pa + 1)), .int 0])), (tp, .inr (5, [.ref by_, .int (nI T)])), (by_, .inl (cI, 260, .inl fb))]) X hN hK hP hD hS hA (c_X1_addStep l D cI cB _ lw l1 l2 l3 l4 l5 l6 l7 za k 3 0 qa hza hk) (gV k_594 k_595 k_596 k_97 k_597) (by decide +kernel) ⟨Nat.le_of_ble_eq_true rfl, Nat.le_of_ble_eq_true rfl⟩ ⟨rfl, rfl⟩ [1, 2] [0, 3, 4, 5] rfl rfl (by decide) (by decide) rfl rfl rfl rfl rfl hl.1 (Nat.le_of_ble_eq_true rfl) dX2_readChoice_40 ⟨Nat.le_of_ble_eq_true rfl, Nat.le_of_ble_eq_true rfl⟩ (fun u H locs hw_13 hP hD hS => ?_)
        obtain ⟨zo_11, l1_fo_12⟩ := u
        try dsimp only at hw_13
        have hP : va_P D vwCl [(h0, .inr (2, [.ref tx, .ref lw])), (tx, .inr (6, [.ref tp, .int (nI N), .int (nI (Pa + 1)), .int 0])), (tp, .inr (5, [.ref by_, .int (nI T)])), (by_, .inl (cI, 260, .inl fb)), (lw, .inr (1, [.ref l1, .ref l2, .ref l3, .ref l4, .ref l5, .ref l6, .ref l7, .int (nI zo_11), .int (nI k)])), (l1, .inl (cI, 240, .inl l1_fo_12))] H := hP
        have hD : va_D A [(h0, .inr (2, [.ref tx, .ref lw])), (tx, .inr (6, [.ref tp, .int (nI N), .int (nI (Pa + 1)), .int 0])), (tp, .inr (5, [.ref by_, .int (nI T)])), (by_, .inl (cI, 260, .inl fb)), (lw, .inr (1, [.ref l1, .ref l2, .ref l3, .ref l4, .ref l5, .ref l6, .ref l7, .int (nI zo_11), .int (nI k)])), (l1, .inl (cI, 240, .inl l1_fo_12))] := hD
        refine lv_aload_n hx hb dX2_readChoice_43 rfl (lv_at hl 1 rfl) ?_
        refine lv_iload_n hx hb dX2_readChoice_44 rfl (lv_at hl 2 rfl) ?_
        refine cVVk (As := [.int 2]) (rest := []) (n := 1) (ci := 2) (q0 := 0) (wr := []) X hN hKO hK hP hD hS hA (c_raP_2 l D cI cB _ kk h0 tx tp N (Pa + 1) 0 by_ T fb lw l1 l2 l3 l4 l5 l6 l7 zo_11 k l1_fo_12 hT hNT (by omega) hN2 (Or.inl rfl) hbr hw_13 hk) (gV k_632 k_634 k_8 k_99 k_635) (by decide +kernel) ⟨Nat.le_of_ble_eq_true rfl, Nat.le_of_ble_eq_true rfl⟩ ⟨rfl, rfl⟩ [0, 1, 2, 3, 4, 5] [] rfl rfl (by decide) (by decide) rfl rfl rfl rfl rfl hl.1 (Nat.le_of_ble_eq_true rfl) dX2_readChoice_45 ⟨Nat.le_of_ble_eq_true rfl, Nat.le_of_ble_eq_true rfl⟩ (fun u H locs hw_19 hP hD hS => ?_)
        obtain ⟨Po_15, fo_16, zo_17, l1o_18⟩ := u
        try dsimp only at hw_19
        have hP : va_P D vwCl [(h0, .inr (2, [.ref tx, .ref lw])), (tx, .inr (6, [.ref tp, .int (nI N), .int (nI Po_15), .int fo_16])), (tp, .inr (5, [.ref by_, .int (nI T)])), (by_, .inl (cI, 260, .inl fb)), (lw, .inr (1, [.ref l1, .ref l2, .ref l3, .ref l4, .ref l5, .ref l6, .ref l7, .int (nI zo_17), .int (nI k)])), (l1, .inl (cI, 240, .inl l1o_18))] H := hP
        have hD : va_D A [(h0, .inr (2, [.ref tx, .ref lw])), (tx, .inr (6, [.ref tp, .int (nI N), .int (nI Po_15), .int fo_16])), (tp, .inr (5, [.ref by_, .int (nI T)])), (by_, .inl (cI, 260, .inl fb)), (lw, .inr (1, [.ref l1, .ref l2, .ref l3, .ref l4, .ref l5, .ref l6, .ref l7, .int (nI zo_17), .int (nI k)])), (l1, .inl (cI, 240, .inl l1o_18))] := hD
        refine lv_aload_n hx hb dX2_readChoice_48 rfl (lv_at hl 1 rfl) ?_
        refine va_get (D := D) (ci := 2) (v := .ref lw) (C := RX2) (T := TX2) (N := 2) hx hb htb itX2 hown hK hP 0 rfl rfl 1 (by decide) (htb _ k_289) (fun _ h9 => h9) rfl dX2_readChoice_49 ?_
        refine lv_iload_n hx hb dX2_readChoice_52 rfl (lv_at hl 0 rfl) ?_
        refine cVV (As := [.int (nI za)]) (rest := []) (n := 1) (ci := 1) (q0 := 0) (wr := [(h0, .inr (2, [.ref tx, .ref lw])), (tx, .inr (6, [.ref tp, .int (nI N), .int (nI Po_15), .int fo_16])), (tp, .inr (5, [.ref by_, .int (nI T)])), (by_, .inl (cI, 260, .inl fb))]) X hN hK hP hD hS hA (c_X1_landSkip l D cI cB _ lw l1 l2 l3 l4 l5 l6 l7 zo_17 k (nI za) l1o_18 hw_19.1 hk) (gV k_645 k_646 k_647 k_97 k_648) (by decide +kernel) ⟨Nat.le_of_ble_eq_true rfl, Nat.le_of_ble_eq_true rfl⟩ ⟨rfl, rfl⟩ [4, 5] [0, 1, 2, 3] rfl rfl (by decide) (by decide) rfl rfl rfl rfl rfl hl.1 (Nat.le_of_ble_eq_true rfl) dX2_readChoice_53 ⟨Nat.le_of_ble_eq_true rfl, Nat.le_of_ble_eq_true rfl⟩ (fun u H locs hw_22 hP hD hS => ?_)
        obtain ⟨l1_fo_21, rfl⟩ : ∃ z, z = u := ⟨_, rfl⟩
        try dsimp only at hw_22
        have hP : va_P D vwCl [(h0, .inr (2, [.ref tx, .ref lw])), (tx, .inr (6, [.ref tp, .int (nI N), .int (nI Po_15), .int fo_16])), (tp, .inr (5, [.ref by_, .int (nI T)])), (by_, .inl (cI, 260, .inl fb)), (lw, .inr (1, [.ref l1, .ref l2, .ref l3, .ref l4, .ref l5, .ref l6, .ref l7, .int (nI zo_17), .int (nI k)])), (l1, .inl (cI, 240, .inl l1_fo_21))] H := hP
        have hD : va_D A [(h0, .inr (2, [.ref tx, .ref lw])), (tx, .inr (6, [.ref tp, .int (nI N), .int (nI Po_15), .int fo_16])), (tp, .inr (5, [.ref by_, .int (nI T)])), (by_, .inl (cI, 260, .inl fb)), (lw, .inr (1, [.ref l1, .ref l2, .ref l3, .ref l4, .ref l5, .ref l6, .ref l7, .int (nI zo_17), .int (nI k)])), (l1, .inl (cI, 240, .inl l1_fo_21))] := hD
        refine lv_iinc (v := (nI (i + 1))) (lv' := [(2, .int (nI (i + 1))), (3, .int (nI za)), (0, .ref h0), (1, .int 2)]) hx hb dX2_readChoice_56 hl (k := 3) rfl (nI_1 i) (by decide) rfl (fun ls hl => ?_)
        refine lv_goto (tgt := 7) hx hb dX2_readChoice_59 (by decide) ?_
        exact ih_7 (i + 1) Po_15 fo_16 zo_17 l1_fo_21 (by omega) hw_19.1 (hq.more hjn hw_19.2.1) (fun z w => by have := (((hw_19.2.1.2.2.2.2 rfl).1 z).1); have := hiP rfl w; omega) hw_19.2.2 _ _ (hP.sub [0, 1, 2, 3, 4, 5] rfl) (hD.sub [0, 1, 2, 3, 4, 5] (by decide) rfl) hS _ (lv_sub hl [2, 3, 0] rfl)
  exact loop_7 240 0 Po_2 fo_3 zo_4 l1o_5 (by omega) hw_6.1 hw_6.2.1 (fun z w => (((hw_6.2.1.2.2.2.2 w).1 z).1 |> fun y => by omega)) hw_6.2.2 _ _ (hP.sub [0, 1, 2, 3, 4, 5] rfl) (hD.sub [0, 1, 2, 3, 4, 5] (by decide) rfl) hS _ (lv_sub hl [1, 2, 0] rfl)

set_option maxRecDepth 100000 in
set_option maxHeartbeats 4000000 in
theorem c_rpP_1 (l : Launch) (D : va_G) (cI cB : ClassId) (sz : Nat) (kk : KT) (h0 : Nat) (tx : Nat) (tp : Nat) (N : Nat) (P : Nat) (fa : Int32) (by_ : Nat) (T : Nat) (fb : Nat → Int32) (lw : Nat) (l1 : Nat) (l2 : Nat) (l3 : Nat) (l4 : Nat) (l5 : Nat) (l6 : Nat) (l7 : Nat) (z : Nat) (k : Nat) (q1 : Nat → Int32) (hT : T ≤ 260) (hNT : N ≤ T) (hPN : P ≤ N) (hN2 : N ≤ 240) (hfa : fa = 0 ∨ fa < 0) (hbr : BR N fb) (hz : z ≤ 240) (hk : k ≤ 16) : MVk (S := ((Nat) × (Int32) × (Nat) × (Nat → Int32))) l D cI cB kk yX2_readPiece cX2_readPiece 4 (rm 23 526) [.ref h0, .int 1] [(h0, .inr (2, [.ref tx, .ref lw])), (tx, .inr (6, [.ref tp, .int (nI N), .int (nI P), .int fa])), (tp, .inr (5, [.ref by_, .int (nI T)])), (by_, .inl (cI, 260, .inl fb)), (lw, .inr (1, [.ref l1, .ref l2, .ref l3, .ref l4, .ref l5, .ref l6, .ref l7, .int (nI z), .int (nI k)])), (l1, .inl (cI, 240, .inl q1))] sz (fun u => u.2.2.1 ≤ 240 ∧ PCQ fb N 5 P u.1 fa u.2.1) (fun u : ((Nat) × (Int32) × (Nat) × (Nat → Int32)) => [(h0, .inr (2, [.ref tx, .ref lw])), (tx, .inr (6, [.ref tp, .int (nI N), .int (nI u.1), .int u.2.1])), (tp, .inr (5, [.ref by_, .int (nI T)])), (by_, .inl (cI, 260, .inl fb)), (lw, .inr (1, [.ref l1, .ref l2, .ref l3, .ref l4, .ref l5, .ref l6, .ref l7, .int (nI u.2.2.1), .int (nI k)])), (l1, .inl (cI, 240, .inl u.2.2.2))]) := by
  refine MVk.of (by decide) (Nat.le_of_ble_eq_true rfl) ?_
  intro p e s m below meth c Q ls A X hin hN hKO hP hK hD hA hl ret
  have hS : va_S A s.heap s.heap [] := va_S.rf
  obtain ⟨hx, hb, hml, hown, htb⟩ := id X
  have hl : lv_has ls 4 [(0, .ref h0), (1, .int 1)] := hl
  refine lv_aload_n hx hb dX2_readPiece_0 rfl (lv_at hl 0 rfl) ?_
  refine va_get (D := D) (ci := 2) (v := .ref tx) (C := RX2) (T := TX2) (N := 2) hx hb htb itX2 hown hK hP 0 rfl rfl 0 (by decide) (htb _ k_288) (fun _ h9 => h9) rfl dX2_readPiece_1 ?_
  refine cVR (As := []) (rest := []) (n := 0) (ci := 6) (q0 := 0) X hN hK hP (c_signP l D cI cB tx tp N P fa by_ T fb hT hNT hPN) (gV k_483 k_484 k_485 k_98 k_486) (by decide +kernel) ⟨Nat.le_of_ble_eq_true rfl, Nat.le_of_ble_eq_true rfl⟩ ⟨rfl, rfl⟩ [1, 2, 3] rfl rfl rfl rfl rfl rfl hl.1 (Nat.le_of_ble_eq_true rfl) dX2_readPiece_4 ⟨Nat.le_of_ble_eq_true rfl, Nat.le_of_ble_eq_true rfl⟩ (fun r_1 hr_1 => ?_)
  subst hr_1
  refine lv_topi (fun x_2 ex_2 => ?_)
  refine lv_istore_n (lv' := [(2, .int x_2), (0, .ref h0), (1, .int 1)]) hx hb dX2_readPiece_7 rfl hl (by decide) rfl (fun ls hl => ?_)
  refine lv_iload_n hx hb dX2_readPiece_8 rfl (lv_at hl 0 rfl) ?_
  refine lv_bipush (v := 33) hx hb dX2_readPiece_9 (by decide) ?_
  refine lv_icmp_ne (tgt := 41) hx hb dX2_readPiece_11 (by decide) (fun c_11 => ?_) (fun c_11 => ?_)
  · refine lv_iload_n hx hb dX2_readPiece_41 rfl (lv_at hl 0 rfl) ?_
    refine lv_bipush (v := 40) hx hb dX2_readPiece_42 (by decide) ?_
    refine lv_icmp_ne (tgt := 74) hx hb dX2_readPiece_44 (by decide) (fun c_44 => ?_) (fun c_44 => ?_)
    · refine lv_aload_n hx hb dX2_readPiece_74 rfl (lv_at hl 1 rfl) ?_
      refine lv_iload_n hx hb dX2_readPiece_75 rfl (lv_at hl 2 rfl) ?_
      refine cVVk (As := [.int 1]) (rest := []) (n := 1) (ci := 2) (q0 := 0) (wr := []) X hN hKO hK hP hD hS hA (c_rsP_1 l D cI cB _ kk h0 tx tp N P fa by_ T fb lw l1 l2 l3 l4 l5 l6 l7 z k q1 hT hNT hPN hN2 hfa hbr hz hk) (gV k_581 k_583 k_2 k_99 k_584) (by decide +kernel) ⟨Nat.le_of_ble_eq_true rfl, Nat.le_of_ble_eq_true rfl⟩ ⟨rfl, rfl⟩ [0, 1, 2, 3, 4, 5] [] rfl rfl (by decide) (by decide) rfl rfl rfl rfl rfl hl.1 (Nat.le_of_ble_eq_true rfl) dX2_readPiece_76 ⟨Nat.le_of_ble_eq_true rfl, Nat.le_of_ble_eq_true rfl⟩ (fun u H locs hw_8 hP hD hS => ?_)
      obtain ⟨Po_4, fo_5, zo_6, l1o_7⟩ := u
      try dsimp only at hw_8
      have hP : va_P D vwCl [(h0, .inr (2, [.ref tx, .ref lw])), (tx, .inr (6, [.ref tp, .int (nI N), .int (nI Po_4), .int fo_5])), (tp, .inr (5, [.ref by_, .int (nI T)])), (by_, .inl (cI, 260, .inl fb)), (lw, .inr (1, [.ref l1, .ref l2, .ref l3, .ref l4, .ref l5, .ref l6, .ref l7, .int (nI zo_6), .int (nI k)])), (l1, .inl (cI, 240, .inl l1o_7))] H := hP
      have hD : va_D A [(h0, .inr (2, [.ref tx, .ref lw])), (tx, .inr (6, [.ref tp, .int (nI N), .int (nI Po_4), .int fo_5])), (tp, .inr (5, [.ref by_, .int (nI T)])), (by_, .inl (cI, 260, .inl fb)), (lw, .inr (1, [.ref l1, .ref l2, .ref l3, .ref l4, .ref l5, .ref l6, .ref l7, .int (nI zo_6), .int (nI k)])), (l1, .inl (cI, 240, .inl l1o_7))] := hD
      refine lv_aload_n hx hb dX2_readPiece_79 rfl (lv_at hl 1 rfl) ?_
      refine cVI (As := []) (rest := []) (n := 0) (ci := 2) (q0 := 0) (wr := [(lw, .inr (1, [.ref l1, .ref l2, .ref l3, .ref l4, .ref l5, .ref l6, .ref l7, .int (nI zo_6), .int (nI k)])), (l1, .inl (cI, 240, .inl l1o_7))]) X hN hK hP hD hS hA (c_comparisonP l D cI cB _ h0 lw tx tp N Po_4 fo_5 by_ T fb hT hNT hw_8.2.1.2.2.2.1) (gV k_640 k_642 k_10 k_99 k_643) (by decide +kernel) ⟨Nat.le_of_ble_eq_true rfl, Nat.le_of_ble_eq_true rfl⟩ ⟨rfl, rfl⟩ [0, 1, 2, 3] [4, 5] rfl rfl (by decide) (by decide) rfl rfl rfl rfl rfl hl.1 (Nat.le_of_ble_eq_true rfl) dX2_readPiece_80 ⟨Nat.le_of_ble_eq_true rfl, Nat.le_of_ble_eq_true rfl⟩ (fun r_9 u H locs hw_12 hP hD hS => ?_)
      obtain ⟨Po_10, fo_11⟩ := u
      try dsimp only at hw_12
      have hP : va_P D vwCl [(lw, .inr (1, [.ref l1, .ref l2, .ref l3, .ref l4, .ref l5, .ref l6, .ref l7, .int (nI zo_6), .int (nI k)])), (l1, .inl (cI, 240, .inl l1o_7)), (h0, .inr (2, [.ref tx, .ref lw])), (tx, .inr (6, [.ref tp, .int (nI N), .int (nI Po_10), .int fo_11])), (tp, .inr (5, [.ref by_, .int (nI T)])), (by_, .inl (cI, 260, .inl fb))] H := hP
      have hD : va_D A [(lw, .inr (1, [.ref l1, .ref l2, .ref l3, .ref l4, .ref l5, .ref l6, .ref l7, .int (nI zo_6), .int (nI k)])), (l1, .inl (cI, 240, .inl l1o_7)), (h0, .inr (2, [.ref tx, .ref lw])), (tx, .inr (6, [.ref tp, .int (nI N), .int (nI Po_10), .int fo_11])), (tp, .inr (5, [.ref by_, .int (nI T)])), (by_, .inl (cI, 260, .inl fb))] := hD
      refine lv_istore_n (lv' := [(3, .int r_9), (2, .int x_2), (0, .ref h0), (1, .int 1)]) hx hb dX2_readPiece_83 rfl hl (by decide) rfl (fun ls hl => ?_)
      refine lv_aload_n hx hb dX2_readPiece_84 rfl (lv_at hl 2 rfl) ?_
      refine lv_iload_n hx hb dX2_readPiece_85 rfl (lv_at hl 3 rfl) ?_
      refine cVVk (As := [.int 1]) (rest := []) (n := 1) (ci := 2) (q0 := 0) (wr := []) X hN hKO hK hP hD hS hA (c_rsP_1 l D cI cB _ kk h0 tx tp N Po_10 fo_11 by_ T fb lw l1 l2 l3 l4 l5 l6 l7 zo_6 k l1o_7 hT hNT hw_12.2.2.2 hN2 (fexp (hw_8.2.1.1) (by have := hw_8.2.1.2.2.2.1; omega) (fun z => (hw_12.1 z).2) (fun z => (hw_12.2.1 z).2)) hbr hw_8.1 hk) (gV k_581 k_583 k_2 k_99 k_584) (by decide +kernel) ⟨Nat.le_of_ble_eq_true rfl, Nat.le_of_ble_eq_true rfl⟩ ⟨rfl, rfl⟩ [2, 3, 4, 5, 0, 1] [] rfl rfl (by decide) (by decide) rfl rfl rfl rfl rfl hl.1 (Nat.le_of_ble_eq_true rfl) dX2_readPiece_86 ⟨Nat.le_of_ble_eq_true rfl, Nat.le_of_ble_eq_true rfl⟩ (fun u H locs hw_18 hP hD hS => ?_)
      obtain ⟨Po_14, fo_15, zo_16, l1o_17⟩ := u
      try dsimp only at hw_18
      have hP : va_P D vwCl [(h0, .inr (2, [.ref tx, .ref lw])), (tx, .inr (6, [.ref tp, .int (nI N), .int (nI Po_14), .int fo_15])), (tp, .inr (5, [.ref by_, .int (nI T)])), (by_, .inl (cI, 260, .inl fb)), (lw, .inr (1, [.ref l1, .ref l2, .ref l3, .ref l4, .ref l5, .ref l6, .ref l7, .int (nI zo_16), .int (nI k)])), (l1, .inl (cI, 240, .inl l1o_17))] H := hP
      have hD : va_D A [(h0, .inr (2, [.ref tx, .ref lw])), (tx, .inr (6, [.ref tp, .int (nI N), .int (nI Po_14), .int fo_15])), (tp, .inr (5, [.ref by_, .int (nI T)])), (by_, .inl (cI, 260, .inl fb)), (lw, .inr (1, [.ref l1, .ref l2, .ref l3, .ref l4, .ref l5, .ref l6, .ref l7, .int (nI zo_16), .int (nI k)])), (l1, .inl (cI, 240, .inl l1o_17))] := hD
      refine lv_aload_n hx hb dX2_readPiece_89 rfl (lv_at hl 2 rfl) ?_
      refine va_get (D := D) (ci := 2) (v := .ref lw) (C := RX2) (T := TX2) (N := 2) hx hb htb itX2 hown hK hP 0 rfl rfl 1 (by decide) (htb _ k_289) (fun _ h9 => h9) rfl dX2_readPiece_90 ?_
      refine lv_iload_n hx hb dX2_readPiece_93 rfl (lv_at hl 0 rfl) ?_
      refine lv_iconst (v := 0) hx hb dX2_readPiece_94 (by decide) ?_
      refine cVV (As := [.int r_9, .int 0]) (rest := []) (n := 2) (ci := 1) (q0 := 0) (wr := [(h0, .inr (2, [.ref tx, .ref lw])), (tx, .inr (6, [.ref tp, .int (nI N), .int (nI Po_14), .int fo_15])), (tp, .inr (5, [.ref by_, .int (nI T)])), (by_, .inl (cI, 260, .inl fb))]) X hN hK hP hD hS hA (c_X1_addStep l D cI cB _ lw l1 l2 l3 l4 l5 l6 l7 zo_16 k r_9 0 l1o_17 hw_18.1 hk) (gV k_594 k_595 k_596 k_97 k_597) (by decide +kernel) ⟨Nat.le_of_ble_eq_true rfl, Nat.le_of_ble_eq_true rfl⟩ ⟨rfl, rfl⟩ [4, 5] [0, 1, 2, 3] rfl rfl (by decide) (by decide) rfl rfl rfl rfl rfl hl.1 (Nat.le_of_ble_eq_true rfl) dX2_readPiece_95 ⟨Nat.le_of_ble_eq_true rfl, Nat.le_of_ble_eq_true rfl⟩ (fun u H locs hw_22 hP hD hS => ?_)
      obtain ⟨zo_20, l1_fo_21⟩ := u
      try dsimp only at hw_22
      have hP : va_P D vwCl [(h0, .inr (2, [.ref tx, .ref lw])), (tx, .inr (6, [.ref tp, .int (nI N), .int (nI Po_14), .int fo_15])), (tp, .inr (5, [.ref by_, .int (nI T)])), (by_, .inl (cI, 260, .inl fb)), (lw, .inr (1, [.ref l1, .ref l2, .ref l3, .ref l4, .ref l5, .ref l6, .ref l7, .int (nI zo_20), .int (nI k)])), (l1, .inl (cI, 240, .inl l1_fo_21))] H := hP
      have hD : va_D A [(h0, .inr (2, [.ref tx, .ref lw])), (tx, .inr (6, [.ref tp, .int (nI N), .int (nI Po_14), .int fo_15])), (tp, .inr (5, [.ref by_, .int (nI T)])), (by_, .inl (cI, 260, .inl fb)), (lw, .inr (1, [.ref l1, .ref l2, .ref l3, .ref l4, .ref l5, .ref l6, .ref l7, .int (nI zo_20), .int (nI k)])), (l1, .inl (cI, 240, .inl l1_fo_21))] := hD
      exact ret _ _ _ _ (Po_14, fo_15, zo_20, l1_fo_21) dX2_readPiece_98 (⟨hw_22, PCQ.cmp (by omega) (fun z => c_11 (ex_2.trans z)) (fun z => c_44 (ex_2.trans z)) hw_8.2.1 hw_8.2.2 hw_12.1 hw_12.2.1 hw_18.2.1 hw_18.2.2⟩) (hP.sub [0, 1, 2, 3, 4, 5] rfl) (hD.sub [0, 1, 2, 3, 4, 5] (by decide) rfl) hS
    · obtain ⟨hf0, hlt, hop⟩ := sQj (v := 40) (by decide) (ex_2.symm.trans c_44)
      subst hf0
      refine lv_aload_n hx hb dX2_readPiece_47 rfl (lv_at hl 1 rfl) ?_
      refine lv_iload_n hx hb dX2_readPiece_48 rfl (lv_at hl 2 rfl) ?_
      refine cVI (As := [.int 1]) (rest := []) (n := 1) (ci := 2) (q0 := 0) (wr := [(tp, .inr (5, [.ref by_, .int (nI T)])), (by_, .inl (cI, 260, .inl fb)), (lw, .inr (1, [.ref l1, .ref l2, .ref l3, .ref l4, .ref l5, .ref l6, .ref l7, .int (nI z), .int (nI k)])), (l1, .inl (cI, 240, .inl q1))]) X hN hK hP hD hS hA (c_opensP l D cI cB _ h0 lw tx tp N P 0 1 hlt) (gV k_598 k_600 k_5 k_99 k_601) (by decide +kernel) ⟨Nat.le_of_ble_eq_true rfl, Nat.le_of_ble_eq_true rfl⟩ ⟨rfl, rfl⟩ [0, 1] [2, 3, 4, 5] rfl rfl (by decide) (by decide) rfl rfl rfl rfl rfl hl.1 (Nat.le_of_ble_eq_true rfl) dX2_readPiece_49 ⟨Nat.le_of_ble_eq_true rfl, Nat.le_of_ble_eq_true rfl⟩ (fun r_23 u H locs hw_26 hP hD hS => ?_)
      obtain ⟨Po_24, fo_25⟩ := u
      try dsimp only at hw_26
      have hP : va_P D vwCl [(tp, .inr (5, [.ref by_, .int (nI T)])), (by_, .inl (cI, 260, .inl fb)), (lw, .inr (1, [.ref l1, .ref l2, .ref l3, .ref l4, .ref l5, .ref l6, .ref l7, .int (nI z), .int (nI k)])), (l1, .inl (cI, 240, .inl q1)), (h0, .inr (2, [.ref tx, .ref lw])), (tx, .inr (6, [.ref tp, .int (nI N), .int (nI Po_24), .int fo_25]))] H := hP
      have hD : va_D A [(tp, .inr (5, [.ref by_, .int (nI T)])), (by_, .inl (cI, 260, .inl fb)), (lw, .inr (1, [.ref l1, .ref l2, .ref l3, .ref l4, .ref l5, .ref l6, .ref l7, .int (nI z), .int (nI k)])), (l1, .inl (cI, 240, .inl q1)), (h0, .inr (2, [.ref tx, .ref lw])), (tx, .inr (6, [.ref tp, .int (nI N), .int (nI Po_24), .int fo_25]))] := hD
      obtain rfl : r_23 = 1 := hw_26.1.trans (by decide)
      obtain ⟨eo1, eo2⟩ := hw_26.2.1 (by decide)
      rw [eo1, eo2] at hP hD
      have hP : va_P D vwCl [(tp, .inr (5, [.ref by_, .int (nI T)])), (by_, .inl (cI, 260, .inl fb)), (lw, .inr (1, [.ref l1, .ref l2, .ref l3, .ref l4, .ref l5, .ref l6, .ref l7, .int (nI z), .int (nI k)])), (l1, .inl (cI, 240, .inl q1)), (h0, .inr (2, [.ref tx, .ref lw])), (tx, .inr (6, [.ref tp, .int (nI N), .int (nI (P + 1)), .int 0]))] H := hP
      have hD : va_D A [(tp, .inr (5, [.ref by_, .int (nI T)])), (by_, .inl (cI, 260, .inl fb)), (lw, .inr (1, [.ref l1, .ref l2, .ref l3, .ref l4, .ref l5, .ref l6, .ref l7, .int (nI z), .int (nI k)])), (l1, .inl (cI, 240, .inl q1)), (h0, .inr (2, [.ref tx, .ref lw])), (tx, .inr (6, [.ref tp, .int (nI N), .int (nI (P + 1)), .int 0]))] := hD
      refine lv_if_eq (tgt := 98) hx hb dX2_readPiece_52 (by decide) (fun c_52 => absurd c_52 (by decide)) (fun _ => ?_)
      refine lv_aload_n hx hb dX2_readPiece_55 rfl (lv_at hl 1 rfl) ?_
      refine lv_iload_n hx hb dX2_readPiece_56 rfl (lv_at hl 2 rfl) ?_
      refine lv_iconst (v := 1) hx hb dX2_readPiece_57 (by decide) ?_
      refine lv_iadd hx hb dX2_readPiece_58 ?_
      refine tv (z := 2) (by decide) ?_
      refine cVVk (As := [.int 2]) (rest := []) (n := 1) (ci := 2) (q0 := 0) (wr := []) X hN hKO hK hP hD hS hA (c_rcP_2 l D cI cB _ kk h0 tx tp N (P + 1) 0 by_ T fb lw l1 l2 l3 l4 l5 l6 l7 z k q1 hT hNT (by omega) hN2 (Or.inl rfl) hbr hz hk) (gV k_628 k_630 k_7 k_99 k_631) (by decide +kernel) ⟨Nat.le_of_ble_eq_true rfl, Nat.le_of_ble_eq_true rfl⟩ ⟨rfl, rfl⟩ [4, 5, 0, 1, 2, 3] [] rfl rfl (by decide) (by decide) rfl rfl rfl rfl rfl hl.1 (Nat.le_of_ble_eq_true rfl) dX2_readPiece_59 ⟨Nat.le_of_ble_eq_true rfl, Nat.le_of_ble_eq_true rfl⟩ (fun u H locs hw_32 hP hD hS => ?_)
      obtain ⟨Po_28, fo_29, zo_30, l1o_31⟩ := u
      try dsimp only at hw_32
      have hP : va_P D vwCl [(h0, .inr (2, [.ref tx, .ref lw])), (tx, .inr (6, [.ref tp, .int (nI N), .int (nI Po_28), .int fo_29])), (tp, .inr (5, [.ref by_, .int (nI T)])), (by_, .inl (cI, 260, .inl fb)), (lw, .inr (1, [.ref l1, .ref l2, .ref l3, .ref l4, .ref l5, .ref l6, .ref l7, .int (nI zo_30), .int (nI k)])), (l1, .inl (cI, 240, .inl l1o_31))] H := hP
      have hD : va_D A [(h0, .inr (2, [.ref tx, .ref lw])), (tx, .inr (6, [.ref tp, .int (nI N), .int (nI Po_28), .int fo_29])), (tp, .inr (5, [.ref by_, .int (nI T)])), (by_, .inl (cI, 260, .inl fb)), (lw, .inr (1, [.ref l1, .ref l2, .ref l3, .ref l4, .ref l5, .ref l6, .ref l7, .int (nI zo_30), .int (nI k)])), (l1, .inl (cI, 240, .inl l1o_31))] := hD
      refine lv_aload_n hx hb dX2_readPiece_62 rfl (lv_at hl 1 rfl) ?_
      refine va_get (D := D) (ci := 2) (v := .ref tx) (C := RX2) (T := TX2) (N := 2) hx hb htb itX2 hown hK hP 0 rfl rfl 0 (by decide) (htb _ k_288) (fun _ h9 => h9) rfl dX2_readPiece_63 ?_
      refine lv_bipush (v := 41) hx hb dX2_readPiece_66 (by decide) ?_
      refine cVV (As := [.int 41]) (rest := []) (n := 1) (ci := 6) (q0 := 0) (wr := [(h0, .inr (2, [.ref tx, .ref lw])), (lw, .inr (1, [.ref l1, .ref l2, .ref l3, .ref l4, .ref l5, .ref l6, .ref l7, .int (nI zo_30), .int (nI k)])), (l1, .inl (cI, 240, .inl l1o_31))]) X hN hK hP hD hS hA (c_expectP l D cI cB _ tx tp N Po_28 fo_29 by_ T fb 41 hT hNT hw_32.2.1.2.2.2.1 (by decide)) (gV k_602 k_603 k_604 k_98 k_605) (by decide +kernel) ⟨Nat.le_of_ble_eq_true rfl, Nat.le_of_ble_eq_true rfl⟩ ⟨rfl, rfl⟩ [1, 2, 3] [0, 4, 5] rfl rfl (by decide) (by decide) rfl rfl rfl rfl rfl hl.1 (Nat.le_of_ble_eq_true rfl) dX2_readPiece_68 ⟨Nat.le_of_ble_eq_true rfl, Nat.le_of_ble_eq_true rfl⟩ (fun u H locs hw_36 hP hD hS => ?_)
      obtain ⟨Po_34, fo_35⟩ := u
      try dsimp only at hw_36
      have hP : va_P D vwCl [(h0, .inr (2, [.ref tx, .ref lw])), (lw, .inr (1, [.ref l1, .ref l2, .ref l3, .ref l4, .ref l5, .ref l6, .ref l7, .int (nI zo_30), .int (nI k)])), (l1, .inl (cI, 240, .inl l1o_31)), (tx, .inr (6, [.ref tp, .int (nI N), .int (nI Po_34), .int fo_35])), (tp, .inr (5, [.ref by_, .int (nI T)])), (by_, .inl (cI, 260, .inl fb))] H := hP
      have hD : va_D A [(h0, .inr (2, [.ref tx, .ref lw])), (lw, .inr (1, [.ref l1, .ref l2, .ref l3, .ref l4, .ref l5, .ref l6, .ref l7, .int (nI zo_30), .int (nI k)])), (l1, .inl (cI, 240, .inl l1o_31)), (tx, .inr (6, [.ref tp, .int (nI N), .int (nI Po_34), .int fo_35])), (tp, .inr (5, [.ref by_, .int (nI T)])), (by_, .inl (cI, 260, .inl fb))] := hD
      refine lv_goto (tgt := 98) hx hb dX2_readPiece_71 (by decide) ?_
      exact ret _ _ _ _ (Po_34, fo_35, zo_30, l1o_31) dX2_readPiece_98 (⟨hw_32.1, PCQ.par (by omega) hop hw_32.2.1 hw_32.2.2 hw_36.1 hw_36.2.1 hw_36.2.2.2⟩) (hP.sub [0, 3, 4, 5, 1, 2] rfl) (hD.sub [0, 3, 4, 5, 1, 2] (by decide) rfl) hS
  · obtain ⟨hf0, hlt, hop⟩ := sQj (v := 33) (by decide) (ex_2.symm.trans c_11)
    subst hf0
    refine lv_aload_n hx hb dX2_readPiece_14 rfl (lv_at hl 1 rfl) ?_
    refine lv_iload_n hx hb dX2_readPiece_15 rfl (lv_at hl 2 rfl) ?_
    refine cVI (As := [.int 1]) (rest := []) (n := 1) (ci := 2) (q0 := 0) (wr := [(tp, .inr (5, [.ref by_, .int (nI T)])), (by_, .inl (cI, 260, .inl fb)), (lw, .inr (1, [.ref l1, .ref l2, .ref l3, .ref l4, .ref l5, .ref l6, .ref l7, .int (nI z), .int (nI k)])), (l1, .inl (cI, 240, .inl q1))]) X hN hK hP hD hS hA (c_opensP l D cI cB _ h0 lw tx tp N P 0 1 hlt) (gV k_598 k_600 k_5 k_99 k_601) (by decide +kernel) ⟨Nat.le_of_ble_eq_true rfl, Nat.le_of_ble_eq_true rfl⟩ ⟨rfl, rfl⟩ [0, 1] [2, 3, 4, 5] rfl rfl (by decide) (by decide) rfl rfl rfl rfl rfl hl.1 (Nat.le_of_ble_eq_true rfl) dX2_readPiece_16 ⟨Nat.le_of_ble_eq_true rfl, Nat.le_of_ble_eq_true rfl⟩ (fun r_37 u H locs hw_40 hP hD hS => ?_)
    obtain ⟨Po_38, fo_39⟩ := u
    try dsimp only at hw_40
    have hP : va_P D vwCl [(tp, .inr (5, [.ref by_, .int (nI T)])), (by_, .inl (cI, 260, .inl fb)), (lw, .inr (1, [.ref l1, .ref l2, .ref l3, .ref l4, .ref l5, .ref l6, .ref l7, .int (nI z), .int (nI k)])), (l1, .inl (cI, 240, .inl q1)), (h0, .inr (2, [.ref tx, .ref lw])), (tx, .inr (6, [.ref tp, .int (nI N), .int (nI Po_38), .int fo_39]))] H := hP
    have hD : va_D A [(tp, .inr (5, [.ref by_, .int (nI T)])), (by_, .inl (cI, 260, .inl fb)), (lw, .inr (1, [.ref l1, .ref l2, .ref l3, .ref l4, .ref l5, .ref l6, .ref l7, .int (nI z), .int (nI k)])), (l1, .inl (cI, 240, .inl q1)), (h0, .inr (2, [.ref tx, .ref lw])), (tx, .inr (6, [.ref tp, .int (nI N), .int (nI Po_38), .int fo_39]))] := hD
    obtain rfl : r_37 = 1 := hw_40.1.trans (by decide)
    obtain ⟨eo1, eo2⟩ := hw_40.2.1 (by decide)
    rw [eo1, eo2] at hP hD
    have hP : va_P D vwCl [(tp, .inr (5, [.ref by_, .int (nI T)])), (by_, .inl (cI, 260, .inl fb)), (lw, .inr (1, [.ref l1, .ref l2, .ref l3, .ref l4, .ref l5, .ref l6, .ref l7, .int (nI z), .int (nI k)])), (l1, .inl (cI, 240, .inl q1)), (h0, .inr (2, [.ref tx, .ref lw])), (tx, .inr (6, [.ref tp, .int (nI N), .int (nI (P + 1)), .int 0]))] H := hP
    have hD : va_D A [(tp, .inr (5, [.ref by_, .int (nI T)])), (by_, .inl (cI, 260, .inl fb)), (lw, .inr (1, [.ref l1, .ref l2, .ref l3, .ref l4, .ref l5, .ref l6, .ref l7, .int (nI z), .int (nI k)])), (l1, .inl (cI, 240, .inl q1)), (h0, .inr (2, [.ref tx, .ref lw])), (tx, .inr (6, [.ref tp, .int (nI N), .int (nI (P + 1)), .int 0]))] := hD
    refine lv_if_eq (tgt := 98) hx hb dX2_readPiece_19 (by decide) (fun c_19 => absurd c_19 (by decide)) (fun _ => ?_)
    refine lv_aload_n hx hb dX2_readPiece_22 rfl (lv_at hl 1 rfl) ?_
    refine lv_iload_n hx hb dX2_readPiece_23 rfl (lv_at hl 2 rfl) ?_
    refine lv_iconst (v := 1) hx hb dX2_readPiece_24 (by decide) ?_
    refine lv_iadd hx hb dX2_readPiece_25 ?_
    refine tv (z := 2) (by decide) ?_
    refine cVVk (As := [.int 2]) (rest := []) (n := 1) (ci := 2) (q0 := 0) (wr := []) X hN hKO hK hP hD hS hA (c_rpP_2 l D cI cB _ kk h0 tx tp N (P + 1) 0 by_ T fb lw l1 l2 l3 l4 l5 l6 l7 z k q1 hT hNT (by omega) hN2 (Or.inl rfl) hbr hz hk) (gV k_636 k_638 k_9 k_99 k_639) (by decide +kernel) ⟨Nat.le_of_ble_eq_true rfl, Nat.le_of_ble_eq_true rfl⟩ ⟨rfl, rfl⟩ [4, 5, 0, 1, 2, 3] [] rfl rfl (by decide) (by decide) rfl rfl rfl rfl rfl hl.1 (Nat.le_of_ble_eq_true rfl) dX2_readPiece_26 ⟨Nat.le_of_ble_eq_true rfl, Nat.le_of_ble_eq_true rfl⟩ (fun u H locs hw_46 hP hD hS => ?_)
    obtain ⟨Po_42, fo_43, zo_44, l1o_45⟩ := u
    try dsimp only at hw_46
    have hP : va_P D vwCl [(h0, .inr (2, [.ref tx, .ref lw])), (tx, .inr (6, [.ref tp, .int (nI N), .int (nI Po_42), .int fo_43])), (tp, .inr (5, [.ref by_, .int (nI T)])), (by_, .inl (cI, 260, .inl fb)), (lw, .inr (1, [.ref l1, .ref l2, .ref l3, .ref l4, .ref l5, .ref l6, .ref l7, .int (nI zo_44), .int (nI k)])), (l1, .inl (cI, 240, .inl l1o_45))] H := hP
    have hD : va_D A [(h0, .inr (2, [.ref tx, .ref lw])), (tx, .inr (6, [.ref tp, .int (nI N), .int (nI Po_42), .int fo_43])), (tp, .inr (5, [.ref by_, .int (nI T)])), (by_, .inl (cI, 260, .inl fb)), (lw, .inr (1, [.ref l1, .ref l2, .ref l3, .ref l4, .ref l5, .ref l6, .ref l7, .int (nI zo_44), .int (nI k)])), (l1, .inl (cI, 240, .inl l1o_45))] := hD
    refine lv_aload_n hx hb dX2_readPiece_29 rfl (lv_at hl 1 rfl) ?_
    refine va_get (D := D) (ci := 2) (v := .ref lw) (C := RX2) (T := TX2) (N := 2) hx hb htb itX2 hown hK hP 0 rfl rfl 1 (by decide) (htb _ k_289) (fun _ h9 => h9) rfl dX2_readPiece_30 ?_
    refine lv_iconst (v := 2) hx hb dX2_readPiece_33 (by decide) ?_
    refine lv_iconst (v := 0) hx hb dX2_readPiece_34 (by decide) ?_
    refine cVV (As := [.int 2, .int 0]) (rest := []) (n := 2) (ci := 1) (q0 := 0) (wr := [(h0, .inr (2, [.ref tx, .ref lw])), (tx, .inr (6, [.ref tp, .int (nI N), .int (nI Po_42), .int fo_43])), (tp, .inr (5, [.ref by_, .int (nI T)])), (by_, .inl (cI, 260, .inl fb))]) X hN hK hP hD hS hA (c_X1_addStep l D cI cB _ lw l1 l2 l3 l4 l5 l6 l7 zo_44 k 2 0 l1o_45 hw_46.1 hk) (gV k_594 k_595 k_596 k_97 k_597) (by decide +kernel) ⟨Nat.le_of_ble_eq_true rfl, Nat.le_of_ble_eq_true rfl⟩ ⟨rfl, rfl⟩ [4, 5] [0, 1, 2, 3] rfl rfl (by decide) (by decide) rfl rfl rfl rfl rfl hl.1 (Nat.le_of_ble_eq_true rfl) dX2_readPiece_35 ⟨Nat.le_of_ble_eq_true rfl, Nat.le_of_ble_eq_true rfl⟩ (fun u H locs hw_50 hP hD hS => ?_)
    obtain ⟨zo_48, l1_fo_49⟩ := u
    try dsimp only at hw_50
    have hP : va_P D vwCl [(h0, .inr (2, [.ref tx, .ref lw])), (tx, .inr (6, [.ref tp, .int (nI N), .int (nI Po_42), .int fo_43])), (tp, .inr (5, [.ref by_, .int (nI T)])), (by_, .inl (cI, 260, .inl fb)), (lw, .inr (1, [.ref l1, .ref l2, .ref l3, .ref l4, .ref l5, .ref l6, .ref l7, .int (nI zo_48), .int (nI k)])), (l1, .inl (cI, 240, .inl l1_fo_49))] H := hP
    have hD : va_D A [(h0, .inr (2, [.ref tx, .ref lw])), (tx, .inr (6, [.ref tp, .int (nI N), .int (nI Po_42), .int fo_43])), (tp, .inr (5, [.ref by_, .int (nI T)])), (by_, .inl (cI, 260, .inl fb)), (lw, .inr (1, [.ref l1, .ref l2, .ref l3, .ref l4, .ref l5, .ref l6, .ref l7, .int (nI zo_48), .int (nI k)])), (l1, .inl (cI, 240, .inl l1_fo_49))] := hD
    refine lv_goto (tgt := 98) hx hb dX2_readPiece_38 (by decide) ?_
    exact ret _ _ _ _ (Po_42, fo_43, zo_48, l1_fo_49) dX2_readPiece_98 (⟨hw_50, PCQ.no hop hw_46.2⟩) (hP.sub [0, 1, 2, 3, 4, 5] rfl) (hD.sub [0, 1, 2, 3, 4, 5] (by decide) rfl) hS

set_option maxRecDepth 100000 in
set_option maxHeartbeats 4000000 in
theorem c_raP_1 (l : Launch) (D : va_G) (cI cB : ClassId) (sz : Nat) (kk : KT) (h0 : Nat) (tx : Nat) (tp : Nat) (N : Nat) (P : Nat) (fa : Int32) (by_ : Nat) (T : Nat) (fb : Nat → Int32) (lw : Nat) (l1 : Nat) (l2 : Nat) (l3 : Nat) (l4 : Nat) (l5 : Nat) (l6 : Nat) (l7 : Nat) (z : Nat) (k : Nat) (q1 : Nat → Int32) (hT : T ≤ 260) (hNT : N ≤ T) (hPN : P ≤ N) (hN2 : N ≤ 240) (hfa : fa = 0 ∨ fa < 0) (hbr : BR N fb) (hz : z ≤ 240) (hk : k ≤ 16) : MVk (S := ((Nat) × (Int32) × (Nat) × (Nat → Int32))) l D cI cB kk yX2_readPart cX2_readPart 4 (rm 24 549) [.ref h0, .int 1] [(h0, .inr (2, [.ref tx, .ref lw])), (tx, .inr (6, [.ref tp, .int (nI N), .int (nI P), .int fa])), (tp, .inr (5, [.ref by_, .int (nI T)])), (by_, .inl (cI, 260, .inl fb)), (lw, .inr (1, [.ref l1, .ref l2, .ref l3, .ref l4, .ref l5, .ref l6, .ref l7, .int (nI z), .int (nI k)])), (l1, .inl (cI, 240, .inl q1))] sz (fun u => u.2.2.1 ≤ 240 ∧ PTQ fb N 5 P u.1 fa u.2.1 ∧ (u.2.1 = 0 → ¬ chF fb N u.1 = 38)) (fun u : ((Nat) × (Int32) × (Nat) × (Nat → Int32)) => [(h0, .inr (2, [.ref tx, .ref lw])), (tx, .inr (6, [.ref tp, .int (nI N), .int (nI u.1), .int u.2.1])), (tp, .inr (5, [.ref by_, .int (nI T)])), (by_, .inl (cI, 260, .inl fb)), (lw, .inr (1, [.ref l1, .ref l2, .ref l3, .ref l4, .ref l5, .ref l6, .ref l7, .int (nI u.2.2.1), .int (nI k)])), (l1, .inl (cI, 240, .inl u.2.2.2))]) := by
  refine MVk.of (by decide) (Nat.le_of_ble_eq_true rfl) ?_
  intro p e s m below meth c Q ls A X hin hN hKO hP hK hD hA hl ret
  have hS : va_S A s.heap s.heap [] := va_S.rf
  obtain ⟨hx, hb, hml, hown, htb⟩ := id X
  have hl : lv_has ls 4 [(0, .ref h0), (1, .int 1)] := hl
  refine lv_aload_n hx hb dX2_readPart_0 rfl (lv_at hl 0 rfl) ?_
  refine lv_iload_n hx hb dX2_readPart_1 rfl (lv_at hl 1 rfl) ?_
  refine cVVk (As := [.int 1]) (rest := []) (n := 1) (ci := 2) (q0 := 0) (wr := []) X hN hKO hK hP hD hS hA (c_rpP_1 l D cI cB _ kk h0 tx tp N P fa by_ T fb lw l1 l2 l3 l4 l5 l6 l7 z k q1 hT hNT hPN hN2 hfa hbr hz hk) (gV k_636 k_638 k_9 k_99 k_639) (by decide +kernel) ⟨Nat.le_of_ble_eq_true rfl, Nat.le_of_ble_eq_true rfl⟩ ⟨rfl, rfl⟩ [0, 1, 2, 3, 4, 5] [] rfl rfl (by decide) (by decide) rfl rfl rfl rfl rfl hl.1 (Nat.le_of_ble_eq_true rfl) dX2_readPart_2 ⟨Nat.le_of_ble_eq_true rfl, Nat.le_of_ble_eq_true rfl⟩ (fun u H locs hw_6 hP hD hS => ?_)
  obtain ⟨Po_2, fo_3, zo_4, l1o_5⟩ := u
  try dsimp only at hw_6
  have hP : va_P D vwCl [(h0, .inr (2, [.ref tx, .ref lw])), (tx, .inr (6, [.ref tp, .int (nI N), .int (nI Po_2), .int fo_3])), (tp, .inr (5, [.ref by_, .int (nI T)])), (by_, .inl (cI, 260, .inl fb)), (lw, .inr (1, [.ref l1, .ref l2, .ref l3, .ref l4, .ref l5, .ref l6, .ref l7, .int (nI zo_4), .int (nI k)])), (l1, .inl (cI, 240, .inl l1o_5))] H := hP
  have hD : va_D A [(h0, .inr (2, [.ref tx, .ref lw])), (tx, .inr (6, [.ref tp, .int (nI N), .int (nI Po_2), .int fo_3])), (tp, .inr (5, [.ref by_, .int (nI T)])), (by_, .inl (cI, 260, .inl fb)), (lw, .inr (1, [.ref l1, .ref l2, .ref l3, .ref l4, .ref l5, .ref l6, .ref l7, .int (nI zo_4), .int (nI k)])), (l1, .inl (cI, 240, .inl l1o_5))] := hD
  refine lv_iconst (v := 0) hx hb dX2_readPart_5 (by decide) ?_
  refine lv_istore_n (lv' := [(2, .int 0), (0, .ref h0), (1, .int 1)]) hx hb dX2_readPart_6 rfl hl (by decide) rfl (fun ls hl => ?_)
  have loop_7 : ∀ (n i : Nat) (Pa : Nat) (fv : Int32) (za : Nat) (qa : Nat → Int32), n + i = 240 → (za ≤ 240) → (PTQ fb N 5 P Pa fa fv) → (fv = 0 → fa = 0 → i < Pa) → ∀ (H : Heap) (locs : List Loc), va_P D vwCl [(h0, .inr (2, [.ref tx, .ref lw])), (tx, .inr (6, [.ref tp, .int (nI N), .int (nI Pa), .int fv])), (tp, .inr (5, [.ref by_, .int (nI T)])), (by_, .inl (cI, 260, .inl fb)), (lw, .inr (1, [.ref l1, .ref l2, .ref l3, .ref l4, .ref l5, .ref l6, .ref l7, .int (nI za), .int (nI k)])), (l1, .inl (cI, 240, .inl qa))] H → va_D A [(h0, .inr (2, [.ref tx, .ref lw])), (tx, .inr (6, [.ref tp, .int (nI N), .int (nI Pa), .int fv])), (tp, .inr (5, [.ref by_, .int (nI T)])), (by_, .inl (cI, 260, .inl fb)), (lw, .inr (1, [.ref l1, .ref l2, .ref l3, .ref l4, .ref l5, .ref l6, .ref l7, .int (nI za), .int (nI k)])), (l1, .inl (cI, 240, .inl qa))] → va_S A s.heap H locs → ∀ (ls : Array Slot), lv_has ls 4 [(0, .ref h0), (1, .int 1), (2, .int (nI i))] → W p l e (rm 24 549) s m ([.ref h0, .int 1] : List Value).toArray below meth c H locs 0 0 Q (F0 m 7 ls []) := by
    intro n
    induction n with
    | zero =>
      intro i Pa fv za qa hni hza hq hiP H locs hP hD hS ls hl
      have hni_7 := hni
      have hi : i = 240 := by omega
      refine lv_iload_n hx hb dX2_readPart_7 rfl (lv_at hl 2 rfl) ?_
      refine lv_sipush (v := 240) hx hb dX2_readPart_8 (by decide) ?_
      refine lv_icmp_ge (tgt := 62) hx hb dX2_readPart_11 (by decide) (fun _ => ?_) (fun c_11 => absurd (by rw [hi]; decide) c_11)
      exact ret _ _ _ _ (Pa, fv, za, qa) dX2_readPart_62 (⟨hza, ⟨hq, fun z => absurd z (fun z => by have h2 := hq.2.1; have h4 := hq.2.2.2.1; exact (Classical.em (fa = 0)).elim (fun w => by have := hiP z w; omega) (fun w => w ((h2 w).symm.trans z)))⟩⟩) (hP.sub [0, 1, 2, 3, 4, 5] rfl) (hD.sub [0, 1, 2, 3, 4, 5] (by decide) rfl) hS
    | succ n ih_7 =>
      intro i Pa fv za qa hni hza hq hiP H locs hP hD hS ls hl
      have hni_7 := hni
      have hi : i < 240 := by omega
      refine lv_iload_n hx hb dX2_readPart_7 rfl (lv_at hl 2 rfl) ?_
      refine lv_sipush (v := 240) hx hb dX2_readPart_8 (by decide) ?_
      refine lv_icmp_ge (tgt := 62) hx hb dX2_readPart_11 (by decide) (fun c_11 => absurd c_11 (nI_ge hi (by decide))) (fun _ => ?_)
      refine lv_aload_n hx hb dX2_readPart_14 rfl (lv_at hl 0 rfl) ?_
      refine va_get (D := D) (ci := 2) (v := .ref tx) (C := RX2) (T := TX2) (N := 2) hx hb htb itX2 hown hK hP 0 rfl rfl 0 (by decide) (htb _ k_288) (fun _ h9 => h9) rfl dX2_readPart_15 ?_
      refine lv_bipush (v := 38) hx hb dX2_readPart_18 (by decide) ?_
      refine cVI (As := [.int 38]) (rest := []) (n := 1) (ci := 6) (q0 := 0) (wr := [(h0, .inr (2, [.ref tx, .ref lw])), (lw, .inr (1, [.ref l1, .ref l2, .ref l3, .ref l4, .ref l5, .ref l6, .ref l7, .int (nI za), .int (nI k)])), (l1, .inl (cI, 240, .inl qa))]) X hN hK hP hD hS hA (c_skipP l D cI cB _ tx tp N Pa fv by_ T fb 38 hT hNT hq.2.2.2.1 (by decide)) (gV k_644 k_607 k_608 k_98 k_609) (by decide +kernel) ⟨Nat.le_of_ble_eq_true rfl, Nat.le_of_ble_eq_true rfl⟩ ⟨rfl, rfl⟩ [1, 2, 3] [0, 4, 5] rfl rfl (by decide) (by decide) rfl rfl rfl rfl rfl hl.1 (Nat.le_of_ble_eq_true rfl) dX2_readPart_20 ⟨Nat.le_of_ble_eq_true rfl, Nat.le_of_ble_eq_true rfl⟩ (fun r_7 u H locs hw_9 hP hD hS => ?_)
      obtain ⟨Po_8, rfl⟩ : ∃ z, z = u := ⟨_, rfl⟩
      try dsimp only at hw_9
      have hP : va_P D vwCl [(h0, .inr (2, [.ref tx, .ref lw])), (lw, .inr (1, [.ref l1, .ref l2, .ref l3, .ref l4, .ref l5, .ref l6, .ref l7, .int (nI za), .int (nI k)])), (l1, .inl (cI, 240, .inl qa)), (tx, .inr (6, [.ref tp, .int (nI N), .int (nI Po_8), .int fv])), (tp, .inr (5, [.ref by_, .int (nI T)])), (by_, .inl (cI, 260, .inl fb))] H := hP
      have hD : va_D A [(h0, .inr (2, [.ref tx, .ref lw])), (lw, .inr (1, [.ref l1, .ref l2, .ref l3, .ref l4, .ref l5, .ref l6, .ref l7, .int (nI za), .int (nI k)])), (l1, .inl (cI, 240, .inl qa)), (tx, .inr (6, [.ref tp, .int (nI N), .int (nI Po_8), .int fv])), (tp, .inr (5, [.ref by_, .int (nI T)])), (by_, .inl (cI, 260, .inl fb))] := hD
      refine lv_if_eq (tgt := 62) hx hb dX2_readPart_23 (by decide) (fun c_23 => ?_) (fun c_23 => ?_)
      · have hsn := bIf (hw_9.1.symm.trans c_23)
        have hpl := hw_9.2.2.1 hsn
        rw [hpl] at hP hD
        have hP : va_P D vwCl [(h0, .inr (2, [.ref tx, .ref lw])), (lw, .inr (1, [.ref l1, .ref l2, .ref l3, .ref l4, .ref l5, .ref l6, .ref l7, .int (nI za), .int (nI k)])), (l1, .inl (cI, 240, .inl qa)), (tx, .inr (6, [.ref tp, .int (nI N), .int (nI Pa), .int fv])), (tp, .inr (5, [.ref by_, .int (nI T)])), (by_, .inl (cI, 260, .inl fb))] H := hP
        have hD : va_D A [(h0, .inr (2, [.ref tx, .ref lw])), (lw, .inr (1, [.ref l1, .ref l2, .ref l3, .ref l4, .ref l5, .ref l6, .ref l7, .int (nI za), .int (nI k)])), (l1, .inl (cI, 240, .inl qa)), (tx, .inr (6, [.ref tp, .int (nI N), .int (nI Pa), .int fv])), (tp, .inr (5, [.ref by_, .int (nI T)])), (by_, .inl (cI, 260, .inl fb))] := hD
        exact ret _ _ _ _ (Pa, fv, za, qa) dX2_readPart_62 (⟨hza, ⟨hq, fun (z : fv = 0) => by have w1 := hsn; rw [z, sQ0] at w1; exact w1⟩⟩) (hP.sub [0, 3, 4, 5, 1, 2] rfl) (hD.sub [0, 3, 4, 5, 1, 2] (by decide) rfl) hS
      · have hsk := bIt (fun z => c_23 (hw_9.1.trans z))
        obtain ⟨hf0, hlt, hch⟩ := sQj (by decide) hsk
        have hpl := hw_9.2.1 hsk
        subst hf0
        have hjn : JN2 (chF fb N Pa) := Or.inl hch
        rw [hpl] at hP hD
        have hP : va_P D vwCl [(h0, .inr (2, [.ref tx, .ref lw])), (lw, .inr (1, [.ref l1, .ref l2, .ref l3, .ref l4, .ref l5, .ref l6, .ref l7, .int (nI za), .int (nI k)])), (l1, .inl (cI, 240, .inl qa)), (tx, .inr (6, [.ref tp, .int (nI N), .int (nI (Pa + 1)), .int 0])), (tp, .inr (5, [.ref by_, .int (nI T)])), (by_, .inl (cI, 260, .inl fb))] H := hP
        have hD : va_D A [(h0, .inr (2, [.ref tx, .ref lw])), (lw, .inr (1, [.ref l1, .ref l2, .ref l3, .ref l4, .ref l5, .ref l6, .ref l7, .int (nI za), .int (nI k)])), (l1, .inl (cI, 240, .inl qa)), (tx, .inr (6, [.ref tp, .int (nI N), .int (nI (Pa + 1)), .int 0])), (tp, .inr (5, [.ref by_, .int (nI T)])), (by_, .inl (cI, 260, .inl fb))] := hD
        refine lv_aload_n hx hb dX2_readPart_26 rfl (lv_at hl 0 rfl) ?_
        refine va_get (D := D) (ci := 2) (v := .ref lw) (C := RX2) (T := TX2) (N := 2) hx hb htb itX2 hown hK hP 0 rfl rfl 1 (by decide) (htb _ k_289) (fun _ h9 => h9) rfl dX2_readPart_27 ?_
        refine va_getN (D := D) (ci := 1) (v := .int (nI za)) (C := RX1) (T := TX1) (N := 9) hx hb htb itX1 hown hK hP 1 rfl rfl 7 (by decide) (va_Nw.use rfl (hN _ n_232 rfl)) (fun _ h9 => h9) rfl dX2_readPart_30 ?_
        refine lv_istore_n (lv' := [(3, .int (nI za)), (0, .ref h0), (1, .int 1), (2, .int (nI i))]) hx hb dX2_readPart_33 rfl hl (by decide) rfl (fun ls hl => ?_)
        refine lv_aload_n hx hb dX2_readPart_34 rfl (lv_at hl 1 rfl) ?_
        refine va_get (D := D) (ci := 2) (v := .ref lw) (C := RX2) (T := TX2) (N := 2) hx hb htb itX2 hown hK hP 0 rfl rfl 1 (by decide) (htb _ k_289) (fun _ h9 => h9) rfl dX2_readPart_35 ?_
        refine lv_iconst (v := 4) hx hb dX2_readPart_38 (by decide) ?_
        refine lv_iconst (v := 0) hx hb dX2_readPart_39 (by decide) ?_
        refine cVV (As := [.int 4, .int 0]) (rest := []) (n := 2) (ci := 1) (q0 := 0) (wr := [(h0, .inr (2, [.ref tx, .ref lw])), (tx, .inr (6, [.ref tp, .int (nI N), .int (nI (Pa + 1)), .int 0])), (tp, .inr (5, [.ref by_, .int (nI T)])), (by_, .inl (cI, 260, .inl fb))]) X hN hK hP hD hS hA (c_X1_addStep l D cI cB _ lw l1 l2 l3 l4 l5 l6 l7 za k 4 0 qa hza hk) (gV k_594 k_595 k_596 k_97 k_597) (by decide +kernel) ⟨Nat.le_of_ble_eq_true rfl, Nat.le_of_ble_eq_true rfl⟩ ⟨rfl, rfl⟩ [1, 2] [0, 3, 4, 5] rfl rfl (by decide) (by decide) rfl rfl rfl rfl rfl hl.1 (Nat.le_of_ble_eq_true rfl) dX2_readPart_40 ⟨Nat.le_of_ble_eq_true rfl, Nat.le_of_ble_eq_true rfl⟩ (fun u H locs hw_13 hP hD hS => ?_)
        obtain ⟨zo_11, l1_fo_12⟩ := u
        try dsimp only at hw_13
        have hP : va_P D vwCl [(h0, .inr (2, [.ref tx, .ref lw])), (tx, .inr (6, [.ref tp, .int (nI N), .int (nI (Pa + 1)), .int 0])), (tp, .inr (5, [.ref by_, .int (nI T)])), (by_, .inl (cI, 260, .inl fb)), (lw, .inr (1, [.ref l1, .ref l2, .ref l3, .ref l4, .ref l5, .ref l6, .ref l7, .int (nI zo_11), .int (nI k)])), (l1, .inl (cI, 240, .inl l1_fo_12))] H := hP
        have hD : va_D A [(h0, .inr (2, [.ref tx, .ref lw])), (tx, .inr (6, [.ref tp, .int (nI N), .int (nI (Pa + 1)), .int 0])), (tp, .inr (5, [.ref by_, .int (nI T)])), (by_, .inl (cI, 260, .inl fb)), (lw, .inr (1, [.ref l1, .ref l2, .ref l3, .ref l4, .ref l5, .ref l6, .ref l7, .int (nI zo_11), .int (nI k)])), (l1, .inl (cI, 240, .inl l1_fo_12))] := hD
        refine lv_aload_n hx hb dX2_readPart_43 rfl (lv_at hl 1 rfl) ?_
        refine lv_iload_n hx hb dX2_readPart_44 rfl (lv_at hl 2 rfl) ?_
        refine cVVk (As := [.int 1]) (rest := []) (n := 1) (ci := 2) (q0 := 0) (wr := []) X hN hKO hK hP hD hS hA (c_rpP_1 l D cI cB _ kk h0 tx tp N (Pa + 1) 0 by_ T fb lw l1 l2 l3 l4 l5 l6 l7 zo_11 k l1_fo_12 hT hNT (by omega) hN2 (Or.inl rfl) hbr hw_13 hk) (gV k_636 k_638 k_9 k_99 k_639) (by decide +kernel) ⟨Nat.le_of_ble_eq_true rfl, Nat.le_of_ble_eq_true rfl⟩ ⟨rfl, rfl⟩ [0, 1, 2, 3, 4, 5] [] rfl rfl (by decide) (by decide) rfl rfl rfl rfl rfl hl.1 (Nat.le_of_ble_eq_true rfl) dX2_readPart_45 ⟨Nat.le_of_ble_eq_true rfl, Nat.le_of_ble_eq_true rfl⟩ (fun u H locs hw_19 hP hD hS => ?_)
        obtain ⟨Po_15, fo_16, zo_17, l1o_18⟩ := u
        try dsimp only at hw_19
        have hP : va_P D vwCl [(h0, .inr (2, [.ref tx, .ref lw])), (tx, .inr (6, [.ref tp, .int (nI N), .int (nI Po_15), .int fo_16])), (tp, .inr (5, [.ref by_, .int (nI T)])), (by_, .inl (cI, 260, .inl fb)), (lw, .inr (1, [.ref l1, .ref l2, .ref l3, .ref l4, .ref l5, .ref l6, .ref l7, .int (nI zo_17), .int (nI k)])), (l1, .inl (cI, 240, .inl l1o_18))] H := hP
        have hD : va_D A [(h0, .inr (2, [.ref tx, .ref lw])), (tx, .inr (6, [.ref tp, .int (nI N), .int (nI Po_15), .int fo_16])), (tp, .inr (5, [.ref by_, .int (nI T)])), (by_, .inl (cI, 260, .inl fb)), (lw, .inr (1, [.ref l1, .ref l2, .ref l3, .ref l4, .ref l5, .ref l6, .ref l7, .int (nI zo_17), .int (nI k)])), (l1, .inl (cI, 240, .inl l1o_18))] := hD
        refine lv_aload_n hx hb dX2_readPart_48 rfl (lv_at hl 1 rfl) ?_
        refine va_get (D := D) (ci := 2) (v := .ref lw) (C := RX2) (T := TX2) (N := 2) hx hb htb itX2 hown hK hP 0 rfl rfl 1 (by decide) (htb _ k_289) (fun _ h9 => h9) rfl dX2_readPart_49 ?_
        refine lv_iload_n hx hb dX2_readPart_52 rfl (lv_at hl 0 rfl) ?_
        refine cVV (As := [.int (nI za)]) (rest := []) (n := 1) (ci := 1) (q0 := 0) (wr := [(h0, .inr (2, [.ref tx, .ref lw])), (tx, .inr (6, [.ref tp, .int (nI N), .int (nI Po_15), .int fo_16])), (tp, .inr (5, [.ref by_, .int (nI T)])), (by_, .inl (cI, 260, .inl fb))]) X hN hK hP hD hS hA (c_X1_landSkip l D cI cB _ lw l1 l2 l3 l4 l5 l6 l7 zo_17 k (nI za) l1o_18 hw_19.1 hk) (gV k_645 k_646 k_647 k_97 k_648) (by decide +kernel) ⟨Nat.le_of_ble_eq_true rfl, Nat.le_of_ble_eq_true rfl⟩ ⟨rfl, rfl⟩ [4, 5] [0, 1, 2, 3] rfl rfl (by decide) (by decide) rfl rfl rfl rfl rfl hl.1 (Nat.le_of_ble_eq_true rfl) dX2_readPart_53 ⟨Nat.le_of_ble_eq_true rfl, Nat.le_of_ble_eq_true rfl⟩ (fun u H locs hw_22 hP hD hS => ?_)
        obtain ⟨l1_fo_21, rfl⟩ : ∃ z, z = u := ⟨_, rfl⟩
        try dsimp only at hw_22
        have hP : va_P D vwCl [(h0, .inr (2, [.ref tx, .ref lw])), (tx, .inr (6, [.ref tp, .int (nI N), .int (nI Po_15), .int fo_16])), (tp, .inr (5, [.ref by_, .int (nI T)])), (by_, .inl (cI, 260, .inl fb)), (lw, .inr (1, [.ref l1, .ref l2, .ref l3, .ref l4, .ref l5, .ref l6, .ref l7, .int (nI zo_17), .int (nI k)])), (l1, .inl (cI, 240, .inl l1_fo_21))] H := hP
        have hD : va_D A [(h0, .inr (2, [.ref tx, .ref lw])), (tx, .inr (6, [.ref tp, .int (nI N), .int (nI Po_15), .int fo_16])), (tp, .inr (5, [.ref by_, .int (nI T)])), (by_, .inl (cI, 260, .inl fb)), (lw, .inr (1, [.ref l1, .ref l2, .ref l3, .ref l4, .ref l5, .ref l6, .ref l7, .int (nI zo_17), .int (nI k)])), (l1, .inl (cI, 240, .inl l1_fo_21))] := hD
        refine lv_iinc (v := (nI (i + 1))) (lv' := [(2, .int (nI (i + 1))), (3, .int (nI za)), (0, .ref h0), (1, .int 1)]) hx hb dX2_readPart_56 hl (k := 3) rfl (nI_1 i) (by decide) rfl (fun ls hl => ?_)
        refine lv_goto (tgt := 7) hx hb dX2_readPart_59 (by decide) ?_
        exact ih_7 (i + 1) Po_15 fo_16 zo_17 l1_fo_21 (by omega) hw_19.1 (hq.more hjn hw_19.2.pt) (fun z w => by have := (((hw_19.2.2.2.2.2 rfl).1 z).1); have := hiP rfl w; omega) _ _ (hP.sub [0, 1, 2, 3, 4, 5] rfl) (hD.sub [0, 1, 2, 3, 4, 5] (by decide) rfl) hS _ (lv_sub hl [2, 3, 0] rfl)
  exact loop_7 240 0 Po_2 fo_3 zo_4 l1o_5 (by omega) hw_6.1 hw_6.2.pt (fun z w => (((hw_6.2.2.2.2.2 w).1 z).1 |> fun y => by omega)) _ _ (hP.sub [0, 1, 2, 3, 4, 5] rfl) (hD.sub [0, 1, 2, 3, 4, 5] (by decide) rfl) hS _ (lv_sub hl [1, 2, 0] rfl)

set_option maxRecDepth 100000 in
set_option maxHeartbeats 4000000 in
theorem c_rcP_1 (l : Launch) (D : va_G) (cI cB : ClassId) (sz : Nat) (kk : KT) (h0 : Nat) (tx : Nat) (tp : Nat) (N : Nat) (P : Nat) (fa : Int32) (by_ : Nat) (T : Nat) (fb : Nat → Int32) (lw : Nat) (l1 : Nat) (l2 : Nat) (l3 : Nat) (l4 : Nat) (l5 : Nat) (l6 : Nat) (l7 : Nat) (z : Nat) (k : Nat) (q1 : Nat → Int32) (hT : T ≤ 260) (hNT : N ≤ T) (hPN : P ≤ N) (hN2 : N ≤ 240) (hfa : fa = 0 ∨ fa < 0) (hbr : BR N fb) (hz : z ≤ 240) (hk : k ≤ 16) : MVk (S := ((Nat) × (Int32) × (Nat) × (Nat → Int32))) l D cI cB kk yX2_readChoice cX2_readChoice 4 (rm 25 572) [.ref h0, .int 1] [(h0, .inr (2, [.ref tx, .ref lw])), (tx, .inr (6, [.ref tp, .int (nI N), .int (nI P), .int fa])), (tp, .inr (5, [.ref by_, .int (nI T)])), (by_, .inl (cI, 260, .inl fb)), (lw, .inr (1, [.ref l1, .ref l2, .ref l3, .ref l4, .ref l5, .ref l6, .ref l7, .int (nI z), .int (nI k)])), (l1, .inl (cI, 240, .inl q1))] sz (fun u => u.2.2.1 ≤ 240 ∧ PTQ fb N 5 P u.1 fa u.2.1 ∧ (u.2.1 = 0 → ¬ JN2 (chF fb N u.1))) (fun u : ((Nat) × (Int32) × (Nat) × (Nat → Int32)) => [(h0, .inr (2, [.ref tx, .ref lw])), (tx, .inr (6, [.ref tp, .int (nI N), .int (nI u.1), .int u.2.1])), (tp, .inr (5, [.ref by_, .int (nI T)])), (by_, .inl (cI, 260, .inl fb)), (lw, .inr (1, [.ref l1, .ref l2, .ref l3, .ref l4, .ref l5, .ref l6, .ref l7, .int (nI u.2.2.1), .int (nI k)])), (l1, .inl (cI, 240, .inl u.2.2.2))]) := by
  refine MVk.of (by decide) (Nat.le_of_ble_eq_true rfl) ?_
  intro p e s m below meth c Q ls A X hin hN hKO hP hK hD hA hl ret
  have hS : va_S A s.heap s.heap [] := va_S.rf
  obtain ⟨hx, hb, hml, hown, htb⟩ := id X
  have hl : lv_has ls 4 [(0, .ref h0), (1, .int 1)] := hl
  refine lv_aload_n hx hb dX2_readChoice_0 rfl (lv_at hl 0 rfl) ?_
  refine lv_iload_n hx hb dX2_readChoice_1 rfl (lv_at hl 1 rfl) ?_
  refine cVVk (As := [.int 1]) (rest := []) (n := 1) (ci := 2) (q0 := 0) (wr := []) X hN hKO hK hP hD hS hA (c_raP_1 l D cI cB _ kk h0 tx tp N P fa by_ T fb lw l1 l2 l3 l4 l5 l6 l7 z k q1 hT hNT hPN hN2 hfa hbr hz hk) (gV k_632 k_634 k_8 k_99 k_635) (by decide +kernel) ⟨Nat.le_of_ble_eq_true rfl, Nat.le_of_ble_eq_true rfl⟩ ⟨rfl, rfl⟩ [0, 1, 2, 3, 4, 5] [] rfl rfl (by decide) (by decide) rfl rfl rfl rfl rfl hl.1 (Nat.le_of_ble_eq_true rfl) dX2_readChoice_2 ⟨Nat.le_of_ble_eq_true rfl, Nat.le_of_ble_eq_true rfl⟩ (fun u H locs hw_6 hP hD hS => ?_)
  obtain ⟨Po_2, fo_3, zo_4, l1o_5⟩ := u
  try dsimp only at hw_6
  have hP : va_P D vwCl [(h0, .inr (2, [.ref tx, .ref lw])), (tx, .inr (6, [.ref tp, .int (nI N), .int (nI Po_2), .int fo_3])), (tp, .inr (5, [.ref by_, .int (nI T)])), (by_, .inl (cI, 260, .inl fb)), (lw, .inr (1, [.ref l1, .ref l2, .ref l3, .ref l4, .ref l5, .ref l6, .ref l7, .int (nI zo_4), .int (nI k)])), (l1, .inl (cI, 240, .inl l1o_5))] H := hP
  have hD : va_D A [(h0, .inr (2, [.ref tx, .ref lw])), (tx, .inr (6, [.ref tp, .int (nI N), .int (nI Po_2), .int fo_3])), (tp, .inr (5, [.ref by_, .int (nI T)])), (by_, .inl (cI, 260, .inl fb)), (lw, .inr (1, [.ref l1, .ref l2, .ref l3, .ref l4, .ref l5, .ref l6, .ref l7, .int (nI zo_4), .int (nI k)])), (l1, .inl (cI, 240, .inl l1o_5))] := hD
  refine lv_iconst (v := 0) hx hb dX2_readChoice_5 (by decide) ?_
  refine lv_istore_n (lv' := [(2, .int 0), (0, .ref h0), (1, .int 1)]) hx hb dX2_readChoice_6 rfl hl (by decide) rfl (fun ls hl => ?_)
  have loop_7 : ∀ (n i : Nat) (Pa : Nat) (fv : Int32) (za : Nat) (qa : Nat → Int32), n + i = 240 → (za ≤ 240) → (PTQ fb N 5 P Pa fa fv) → (fv = 0 → fa = 0 → i < Pa) → (fv = 0 → ¬ chF fb N Pa = 38) → ∀ (H : Heap) (locs : List Loc), va_P D vwCl [(h0, .inr (2, [.ref tx, .ref lw])), (tx, .inr (6, [.ref tp, .int (nI N), .int (nI Pa), .int fv])), (tp, .inr (5, [.ref by_, .int (nI T)])), (by_, .inl (cI, 260, .inl fb)), (lw, .inr (1, [.ref l1, .ref l2, .ref l3, .ref l4, .ref l5, .ref l6, .ref l7, .int (nI za), .int (nI k)])), (l1, .inl (cI, 240, .inl qa))] H → va_D A [(h0, .inr (2, [.ref tx, .ref lw])), (tx, .inr (6, [.ref tp, .int (nI N), .int (nI Pa), .int fv])), (tp, .inr (5, [.ref by_, .int (nI T)])), (by_, .inl (cI, 260, .inl fb)), (lw, .inr (1, [.ref l1, .ref l2, .ref l3, .ref l4, .ref l5, .ref l6, .ref l7, .int (nI za), .int (nI k)])), (l1, .inl (cI, 240, .inl qa))] → va_S A s.heap H locs → ∀ (ls : Array Slot), lv_has ls 4 [(0, .ref h0), (1, .int 1), (2, .int (nI i))] → W p l e (rm 25 572) s m ([.ref h0, .int 1] : List Value).toArray below meth c H locs 0 0 Q (F0 m 7 ls []) := by
    intro n
    induction n with
    | zero =>
      intro i Pa fv za qa hni hza hq hiP hmu H locs hP hD hS ls hl
      have hni_7 := hni
      have hi : i = 240 := by omega
      refine lv_iload_n hx hb dX2_readChoice_7 rfl (lv_at hl 2 rfl) ?_
      refine lv_sipush (v := 240) hx hb dX2_readChoice_8 (by decide) ?_
      refine lv_icmp_ge (tgt := 62) hx hb dX2_readChoice_11 (by decide) (fun _ => ?_) (fun c_11 => absurd (by rw [hi]; decide) c_11)
      exact ret _ _ _ _ (Pa, fv, za, qa) dX2_readChoice_62 (⟨hza, ⟨hq, fun z => absurd z (fun z => by have h2 := hq.2.1; have h4 := hq.2.2.2.1; exact (Classical.em (fa = 0)).elim (fun w => by have := hiP z w; omega) (fun w => w ((h2 w).symm.trans z)))⟩⟩) (hP.sub [0, 1, 2, 3, 4, 5] rfl) (hD.sub [0, 1, 2, 3, 4, 5] (by decide) rfl) hS
    | succ n ih_7 =>
      intro i Pa fv za qa hni hza hq hiP hmu H locs hP hD hS ls hl
      have hni_7 := hni
      have hi : i < 240 := by omega
      refine lv_iload_n hx hb dX2_readChoice_7 rfl (lv_at hl 2 rfl) ?_
      refine lv_sipush (v := 240) hx hb dX2_readChoice_8 (by decide) ?_
      refine lv_icmp_ge (tgt := 62) hx hb dX2_readChoice_11 (by decide) (fun c_11 => absurd c_11 (nI_ge hi (by decide))) (fun _ => ?_)
      refine lv_aload_n hx hb dX2_readChoice_14 rfl (lv_at hl 0 rfl) ?_
      refine va_get (D := D) (ci := 2) (v := .ref tx) (C := RX2) (T := TX2) (N := 2) hx hb htb itX2 hown hK hP 0 rfl rfl 0 (by decide) (htb _ k_288) (fun _ h9 => h9) rfl dX2_readChoice_15 ?_
      refine lv_bipush (v := 124) hx hb dX2_readChoice_18 (by decide) ?_
      refine cVI (As := [.int 124]) (rest := []) (n := 1) (ci := 6) (q0 := 0) (wr := [(h0, .inr (2, [.ref tx, .ref lw])), (lw, .inr (1, [.ref l1, .ref l2, .ref l3, .ref l4, .ref l5, .ref l6, .ref l7, .int (nI za), .int (nI k)])), (l1, .inl (cI, 240, .inl qa))]) X hN hK hP hD hS hA (c_skipP l D cI cB _ tx tp N Pa fv by_ T fb 124 hT hNT hq.2.2.2.1 (by decide)) (gV k_644 k_607 k_608 k_98 k_609) (by decide +kernel) ⟨Nat.le_of_ble_eq_true rfl, Nat.le_of_ble_eq_true rfl⟩ ⟨rfl, rfl⟩ [1, 2, 3] [0, 4, 5] rfl rfl (by decide) (by decide) rfl rfl rfl rfl rfl hl.1 (Nat.le_of_ble_eq_true rfl) dX2_readChoice_20 ⟨Nat.le_of_ble_eq_true rfl, Nat.le_of_ble_eq_true rfl⟩ (fun r_7 u H locs hw_9 hP hD hS => ?_)
      obtain ⟨Po_8, rfl⟩ : ∃ z, z = u := ⟨_, rfl⟩
      try dsimp only at hw_9
      have hP : va_P D vwCl [(h0, .inr (2, [.ref tx, .ref lw])), (lw, .inr (1, [.ref l1, .ref l2, .ref l3, .ref l4, .ref l5, .ref l6, .ref l7, .int (nI za), .int (nI k)])), (l1, .inl (cI, 240, .inl qa)), (tx, .inr (6, [.ref tp, .int (nI N), .int (nI Po_8), .int fv])), (tp, .inr (5, [.ref by_, .int (nI T)])), (by_, .inl (cI, 260, .inl fb))] H := hP
      have hD : va_D A [(h0, .inr (2, [.ref tx, .ref lw])), (lw, .inr (1, [.ref l1, .ref l2, .ref l3, .ref l4, .ref l5, .ref l6, .ref l7, .int (nI za), .int (nI k)])), (l1, .inl (cI, 240, .inl qa)), (tx, .inr (6, [.ref tp, .int (nI N), .int (nI Po_8), .int fv])), (tp, .inr (5, [.ref by_, .int (nI T)])), (by_, .inl (cI, 260, .inl fb))] := hD
      refine lv_if_eq (tgt := 62) hx hb dX2_readChoice_23 (by decide) (fun c_23 => ?_) (fun c_23 => ?_)
      · have hsn := bIf (hw_9.1.symm.trans c_23)
        have hpl := hw_9.2.2.1 hsn
        rw [hpl] at hP hD
        have hP : va_P D vwCl [(h0, .inr (2, [.ref tx, .ref lw])), (lw, .inr (1, [.ref l1, .ref l2, .ref l3, .ref l4, .ref l5, .ref l6, .ref l7, .int (nI za), .int (nI k)])), (l1, .inl (cI, 240, .inl qa)), (tx, .inr (6, [.ref tp, .int (nI N), .int (nI Pa), .int fv])), (tp, .inr (5, [.ref by_, .int (nI T)])), (by_, .inl (cI, 260, .inl fb))] H := hP
        have hD : va_D A [(h0, .inr (2, [.ref tx, .ref lw])), (lw, .inr (1, [.ref l1, .ref l2, .ref l3, .ref l4, .ref l5, .ref l6, .ref l7, .int (nI za), .int (nI k)])), (l1, .inl (cI, 240, .inl qa)), (tx, .inr (6, [.ref tp, .int (nI N), .int (nI Pa), .int fv])), (tp, .inr (5, [.ref by_, .int (nI T)])), (by_, .inl (cI, 260, .inl fb))] := hD
        exact ret _ _ _ _ (Pa, fv, za, qa) dX2_readChoice_62 (⟨hza, ⟨hq, fun (z : fv = 0) => by have w1 := hsn; rw [z, sQ0] at w1; exact fun y => y.elim (hmu z) w1⟩⟩) (hP.sub [0, 3, 4, 5, 1, 2] rfl) (hD.sub [0, 3, 4, 5, 1, 2] (by decide) rfl) hS
      · have hsk := bIt (fun z => c_23 (hw_9.1.trans z))
        obtain ⟨hf0, hlt, hch⟩ := sQj (by decide) hsk
        have hpl := hw_9.2.1 hsk
        subst hf0
        have hjn : JN2 (chF fb N Pa) := Or.inr hch
        rw [hpl] at hP hD
        have hP : va_P D vwCl [(h0, .inr (2, [.ref tx, .ref lw])), (lw, .inr (1, [.ref l1, .ref l2, .ref l3, .ref l4, .ref l5, .ref l6, .ref l7, .int (nI za), .int (nI k)])), (l1, .inl (cI, 240, .inl qa)), (tx, .inr (6, [.ref tp, .int (nI N), .int (nI (Pa + 1)), .int 0])), (tp, .inr (5, [.ref by_, .int (nI T)])), (by_, .inl (cI, 260, .inl fb))] H := hP
        have hD : va_D A [(h0, .inr (2, [.ref tx, .ref lw])), (lw, .inr (1, [.ref l1, .ref l2, .ref l3, .ref l4, .ref l5, .ref l6, .ref l7, .int (nI za), .int (nI k)])), (l1, .inl (cI, 240, .inl qa)), (tx, .inr (6, [.ref tp, .int (nI N), .int (nI (Pa + 1)), .int 0])), (tp, .inr (5, [.ref by_, .int (nI T)])), (by_, .inl (cI, 260, .inl fb))] := hD
        refine lv_aload_n hx hb dX2_readChoice_26 rfl (lv_at hl 0 rfl) ?_
        refine va_get (D := D) (ci := 2) (v := .ref lw) (C := RX2) (T := TX2) (N := 2) hx hb htb itX2 hown hK hP 0 rfl rfl 1 (by decide) (htb _ k_289) (fun _ h9 => h9) rfl dX2_readChoice_27 ?_
        refine va_getN (D := D) (ci := 1) (v := .int (nI za)) (C := RX1) (T := TX1) (N := 9) hx hb htb itX1 hown hK hP 1 rfl rfl 7 (by decide) (va_Nw.use rfl (hN _ n_232 rfl)) (fun _ h9 => h9) rfl dX2_readChoice_30 ?_
        refine lv_istore_n (lv' := [(3, .int (nI za)), (0, .ref h0), (1, .int 1), (2, .int (nI i))]) hx hb dX2_readChoice_33 rfl hl (by decide) rfl (fun ls hl => ?_)
        refine lv_aload_n hx hb dX2_readChoice_34 rfl (lv_at hl 1 rfl) ?_
        refine va_get (D := D) (ci := 2) (v := .ref lw) (C := RX2) (T := TX2) (N := 2) hx hb htb itX2 hown hK hP 0 rfl rfl 1 (by decide) (htb _ k_289) (fun _ h9 => h9) rfl dX2_readChoice_35 ?_
        refine lv_iconst (v := 3) hx hb dX2_readChoice_38 (by decide) ?_
        refine lv_iconst (v := 0) hx hb dX2_readChoice_39 (by decide) ?_
        refine cVV (As := [.int 3, .int 0]) (rest := []) (n := 2) (ci := 1) (q0 := 0) (wr := [(h0, .inr (2, [.ref tx, .ref lw])), (tx, .inr (6, [.ref tp, .int (nI N), .int (nI (Pa + 1)), .int 0])), (tp, .inr (5, [.ref by_, .int (nI T)])), (by_, .inl (cI, 260, .inl fb))]) X hN hK hP hD hS hA (c_X1_addStep l D cI cB _ lw l1 l2 l3 l4 l5 l6 l7 za k 3 0 qa hza hk) (gV k_594 k_595 k_596 k_97 k_597) (by decide +kernel) ⟨Nat.le_of_ble_eq_true rfl, Nat.le_of_ble_eq_true rfl⟩ ⟨rfl, rfl⟩ [1, 2] [0, 3, 4, 5] rfl rfl (by decide) (by decide) rfl rfl rfl rfl rfl hl.1 (Nat.le_of_ble_eq_true rfl) dX2_readChoice_40 ⟨Nat.le_of_ble_eq_true rfl, Nat.le_of_ble_eq_true rfl⟩ (fun u H locs hw_13 hP hD hS => ?_)
        obtain ⟨zo_11, l1_fo_12⟩ := u
        try dsimp only at hw_13
        have hP : va_P D vwCl [(h0, .inr (2, [.ref tx, .ref lw])), (tx, .inr (6, [.ref tp, .int (nI N), .int (nI (Pa + 1)), .int 0])), (tp, .inr (5, [.ref by_, .int (nI T)])), (by_, .inl (cI, 260, .inl fb)), (lw, .inr (1, [.ref l1, .ref l2, .ref l3, .ref l4, .ref l5, .ref l6, .ref l7, .int (nI zo_11), .int (nI k)])), (l1, .inl (cI, 240, .inl l1_fo_12))] H := hP
        have hD : va_D A [(h0, .inr (2, [.ref tx, .ref lw])), (tx, .inr (6, [.ref tp, .int (nI N), .int (nI (Pa + 1)), .int 0])), (tp, .inr (5, [.ref by_, .int (nI T)])), (by_, .inl (cI, 260, .inl fb)), (lw, .inr (1, [.ref l1, .ref l2, .ref l3, .ref l4, .ref l5, .ref l6, .ref l7, .int (nI zo_11), .int (nI k)])), (l1, .inl (cI, 240, .inl l1_fo_12))] := hD
        refine lv_aload_n hx hb dX2_readChoice_43 rfl (lv_at hl 1 rfl) ?_
        refine lv_iload_n hx hb dX2_readChoice_44 rfl (lv_at hl 2 rfl) ?_
        refine cVVk (As := [.int 1]) (rest := []) (n := 1) (ci := 2) (q0 := 0) (wr := []) X hN hKO hK hP hD hS hA (c_raP_1 l D cI cB _ kk h0 tx tp N (Pa + 1) 0 by_ T fb lw l1 l2 l3 l4 l5 l6 l7 zo_11 k l1_fo_12 hT hNT (by omega) hN2 (Or.inl rfl) hbr hw_13 hk) (gV k_632 k_634 k_8 k_99 k_635) (by decide +kernel) ⟨Nat.le_of_ble_eq_true rfl, Nat.le_of_ble_eq_true rfl⟩ ⟨rfl, rfl⟩ [0, 1, 2, 3, 4, 5] [] rfl rfl (by decide) (by decide) rfl rfl rfl rfl rfl hl.1 (Nat.le_of_ble_eq_true rfl) dX2_readChoice_45 ⟨Nat.le_of_ble_eq_true rfl, Nat.le_of_ble_eq_true rfl⟩ (fun u H locs hw_19 hP hD hS => ?_)
        obtain ⟨Po_15, fo_16, zo_17, l1o_18⟩ := u
        try dsimp only at hw_19
        have hP : va_P D vwCl [(h0, .inr (2, [.ref tx, .ref lw])), (tx, .inr (6, [.ref tp, .int (nI N), .int (nI Po_15), .int fo_16])), (tp, .inr (5, [.ref by_, .int (nI T)])), (by_, .inl (cI, 260, .inl fb)), (lw, .inr (1, [.ref l1, .ref l2, .ref l3, .ref l4, .ref l5, .ref l6, .ref l7, .int (nI zo_17), .int (nI k)])), (l1, .inl (cI, 240, .inl l1o_18))] H := hP
        have hD : va_D A [(h0, .inr (2, [.ref tx, .ref lw])), (tx, .inr (6, [.ref tp, .int (nI N), .int (nI Po_15), .int fo_16])), (tp, .inr (5, [.ref by_, .int (nI T)])), (by_, .inl (cI, 260, .inl fb)), (lw, .inr (1, [.ref l1, .ref l2, .ref l3, .ref l4, .ref l5, .ref l6, .ref l7, .int (nI zo_17), .int (nI k)])), (l1, .inl (cI, 240, .inl l1o_18))] := hD
        refine lv_aload_n hx hb dX2_readChoice_48 rfl (lv_at hl 1 rfl) ?_
        refine va_get (D := D) (ci := 2) (v := .ref lw) (C := RX2) (T := TX2) (N := 2) hx hb htb itX2 hown hK hP 0 rfl rfl 1 (by decide) (htb _ k_289) (fun _ h9 => h9) rfl dX2_readChoice_49 ?_
        refine lv_iload_n hx hb dX2_readChoice_52 rfl (lv_at hl 0 rfl) ?_
        refine cVV (As := [.int (nI za)]) (rest := []) (n := 1) (ci := 1) (q0 := 0) (wr := [(h0, .inr (2, [.ref tx, .ref lw])), (tx, .inr (6, [.ref tp, .int (nI N), .int (nI Po_15), .int fo_16])), (tp, .inr (5, [.ref by_, .int (nI T)])), (by_, .inl (cI, 260, .inl fb))]) X hN hK hP hD hS hA (c_X1_landSkip l D cI cB _ lw l1 l2 l3 l4 l5 l6 l7 zo_17 k (nI za) l1o_18 hw_19.1 hk) (gV k_645 k_646 k_647 k_97 k_648) (by decide +kernel) ⟨Nat.le_of_ble_eq_true rfl, Nat.le_of_ble_eq_true rfl⟩ ⟨rfl, rfl⟩ [4, 5] [0, 1, 2, 3] rfl rfl (by decide) (by decide) rfl rfl rfl rfl rfl hl.1 (Nat.le_of_ble_eq_true rfl) dX2_readChoice_53 ⟨Nat.le_of_ble_eq_true rfl, Nat.le_of_ble_eq_true rfl⟩ (fun u H locs hw_22 hP hD hS => ?_)
        obtain ⟨l1_fo_21, rfl⟩ : ∃ z, z = u := ⟨_, rfl⟩
        try dsimp only at hw_22
        have hP : va_P D vwCl [(h0, .inr (2, [.ref tx, .ref lw])), (tx, .inr (6, [.ref tp, .int (nI N), .int (nI Po_15), .int fo_16])), (tp, .inr (5, [.ref by_, .int (nI T)])), (by_, .inl (cI, 260, .inl fb)), (lw, .inr (1, [.ref l1, .ref l2, .ref l3, .ref l4, .ref l5, .ref l6, .ref l7, .int (nI zo_17), .int (nI k)])), (l1, .inl (cI, 240, .inl l1_fo_21))] H := hP
        have hD : va_D A [(h0, .inr (2, [.ref tx, .ref lw])), (tx, .inr (6, [.ref tp, .int (nI N), .int (nI Po_15), .int fo_16])), (tp, .inr (5, [.ref by_, .int (nI T)])), (by_, .inl (cI, 260, .inl fb)), (lw, .inr (1, [.ref l1, .ref l2, .ref l3, .ref l4, .ref l5, .ref l6, .ref l7, .int (nI zo_17), .int (nI k)])), (l1, .inl (cI, 240, .inl l1_fo_21))] := hD
        refine lv_iinc (v := (nI (i + 1))) (lv' := [(2, .int (nI (i + 1))), (3, .int (nI za)), (0, .ref h0), (1, .int 1)]) hx hb dX2_readChoice_56 hl (k := 3) rfl (nI_1 i) (by decide) rfl (fun ls hl => ?_)
        refine lv_goto (tgt := 7) hx hb dX2_readChoice_59 (by decide) ?_
        exact ih_7 (i + 1) Po_15 fo_16 zo_17 l1_fo_21 (by omega) hw_19.1 (hq.more hjn hw_19.2.1) (fun z w => by have := (((hw_19.2.1.2.2.2.2 rfl).1 z).1); have := hiP rfl w; omega) hw_19.2.2 _ _ (hP.sub [0, 1, 2, 3, 4, 5] rfl) (hD.sub [0, 1, 2, 3, 4, 5] (by decide) rfl) hS _ (lv_sub hl [2, 3, 0] rfl)
  exact loop_7 240 0 Po_2 fo_3 zo_4 l1o_5 (by omega) hw_6.1 hw_6.2.1 (fun z w => (((hw_6.2.1.2.2.2.2 w).1 z).1 |> fun y => by omega)) hw_6.2.2 _ _ (hP.sub [0, 1, 2, 3, 4, 5] rfl) (hD.sub [0, 1, 2, 3, 4, 5] (by decide) rfl) hS _ (lv_sub hl [1, 2, 0] rfl)
