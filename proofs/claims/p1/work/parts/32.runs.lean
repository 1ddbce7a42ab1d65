set_option maxRecDepth 100000 in
set_option maxHeartbeats 4000000 in
theorem c_X9_home (l : Launch) (D : va_G) (cI cB : ClassId) (sz : Nat) (h0 : Nat) (tp : Nat) (tw : Nat) (nw : Nat) (kp : Nat) (lw : Nat) (lr : Nat) (dd : Nat) (vv : Nat) (tl : Nat) (sc : Nat) (u2 : Nat) (f2 : Nat) (g2 : Nat) (ff2 : Nat → Int32) (fg2 : Nat → Int32) (hf : ∀ j, j < 10 → ff2 j = -2) (hg : ∀ j, j < 10 → fg2 j = -2) : MI (S := Unit) l D cI cB yX9_home cX9_home 2 .int (rm 2 43) [.ref h0] [(h0, .inr (9, [.ref tp, .ref tw, .ref nw, .ref kp, .ref lw, .ref lr, .ref dd, .ref vv, .ref tl, .ref sc, .int 0])), (nw, .inr (4, [.ref u2, .ref f2, .ref g2, .int 0, .int 0, .int 1])), (f2, .inl (cI, 10, .inl ff2)), (g2, .inl (cI, 10, .inl fg2))] sz (fun r u => r = 0) (fun u : Unit => []) := by
  refine MI.of (by decide) (Nat.le_of_ble_eq_true rfl) ?_
  intro p e s m below meth c Q ls A X hin hN hP hK hD hA hl ret
  have hS : va_S A s.heap s.heap [] := va_S.rf
  obtain ⟨hx, hb, hml, hown, htb⟩ := id X
  have hl : lv_has ls 2 [(0, .ref h0)] := hl
  refine lv_aload_n hx hb dX9_home_0 rfl (lv_at hl 0 rfl) ?_
  refine va_get (D := D) (ci := 9) (v := .ref nw) (C := RX9) (T := TX9) (N := 11) hx hb htb itX9 hown hK hP 0 rfl rfl 2 (by decide) (htb _ k_395) (fun _ h9 => h9) rfl dX9_home_1 ?_
  refine cVR (As := []) (rest := []) (n := 0) (ci := 4) (q0 := 0) X hN hK hP (c_X4_leaveBits l D cI cB nw u2 f2 g2 0 0 1 ff2 hf) (gV k_746 k_747 k_748 k_95 k_749) (by decide +kernel) ⟨Nat.le_of_ble_eq_true rfl, Nat.le_of_ble_eq_true rfl⟩ ⟨rfl, rfl⟩ [1, 2] rfl rfl rfl rfl rfl rfl hl.1 (Nat.le_of_ble_eq_true rfl) dX9_home_4 ⟨Nat.le_of_ble_eq_true rfl, Nat.le_of_ble_eq_true rfl⟩ (fun r_1 hr_1 => ?_)
  subst hr_1
  refine cSR (As := [.int 0]) (rest := []) (n := 1) X hN hK hP (c_J6_bitCount_0f7a4 l D cI cB 0) k_754 k_755 k_111 k_756 (by decide +kernel) ⟨Nat.le_of_ble_eq_true rfl, Nat.le_of_ble_eq_true rfl⟩ ⟨rfl, rfl⟩ [] rfl rfl rfl hl.1 (Nat.le_of_ble_eq_true rfl) dX9_home_7 ⟨Nat.le_of_ble_eq_true rfl, Nat.le_of_ble_eq_true rfl⟩ (fun rb hrb => ?_)
  refine lv_istore_n (lv' := [(1, .int rb), (0, .ref h0)]) hx hb dX9_home_10 rfl hl (by decide) rfl (fun ls hl => ?_)
  refine lv_aload_n hx hb dX9_home_11 rfl (lv_at hl 1 rfl) ?_
  refine va_get (D := D) (ci := 9) (v := .ref nw) (C := RX9) (T := TX9) (N := 11) hx hb htb itX9 hown hK hP 0 rfl rfl 2 (by decide) (htb _ k_395) (fun _ h9 => h9) rfl dX9_home_12 ?_
  refine lv_sipush (v := 1023) hx hb dX9_home_15 (by decide) ?_
  refine cVV (As := [.int 1023]) (rest := []) (n := 1) (ci := 4) (q0 := 0) (wr := [(h0, .inr (9, [.ref tp, .ref tw, .ref nw, .ref kp, .ref lw, .ref lr, .ref dd, .ref vv, .ref tl, .ref sc, .int 0]))]) X hN hK hP hD hS hA (c_X4_endLeaves l D cI cB _ nw u2 f2 g2 0 0 1 1023 ff2 fg2 hf hg) (gV k_760 k_734 k_735 k_95 k_736) (by decide +kernel) ⟨Nat.le_of_ble_eq_true rfl, Nat.le_of_ble_eq_true rfl⟩ ⟨rfl, rfl⟩ [1, 2, 3] [0] rfl rfl (by decide) (by decide) rfl rfl rfl rfl rfl hl.1 (Nat.le_of_ble_eq_true rfl) dX9_home_18 ⟨Nat.le_of_ble_eq_true rfl, Nat.le_of_ble_eq_true rfl⟩ (fun u H locs hw_5 hP hD hS => ?_)
  obtain ⟨fo_3, go_4⟩ := u
  try dsimp only at hw_5
  have hP : va_P D vwCl [(h0, .inr (9, [.ref tp, .ref tw, .ref nw, .ref kp, .ref lw, .ref lr, .ref dd, .ref vv, .ref tl, .ref sc, .int 0])), (nw, .inr (4, [.ref u2, .ref f2, .ref g2, .int 0, .int 0, .int 1])), (f2, .inl (cI, 10, .inl fo_3)), (g2, .inl (cI, 10, .inl go_4))] H := hP
  have hD : va_D A [(h0, .inr (9, [.ref tp, .ref tw, .ref nw, .ref kp, .ref lw, .ref lr, .ref dd, .ref vv, .ref tl, .ref sc, .int 0])), (nw, .inr (4, [.ref u2, .ref f2, .ref g2, .int 0, .int 0, .int 1])), (f2, .inl (cI, 10, .inl fo_3)), (g2, .inl (cI, 10, .inl go_4))] := hD
  refine lv_iload_n hx hb dX9_home_21 rfl (lv_at hl 0 rfl) ?_
  exact ret _ _ _ _ rb () dX9_home_22 rfl (hrb rfl) (hP.sub [] rfl) (hD.sub [] (by decide) rfl) hS

set_option maxRecDepth 100000 in
set_option maxHeartbeats 4000000 in
theorem c_X9_days (l : Launch) (D : va_G) (cI cB : ClassId) (sz : Nat) (h0 : Nat) (tp : Nat) (tw : Nat) (nw : Nat) (kp : Nat) (lw : Nat) (lr : Nat) (dd : Nat) (vv : Nat) (tl : Nat) (sc : Nat) (t1 : Nat) (t2 : Nat) (t3 : Nat) (t4 : Nat) (u2 : Nat) (f2 : Nat) (g2 : Nat) (fu2 : Nat → Int32) (ff2 : Nat → Int32) (fg2 : Nat → Int32) (l1 : Nat) (l2 : Nat) (l3 : Nat) (l4 : Nat) (l5 : Nat) (l6 : Nat) (l7 : Nat) (lz : Int32) (lc : Int32) (fl : Nat → Int32) (st : Nat) (m1 : Nat) (c1 : Nat) (d1 : Nat) (idl : Int32) (idf : Int32) (idt : Int32) (fc : Int32) (fp : Int32) (mb : Int32) (ra : Int32) (cl : Int32) (u1 : Nat) (f1 : Nat) (g1 : Nat) (ms : Int32) (dy : Int32) (dr : Int32) (fu : Nat → Int32) (ff : Nat → Int32) (fg : Nat → Int32) (fm : Nat → Int32) (fc1 : Nat → Int32) (fd : Nat → Int32) (x1 : Int32) (hu : ∀ j, j < 12 → fu2 j = 0) (hf : ∀ j, j < 10 → ff2 j = -2) (hg : ∀ j, j < 10 → fg2 j = -2) : MI (S := Unit) l D cI cB yX9_days cX9_days 3 .int (rm 4 102) [.ref h0, .int x1] [(h0, .inr (9, [.ref tp, .ref tw, .ref nw, .ref kp, .ref lw, .ref lr, .ref dd, .ref vv, .ref tl, .ref sc, .int 0])), (tw, .inr (7, [.int 0, .int 0, .int 0, .ref t1, .ref t2, .ref t3, .ref t4])), (nw, .inr (4, [.ref u2, .ref f2, .ref g2, .int 0, .int 0, .int 1])), (u2, .inl (cI, 12, .inl fu2)), (f2, .inl (cI, 10, .inl ff2)), (g2, .inl (cI, 10, .inl fg2)), (lw, .inr (1, [.ref l1, .ref l2, .ref l3, .ref l4, .ref l5, .ref l6, .ref l7, .int lz, .int lc])), (l6, .inl (cI, 8, .inl fl)), (tl, .inr (8, [.ref tw, .ref lw, .ref st, .ref m1, .ref c1, .ref d1, .int idl, .int idf, .int idt, .int fc, .int fp, .int mb, .int ra, .int cl])), (st, .inr (4, [.ref u1, .ref f1, .ref g1, .int ms, .int dy, .int dr])), (u1, .inl (cI, 12, .inl fu)), (f1, .inl (cI, 10, .inl ff)), (g1, .inl (cI, 10, .inl fg)), (m1, .inl (cI, 10, .inl fm)), (c1, .inl (cI, 10, .inl fc1)), (d1, .inl (cI, 10, .inl fd))] sz (fun r u => r = iI (1 ≤ x1 ∧ x1 ≤ 60) 0 (-1)) (fun u : Unit => []) := by
  refine MI.of (by decide) (Nat.le_of_ble_eq_true rfl) ?_
  intro p e s m below meth c Q ls A X hin hN hP hK hD hA hl ret
  have hS : va_S A s.heap s.heap [] := va_S.rf
  obtain ⟨hx, hb, hml, hown, htb⟩ := id X
  have hl : lv_has ls 3 [(0, .ref h0), (1, .int x1)] := hl
  refine lv_iload_n hx hb dX9_days_0 rfl (lv_at hl 1 rfl) ?_
  refine cSR (As := [.int x1]) (rest := []) (n := 1) X hN hK hP (c_X9_isDayCount l D cI cB x1) k_770 k_771 k_92 k_772 (by decide +kernel) ⟨Nat.le_of_ble_eq_true rfl, Nat.le_of_ble_eq_true rfl⟩ ⟨rfl, rfl⟩ [] rfl rfl rfl hl.1 (Nat.le_of_ble_eq_true rfl) dX9_days_1 ⟨Nat.le_of_ble_eq_true rfl, Nat.le_of_ble_eq_true rfl⟩ (fun r_1 hr_1 => ?_)
  subst hr_1
  refine lv_if_ne (tgt := 9) hx hb dX9_days_4 (by decide) (fun c_4 => ?_) (fun c_4 => ?_)
  · obtain ⟨N, hN0, en⟩ := dcN (k := 60) (by decide) (bIt c_4)
    refine lv_aload_n hx hb dX9_days_9 rfl (lv_at hl 0 rfl) ?_
    refine va_get (D := D) (ci := 9) (v := .ref tl) (C := RX9) (T := TX9) (N := 11) hx hb htb itX9 hown hK hP 0 rfl rfl 8 (by decide) (htb _ k_401) (fun _ h9 => h9) rfl dX9_days_10 ?_
    refine lv_aload_n hx hb dX9_days_13 rfl (lv_at hl 0 rfl) ?_
    refine va_get (D := D) (ci := 9) (v := .ref nw) (C := RX9) (T := TX9) (N := 11) hx hb htb itX9 hown hK hP 0 rfl rfl 2 (by decide) (htb _ k_395) (fun _ h9 => h9) rfl dX9_days_14 ?_
    refine cVV (As := [.ref nw]) (rest := []) (n := 1) (ci := 8) (q0 := 0) (wr := [(h0, .inr (9, [.ref tp, .ref tw, .ref nw, .ref kp, .ref lw, .ref lr, .ref dd, .ref vv, .ref tl, .ref sc, .int 0])), (tw, .inr (7, [.int 0, .int 0, .int 0, .ref t1, .ref t2, .ref t3, .ref t4])), (lw, .inr (1, [.ref l1, .ref l2, .ref l3, .ref l4, .ref l5, .ref l6, .ref l7, .int lz, .int lc])), (l6, .inl (cI, 8, .inl fl)), (c1, .inl (cI, 10, .inl fc1))]) X hN hK hP hD hS hA (c_X8_begin l D cI cB _ tl tw lw st m1 c1 d1 idl idf idt fc fp mb ra cl u1 f1 g1 ms dy dr nw u2 f2 g2 1 fu ff fg fm fd fu2 ff2 fg2 hu hf hg) (gV k_773 k_774 k_775 k_102 k_776) (by decide +kernel) ⟨Nat.le_of_ble_eq_true rfl, Nat.le_of_ble_eq_true rfl⟩ ⟨rfl, rfl⟩ [8, 9, 10, 11, 12, 13, 15, 2, 3, 4, 5] [0, 1, 6, 7, 14] rfl rfl (by decide) (by decide) rfl rfl rfl rfl rfl hl.1 (Nat.le_of_ble_eq_true rfl) dX9_days_17 ⟨Nat.le_of_ble_eq_true rfl, Nat.le_of_ble_eq_true rfl⟩ (fun u H locs hw_8 hP hD hS => ?_)
    obtain ⟨uo_3, fo_4, go_5, mo_6, do__7⟩ := u
    try dsimp only at hw_8
    have hP : va_P D vwCl [(h0, .inr (9, [.ref tp, .ref tw, .ref nw, .ref kp, .ref lw, .ref lr, .ref dd, .ref vv, .ref tl, .ref sc, .int 0])), (tw, .inr (7, [.int 0, .int 0, .int 0, .ref t1, .ref t2, .ref t3, .ref t4])), (lw, .inr (1, [.ref l1, .ref l2, .ref l3, .ref l4, .ref l5, .ref l6, .ref l7, .int lz, .int lc])), (l6, .inl (cI, 8, .inl fl)), (c1, .inl (cI, 10, .inl fc1)), (tl, .inr (8, [.ref tw, .ref lw, .ref st, .ref m1, .ref c1, .ref d1, .int (-1), .int idf, .int idt, .int (-1), .int fp, .int 0, .int 0, .int 0])), (st, .inr (4, [.ref u1, .ref f1, .ref g1, .int 0, .int 0, .int 1])), (u1, .inl (cI, 12, .inl uo_3)), (f1, .inl (cI, 10, .inl fo_4)), (g1, .inl (cI, 10, .inl go_5)), (m1, .inl (cI, 10, .inl mo_6)), (d1, .inl (cI, 10, .inl do__7)), (nw, .inr (4, [.ref u2, .ref f2, .ref g2, .int 0, .int 0, .int 1])), (u2, .inl (cI, 12, .inl fu2)), (f2, .inl (cI, 10, .inl ff2)), (g2, .inl (cI, 10, .inl fg2))] H := hP
    have hD : va_D A [(h0, .inr (9, [.ref tp, .ref tw, .ref nw, .ref kp, .ref lw, .ref lr, .ref dd, .ref vv, .ref tl, .ref sc, .int 0])), (tw, .inr (7, [.int 0, .int 0, .int 0, .ref t1, .ref t2, .ref t3, .ref t4])), (lw, .inr (1, [.ref l1, .ref l2, .ref l3, .ref l4, .ref l5, .ref l6, .ref l7, .int lz, .int lc])), (l6, .inl (cI, 8, .inl fl)), (c1, .inl (cI, 10, .inl fc1)), (tl, .inr (8, [.ref tw, .ref lw, .ref st, .ref m1, .ref c1, .ref d1, .int (-1), .int idf, .int idt, .int (-1), .int fp, .int 0, .int 0, .int 0])), (st, .inr (4, [.ref u1, .ref f1, .ref g1, .int 0, .int 0, .int 1])), (u1, .inl (cI, 12, .inl uo_3)), (f1, .inl (cI, 10, .inl fo_4)), (g1, .inl (cI, 10, .inl go_5)), (m1, .inl (cI, 10, .inl mo_6)), (d1, .inl (cI, 10, .inl do__7)), (nw, .inr (4, [.ref u2, .ref f2, .ref g2, .int 0, .int 0, .int 1])), (u2, .inl (cI, 12, .inl fu2)), (f2, .inl (cI, 10, .inl ff2)), (g2, .inl (cI, 10, .inl fg2))] := hD
    refine lv_aload_n hx hb dX9_days_20 rfl (lv_at hl 0 rfl) ?_
    refine va_get (D := D) (ci := 9) (v := .ref tl) (C := RX9) (T := TX9) (N := 11) hx hb htb itX9 hown hK hP 0 rfl rfl 8 (by decide) (htb _ k_401) (fun _ h9 => h9) rfl dX9_days_21 ?_
    refine lv_iload_n hx hb dX9_days_24 rfl (lv_at hl 1 rfl) ?_
    refine tv (z := nI N) en ?_
    refine lv_ldc (v := 2147483647) hx hb hown (htb _ k_783) dX9_days_25 ?_
    refine cVI (As := [.int (nI N), .int 2147483647]) (rest := []) (n := 2) (ci := 8) (q0 := 0) (wr := [(h0, .inr (9, [.ref tp, .ref tw, .ref nw, .ref kp, .ref lw, .ref lr, .ref dd, .ref vv, .ref tl, .ref sc, .int 0])), (u1, .inl (cI, 12, .inl uo_3)), (m1, .inl (cI, 10, .inl mo_6)), (d1, .inl (cI, 10, .inl do__7)), (nw, .inr (4, [.ref u2, .ref f2, .ref g2, .int 0, .int 0, .int 1])), (u2, .inl (cI, 12, .inl fu2)), (f2, .inl (cI, 10, .inl ff2)), (g2, .inl (cI, 10, .inl fg2))]) X hN hK hP hD hS hA (c_X8_run l D cI cB _ tl tw lw st m1 c1 d1 (-1) idf idt (-1) fp l1 l2 l3 l4 l5 l6 l7 lz lc t1 t2 t3 t4 u1 f1 g1 N 2147483647 1 fl fo_4 go_5 fc1 hN0 (by decide) hw_8.2.2.1) (gV k_784 k_785 k_786 k_102 k_787) (by decide +kernel) ⟨Nat.le_of_ble_eq_true rfl, Nat.le_of_ble_eq_true rfl⟩ ⟨rfl, rfl⟩ [5, 1, 2, 3, 6, 8, 9, 4] [0, 7, 10, 11, 12, 13, 14, 15] rfl rfl (by decide) (by decide) rfl rfl rfl rfl rfl hl.1 (Nat.le_of_ble_eq_true rfl) dX9_days_27 ⟨Nat.le_of_ble_eq_true rfl, Nat.le_of_ble_eq_true rfl⟩ (fun r_9 u H locs hw_14 hP hD hS => ?_)
    obtain ⟨jo_10, ko_11, lo_12, co_13⟩ := u
    try dsimp only at hw_14
    have hP : va_P D vwCl [(h0, .inr (9, [.ref tp, .ref tw, .ref nw, .ref kp, .ref lw, .ref lr, .ref dd, .ref vv, .ref tl, .ref sc, .int 0])), (u1, .inl (cI, 12, .inl uo_3)), (m1, .inl (cI, 10, .inl mo_6)), (d1, .inl (cI, 10, .inl do__7)), (nw, .inr (4, [.ref u2, .ref f2, .ref g2, .int 0, .int 0, .int 1])), (u2, .inl (cI, 12, .inl fu2)), (f2, .inl (cI, 10, .inl ff2)), (g2, .inl (cI, 10, .inl fg2)), (tl, .inr (8, [.ref tw, .ref lw, .ref st, .ref m1, .ref c1, .ref d1, .int (-1), .int idf, .int idt, .int (-1), .int fp, .int 0, .int 0, .int (nI jo_10)])), (tw, .inr (7, [.int 0, .int 0, .int 0, .ref t1, .ref t2, .ref t3, .ref t4])), (lw, .inr (1, [.ref l1, .ref l2, .ref l3, .ref l4, .ref l5, .ref l6, .ref l7, .int lz, .int lc])), (l6, .inl (cI, 8, .inl lo_12)), (st, .inr (4, [.ref u1, .ref f1, .ref g1, .int 0, .int (nI jo_10), .int (nI ko_11)])), (f1, .inl (cI, 10, .inl fo_4)), (g1, .inl (cI, 10, .inl go_5)), (c1, .inl (cI, 10, .inl co_13))] H := hP
    have hD : va_D A [(h0, .inr (9, [.ref tp, .ref tw, .ref nw, .ref kp, .ref lw, .ref lr, .ref dd, .ref vv, .ref tl, .ref sc, .int 0])), (u1, .inl (cI, 12, .inl uo_3)), (m1, .inl (cI, 10, .inl mo_6)), (d1, .inl (cI, 10, .inl do__7)), (nw, .inr (4, [.ref u2, .ref f2, .ref g2, .int 0, .int 0, .int 1])), (u2, .inl (cI, 12, .inl fu2)), (f2, .inl (cI, 10, .inl ff2)), (g2, .inl (cI, 10, .inl fg2)), (tl, .inr (8, [.ref tw, .ref lw, .ref st, .ref m1, .ref c1, .ref d1, .int (-1), .int idf, .int idt, .int (-1), .int fp, .int 0, .int 0, .int (nI jo_10)])), (tw, .inr (7, [.int 0, .int 0, .int 0, .ref t1, .ref t2, .ref t3, .ref t4])), (lw, .inr (1, [.ref l1, .ref l2, .ref l3, .ref l4, .ref l5, .ref l6, .ref l7, .int lz, .int lc])), (l6, .inl (cI, 8, .inl lo_12)), (st, .inr (4, [.ref u1, .ref f1, .ref g1, .int 0, .int (nI jo_10), .int (nI ko_11)])), (f1, .inl (cI, 10, .inl fo_4)), (g1, .inl (cI, 10, .inl go_5)), (c1, .inl (cI, 10, .inl co_13))] := hD
    refine lv_istore_n (lv' := [(2, .int r_9), (0, .ref h0), (1, .int x1)]) hx hb dX9_days_30 rfl hl (by decide) rfl (fun ls hl => ?_)
    refine lv_aload_n hx hb dX9_days_31 rfl (lv_at hl 1 rfl) ?_
    refine va_get (D := D) (ci := 9) (v := .ref nw) (C := RX9) (T := TX9) (N := 11) hx hb htb itX9 hown hK hP 0 rfl rfl 2 (by decide) (htb _ k_395) (fun _ h9 => h9) rfl dX9_days_32 ?_
    refine lv_aload_n hx hb dX9_days_35 rfl (lv_at hl 1 rfl) ?_
    refine va_get (D := D) (ci := 9) (v := .ref tl) (C := RX9) (T := TX9) (N := 11) hx hb htb itX9 hown hK hP 0 rfl rfl 8 (by decide) (htb _ k_401) (fun _ h9 => h9) rfl dX9_days_36 ?_
    refine va_getN (D := D) (ci := 8) (v := .ref st) (C := RX8) (T := TX8) (N := 14) hx hb htb itX8 hown hK hP 8 rfl rfl 2 (by decide) (va_Nw.use rfl (hN _ n_348 rfl)) (fun _ h9 => h9) rfl dX9_days_39 ?_
    refine cVV (As := [.ref st]) (rest := []) (n := 1) (ci := 4) (q0 := 0) (wr := [(h0, .inr (9, [.ref tp, .ref tw, .ref nw, .ref kp, .ref lw, .ref lr, .ref dd, .ref vv, .ref tl, .ref sc, .int 0])), (m1, .inl (cI, 10, .inl mo_6)), (d1, .inl (cI, 10, .inl do__7)), (tl, .inr (8, [.ref tw, .ref lw, .ref st, .ref m1, .ref c1, .ref d1, .int (-1), .int idf, .int idt, .int (-1), .int fp, .int 0, .int 0, .int (nI jo_10)])), (tw, .inr (7, [.int 0, .int 0, .int 0, .ref t1, .ref t2, .ref t3, .ref t4])), (lw, .inr (1, [.ref l1, .ref l2, .ref l3, .ref l4, .ref l5, .ref l6, .ref l7, .int lz, .int lc])), (l6, .inl (cI, 8, .inl lo_12)), (c1, .inl (cI, 10, .inl co_13))]) X hN hK hP hD hS hA (c_X4_copy l D cI cB _ nw u2 f2 g2 0 0 1 st u1 f1 g1 0 (nI jo_10) (nI ko_11) fu2 ff2 fg2 uo_3 fo_4 go_5 hw_8.1 hw_8.2.1 hw_8.2.2.1) (gV k_849 k_778 k_779 k_95 k_780) (by decide +kernel) ⟨Nat.le_of_ble_eq_true rfl, Nat.le_of_ble_eq_true rfl⟩ ⟨rfl, rfl⟩ [4, 5, 6, 7, 12, 1, 13, 14] [0, 2, 3, 8, 9, 10, 11, 15] rfl rfl (by decide) (by decide) rfl rfl rfl rfl rfl hl.1 (Nat.le_of_ble_eq_true rfl) dX9_days_42 ⟨Nat.le_of_ble_eq_true rfl, Nat.le_of_ble_eq_true rfl⟩ (fun u H locs hw_19 hP hD hS => ?_)
    obtain ⟨uo_16, fo_17, go_18⟩ := u
    try dsimp only at hw_19
    have hP : va_P D vwCl [(h0, .inr (9, [.ref tp, .ref tw, .ref nw, .ref kp, .ref lw, .ref lr, .ref dd, .ref vv, .ref tl, .ref sc, .int 0])), (m1, .inl (cI, 10, .inl mo_6)), (d1, .inl (cI, 10, .inl do__7)), (tl, .inr (8, [.ref tw, .ref lw, .ref st, .ref m1, .ref c1, .ref d1, .int (-1), .int idf, .int idt, .int (-1), .int fp, .int 0, .int 0, .int (nI jo_10)])), (tw, .inr (7, [.int 0, .int 0, .int 0, .ref t1, .ref t2, .ref t3, .ref t4])), (lw, .inr (1, [.ref l1, .ref l2, .ref l3, .ref l4, .ref l5, .ref l6, .ref l7, .int lz, .int lc])), (l6, .inl (cI, 8, .inl lo_12)), (c1, .inl (cI, 10, .inl co_13)), (nw, .inr (4, [.ref u2, .ref f2, .ref g2, .int 0, .int (nI jo_10), .int (nI ko_11)])), (u2, .inl (cI, 12, .inl uo_16)), (f2, .inl (cI, 10, .inl fo_17)), (g2, .inl (cI, 10, .inl go_18)), (st, .inr (4, [.ref u1, .ref f1, .ref g1, .int 0, .int (nI jo_10), .int (nI ko_11)])), (u1, .inl (cI, 12, .inl uo_3)), (f1, .inl (cI, 10, .inl fo_4)), (g1, .inl (cI, 10, .inl go_5))] H := hP
    have hD : va_D A [(h0, .inr (9, [.ref tp, .ref tw, .ref nw, .ref kp, .ref lw, .ref lr, .ref dd, .ref vv, .ref tl, .ref sc, .int 0])), (m1, .inl (cI, 10, .inl mo_6)), (d1, .inl (cI, 10, .inl do__7)), (tl, .inr (8, [.ref tw, .ref lw, .ref st, .ref m1, .ref c1, .ref d1, .int (-1), .int idf, .int idt, .int (-1), .int fp, .int 0, .int 0, .int (nI jo_10)])), (tw, .inr (7, [.int 0, .int 0, .int 0, .ref t1, .ref t2, .ref t3, .ref t4])), (lw, .inr (1, [.ref l1, .ref l2, .ref l3, .ref l4, .ref l5, .ref l6, .ref l7, .int lz, .int lc])), (l6, .inl (cI, 8, .inl lo_12)), (c1, .inl (cI, 10, .inl co_13)), (nw, .inr (4, [.ref u2, .ref f2, .ref g2, .int 0, .int (nI jo_10), .int (nI ko_11)])), (u2, .inl (cI, 12, .inl uo_16)), (f2, .inl (cI, 10, .inl fo_17)), (g2, .inl (cI, 10, .inl go_18)), (st, .inr (4, [.ref u1, .ref f1, .ref g1, .int 0, .int (nI jo_10), .int (nI ko_11)])), (u1, .inl (cI, 12, .inl uo_3)), (f1, .inl (cI, 10, .inl fo_4)), (g1, .inl (cI, 10, .inl go_5))] := hD
    refine lv_iload_n hx hb dX9_days_45 rfl (lv_at hl 0 rfl) ?_
    exact ret _ _ _ _ r_9 () dX9_days_46 rfl (hw_14.1.trans (iI1 (bIt c_4))) (hP.sub [] rfl) (hD.sub [] (by decide) rfl) hS
  · refine lv_iconst (v := (-1)) hx hb dX9_days_7 (by decide) ?_
    exact ret _ _ _ _ (-1) () dX9_days_8 rfl (iI0 (bIf c_4)) (hP.sub [] rfl) (hD.sub [] (by decide) rfl) hS

set_option maxRecDepth 100000 in
set_option maxHeartbeats 4000000 in
theorem c_X9_tried (l : Launch) (D : va_G) (cI cB : ClassId) (sz : Nat) (h0 : Nat) (tp : Nat) (tw : Nat) (nw : Nat) (kp : Nat) (lw : Nat) (lr : Nat) (dd : Nat) (vv : Nat) (tl : Nat) (sc : Nat) (t1 : Nat) (t2 : Nat) (t3 : Nat) (t4 : Nat) (u2 : Nat) (f2 : Nat) (g2 : Nat) (fu2 : Nat → Int32) (ff2 : Nat → Int32) (fg2 : Nat → Int32) (l1 : Nat) (l2 : Nat) (l3 : Nat) (l4 : Nat) (l5 : Nat) (l6 : Nat) (l7 : Nat) (lz : Int32) (lc : Int32) (fl : Nat → Int32) (st : Nat) (m1 : Nat) (c1 : Nat) (d1 : Nat) (idl : Int32) (idf : Int32) (idt : Int32) (fc : Int32) (fp : Int32) (mb : Int32) (ra : Int32) (cl : Int32) (u1 : Nat) (f1 : Nat) (g1 : Nat) (ms : Int32) (dy : Int32) (dr : Int32) (fu : Nat → Int32) (ff : Nat → Int32) (fg : Nat → Int32) (fm : Nat → Int32) (fc1 : Nat → Int32) (fd : Nat → Int32) (x1 : Int32) (x2 : Int32) (hu : ∀ j, j < 12 → fu2 j = 0) (hf : ∀ j, j < 10 → ff2 j = -2) (hg : ∀ j, j < 10 → fg2 j = -2) : MI (S := Unit) l D cI cB yX9_tried cX9_tried 5 .int (rm 4 102) [.ref h0, .int x1, .int x2] [(h0, .inr (9, [.ref tp, .ref tw, .ref nw, .ref kp, .ref lw, .ref lr, .ref dd, .ref vv, .ref tl, .ref sc, .int 0])), (tw, .inr (7, [.int 0, .int 0, .int 0, .ref t1, .ref t2, .ref t3, .ref t4])), (nw, .inr (4, [.ref u2, .ref f2, .ref g2, .int 0, .int 0, .int 1])), (u2, .inl (cI, 12, .inl fu2)), (f2, .inl (cI, 10, .inl ff2)), (g2, .inl (cI, 10, .inl fg2)), (lw, .inr (1, [.ref l1, .ref l2, .ref l3, .ref l4, .ref l5, .ref l6, .ref l7, .int lz, .int lc])), (l6, .inl (cI, 8, .inl fl)), (tl, .inr (8, [.ref tw, .ref lw, .ref st, .ref m1, .ref c1, .ref d1, .int idl, .int idf, .int idt, .int fc, .int fp, .int mb, .int ra, .int cl])), (st, .inr (4, [.ref u1, .ref f1, .ref g1, .int ms, .int dy, .int dr])), (u1, .inl (cI, 12, .inl fu)), (f1, .inl (cI, 10, .inl ff)), (g1, .inl (cI, 10, .inl fg)), (m1, .inl (cI, 10, .inl fm)), (c1, .inl (cI, 10, .inl fc1)), (d1, .inl (cI, 10, .inl fd))] sz (fun r u => r = iI ((1 ≤ x1 ∧ x1 ≤ 60) ∧ (0 ≤ x2 ∧ x2 ≤ 4)) (iI (x2 = 4) x1 0) (-1)) (fun u : Unit => []) := by
  refine MI.of (by decide) (Nat.le_of_ble_eq_true rfl) ?_
  intro p e s m below meth c Q ls A X hin hN hP hK hD hA hl ret
  have hS : va_S A s.heap s.heap [] := va_S.rf
  obtain ⟨hx, hb, hml, hown, htb⟩ := id X
  have hl : lv_has ls 5 [(0, .ref h0), (1, .int x1), (2, .int x2)] := hl
  refine lv_iload_n hx hb dX9_tried_0 rfl (lv_at hl 2 rfl) ?_
  refine lv_iconst (v := 0) hx hb dX9_tried_1 (by decide) ?_
  refine lv_iconst (v := 4) hx hb dX9_tried_2 (by decide) ?_
  refine cSR (As := [.int x2, .int 0, .int 4]) (rest := []) (n := 3) X hN hK hP (c_X9_within l D cI cB x2 0 4) k_431 k_432 k_92 k_433 (by decide +kernel) ⟨Nat.le_of_ble_eq_true rfl, Nat.le_of_ble_eq_true rfl⟩ ⟨rfl, rfl⟩ [] rfl rfl rfl hl.1 (Nat.le_of_ble_eq_true rfl) dX9_tried_3 ⟨Nat.le_of_ble_eq_true rfl, Nat.le_of_ble_eq_true rfl⟩ (fun r_1 hr_1 => ?_)
  subst hr_1
  refine lv_if_ne (tgt := 37) hx hb dX9_tried_6 (by decide) (fun c_6 => ?_) (fun c_6 => ?_)
  · refine lv_iconst (v := 1) hx hb dX9_tried_37 (by decide) ?_
    refine lv_goto (tgt := 42) hx hb dX9_tried_38 (by decide) ?_
    refine lv_istore_n (lv' := [(3, .int 1), (0, .ref h0), (1, .int x1), (2, .int x2)]) hx hb dX9_tried_42 rfl hl (by decide) rfl (fun ls hl => ?_)
    refine lv_iload_n hx hb dX9_tried_43 rfl (lv_at hl 2 rfl) ?_
    refine cSR (As := [.int x1]) (rest := []) (n := 1) X hN hK hP (c_X9_isDayCount l D cI cB x1) k_770 k_771 k_92 k_772 (by decide +kernel) ⟨Nat.le_of_ble_eq_true rfl, Nat.le_of_ble_eq_true rfl⟩ ⟨rfl, rfl⟩ [] rfl rfl rfl hl.1 (Nat.le_of_ble_eq_true rfl) dX9_tried_44 ⟨Nat.le_of_ble_eq_true rfl, Nat.le_of_ble_eq_true rfl⟩ (fun r_2 hr_2 => ?_)
    subst hr_2
    refine lv_if_eq (tgt := 54) hx hb dX9_tried_47 (by decide) (fun c_47 => ?_) (fun c_47 => ?_)
    · refine lv_iconst (v := (-1)) hx hb dX9_tried_54 (by decide) ?_
      exact ret _ _ _ _ (-1) () dX9_tried_55 rfl (iI0 (fun h => bIf c_47 h.1)) (hP.sub [] rfl) (hD.sub [] (by decide) rfl) hS
    · refine lv_iload_n hx hb dX9_tried_50 rfl (lv_at hl 0 rfl) ?_
      refine lv_if_ne (tgt := 56) hx hb dX9_tried_51 (by decide) (fun _ => ?_) (fun c_51 => absurd c_51 (by decide))
      obtain ⟨N, hN0, en⟩ := dcN (k := 60) (by decide) (bIt c_47)
      refine lv_aload_n hx hb dX9_tried_56 rfl (lv_at hl 1 rfl) ?_
      refine va_get (D := D) (ci := 9) (v := .ref tl) (C := RX9) (T := TX9) (N := 11) hx hb htb itX9 hown hK hP 0 rfl rfl 8 (by decide) (htb _ k_401) (fun _ h9 => h9) rfl dX9_tried_57 ?_
      refine lv_aload_n hx hb dX9_tried_60 rfl (lv_at hl 1 rfl) ?_
      refine va_get (D := D) (ci := 9) (v := .ref nw) (C := RX9) (T := TX9) (N := 11) hx hb htb itX9 hown hK hP 0 rfl rfl 2 (by decide) (htb _ k_395) (fun _ h9 => h9) rfl dX9_tried_61 ?_
      refine cVV (As := [.ref nw]) (rest := []) (n := 1) (ci := 8) (q0 := 0) (wr := [(h0, .inr (9, [.ref tp, .ref tw, .ref nw, .ref kp, .ref lw, .ref lr, .ref dd, .ref vv, .ref tl, .ref sc, .int 0])), (tw, .inr (7, [.int 0, .int 0, .int 0, .ref t1, .ref t2, .ref t3, .ref t4])), (lw, .inr (1, [.ref l1, .ref l2, .ref l3, .ref l4, .ref l5, .ref l6, .ref l7, .int lz, .int lc])), (l6, .inl (cI, 8, .inl fl)), (c1, .inl (cI, 10, .inl fc1))]) X hN hK hP hD hS hA (c_X8_begin l D cI cB _ tl tw lw st m1 c1 d1 idl idf idt fc fp mb ra cl u1 f1 g1 ms dy dr nw u2 f2 g2 1 fu ff fg fm fd fu2 ff2 fg2 hu hf hg) (gV k_773 k_774 k_775 k_102 k_776) (by decide +kernel) ⟨Nat.le_of_ble_eq_true rfl, Nat.le_of_ble_eq_true rfl⟩ ⟨rfl, rfl⟩ [8, 9, 10, 11, 12, 13, 15, 2, 3, 4, 5] [0, 1, 6, 7, 14] rfl rfl (by decide) (by decide) rfl rfl rfl rfl rfl hl.1 (Nat.le_of_ble_eq_true rfl) dX9_tried_64 ⟨Nat.le_of_ble_eq_true rfl, Nat.le_of_ble_eq_true rfl⟩ (fun u H locs hw_9 hP hD hS => ?_)
      obtain ⟨uo_4, fo_5, go_6, mo_7, do__8⟩ := u
      try dsimp only at hw_9
      have hP : va_P D vwCl [(h0, .inr (9, [.ref tp, .ref tw, .ref nw, .ref kp, .ref lw, .ref lr, .ref dd, .ref vv, .ref tl, .ref sc, .int 0])), (tw, .inr (7, [.int 0, .int 0, .int 0, .ref t1, .ref t2, .ref t3, .ref t4])), (lw, .inr (1, [.ref l1, .ref l2, .ref l3, .ref l4, .ref l5, .ref l6, .ref l7, .int lz, .int lc])), (l6, .inl (cI, 8, .inl fl)), (c1, .inl (cI, 10, .inl fc1)), (tl, .inr (8, [.ref tw, .ref lw, .ref st, .ref m1, .ref c1, .ref d1, .int (-1), .int idf, .int idt, .int (-1), .int fp, .int 0, .int 0, .int 0])), (st, .inr (4, [.ref u1, .ref f1, .ref g1, .int 0, .int 0, .int 1])), (u1, .inl (cI, 12, .inl uo_4)), (f1, .inl (cI, 10, .inl fo_5)), (g1, .inl (cI, 10, .inl go_6)), (m1, .inl (cI, 10, .inl mo_7)), (d1, .inl (cI, 10, .inl do__8)), (nw, .inr (4, [.ref u2, .ref f2, .ref g2, .int 0, .int 0, .int 1])), (u2, .inl (cI, 12, .inl fu2)), (f2, .inl (cI, 10, .inl ff2)), (g2, .inl (cI, 10, .inl fg2))] H := hP
      have hD : va_D A [(h0, .inr (9, [.ref tp, .ref tw, .ref nw, .ref kp, .ref lw, .ref lr, .ref dd, .ref vv, .ref tl, .ref sc, .int 0])), (tw, .inr (7, [.int 0, .int 0, .int 0, .ref t1, .ref t2, .ref t3, .ref t4])), (lw, .inr (1, [.ref l1, .ref l2, .ref l3, .ref l4, .ref l5, .ref l6, .ref l7, .int lz, .int lc])), (l6, .inl (cI, 8, .inl fl)), (c1, .inl (cI, 10, .inl fc1)), (tl, .inr (8, [.ref tw, .ref lw, .ref st, .ref m1, .ref c1, .ref d1, .int (-1), .int idf, .int idt, .int (-1), .int fp, .int 0, .int 0, .int 0])), (st, .inr (4, [.ref u1, .ref f1, .ref g1, .int 0, .int 0, .int 1])), (u1, .inl (cI, 12, .inl uo_4)), (f1, .inl (cI, 10, .inl fo_5)), (g1, .inl (cI, 10, .inl go_6)), (m1, .inl (cI, 10, .inl mo_7)), (d1, .inl (cI, 10, .inl do__8)), (nw, .inr (4, [.ref u2, .ref f2, .ref g2, .int 0, .int 0, .int 1])), (u2, .inl (cI, 12, .inl fu2)), (f2, .inl (cI, 10, .inl ff2)), (g2, .inl (cI, 10, .inl fg2))] := hD
      refine lv_aload_n hx hb dX9_tried_67 rfl (lv_at hl 1 rfl) ?_
      refine va_get (D := D) (ci := 9) (v := .ref tl) (C := RX9) (T := TX9) (N := 11) hx hb htb itX9 hown hK hP 0 rfl rfl 8 (by decide) (htb _ k_401) (fun _ h9 => h9) rfl dX9_tried_68 ?_
      refine lv_iload_n hx hb dX9_tried_71 rfl (lv_at hl 2 rfl) ?_
      refine tv (z := nI N) en ?_
      refine lv_ldc (v := 2147483647) hx hb hown (htb _ k_783) dX9_tried_72 ?_
      refine cVI (As := [.int (nI N), .int 2147483647]) (rest := []) (n := 2) (ci := 8) (q0 := 0) (wr := [(h0, .inr (9, [.ref tp, .ref tw, .ref nw, .ref kp, .ref lw, .ref lr, .ref dd, .ref vv, .ref tl, .ref sc, .int 0])), (u1, .inl (cI, 12, .inl uo_4)), (m1, .inl (cI, 10, .inl mo_7)), (d1, .inl (cI, 10, .inl do__8)), (nw, .inr (4, [.ref u2, .ref f2, .ref g2, .int 0, .int 0, .int 1])), (u2, .inl (cI, 12, .inl fu2)), (f2, .inl (cI, 10, .inl ff2)), (g2, .inl (cI, 10, .inl fg2))]) X hN hK hP hD hS hA (c_X8_run l D cI cB _ tl tw lw st m1 c1 d1 (-1) idf idt (-1) fp l1 l2 l3 l4 l5 l6 l7 lz lc t1 t2 t3 t4 u1 f1 g1 N 2147483647 1 fl fo_5 go_6 fc1 hN0 (by decide) hw_9.2.2.1) (gV k_784 k_785 k_786 k_102 k_787) (by decide +kernel) ⟨Nat.le_of_ble_eq_true rfl, Nat.le_of_ble_eq_true rfl⟩ ⟨rfl, rfl⟩ [5, 1, 2, 3, 6, 8, 9, 4] [0, 7, 10, 11, 12, 13, 14, 15] rfl rfl (by decide) (by decide) rfl rfl rfl rfl rfl hl.1 (Nat.le_of_ble_eq_true rfl) dX9_tried_74 ⟨Nat.le_of_ble_eq_true rfl, Nat.le_of_ble_eq_true rfl⟩ (fun r_10 u H locs hw_15 hP hD hS => ?_)
      obtain ⟨jo_11, ko_12, lo_13, co_14⟩ := u
      try dsimp only at hw_15
      have hP : va_P D vwCl [(h0, .inr (9, [.ref tp, .ref tw, .ref nw, .ref kp, .ref lw, .ref lr, .ref dd, .ref vv, .ref tl, .ref sc, .int 0])), (u1, .inl (cI, 12, .inl uo_4)), (m1, .inl (cI, 10, .inl mo_7)), (d1, .inl (cI, 10, .inl do__8)), (nw, .inr (4, [.ref u2, .ref f2, .ref g2, .int 0, .int 0, .int 1])), (u2, .inl (cI, 12, .inl fu2)), (f2, .inl (cI, 10, .inl ff2)), (g2, .inl (cI, 10, .inl fg2)), (tl, .inr (8, [.ref tw, .ref lw, .ref st, .ref m1, .ref c1, .ref d1, .int (-1), .int idf, .int idt, .int (-1), .int fp, .int 0, .int 0, .int (nI jo_11)])), (tw, .inr (7, [.int 0, .int 0, .int 0, .ref t1, .ref t2, .ref t3, .ref t4])), (lw, .inr (1, [.ref l1, .ref l2, .ref l3, .ref l4, .ref l5, .ref l6, .ref l7, .int lz, .int lc])), (l6, .inl (cI, 8, .inl lo_13)), (st, .inr (4, [.ref u1, .ref f1, .ref g1, .int 0, .int (nI jo_11), .int (nI ko_12)])), (f1, .inl (cI, 10, .inl fo_5)), (g1, .inl (cI, 10, .inl go_6)), (c1, .inl (cI, 10, .inl co_14))] H := hP
      have hD : va_D A [(h0, .inr (9, [.ref tp, .ref tw, .ref nw, .ref kp, .ref lw, .ref lr, .ref dd, .ref vv, .ref tl, .ref sc, .int 0])), (u1, .inl (cI, 12, .inl uo_4)), (m1, .inl (cI, 10, .inl mo_7)), (d1, .inl (cI, 10, .inl do__8)), (nw, .inr (4, [.ref u2, .ref f2, .ref g2, .int 0, .int 0, .int 1])), (u2, .inl (cI, 12, .inl fu2)), (f2, .inl (cI, 10, .inl ff2)), (g2, .inl (cI, 10, .inl fg2)), (tl, .inr (8, [.ref tw, .ref lw, .ref st, .ref m1, .ref c1, .ref d1, .int (-1), .int idf, .int idt, .int (-1), .int fp, .int 0, .int 0, .int (nI jo_11)])), (tw, .inr (7, [.int 0, .int 0, .int 0, .ref t1, .ref t2, .ref t3, .ref t4])), (lw, .inr (1, [.ref l1, .ref l2, .ref l3, .ref l4, .ref l5, .ref l6, .ref l7, .int lz, .int lc])), (l6, .inl (cI, 8, .inl lo_13)), (st, .inr (4, [.ref u1, .ref f1, .ref g1, .int 0, .int (nI jo_11), .int (nI ko_12)])), (f1, .inl (cI, 10, .inl fo_5)), (g1, .inl (cI, 10, .inl go_6)), (c1, .inl (cI, 10, .inl co_14))] := hD
      refine lv_istore (lv' := [(4, .int r_10), (3, .int 1), (0, .ref h0), (1, .int x1), (2, .int x2)]) hx hb dX9_tried_77 hl (by decide) rfl (fun ls hl => ?_)
      refine lv_iload_n hx hb dX9_tried_79 rfl (lv_at hl 4 rfl) ?_
      by_cases e80_0 : x2 = 0
      · subst e80_0
        refine lv_tableIn (off := 36) (tgt := 116) hx hb dX9_tried_80 (by decide) (by decide) (by decide) (by decide) ?_
        refine lv_iload hx hb dX9_tried_116 (lv_at hl 0 rfl) ?_
        exact ret _ _ _ _ r_10 () dX9_tried_118 rfl (hw_15.1.trans ((iI0 (x := x1) (by decide)).trans (iI1 ⟨bIt c_47, bIt c_6⟩))) (hP.sub [] rfl) (hD.sub [] (by decide) rfl) hS
      by_cases e80_1 : x2 = 1
      · subst e80_1
        refine lv_tableIn (off := 39) (tgt := 119) hx hb dX9_tried_80 (by decide) (by decide) (by decide) (by decide) ?_
        refine lv_aload_n hx hb dX9_tried_119 rfl (lv_at hl 2 rfl) ?_
        refine va_get (D := D) (ci := 9) (v := .ref tl) (C := RX9) (T := TX9) (N := 11) hx hb htb itX9 hown hK hP 0 rfl rfl 8 (by decide) (htb _ k_401) (fun _ h9 => h9) rfl dX9_tried_120 ?_
        refine va_getN (D := D) (ci := 8) (v := .int 0) (C := RX8) (T := TX8) (N := 14) hx hb htb itX8 hown hK hP 8 rfl rfl 12 (by decide) (va_Nw.use rfl (hN _ n_361 rfl)) (fun _ h9 => h9) rfl dX9_tried_123 ?_
        exact ret _ _ _ _ 0 () dX9_tried_126 rfl ((iI0 (x := x1) (by decide)).trans (iI1 ⟨bIt c_47, bIt c_6⟩)) (hP.sub [] rfl) (hD.sub [] (by decide) rfl) hS
      by_cases e80_2 : x2 = 2
      · subst e80_2
        refine lv_tableIn (off := 47) (tgt := 127) hx hb dX9_tried_80 (by decide) (by decide) (by decide) (by decide) ?_
        refine lv_aload_n hx hb dX9_tried_127 rfl (lv_at hl 2 rfl) ?_
        refine va_get (D := D) (ci := 9) (v := .ref tl) (C := RX9) (T := TX9) (N := 11) hx hb htb itX9 hown hK hP 0 rfl rfl 8 (by decide) (htb _ k_401) (fun _ h9 => h9) rfl dX9_tried_128 ?_
        refine va_getN (D := D) (ci := 8) (v := .ref st) (C := RX8) (T := TX8) (N := 14) hx hb htb itX8 hown hK hP 8 rfl rfl 2 (by decide) (va_Nw.use rfl (hN _ n_348 rfl)) (fun _ h9 => h9) rfl dX9_tried_131 ?_
        refine cVR (As := []) (rest := []) (n := 0) (ci := 4) (q0 := 0) X hN hK hP (c_X4_allUndone l D cI cB st u1 f1 g1 0 (nI jo_11) (nI ko_12) uo_4 hw_9.1) (gV k_863 k_864 k_865 k_95 k_866) (by decide +kernel) ⟨Nat.le_of_ble_eq_true rfl, Nat.le_of_ble_eq_true rfl⟩ ⟨rfl, rfl⟩ [12, 1] rfl rfl rfl rfl rfl rfl hl.1 (Nat.le_of_ble_eq_true rfl) dX9_tried_134 ⟨Nat.le_of_ble_eq_true rfl, Nat.le_of_ble_eq_true rfl⟩ (fun r_16 hr_16 => ?_)
        subst hr_16
        exact ret _ _ _ _ 0 () dX9_tried_137 rfl ((iI0 (x := x1) (by decide)).trans (iI1 ⟨bIt c_47, bIt c_6⟩)) (hP.sub [] rfl) (hD.sub [] (by decide) rfl) hS
      by_cases e80_3 : x2 = 3
      · subst e80_3
        refine lv_tableIn (off := 58) (tgt := 138) hx hb dX9_tried_80 (by decide) (by decide) (by decide) (by decide) ?_
        refine lv_aload_n hx hb dX9_tried_138 rfl (lv_at hl 2 rfl) ?_
        refine va_get (D := D) (ci := 9) (v := .ref tl) (C := RX9) (T := TX9) (N := 11) hx hb htb itX9 hown hK hP 0 rfl rfl 8 (by decide) (htb _ k_401) (fun _ h9 => h9) rfl dX9_tried_139 ?_
        refine cVR (As := []) (rest := []) (n := 0) (ci := 8) (q0 := 0) X hN hK hP (c_X8_allDone l D cI cB tl tw lw st m1 c1 d1 (-1) idf idt (-1) fp 0 0 (nI jo_11) do__8 hw_9.2.2.2.2) (gV k_867 k_868 k_869 k_102 k_870) (by decide +kernel) ⟨Nat.le_of_ble_eq_true rfl, Nat.le_of_ble_eq_true rfl⟩ ⟨rfl, rfl⟩ [8, 3] rfl rfl rfl rfl rfl rfl hl.1 (Nat.le_of_ble_eq_true rfl) dX9_tried_142 ⟨Nat.le_of_ble_eq_true rfl, Nat.le_of_ble_eq_true rfl⟩ (fun r_17 hr_17 => ?_)
        subst hr_17
        exact ret _ _ _ _ 0 () dX9_tried_145 rfl ((iI0 (x := x1) (by decide)).trans (iI1 ⟨bIt c_47, bIt c_6⟩)) (hP.sub [] rfl) (hD.sub [] (by decide) rfl) hS
      by_cases e80_4 : x2 = 4
      · subst e80_4
        refine lv_tableIn (off := 66) (tgt := 146) hx hb dX9_tried_80 (by decide) (by decide) (by decide) (by decide) ?_
        refine lv_aload_n hx hb dX9_tried_146 rfl (lv_at hl 2 rfl) ?_
        refine va_get (D := D) (ci := 9) (v := .ref tl) (C := RX9) (T := TX9) (N := 11) hx hb htb itX9 hown hK hP 0 rfl rfl 8 (by decide) (htb _ k_401) (fun _ h9 => h9) rfl dX9_tried_147 ?_
        refine va_getN (D := D) (ci := 8) (v := .int (nI jo_11)) (C := RX8) (T := TX8) (N := 14) hx hb htb itX8 hown hK hP 8 rfl rfl 13 (by decide) (va_Nw.use rfl (hN _ n_363 rfl)) (fun _ h9 => h9) rfl dX9_tried_150 ?_
        exact ret _ _ _ _ (nI jo_11) () dX9_tried_153 rfl (Eq.trans (by rw [hw_15.2.2.1 (by decide)]; exact en.symm) ((iI1 (z := 0) rfl).trans (iI1 ⟨bIt c_47, bIt c_6⟩))) (hP.sub [] rfl) (hD.sub [] (by decide) rfl) hS
      (obtain ⟨j, hj, rfl⟩ := inN (k := 4) (by decide) (bIt c_6); exact absurd ⟨e80_0, e80_1, e80_2, e80_3, e80_4⟩ (c5 hj))
  · refine lv_aload_n hx hb dX9_tried_9 rfl (lv_at hl 0 rfl) ?_
    refine va_get (D := D) (ci := 9) (v := .ref tw) (C := RX9) (T := TX9) (N := 11) hx hb htb itX9 hown hK hP 0 rfl rfl 1 (by decide) (htb _ k_394) (fun _ h9 => h9) rfl dX9_tried_10 ?_
    refine lv_iload_n hx hb dX9_tried_13 rfl (lv_at hl 2 rfl) ?_
    refine lv_bipush (v := 10) hx hb dX9_tried_14 (by decide) ?_
    refine lv_isub hx hb dX9_tried_16 ?_
    refine cVR (As := [.int (x2 - 10)]) (rest := []) (n := 1) (ci := 7) (q0 := 0) X hN hK hP (c_X7_hasChore l D cI cB tw 0 t1 t2 t3 t4 (x2 - 10)) (gV k_854 k_855 k_856 k_94 k_857) (by decide +kernel) ⟨Nat.le_of_ble_eq_true rfl, Nat.le_of_ble_eq_true rfl⟩ ⟨rfl, rfl⟩ [1] rfl rfl rfl rfl rfl rfl hl.1 (Nat.le_of_ble_eq_true rfl) dX9_tried_17 ⟨Nat.le_of_ble_eq_true rfl, Nat.le_of_ble_eq_true rfl⟩ (fun r_18 hr_18 => ?_)
    subst hr_18
    refine lv_if_ne (tgt := 37) hx hb dX9_tried_20 (by decide) (fun c_20 => absurd (by decide) c_20) (fun _ => ?_)
    refine lv_aload_n hx hb dX9_tried_23 rfl (lv_at hl 0 rfl) ?_
    refine va_get (D := D) (ci := 9) (v := .ref tw) (C := RX9) (T := TX9) (N := 11) hx hb htb itX9 hown hK hP 0 rfl rfl 1 (by decide) (htb _ k_394) (fun _ h9 => h9) rfl dX9_tried_24 ?_
    refine lv_iload_n hx hb dX9_tried_27 rfl (lv_at hl 2 rfl) ?_
    refine lv_bipush (v := 30) hx hb dX9_tried_28 (by decide) ?_
    refine lv_isub hx hb dX9_tried_30 ?_
    refine cVR (As := [.int (x2 - 30)]) (rest := []) (n := 1) (ci := 7) (q0 := 0) X hN hK hP (c_X7_hasPerson l D cI cB tw 0 t1 t2 t3 t4 (x2 - 30)) (gV k_859 k_860 k_861 k_94 k_862) (by decide +kernel) ⟨Nat.le_of_ble_eq_true rfl, Nat.le_of_ble_eq_true rfl⟩ ⟨rfl, rfl⟩ [1] rfl rfl rfl rfl rfl rfl hl.1 (Nat.le_of_ble_eq_true rfl) dX9_tried_31 ⟨Nat.le_of_ble_eq_true rfl, Nat.le_of_ble_eq_true rfl⟩ (fun r_19 hr_19 => ?_)
    subst hr_19
    refine lv_if_eq (tgt := 41) hx hb dX9_tried_34 (by decide) (fun _ => ?_) (fun c_34 => absurd (by decide) c_34)
    refine lv_iconst (v := 0) hx hb dX9_tried_41 (by decide) ?_
    refine lv_istore_n (lv' := [(3, .int 0), (0, .ref h0), (1, .int x1), (2, .int x2)]) hx hb dX9_tried_42 rfl hl (by decide) rfl (fun ls hl => ?_)
    refine lv_iload_n hx hb dX9_tried_43 rfl (lv_at hl 2 rfl) ?_
    refine cSR (As := [.int x1]) (rest := []) (n := 1) X hN hK hP (c_X9_isDayCount l D cI cB x1) k_770 k_771 k_92 k_772 (by decide +kernel) ⟨Nat.le_of_ble_eq_true rfl, Nat.le_of_ble_eq_true rfl⟩ ⟨rfl, rfl⟩ [] rfl rfl rfl hl.1 (Nat.le_of_ble_eq_true rfl) dX9_tried_44 ⟨Nat.le_of_ble_eq_true rfl, Nat.le_of_ble_eq_true rfl⟩ (fun r_20 hr_20 => ?_)
    subst hr_20
    refine lv_if_eq (tgt := 54) hx hb dX9_tried_47 (by decide) (fun c_47 => ?_) (fun c_47 => ?_)
    · refine lv_iconst (v := (-1)) hx hb dX9_tried_54 (by decide) ?_
      exact ret _ _ _ _ (-1) () dX9_tried_55 rfl (iI0 (fun h => bIf c_47 h.1)) (hP.sub [] rfl) (hD.sub [] (by decide) rfl) hS
    · refine lv_iload_n hx hb dX9_tried_50 rfl (lv_at hl 0 rfl) ?_
      refine lv_if_ne (tgt := 56) hx hb dX9_tried_51 (by decide) (fun c_51 => absurd (by decide) c_51) (fun _ => ?_)
      refine lv_iconst (v := (-1)) hx hb dX9_tried_54 (by decide) ?_
      exact ret _ _ _ _ (-1) () dX9_tried_55 rfl (iI0 (fun h => bIf c_6 h.2)) (hP.sub [] rfl) (hD.sub [] (by decide) rfl) hS

set_option maxRecDepth 100000 in
set_option maxHeartbeats 4000000 in
theorem c_X9_cost (l : Launch) (D : va_G) (cI cB : ClassId) (sz : Nat) (h0 : Nat) (tp : Nat) (tw : Nat) (nw : Nat) (kp : Nat) (lw : Nat) (lr : Nat) (dd : Nat) (vv : Nat) (tl : Nat) (sc : Nat) (t1 : Nat) (t2 : Nat) (t3 : Nat) (t4 : Nat) (u2 : Nat) (f2 : Nat) (g2 : Nat) (fu2 : Nat → Int32) (ff2 : Nat → Int32) (fg2 : Nat → Int32) (l1 : Nat) (l2 : Nat) (l3 : Nat) (l4 : Nat) (l5 : Nat) (l6 : Nat) (l7 : Nat) (lz : Int32) (lc : Int32) (fl : Nat → Int32) (st : Nat) (m1 : Nat) (c1 : Nat) (d1 : Nat) (idl : Int32) (idf : Int32) (idt : Int32) (fc : Int32) (fp : Int32) (mb : Int32) (ra : Int32) (cl : Int32) (u1 : Nat) (f1 : Nat) (g1 : Nat) (ms : Int32) (dy : Int32) (dr : Int32) (fu : Nat → Int32) (ff : Nat → Int32) (fg : Nat → Int32) (fm : Nat → Int32) (fc1 : Nat → Int32) (fd : Nat → Int32) (x1 : Int32) (x2 : Int32) (hu : ∀ j, j < 12 → fu2 j = 0) (hf : ∀ j, j < 10 → ff2 j = -2) (hg : ∀ j, j < 10 → fg2 j = -2) : MI (S := Unit) l D cI cB yX9_cost cX9_cost 3 .int (rm 5 127) [.ref h0, .int x1, .int x2] [(h0, .inr (9, [.ref tp, .ref tw, .ref nw, .ref kp, .ref lw, .ref lr, .ref dd, .ref vv, .ref tl, .ref sc, .int 0])), (tw, .inr (7, [.int 0, .int 0, .int 0, .ref t1, .ref t2, .ref t3, .ref t4])), (nw, .inr (4, [.ref u2, .ref f2, .ref g2, .int 0, .int 0, .int 1])), (u2, .inl (cI, 12, .inl fu2)), (f2, .inl (cI, 10, .inl ff2)), (g2, .inl (cI, 10, .inl fg2)), (lw, .inr (1, [.ref l1, .ref l2, .ref l3, .ref l4, .ref l5, .ref l6, .ref l7, .int lz, .int lc])), (l6, .inl (cI, 8, .inl fl)), (tl, .inr (8, [.ref tw, .ref lw, .ref st, .ref m1, .ref c1, .ref d1, .int idl, .int idf, .int idt, .int fc, .int fp, .int mb, .int ra, .int cl])), (st, .inr (4, [.ref u1, .ref f1, .ref g1, .int ms, .int dy, .int dr])), (u1, .inl (cI, 12, .inl fu)), (f1, .inl (cI, 10, .inl ff)), (g1, .inl (cI, 10, .inl fg)), (m1, .inl (cI, 10, .inl fm)), (c1, .inl (cI, 10, .inl fc1)), (d1, .inl (cI, 10, .inl fd))] sz (fun r u => r = iI ((1 ≤ x2 ∧ x2 ≤ 60) ∧ x1 = 0) 0 (-1)) (fun u : Unit => []) := by
  refine MI.of (by decide) (Nat.le_of_ble_eq_true rfl) ?_
  intro p e s m below meth c Q ls A X hin hN hP hK hD hA hl ret
  have hS : va_S A s.heap s.heap [] := va_S.rf
  obtain ⟨hx, hb, hml, hown, htb⟩ := id X
  have hl : lv_has ls 3 [(0, .ref h0), (1, .int x1), (2, .int x2)] := hl
  refine lv_iload_n hx hb dX9_cost_0 rfl (lv_at hl 2 rfl) ?_
  refine cSR (As := [.int x2]) (rest := []) (n := 1) X hN hK hP (c_X9_isDayCount l D cI cB x2) k_770 k_771 k_92 k_772 (by decide +kernel) ⟨Nat.le_of_ble_eq_true rfl, Nat.le_of_ble_eq_true rfl⟩ ⟨rfl, rfl⟩ [] rfl rfl rfl hl.1 (Nat.le_of_ble_eq_true rfl) dX9_cost_1 ⟨Nat.le_of_ble_eq_true rfl, Nat.le_of_ble_eq_true rfl⟩ (fun r_1 hr_1 => ?_)
  subst hr_1
  refine lv_if_eq (tgt := 27) hx hb dX9_cost_4 (by decide) (fun c_4 => ?_) (fun c_4 => ?_)
  · refine lv_iconst (v := (-1)) hx hb dX9_cost_27 (by decide) ?_
    exact ret _ _ _ _ (-1) () dX9_cost_28 rfl (iI0 (fun h => bIf c_4 h.1)) (hP.sub [] rfl) (hD.sub [] (by decide) rfl) hS
  · refine lv_aload_n hx hb dX9_cost_7 rfl (lv_at hl 0 rfl) ?_
    refine lv_iload_n hx hb dX9_cost_8 rfl (lv_at hl 1 rfl) ?_
    refine cVR (As := [.int x1]) (rest := []) (n := 1) (ci := 9) (q0 := 0) X hN hK hP (c_X9_areTold l D cI cB h0 tp tw nw kp lw lr dd vv tl sc t1 t2 t3 t4 x1) (gV k_893 k_895 k_20 k_92 k_896) (by decide +kernel) ⟨Nat.le_of_ble_eq_true rfl, Nat.le_of_ble_eq_true rfl⟩ ⟨rfl, rfl⟩ [0, 1] rfl rfl rfl rfl rfl rfl hl.1 (Nat.le_of_ble_eq_true rfl) dX9_cost_9 ⟨Nat.le_of_ble_eq_true rfl, Nat.le_of_ble_eq_true rfl⟩ (fun r_2 hr_2 => ?_)
    subst hr_2
    refine lv_if_eq (tgt := 27) hx hb dX9_cost_12 (by decide) (fun c_12 => ?_) (fun c_12 => ?_)
    · refine lv_iconst (v := (-1)) hx hb dX9_cost_27 (by decide) ?_
      exact ret _ _ _ _ (-1) () dX9_cost_28 rfl (iI0 (fun h => bIf c_12 h.2)) (hP.sub [] rfl) (hD.sub [] (by decide) rfl) hS
    · obtain ⟨N, hN0, en⟩ := dcN (k := 60) (by decide) (bIt c_4)
      refine lv_aload_n hx hb dX9_cost_15 rfl (lv_at hl 0 rfl) ?_
      refine lv_iload_n hx hb dX9_cost_16 rfl (lv_at hl 1 rfl) ?_
      refine lv_iload_n hx hb dX9_cost_17 rfl (lv_at hl 2 rfl) ?_
      refine tv (z := nI N) en ?_
      refine lv_iconst (v := (-1)) hx hb dX9_cost_18 (by decide) ?_
      refine lv_iconst (v := (-1)) hx hb dX9_cost_19 (by decide) ?_
      refine lv_iconst (v := (-1)) hx hb dX9_cost_20 (by decide) ?_
      refine cVI (As := [.int x1, .int (nI N), .int (-1), .int (-1), .int (-1)]) (rest := []) (n := 5) (ci := 9) (q0 := 0) (wr := []) X hN hK hP hD hS hA (c_X9_costIf l D cI cB _ h0 tp tw nw kp lw lr dd vv tl sc t1 t2 t3 t4 u2 f2 g2 fu2 ff2 fg2 l1 l2 l3 l4 l5 l6 l7 lz lc fl st m1 c1 d1 idl idf idt fc fp mb ra cl u1 f1 g1 ms dy dr fu ff fg fm fc1 fd N x1 hu hf hg hN0) (gV k_897 k_899 k_21 k_92 k_900) (by decide +kernel) ⟨Nat.le_of_ble_eq_true rfl, Nat.le_of_ble_eq_true rfl⟩ ⟨rfl, rfl⟩ [0, 1, 2, 3, 4, 5, 6, 7, 8, 9, 10, 11, 12, 13, 14, 15] [] rfl rfl (by decide) (by decide) rfl rfl rfl rfl rfl hl.1 (Nat.le_of_ble_eq_true rfl) dX9_cost_21 ⟨Nat.le_of_ble_eq_true rfl, Nat.le_of_ble_eq_true rfl⟩ (fun r_3 u H locs hw_4 hP hD hS => ?_)
      try dsimp only at hw_4
      have hP : va_P D vwCl [] H := hP
      have hD : va_D A [] := hD
      refine lv_goto (tgt := 28) hx hb dX9_cost_24 (by decide) ?_
      exact ret _ _ _ _ r_3 () dX9_cost_28 rfl (hw_4.trans (iI1 ⟨bIt c_4, bIt c_12⟩)) (hP.sub [] rfl) (hD.sub [] (by decide) rfl) hS

set_option maxRecDepth 100000 in
set_option maxHeartbeats 4000000 in
theorem c_X9_holds (l : Launch) (D : va_G) (cI cB : ClassId) (sz : Nat) (h0 : Nat) (tp : Nat) (tw : Nat) (nw : Nat) (kp : Nat) (lw : Nat) (lr : Nat) (dd : Nat) (vv : Nat) (tl : Nat) (sc : Nat) (t1 : Nat) (t2 : Nat) (t3 : Nat) (t4 : Nat) (u2 : Nat) (f2 : Nat) (g2 : Nat) (fu2 : Nat → Int32) (ff2 : Nat → Int32) (fg2 : Nat → Int32) (l1 : Nat) (l2 : Nat) (l3 : Nat) (l4 : Nat) (l5 : Nat) (l6 : Nat) (l7 : Nat) (lz : Int32) (lc : Int32) (fl : Nat → Int32) (st : Nat) (m1 : Nat) (c1 : Nat) (d1 : Nat) (idl : Int32) (idf : Int32) (idt : Int32) (fc : Int32) (fp : Int32) (mb : Int32) (ra : Int32) (cl : Int32) (u1 : Nat) (f1 : Nat) (g1 : Nat) (ms : Int32) (dy : Int32) (dr : Int32) (fu : Nat → Int32) (ff : Nat → Int32) (fg : Nat → Int32) (fm : Nat → Int32) (fc1 : Nat → Int32) (fd : Nat → Int32) (x1 : Int32) (x2 : Int32) (x3 : Int32) (hu : ∀ j, j < 12 → fu2 j = 0) (hf : ∀ j, j < 10 → ff2 j = -2) (hg : ∀ j, j < 10 → fg2 j = -2) : MI (S := Unit) l D cI cB yX9_holds cX9_holds 8 .int (rm 5 126) [.ref h0, .int x1, .int x2, .int x3] [(h0, .inr (9, [.ref tp, .ref tw, .ref nw, .ref kp, .ref lw, .ref lr, .ref dd, .ref vv, .ref tl, .ref sc, .int 0])), (tw, .inr (7, [.int 0, .int 0, .int 0, .ref t1, .ref t2, .ref t3, .ref t4])), (nw, .inr (4, [.ref u2, .ref f2, .ref g2, .int 0, .int 0, .int 1])), (u2, .inl (cI, 12, .inl fu2)), (f2, .inl (cI, 10, .inl ff2)), (g2, .inl (cI, 10, .inl fg2)), (lw, .inr (1, [.ref l1, .ref l2, .ref l3, .ref l4, .ref l5, .ref l6, .ref l7, .int lz, .int lc])), (l6, .inl (cI, 8, .inl fl)), (tl, .inr (8, [.ref tw, .ref lw, .ref st, .ref m1, .ref c1, .ref d1, .int idl, .int idf, .int idt, .int fc, .int fp, .int mb, .int ra, .int cl])), (st, .inr (4, [.ref u1, .ref f1, .ref g1, .int ms, .int dy, .int dr])), (u1, .inl (cI, 12, .inl fu)), (f1, .inl (cI, 10, .inl ff)), (g1, .inl (cI, 10, .inl fg)), (m1, .inl (cI, 10, .inl fm)), (c1, .inl (cI, 10, .inl fc1)), (d1, .inl (cI, 10, .inl fd))] sz (fun r u => r = iI ((1 ≤ x1 ∧ x1 ≤ 20) ∧ (0 ≤ x2 ∧ x2 ≤ 999999) ∧ (0 ≤ x3 ∧ x3 ≤ 1)) (iI (x2 = 0) 0 (-2)) (-1)) (fun u : Unit => []) := by
  refine MI.of (by decide) (Nat.le_of_ble_eq_true rfl) ?_
  intro p e s m below meth c Q ls A X hin hN hP hK hD hA hl ret
  have hS : va_S A s.heap s.heap [] := va_S.rf
  obtain ⟨hx, hb, hml, hown, htb⟩ := id X
  have hl : lv_has ls 8 [(0, .ref h0), (1, .int x1), (2, .int x2), (3, .int x3)] := hl
  refine lv_iload_n hx hb dX9_holds_0 rfl (lv_at hl 1 rfl) ?_
  refine lv_iconst (v := 1) hx hb dX9_holds_1 (by decide) ?_
  refine lv_bipush (v := 20) hx hb dX9_holds_2 (by decide) ?_
  refine cSR (As := [.int x1, .int 1, .int 20]) (rest := []) (n := 3) X hN hK hP (c_X9_within l D cI cB x1 1 20) k_431 k_432 k_92 k_433 (by decide +kernel) ⟨Nat.le_of_ble_eq_true rfl, Nat.le_of_ble_eq_true rfl⟩ ⟨rfl, rfl⟩ [] rfl rfl rfl hl.1 (Nat.le_of_ble_eq_true rfl) dX9_holds_4 ⟨Nat.le_of_ble_eq_true rfl, Nat.le_of_ble_eq_true rfl⟩ (fun r_1 hr_1 => ?_)
  subst hr_1
  refine lv_if_eq (tgt := 30) hx hb dX9_holds_7 (by decide) (fun c_7 => ?_) (fun c_7 => ?_)
  · refine lv_iconst (v := (-1)) hx hb dX9_holds_30 (by decide) ?_
    exact ret _ _ _ _ (-1) () dX9_holds_31 rfl (iI0 (fun h => bIf c_7 h.1)) (hP.sub [] rfl) (hD.sub [] (by decide) rfl) hS
  · refine lv_iload_n hx hb dX9_holds_10 rfl (lv_at hl 2 rfl) ?_
    refine lv_iconst (v := 0) hx hb dX9_holds_11 (by decide) ?_
    refine lv_ldcw (v := 999999) hx hb hown (htb _ k_992) dX9_holds_12 ?_
    refine cSR (As := [.int x2, .int 0, .int 999999]) (rest := []) (n := 3) X hN hK hP (c_X9_within l D cI cB x2 0 999999) k_431 k_432 k_92 k_433 (by decide +kernel) ⟨Nat.le_of_ble_eq_true rfl, Nat.le_of_ble_eq_true rfl⟩ ⟨rfl, rfl⟩ [] rfl rfl rfl hl.1 (Nat.le_of_ble_eq_true rfl) dX9_holds_15 ⟨Nat.le_of_ble_eq_true rfl, Nat.le_of_ble_eq_true rfl⟩ (fun r_2 hr_2 => ?_)
    subst hr_2
    refine lv_if_eq (tgt := 30) hx hb dX9_holds_18 (by decide) (fun c_18 => ?_) (fun c_18 => ?_)
    · refine lv_iconst (v := (-1)) hx hb dX9_holds_30 (by decide) ?_
      exact ret _ _ _ _ (-1) () dX9_holds_31 rfl (iI0 (fun h => bIf c_18 h.2.1)) (hP.sub [] rfl) (hD.sub [] (by decide) rfl) hS
    · refine lv_iload_n hx hb dX9_holds_21 rfl (lv_at hl 3 rfl) ?_
      refine lv_iconst (v := 0) hx hb dX9_holds_22 (by decide) ?_
      refine lv_iconst (v := 1) hx hb dX9_holds_23 (by decide) ?_
      refine cSR (As := [.int x3, .int 0, .int 1]) (rest := []) (n := 3) X hN hK hP (c_X9_within l D cI cB x3 0 1) k_431 k_432 k_92 k_433 (by decide +kernel) ⟨Nat.le_of_ble_eq_true rfl, Nat.le_of_ble_eq_true rfl⟩ ⟨rfl, rfl⟩ [] rfl rfl rfl hl.1 (Nat.le_of_ble_eq_true rfl) dX9_holds_24 ⟨Nat.le_of_ble_eq_true rfl, Nat.le_of_ble_eq_true rfl⟩ (fun r_3 hr_3 => ?_)
      subst hr_3
      refine lv_if_ne (tgt := 32) hx hb dX9_holds_27 (by decide) (fun c_27 => ?_) (fun c_27 => ?_)
      · obtain ⟨N, hN0, en⟩ := dcN (k := 20) (by decide) (bIt c_7)
        refine lv_aload_n hx hb dX9_holds_32 rfl (lv_at hl 0 rfl) ?_
        refine lv_iconst (v := 0) hx hb dX9_holds_33 (by decide) ?_
        refine lv_iload_n hx hb dX9_holds_34 rfl (lv_at hl 1 rfl) ?_
        refine tv (z := nI N) en ?_
        refine lv_ldc (v := 2147483647) hx hb hown (htb _ k_783) dX9_holds_35 ?_
        refine cVI (As := [.int 0, .int (nI N), .int 2147483647]) (rest := []) (n := 3) (ci := 9) (q0 := 0) (wr := []) X hN hK hP hD hS hA (c_X9_runAway l D cI cB _ h0 tp tw nw kp lw lr dd vv tl sc t1 t2 t3 t4 u2 f2 g2 fu2 ff2 fg2 l1 l2 l3 l4 l5 l6 l7 lz lc fl st m1 c1 d1 idl idf idt fc fp mb ra cl u1 f1 g1 ms dy dr fu ff fg fm fc1 fd N 2147483647 hu hf hg (by omega)) (gV k_976 k_978 k_27 k_92 k_979) (by decide +kernel) ⟨Nat.le_of_ble_eq_true rfl, Nat.le_of_ble_eq_true rfl⟩ ⟨rfl, rfl⟩ [0, 1, 2, 3, 4, 5, 6, 7, 8, 9, 10, 11, 12, 13, 14, 15] [] rfl rfl (by decide) (by decide) rfl rfl rfl rfl rfl hl.1 (Nat.le_of_ble_eq_true rfl) dX9_holds_37 ⟨Nat.le_of_ble_eq_true rfl, Nat.le_of_ble_eq_true rfl⟩ (fun r_4 u H locs hw_14 hP hD hS => ?_)
        obtain ⟨jo_5, ko_6, lo_7, uo_8, fo_9, go_10, mo_11, co_12, do__13⟩ := u
        try dsimp only at hw_14
        have hP : va_P D vwCl [(h0, .inr (9, [.ref tp, .ref tw, .ref nw, .ref kp, .ref lw, .ref lr, .ref dd, .ref vv, .ref tl, .ref sc, .int 0])), (tw, .inr (7, [.int 0, .int 0, .int 0, .ref t1, .ref t2, .ref t3, .ref t4])), (nw, .inr (4, [.ref u2, .ref f2, .ref g2, .int 0, .int 0, .int 1])), (u2, .inl (cI, 12, .inl fu2)), (f2, .inl (cI, 10, .inl ff2)), (g2, .inl (cI, 10, .inl fg2)), (lw, .inr (1, [.ref l1, .ref l2, .ref l3, .ref l4, .ref l5, .ref l6, .ref l7, .int lz, .int lc])), (l6, .inl (cI, 8, .inl lo_7)), (tl, .inr (8, [.ref tw, .ref lw, .ref st, .ref m1, .ref c1, .ref d1, .int (-1), .int idf, .int idt, .int (-1), .int fp, .int 0, .int 0, .int (nI jo_5)])), (st, .inr (4, [.ref u1, .ref f1, .ref g1, .int 0, .int (nI jo_5), .int (nI ko_6)])), (u1, .inl (cI, 12, .inl uo_8)), (f1, .inl (cI, 10, .inl fo_9)), (g1, .inl (cI, 10, .inl go_10)), (m1, .inl (cI, 10, .inl mo_11)), (c1, .inl (cI, 10, .inl co_12)), (d1, .inl (cI, 10, .inl do__13))] H := hP
        have hD : va_D A [(h0, .inr (9, [.ref tp, .ref tw, .ref nw, .ref kp, .ref lw, .ref lr, .ref dd, .ref vv, .ref tl, .ref sc, .int 0])), (tw, .inr (7, [.int 0, .int 0, .int 0, .ref t1, .ref t2, .ref t3, .ref t4])), (nw, .inr (4, [.ref u2, .ref f2, .ref g2, .int 0, .int 0, .int 1])), (u2, .inl (cI, 12, .inl fu2)), (f2, .inl (cI, 10, .inl ff2)), (g2, .inl (cI, 10, .inl fg2)), (lw, .inr (1, [.ref l1, .ref l2, .ref l3, .ref l4, .ref l5, .ref l6, .ref l7, .int lz, .int lc])), (l6, .inl (cI, 8, .inl lo_7)), (tl, .inr (8, [.ref tw, .ref lw, .ref st, .ref m1, .ref c1, .ref d1, .int (-1), .int idf, .int idt, .int (-1), .int fp, .int 0, .int 0, .int (nI jo_5)])), (st, .inr (4, [.ref u1, .ref f1, .ref g1, .int 0, .int (nI jo_5), .int (nI ko_6)])), (u1, .inl (cI, 12, .inl uo_8)), (f1, .inl (cI, 10, .inl fo_9)), (g1, .inl (cI, 10, .inl go_10)), (m1, .inl (cI, 10, .inl mo_11)), (c1, .inl (cI, 10, .inl co_12)), (d1, .inl (cI, 10, .inl do__13))] := hD
        subst hw_14
        refine lv_iload_n hx hb dX9_holds_40 rfl (lv_at hl 2 rfl) ?_
        refine lv_iadd hx hb dX9_holds_41 ?_
        refine tv (z := x2) (Int32.zero_add _) ?_
        refine lv_istore (lv' := [(4, .int x2), (0, .ref h0), (1, .int x1), (2, .int x2), (3, .int x3)]) hx hb dX9_holds_42 hl (by decide) rfl (fun ls hl => ?_)
        refine lv_iconst (v := 0) hx hb dX9_holds_44 (by decide) ?_
        refine lv_istore (lv' := [(5, .int 0), (4, .int x2), (0, .ref h0), (1, .int x1), (2, .int x2), (3, .int x3)]) hx hb dX9_holds_45 hl (by decide) rfl (fun ls hl => ?_)
        have loop_47 : ∀ (n i : Nat) (ja : Nat) (ka : Nat) (la : Nat → Int32) (ua : Nat → Int32) (fa : Nat → Int32) (ga : Nat → Int32) (ma : Nat → Int32) (ca : Nat → Int32) (da : Nat → Int32), n + i = 11 → (i = 0 ∨ 0 < x2) → ∀ (H : Heap) (locs : List Loc), va_P D vwCl [(h0, .inr (9, [.ref tp, .ref tw, .ref nw, .ref kp, .ref lw, .ref lr, .ref dd, .ref vv, .ref tl, .ref sc, .int 0])), (tw, .inr (7, [.int 0, .int 0, .int 0, .ref t1, .ref t2, .ref t3, .ref t4])), (nw, .inr (4, [.ref u2, .ref f2, .ref g2, .int 0, .int 0, .int 1])), (u2, .inl (cI, 12, .inl fu2)), (f2, .inl (cI, 10, .inl ff2)), (g2, .inl (cI, 10, .inl fg2)), (lw, .inr (1, [.ref l1, .ref l2, .ref l3, .ref l4, .ref l5, .ref l6, .ref l7, .int lz, .int lc])), (l6, .inl (cI, 8, .inl la)), (tl, .inr (8, [.ref tw, .ref lw, .ref st, .ref m1, .ref c1, .ref d1, .int (-1), .int idf, .int idt, .int (-1), .int fp, .int 0, .int 0, .int (nI ja)])), (st, .inr (4, [.ref u1, .ref f1, .ref g1, .int 0, .int (nI ja), .int (nI ka)])), (u1, .inl (cI, 12, .inl ua)), (f1, .inl (cI, 10, .inl fa)), (g1, .inl (cI, 10, .inl ga)), (m1, .inl (cI, 10, .inl ma)), (c1, .inl (cI, 10, .inl ca)), (d1, .inl (cI, 10, .inl da))] H → va_D A [(h0, .inr (9, [.ref tp, .ref tw, .ref nw, .ref kp, .ref lw, .ref lr, .ref dd, .ref vv, .ref tl, .ref sc, .int 0])), (tw, .inr (7, [.int 0, .int 0, .int 0, .ref t1, .ref t2, .ref t3, .ref t4])), (nw, .inr (4, [.ref u2, .ref f2, .ref g2, .int 0, .int 0, .int 1])), (u2, .inl (cI, 12, .inl fu2)), (f2, .inl (cI, 10, .inl ff2)), (g2, .inl (cI, 10, .inl fg2)), (lw, .inr (1, [.ref l1, .ref l2, .ref l3, .ref l4, .ref l5, .ref l6, .ref l7, .int lz, .int lc])), (l6, .inl (cI, 8, .inl la)), (tl, .inr (8, [.ref tw, .ref lw, .ref st, .ref m1, .ref c1, .ref d1, .int (-1), .int idf, .int idt, .int (-1), .int fp, .int 0, .int 0, .int (nI ja)])), (st, .inr (4, [.ref u1, .ref f1, .ref g1, .int 0, .int (nI ja), .int (nI ka)])), (u1, .inl (cI, 12, .inl ua)), (f1, .inl (cI, 10, .inl fa)), (g1, .inl (cI, 10, .inl ga)), (m1, .inl (cI, 10, .inl ma)), (c1, .inl (cI, 10, .inl ca)), (d1, .inl (cI, 10, .inl da))] → va_S A s.heap H locs → ∀ (ls : Array Slot), lv_has ls 8 [(0, .ref h0), (1, .int x1), (2, .int x2), (3, .int x3), (4, .int x2), (5, .int (nI i))] → W p l e (rm 5 126) s m ([.ref h0, .int x1, .int x2, .int x3] : List Value).toArray below meth c H locs 0 0 Q (F0 m 47 ls []) := by
          intro n
          induction n with
          | zero =>
            intro i ja ka la ua fa ga ma ca da hni hv H locs hP hD hS ls hl
            have hi : i = 11 := by omega
            refine lv_iload hx hb dX9_holds_47 (lv_at hl 5 rfl) ?_
            refine lv_bipush (v := 10) hx hb dX9_holds_49 (by decide) ?_
            refine lv_icmp_gt (tgt := 134) hx hb dX9_holds_51 (by decide) (fun _ => ?_) (fun c_51 => absurd (by rw [hi]; decide) c_51)
            refine lv_bipush (v := (-2)) hx hb dX9_holds_134 (by decide) ?_
            exact ret _ _ _ _ (-2) () dX9_holds_136 rfl ((iI0 (fun h => absurd (hv.resolve_left (by omega)) (by rw [h]; decide))).trans (iI1 ⟨bIt c_7, bIt c_18, bIt c_27⟩)) (hP.sub [] rfl) (hD.sub [] (by decide) rfl) hS
          | succ n ih =>
            intro i ja ka la ua fa ga ma ca da hni hv H locs hP hD hS ls hl
            have hi : i < 11 := by omega
            refine lv_iload hx hb dX9_holds_47 (lv_at hl 5 rfl) ?_
            refine lv_bipush (v := 10) hx hb dX9_holds_49 (by decide) ?_
            refine lv_icmp_gt (tgt := 134) hx hb dX9_holds_51 (by decide) (fun c_51 => absurd c_51 (nI_nlt (a := 10) (by omega) (by decide))) (fun _ => ?_)
            refine lv_iconst (v := 0) hx hb dX9_holds_54 (by decide) ?_
            refine lv_istore (lv' := [(6, .int 0), (0, .ref h0), (1, .int x1), (2, .int x2), (3, .int x3), (4, .int x2), (5, .int (nI i))]) hx hb dX9_holds_55 hl (by decide) rfl (fun ls hl => ?_)
            have loop_57 : ∀ (n j : Nat) (ja : Nat) (ka : Nat) (la : Nat → Int32) (ua : Nat → Int32) (fa : Nat → Int32) (ga : Nat → Int32) (ma : Nat → Int32) (ca : Nat → Int32) (da : Nat → Int32), n + j = 1024 → ((i = 0 ∧ j = 0) ∨ 0 < x2) → ∀ (H : Heap) (locs : List Loc), va_P D vwCl [(h0, .inr (9, [.ref tp, .ref tw, .ref nw, .ref kp, .ref lw, .ref lr, .ref dd, .ref vv, .ref tl, .ref sc, .int 0])), (tw, .inr (7, [.int 0, .int 0, .int 0, .ref t1, .ref t2, .ref t3, .ref t4])), (nw, .inr (4, [.ref u2, .ref f2, .ref g2, .int 0, .int 0, .int 1])), (u2, .inl (cI, 12, .inl fu2)), (f2, .inl (cI, 10, .inl ff2)), (g2, .inl (cI, 10, .inl fg2)), (lw, .inr (1, [.ref l1, .ref l2, .ref l3, .ref l4, .ref l5, .ref l6, .ref l7, .int lz, .int lc])), (l6, .inl (cI, 8, .inl la)), (tl, .inr (8, [.ref tw, .ref lw, .ref st, .ref m1, .ref c1, .ref d1, .int (-1), .int idf, .int idt, .int (-1), .int fp, .int 0, .int 0, .int (nI ja)])), (st, .inr (4, [.ref u1, .ref f1, .ref g1, .int 0, .int (nI ja), .int (nI ka)])), (u1, .inl (cI, 12, .inl ua)), (f1, .inl (cI, 10, .inl fa)), (g1, .inl (cI, 10, .inl ga)), (m1, .inl (cI, 10, .inl ma)), (c1, .inl (cI, 10, .inl ca)), (d1, .inl (cI, 10, .inl da))] H → va_D A [(h0, .inr (9, [.ref tp, .ref tw, .ref nw, .ref kp, .ref lw, .ref lr, .ref dd, .ref vv, .ref tl, .ref sc, .int 0])), (tw, .inr (7, [.int 0, .int 0, .int 0, .ref t1, .ref t2, .ref t3, .ref t4])), (nw, .inr (4, [.ref u2, .ref f2, .ref g2, .int 0, .int 0, .int 1])), (u2, .inl (cI, 12, .inl fu2)), (f2, .inl (cI, 10, .inl ff2)), (g2, .inl (cI, 10, .inl fg2)), (lw, .inr (1, [.ref l1, .ref l2, .ref l3, .ref l4, .ref l5, .ref l6, .ref l7, .int lz, .int lc])), (l6, .inl (cI, 8, .inl la)), (tl, .inr (8, [.ref tw, .ref lw, .ref st, .ref m1, .ref c1, .ref d1, .int (-1), .int idf, .int idt, .int (-1), .int fp, .int 0, .int 0, .int (nI ja)])), (st, .inr (4, [.ref u1, .ref f1, .ref g1, .int 0, .int (nI ja), .int (nI ka)])), (u1, .inl (cI, 12, .inl ua)), (f1, .inl (cI, 10, .inl fa)), (g1, .inl (cI, 10, .inl ga)), (m1, .inl (cI, 10, .inl ma)), (c1, .inl (cI, 10, .inl ca)), (d1, .inl (cI, 10, .inl da))] → va_S A s.heap H locs → ∀ (ls : Array Slot), lv_has ls 8 [(0, .ref h0), (1, .int x1), (2, .int x2), (3, .int x3), (4, .int x2), (5, .int (nI i)), (6, .int (nI j))] → W p l e (rm 5 126) s m ([.ref h0, .int x1, .int x2, .int x3] : List Value).toArray below meth c H locs 0 0 Q (F0 m 57 ls []) := by
              intro n
              induction n with
              | zero =>
                intro j ja ka la ua fa ga ma ca da hni hw H locs hP hD hS ls hl
                have hi : j = 1024 := by omega
                refine lv_iload hx hb dX9_holds_57 (lv_at hl 6 rfl) ?_
                refine lv_sipush (v := 1023) hx hb dX9_holds_59 (by decide) ?_
                refine lv_icmp_gt (tgt := 128) hx hb dX9_holds_62 (by decide) (fun _ => ?_) (fun c_62 => absurd (by rw [hi]; decide) c_62)
                refine lv_iinc (v := (nI (i + 1))) (lv' := [(5, .int (nI (i + 1))), (0, .ref h0), (1, .int x1), (2, .int x2), (3, .int x3), (4, .int x2), (6, .int (nI j))]) hx hb dX9_holds_128 hl (k := 5) rfl (nI_1 i) (by decide) rfl (fun ls hl => ?_)
                refine lv_goto (tgt := 47) hx hb dX9_holds_131 (by decide) ?_
                exact ih (i + 1) ja ka la ua fa ga ma ca da (by omega) (Or.inr (hw.resolve_left (fun h => by omega))) _ _ (hP.sub [0, 1, 2, 3, 4, 5, 6, 7, 8, 9, 10, 11, 12, 13, 14, 15] rfl) (hD.sub [0, 1, 2, 3, 4, 5, 6, 7, 8, 9, 10, 11, 12, 13, 14, 15] (by decide) rfl) hS _ (lv_sub hl [1, 2, 3, 4, 5, 0] rfl)
              | succ n ih =>
                intro j ja ka la ua fa ga ma ca da hni hw H locs hP hD hS ls hl
                have hi : j < 1024 := by omega
                refine lv_iload hx hb dX9_holds_57 (lv_at hl 6 rfl) ?_
                refine lv_sipush (v := 1023) hx hb dX9_holds_59 (by decide) ?_
                refine lv_icmp_gt (tgt := 128) hx hb dX9_holds_62 (by decide) (fun c_62 => absurd c_62 (nI_nlt (a := 1023) (by omega) (by decide))) (fun _ => ?_)
                refine lv_iload hx hb dX9_holds_65 (lv_at hl 6 rfl) ?_
                refine cSR (As := [.int (nI j)]) (rest := []) (n := 1) X hN hK hP (c_J6_bitCount_0f7a4 l D cI cB (nI j)) k_754 k_755 k_111 k_756 (by decide +kernel) ⟨Nat.le_of_ble_eq_true rfl, Nat.le_of_ble_eq_true rfl⟩ ⟨rfl, rfl⟩ [] rfl rfl rfl hl.1 (Nat.le_of_ble_eq_true rfl) dX9_holds_67 ⟨Nat.le_of_ble_eq_true rfl, Nat.le_of_ble_eq_true rfl⟩ (fun rb hrb => ?_)
                refine lv_iload hx hb dX9_holds_70 (lv_at hl 5 rfl) ?_
                refine lv_icmp_ne (tgt := 88) hx hb dX9_holds_72 (by decide) (fun c_72 => ?_) (fun c_72 => ?_)
                · refine lv_iconst (v := 0) hx hb dX9_holds_88 (by decide) ?_
                  refine lv_istore (lv' := [(7, .int 0), (0, .ref h0), (1, .int x1), (2, .int x2), (3, .int x3), (4, .int x2), (5, .int (nI i)), (6, .int (nI j))]) hx hb dX9_holds_89 hl (by decide) rfl (fun ls hl => ?_)
                  refine lv_iload hx hb dX9_holds_91 (lv_at hl 0 rfl) ?_
                  refine lv_if_eq (tgt := 122) hx hb dX9_holds_93 (by decide) (fun _ => ?_) (fun c_93 => absurd (by decide) c_93)
                  refine lv_iinc (v := (nI (j + 1))) (lv' := [(6, .int (nI (j + 1))), (7, .int 0), (0, .ref h0), (1, .int x1), (2, .int x2), (3, .int x3), (4, .int x2), (5, .int (nI i))]) hx hb dX9_holds_122 hl (k := 7) rfl (nI_1 j) (by decide) rfl (fun ls hl => ?_)
                  refine lv_goto (tgt := 57) hx hb dX9_holds_125 (by decide) ?_
                  exact ih (j + 1) ja ka la ua fa ga ma ca da (by omega) (Or.inr (hw.resolve_left (fun h => c_72 (by rw [h.1, hrb (by rw [h.2]; rfl)]; rfl)))) _ _ (hP.sub [0, 1, 2, 3, 4, 5, 6, 7, 8, 9, 10, 11, 12, 13, 14, 15] rfl) (hD.sub [0, 1, 2, 3, 4, 5, 6, 7, 8, 9, 10, 11, 12, 13, 14, 15] (by decide) rfl) hS _ (lv_sub hl [2, 3, 4, 5, 6, 7, 0] rfl)
                · refine lv_aload_n hx hb dX9_holds_75 rfl (lv_at hl 0 rfl) ?_
                  refine lv_iload hx hb dX9_holds_76 (lv_at hl 6 rfl) ?_
                  refine cVR (As := [.int (nI j)]) (rest := []) (n := 1) (ci := 9) (q0 := 0) X hN hK hP (c_X9_areTold l D cI cB h0 tp tw nw kp lw lr dd vv tl sc t1 t2 t3 t4 (nI j)) (gV k_893 k_895 k_20 k_92 k_896) (by decide +kernel) ⟨Nat.le_of_ble_eq_true rfl, Nat.le_of_ble_eq_true rfl⟩ ⟨rfl, rfl⟩ [0, 1] rfl rfl rfl rfl rfl rfl hl.1 (Nat.le_of_ble_eq_true rfl) dX9_holds_78 ⟨Nat.le_of_ble_eq_true rfl, Nat.le_of_ble_eq_true rfl⟩ (fun r_15 hr_15 => ?_)
                  subst hr_15
                  refine lv_if_eq (tgt := 88) hx hb dX9_holds_81 (by decide) (fun c_81 => ?_) (fun c_81 => ?_)
                  · refine lv_iconst (v := 0) hx hb dX9_holds_88 (by decide) ?_
                    refine lv_istore (lv' := [(7, .int 0), (0, .ref h0), (1, .int x1), (2, .int x2), (3, .int x3), (4, .int x2), (5, .int (nI i)), (6, .int (nI j))]) hx hb dX9_holds_89 hl (by decide) rfl (fun ls hl => ?_)
                    refine lv_iload hx hb dX9_holds_91 (lv_at hl 0 rfl) ?_
                    refine lv_if_eq (tgt := 122) hx hb dX9_holds_93 (by decide) (fun _ => ?_) (fun c_93 => absurd (by decide) c_93)
                    refine lv_iinc (v := (nI (j + 1))) (lv' := [(6, .int (nI (j + 1))), (7, .int 0), (0, .ref h0), (1, .int x1), (2, .int x2), (3, .int x3), (4, .int x2), (5, .int (nI i))]) hx hb dX9_holds_122 hl (k := 7) rfl (nI_1 j) (by decide) rfl (fun ls hl => ?_)
                    refine lv_goto (tgt := 57) hx hb dX9_holds_125 (by decide) ?_
                    exact ih (j + 1) ja ka la ua fa ga ma ca da (by omega) (Or.inr (hw.resolve_left (fun h => bIf c_81 (by rw [h.2]; rfl)))) _ _ (hP.sub [0, 1, 2, 3, 4, 5, 6, 7, 8, 9, 10, 11, 12, 13, 14, 15] rfl) (hD.sub [0, 1, 2, 3, 4, 5, 6, 7, 8, 9, 10, 11, 12, 13, 14, 15] (by decide) rfl) hS _ (lv_sub hl [2, 3, 4, 5, 6, 7, 0] rfl)
                  · refine lv_iconst (v := 1) hx hb dX9_holds_84 (by decide) ?_
                    refine lv_goto (tgt := 89) hx hb dX9_holds_85 (by decide) ?_
                    refine lv_istore (lv' := [(7, .int 1), (0, .ref h0), (1, .int x1), (2, .int x2), (3, .int x3), (4, .int x2), (5, .int (nI i)), (6, .int (nI j))]) hx hb dX9_holds_89 hl (by decide) rfl (fun ls hl => ?_)
                    refine lv_iload hx hb dX9_holds_91 (lv_at hl 0 rfl) ?_
                    refine lv_if_eq (tgt := 122) hx hb dX9_holds_93 (by decide) (fun c_93 => absurd c_93 (by decide)) (fun _ => ?_)
                    refine lv_aload_n hx hb dX9_holds_96 rfl (lv_at hl 1 rfl) ?_
                    refine lv_iload hx hb dX9_holds_97 (lv_at hl 7 rfl) ?_
                    refine tv (z := 0) (bIt c_81) ?_
                    refine lv_iload_n hx hb dX9_holds_99 rfl (lv_at hl 2 rfl) ?_
                    refine tv (z := nI N) en ?_
                    refine lv_iload hx hb dX9_holds_100 (lv_at hl 5 rfl) ?_
                    refine cVI (As := [.int 0, .int (nI N), .int x2]) (rest := []) (n := 3) (ci := 9) (q0 := 0) (wr := []) X hN hK hP hD hS hA (c_X9_runAway l D cI cB _ h0 tp tw nw kp lw lr dd vv tl sc t1 t2 t3 t4 u2 f2 g2 fu2 ff2 fg2 l1 l2 l3 l4 l5 l6 l7 lz lc la st m1 c1 d1 (-1) idf idt (-1) fp 0 0 (nI ja) u1 f1 g1 0 (nI ja) (nI ka) ua fa ga ma ca da N x2 hu hf hg (by omega)) (gV k_976 k_978 k_27 k_92 k_979) (by decide +kernel) ⟨Nat.le_of_ble_eq_true rfl, Nat.le_of_ble_eq_true rfl⟩ ⟨rfl, rfl⟩ [0, 1, 2, 3, 4, 5, 6, 7, 8, 9, 10, 11, 12, 13, 14, 15] [] rfl rfl (by decide) (by decide) rfl rfl rfl rfl rfl hl.1 (Nat.le_of_ble_eq_true rfl) dX9_holds_102 ⟨Nat.le_of_ble_eq_true rfl, Nat.le_of_ble_eq_true rfl⟩ (fun r_16 u H locs hw_26 hP hD hS => ?_)
                    obtain ⟨jo_17, ko_18, lo_19, uo_20, fo_21, go_22, mo_23, co_24, do__25⟩ := u
                    try dsimp only at hw_26
                    have hP : va_P D vwCl [(h0, .inr (9, [.ref tp, .ref tw, .ref nw, .ref kp, .ref lw, .ref lr, .ref dd, .ref vv, .ref tl, .ref sc, .int 0])), (tw, .inr (7, [.int 0, .int 0, .int 0, .ref t1, .ref t2, .ref t3, .ref t4])), (nw, .inr (4, [.ref u2, .ref f2, .ref g2, .int 0, .int 0, .int 1])), (u2, .inl (cI, 12, .inl fu2)), (f2, .inl (cI, 10, .inl ff2)), (g2, .inl (cI, 10, .inl fg2)), (lw, .inr (1, [.ref l1, .ref l2, .ref l3, .ref l4, .ref l5, .ref l6, .ref l7, .int lz, .int lc])), (l6, .inl (cI, 8, .inl lo_19)), (tl, .inr (8, [.ref tw, .ref lw, .ref st, .ref m1, .ref c1, .ref d1, .int (-1), .int idf, .int idt, .int (-1), .int fp, .int 0, .int 0, .int (nI jo_17)])), (st, .inr (4, [.ref u1, .ref f1, .ref g1, .int 0, .int (nI jo_17), .int (nI ko_18)])), (u1, .inl (cI, 12, .inl uo_20)), (f1, .inl (cI, 10, .inl fo_21)), (g1, .inl (cI, 10, .inl go_22)), (m1, .inl (cI, 10, .inl mo_23)), (c1, .inl (cI, 10, .inl co_24)), (d1, .inl (cI, 10, .inl do__25))] H := hP
                    have hD : va_D A [(h0, .inr (9, [.ref tp, .ref tw, .ref nw, .ref kp, .ref lw, .ref lr, .ref dd, .ref vv, .ref tl, .ref sc, .int 0])), (tw, .inr (7, [.int 0, .int 0, .int 0, .ref t1, .ref t2, .ref t3, .ref t4])), (nw, .inr (4, [.ref u2, .ref f2, .ref g2, .int 0, .int 0, .int 1])), (u2, .inl (cI, 12, .inl fu2)), (f2, .inl (cI, 10, .inl ff2)), (g2, .inl (cI, 10, .inl fg2)), (lw, .inr (1, [.ref l1, .ref l2, .ref l3, .ref l4, .ref l5, .ref l6, .ref l7, .int lz, .int lc])), (l6, .inl (cI, 8, .inl lo_19)), (tl, .inr (8, [.ref tw, .ref lw, .ref st, .ref m1, .ref c1, .ref d1, .int (-1), .int idf, .int idt, .int (-1), .int fp, .int 0, .int 0, .int (nI jo_17)])), (st, .inr (4, [.ref u1, .ref f1, .ref g1, .int 0, .int (nI jo_17), .int (nI ko_18)])), (u1, .inl (cI, 12, .inl uo_20)), (f1, .inl (cI, 10, .inl fo_21)), (g1, .inl (cI, 10, .inl go_22)), (m1, .inl (cI, 10, .inl mo_23)), (c1, .inl (cI, 10, .inl co_24)), (d1, .inl (cI, 10, .inl do__25))] := hD
                    subst hw_26
                    refine lv_iload hx hb dX9_holds_105 (lv_at hl 5 rfl) ?_
                    refine lv_icmp_lt (tgt := 122) hx hb dX9_holds_107 (by decide) (fun c_107 => ?_) (fun c_107 => ?_)
                    · refine lv_iinc (v := (nI (j + 1))) (lv' := [(6, .int (nI (j + 1))), (7, .int 1), (0, .ref h0), (1, .int x1), (2, .int x2), (3, .int x3), (4, .int x2), (5, .int (nI i))]) hx hb dX9_holds_122 hl (k := 7) rfl (nI_1 j) (by decide) rfl (fun ls hl => ?_)
                      refine lv_goto (tgt := 57) hx hb dX9_holds_125 (by decide) ?_
                      exact ih (j + 1) jo_17 ko_18 lo_19 uo_20 fo_21 go_22 mo_23 co_24 do__25 (by omega) (Or.inr c_107) _ _ (hP.sub [0, 1, 2, 3, 4, 5, 6, 7, 8, 9, 10, 11, 12, 13, 14, 15] rfl) (hD.sub [0, 1, 2, 3, 4, 5, 6, 7, 8, 9, 10, 11, 12, 13, 14, 15] (by decide) rfl) hS _ (lv_sub hl [2, 3, 4, 5, 6, 7, 0] rfl)
                    · refine lv_iload_n hx hb dX9_holds_110 rfl (lv_at hl 4 rfl) ?_
                      refine lv_if_ne (tgt := 119) hx hb dX9_holds_111 (by decide) (fun c_111 => ?_) (fun c_111 => ?_)
                      · refine lv_iload hx hb dX9_holds_119 (lv_at hl 7 rfl) ?_
                        exact ret _ _ _ _ (nI j) () dX9_holds_121 rfl ((bIt c_81).trans ((iI1 (z := -2) (le0 (bIt c_18).1 (Int32.not_lt.mp c_107))).trans (iI1 ⟨bIt c_7, bIt c_18, bIt c_27⟩))) (hP.sub [] rfl) (hD.sub [] (by decide) rfl) hS
                      · refine lv_iload hx hb dX9_holds_114 (lv_at hl 6 rfl) ?_
                        refine lv_goto (tgt := 121) hx hb dX9_holds_116 (by decide) ?_
                        exact ret _ _ _ _ (nI i) () dX9_holds_121 rfl ((c_72.symm.trans (hrb (bIt c_81))).trans ((iI1 (z := -2) (le0 (bIt c_18).1 (Int32.not_lt.mp c_107))).trans (iI1 ⟨bIt c_7, bIt c_18, bIt c_27⟩))) (hP.sub [] rfl) (hD.sub [] (by decide) rfl) hS
            exact loop_57 1024 0 ja ka la ua fa ga ma ca da (by omega) (hv.imp (fun h => ⟨h, rfl⟩) id) _ _ (hP.sub [0, 1, 2, 3, 4, 5, 6, 7, 8, 9, 10, 11, 12, 13, 14, 15] rfl) (hD.sub [0, 1, 2, 3, 4, 5, 6, 7, 8, 9, 10, 11, 12, 13, 14, 15] (by decide) rfl) hS _ (lv_sub hl [1, 2, 3, 4, 5, 6, 0] rfl)
        exact loop_47 11 0 jo_5 ko_6 lo_7 uo_8 fo_9 go_10 mo_11 co_12 do__13 (by omega) (Or.inl rfl) _ _ (hP.sub [0, 1, 2, 3, 4, 5, 6, 7, 8, 9, 10, 11, 12, 13, 14, 15] rfl) (hD.sub [0, 1, 2, 3, 4, 5, 6, 7, 8, 9, 10, 11, 12, 13, 14, 15] (by decide) rfl) hS _ (lv_sub hl [2, 3, 4, 5, 1, 0] rfl)
      · refine lv_iconst (v := (-1)) hx hb dX9_holds_30 (by decide) ?_
        exact ret _ _ _ _ (-1) () dX9_holds_31 rfl (iI0 (fun h => bIf c_27 h.2.2)) (hP.sub [] rfl) (hD.sub [] (by decide) rfl) hS

set_option maxRecDepth 100000 in
set_option maxHeartbeats 4000000 in
theorem c_X9_mayor (l : Launch) (D : va_G) (cI cB : ClassId) (sz : Nat) (h0 : Nat) (tp : Nat) (tw : Nat) (nw : Nat) (kp : Nat) (lw : Nat) (lr : Nat) (dd : Nat) (vv : Nat) (tl : Nat) (sc : Nat) (t1 : Nat) (t2 : Nat) (t3 : Nat) (t4 : Nat) (u2 : Nat) (f2 : Nat) (g2 : Nat) (fu2 : Nat → Int32) (ff2 : Nat → Int32) (fg2 : Nat → Int32) (l1 : Nat) (l2 : Nat) (l3 : Nat) (l4 : Nat) (l5 : Nat) (l6 : Nat) (l7 : Nat) (lz : Int32) (lc : Int32) (fl : Nat → Int32) (st : Nat) (m1 : Nat) (c1 : Nat) (d1 : Nat) (idl : Int32) (idf : Int32) (idt : Int32) (fc : Int32) (fp : Int32) (mb : Int32) (ra : Int32) (cl : Int32) (u1 : Nat) (f1 : Nat) (g1 : Nat) (ms : Int32) (dy : Int32) (dr : Int32) (fu : Nat → Int32) (ff : Nat → Int32) (fg : Nat → Int32) (fm : Nat → Int32) (fc1 : Nat → Int32) (fd : Nat → Int32) (x1 : Int32) (x2 : Int32) (hu : ∀ j, j < 12 → fu2 j = 0) (hf : ∀ j, j < 10 → ff2 j = -2) (hg : ∀ j, j < 10 → fg2 j = -2) : MI (S := Unit) l D cI cB yX9_mayor cX9_mayor 9 .int (rm 5 126) [.ref h0, .int x1, .int x2] [(h0, .inr (9, [.ref tp, .ref tw, .ref nw, .ref kp, .ref lw, .ref lr, .ref dd, .ref vv, .ref tl, .ref sc, .int 0])), (tw, .inr (7, [.int 0, .int 0, .int 0, .ref t1, .ref t2, .ref t3, .ref t4])), (nw, .inr (4, [.ref u2, .ref f2, .ref g2, .int 0, .int 0, .int 1])), (u2, .inl (cI, 12, .inl fu2)), (f2, .inl (cI, 10, .inl ff2)), (g2, .inl (cI, 10, .inl fg2)), (lw, .inr (1, [.ref l1, .ref l2, .ref l3, .ref l4, .ref l5, .ref l6, .ref l7, .int lz, .int lc])), (l6, .inl (cI, 8, .inl fl)), (tl, .inr (8, [.ref tw, .ref lw, .ref st, .ref m1, .ref c1, .ref d1, .int idl, .int idf, .int idt, .int fc, .int fp, .int mb, .int ra, .int cl])), (st, .inr (4, [.ref u1, .ref f1, .ref g1, .int ms, .int dy, .int dr])), (u1, .inl (cI, 12, .inl fu)), (f1, .inl (cI, 10, .inl ff)), (g1, .inl (cI, 10, .inl fg)), (m1, .inl (cI, 10, .inl fm)), (c1, .inl (cI, 10, .inl fc1)), (d1, .inl (cI, 10, .inl fd))] sz (fun r u => r = iI ((1 ≤ x1 ∧ x1 ≤ 60) ∧ (0 ≤ x2 ∧ x2 ≤ 1)) (-2) (-1000000000)) (fun u : Unit => []) := by
  refine MI.of (by decide) (Nat.le_of_ble_eq_true rfl) ?_
  intro p e s m below meth c Q ls A X hin hN hP hK hD hA hl ret
  have hS : va_S A s.heap s.heap [] := va_S.rf
  obtain ⟨hx, hb, hml, hown, htb⟩ := id X
  have hl : lv_has ls 9 [(0, .ref h0), (1, .int x1), (2, .int x2)] := hl
  refine lv_iload_n hx hb dX9_mayor_0 rfl (lv_at hl 2 rfl) ?_
  refine lv_iconst (v := 0) hx hb dX9_mayor_1 (by decide) ?_
  refine lv_iconst (v := 1) hx hb dX9_mayor_2 (by decide) ?_
  refine cSR (As := [.int x2, .int 0, .int 1]) (rest := []) (n := 3) X hN hK hP (c_X9_within l D cI cB x2 0 1) k_431 k_432 k_92 k_433 (by decide +kernel) ⟨Nat.le_of_ble_eq_true rfl, Nat.le_of_ble_eq_true rfl⟩ ⟨rfl, rfl⟩ [] rfl rfl rfl hl.1 (Nat.le_of_ble_eq_true rfl) dX9_mayor_3 ⟨Nat.le_of_ble_eq_true rfl, Nat.le_of_ble_eq_true rfl⟩ (fun r_1 hr_1 => ?_)
  subst hr_1
  refine lv_if_ne (tgt := 23) hx hb dX9_mayor_6 (by decide) (fun c_6 => ?_) (fun c_6 => ?_)
  · refine lv_iconst (v := 1) hx hb dX9_mayor_23 (by decide) ?_
    refine lv_goto (tgt := 28) hx hb dX9_mayor_24 (by decide) ?_
    refine lv_istore_n (lv' := [(3, .int 1), (0, .ref h0), (1, .int x1), (2, .int x2)]) hx hb dX9_mayor_28 rfl hl (by decide) rfl (fun ls hl => ?_)
    refine lv_iload_n hx hb dX9_mayor_29 rfl (lv_at hl 2 rfl) ?_
    refine cSR (As := [.int x1]) (rest := []) (n := 1) X hN hK hP (c_X9_isDayCount l D cI cB x1) k_770 k_771 k_92 k_772 (by decide +kernel) ⟨Nat.le_of_ble_eq_true rfl, Nat.le_of_ble_eq_true rfl⟩ ⟨rfl, rfl⟩ [] rfl rfl rfl hl.1 (Nat.le_of_ble_eq_true rfl) dX9_mayor_30 ⟨Nat.le_of_ble_eq_true rfl, Nat.le_of_ble_eq_true rfl⟩ (fun r_2 hr_2 => ?_)
    subst hr_2
    refine lv_if_eq (tgt := 40) hx hb dX9_mayor_33 (by decide) (fun c_33 => ?_) (fun c_33 => ?_)
    · refine lv_ldc (v := (-1000000000)) hx hb hown (htb _ k_918) dX9_mayor_40 ?_
      exact ret _ _ _ _ (-1000000000) () dX9_mayor_42 rfl (iI0 (fun h => bIf c_33 h.1)) (hP.sub [] rfl) (hD.sub [] (by decide) rfl) hS
    · refine lv_iload_n hx hb dX9_mayor_36 rfl (lv_at hl 0 rfl) ?_
      refine lv_if_ne (tgt := 43) hx hb dX9_mayor_37 (by decide) (fun _ => ?_) (fun c_37 => absurd c_37 (by decide))
      obtain ⟨N, hN0, en⟩ := dcN (k := 60) (by decide) (bIt c_33)
      refine lv_aload_n hx hb dX9_mayor_43 rfl (lv_at hl 1 rfl) ?_
      refine lv_iconst (v := 0) hx hb dX9_mayor_44 (by decide) ?_
      refine lv_iload_n hx hb dX9_mayor_45 rfl (lv_at hl 2 rfl) ?_
      refine tv (z := nI N) en ?_
      refine lv_ldc (v := 2147483647) hx hb hown (htb _ k_783) dX9_mayor_46 ?_
      refine cVI (As := [.int 0, .int (nI N), .int 2147483647]) (rest := []) (n := 3) (ci := 9) (q0 := 0) (wr := []) X hN hK hP hD hS hA (c_X9_runAway l D cI cB _ h0 tp tw nw kp lw lr dd vv tl sc t1 t2 t3 t4 u2 f2 g2 fu2 ff2 fg2 l1 l2 l3 l4 l5 l6 l7 lz lc fl st m1 c1 d1 idl idf idt fc fp mb ra cl u1 f1 g1 ms dy dr fu ff fg fm fc1 fd N 2147483647 hu hf hg hN0) (gV k_976 k_978 k_27 k_92 k_979) (by decide +kernel) ⟨Nat.le_of_ble_eq_true rfl, Nat.le_of_ble_eq_true rfl⟩ ⟨rfl, rfl⟩ [0, 1, 2, 3, 4, 5, 6, 7, 8, 9, 10, 11, 12, 13, 14, 15] [] rfl rfl (by decide) (by decide) rfl rfl rfl rfl rfl hl.1 (Nat.le_of_ble_eq_true rfl) dX9_mayor_48 ⟨Nat.le_of_ble_eq_true rfl, Nat.le_of_ble_eq_true rfl⟩ (fun r_3 u H locs hw_13 hP hD hS => ?_)
      obtain ⟨jo_4, ko_5, lo_6, uo_7, fo_8, go_9, mo_10, co_11, do__12⟩ := u
      try dsimp only at hw_13
      have hP : va_P D vwCl [(h0, .inr (9, [.ref tp, .ref tw, .ref nw, .ref kp, .ref lw, .ref lr, .ref dd, .ref vv, .ref tl, .ref sc, .int 0])), (tw, .inr (7, [.int 0, .int 0, .int 0, .ref t1, .ref t2, .ref t3, .ref t4])), (nw, .inr (4, [.ref u2, .ref f2, .ref g2, .int 0, .int 0, .int 1])), (u2, .inl (cI, 12, .inl fu2)), (f2, .inl (cI, 10, .inl ff2)), (g2, .inl (cI, 10, .inl fg2)), (lw, .inr (1, [.ref l1, .ref l2, .ref l3, .ref l4, .ref l5, .ref l6, .ref l7, .int lz, .int lc])), (l6, .inl (cI, 8, .inl lo_6)), (tl, .inr (8, [.ref tw, .ref lw, .ref st, .ref m1, .ref c1, .ref d1, .int (-1), .int idf, .int idt, .int (-1), .int fp, .int 0, .int 0, .int (nI jo_4)])), (st, .inr (4, [.ref u1, .ref f1, .ref g1, .int 0, .int (nI jo_4), .int (nI ko_5)])), (u1, .inl (cI, 12, .inl uo_7)), (f1, .inl (cI, 10, .inl fo_8)), (g1, .inl (cI, 10, .inl go_9)), (m1, .inl (cI, 10, .inl mo_10)), (c1, .inl (cI, 10, .inl co_11)), (d1, .inl (cI, 10, .inl do__12))] H := hP
      have hD : va_D A [(h0, .inr (9, [.ref tp, .ref tw, .ref nw, .ref kp, .ref lw, .ref lr, .ref dd, .ref vv, .ref tl, .ref sc, .int 0])), (tw, .inr (7, [.int 0, .int 0, .int 0, .ref t1, .ref t2, .ref t3, .ref t4])), (nw, .inr (4, [.ref u2, .ref f2, .ref g2, .int 0, .int 0, .int 1])), (u2, .inl (cI, 12, .inl fu2)), (f2, .inl (cI, 10, .inl ff2)), (g2, .inl (cI, 10, .inl fg2)), (lw, .inr (1, [.ref l1, .ref l2, .ref l3, .ref l4, .ref l5, .ref l6, .ref l7, .int lz, .int lc])), (l6, .inl (cI, 8, .inl lo_6)), (tl, .inr (8, [.ref tw, .ref lw, .ref st, .ref m1, .ref c1, .ref d1, .int (-1), .int idf, .int idt, .int (-1), .int fp, .int 0, .int 0, .int (nI jo_4)])), (st, .inr (4, [.ref u1, .ref f1, .ref g1, .int 0, .int (nI jo_4), .int (nI ko_5)])), (u1, .inl (cI, 12, .inl uo_7)), (f1, .inl (cI, 10, .inl fo_8)), (g1, .inl (cI, 10, .inl go_9)), (m1, .inl (cI, 10, .inl mo_10)), (c1, .inl (cI, 10, .inl co_11)), (d1, .inl (cI, 10, .inl do__12))] := hD
      subst hw_13
      refine lv_istore (lv' := [(4, .int 0), (3, .int 1), (0, .ref h0), (1, .int x1), (2, .int x2)]) hx hb dX9_mayor_51 hl (by decide) rfl (fun ls hl => ?_)
      refine lv_iload_n hx hb dX9_mayor_53 rfl (lv_at hl 4 rfl) ?_
      refine lv_bipush (v := 10) hx hb dX9_mayor_54 (by decide) ?_
      refine lv_icmp_lt (tgt := 76) hx hb dX9_mayor_56 (by decide) (fun _ => ?_) (fun c_56 => absurd (Int32.lt_of_le_of_lt (bIt c_6).2 (by decide)) c_56)
      refine lv_ldc (v := 2147483647) hx hb hown (htb _ k_783) dX9_mayor_76 ?_
      refine lv_istore (lv' := [(5, .int 2147483647), (4, .int 0), (3, .int 1), (0, .ref h0), (1, .int x1), (2, .int x2)]) hx hb dX9_mayor_78 hl (by decide) rfl (fun ls hl => ?_)
      refine lv_bipush (v := (-2)) hx hb dX9_mayor_80 (by decide) ?_
      refine lv_istore (lv' := [(6, .int (-2)), (5, .int 2147483647), (4, .int 0), (3, .int 1), (0, .ref h0), (1, .int x1), (2, .int x2)]) hx hb dX9_mayor_82 hl (by decide) rfl (fun ls hl => ?_)
      refine lv_iconst (v := 0) hx hb dX9_mayor_84 (by decide) ?_
      refine lv_istore (lv' := [(7, .int 0), (6, .int (-2)), (5, .int 2147483647), (4, .int 0), (3, .int 1), (0, .ref h0), (1, .int x1), (2, .int x2)]) hx hb dX9_mayor_85 hl (by decide) rfl (fun ls hl => ?_)
      have loop_87 : ∀ (n i : Nat), n + i = 10 → ∀ (H : Heap) (locs : List Loc), va_P D vwCl [(h0, .inr (9, [.ref tp, .ref tw, .ref nw, .ref kp, .ref lw, .ref lr, .ref dd, .ref vv, .ref tl, .ref sc, .int 0])), (tw, .inr (7, [.int 0, .int 0, .int 0, .ref t1, .ref t2, .ref t3, .ref t4])), (nw, .inr (4, [.ref u2, .ref f2, .ref g2, .int 0, .int 0, .int 1])), (u2, .inl (cI, 12, .inl fu2)), (f2, .inl (cI, 10, .inl ff2)), (g2, .inl (cI, 10, .inl fg2)), (lw, .inr (1, [.ref l1, .ref l2, .ref l3, .ref l4, .ref l5, .ref l6, .ref l7, .int lz, .int lc])), (l6, .inl (cI, 8, .inl lo_6)), (tl, .inr (8, [.ref tw, .ref lw, .ref st, .ref m1, .ref c1, .ref d1, .int (-1), .int idf, .int idt, .int (-1), .int fp, .int 0, .int 0, .int (nI jo_4)])), (st, .inr (4, [.ref u1, .ref f1, .ref g1, .int 0, .int (nI jo_4), .int (nI ko_5)])), (u1, .inl (cI, 12, .inl uo_7)), (f1, .inl (cI, 10, .inl fo_8)), (g1, .inl (cI, 10, .inl go_9)), (m1, .inl (cI, 10, .inl mo_10)), (c1, .inl (cI, 10, .inl co_11)), (d1, .inl (cI, 10, .inl do__12))] H → va_D A [(h0, .inr (9, [.ref tp, .ref tw, .ref nw, .ref kp, .ref lw, .ref lr, .ref dd, .ref vv, .ref tl, .ref sc, .int 0])), (tw, .inr (7, [.int 0, .int 0, .int 0, .ref t1, .ref t2, .ref t3, .ref t4])), (nw, .inr (4, [.ref u2, .ref f2, .ref g2, .int 0, .int 0, .int 1])), (u2, .inl (cI, 12, .inl fu2)), (f2, .inl (cI, 10, .inl ff2)), (g2, .inl (cI, 10, .inl fg2)), (lw, .inr (1, [.ref l1, .ref l2, .ref l3, .ref l4, .ref l5, .ref l6, .ref l7, .int lz, .int lc])), (l6, .inl (cI, 8, .inl lo_6)), (tl, .inr (8, [.ref tw, .ref lw, .ref st, .ref m1, .ref c1, .ref d1, .int (-1), .int idf, .int idt, .int (-1), .int fp, .int 0, .int 0, .int (nI jo_4)])), (st, .inr (4, [.ref u1, .ref f1, .ref g1, .int 0, .int (nI jo_4), .int (nI ko_5)])), (u1, .inl (cI, 12, .inl uo_7)), (f1, .inl (cI, 10, .inl fo_8)), (g1, .inl (cI, 10, .inl go_9)), (m1, .inl (cI, 10, .inl mo_10)), (c1, .inl (cI, 10, .inl co_11)), (d1, .inl (cI, 10, .inl do__12))] → va_S A s.heap H locs → ∀ (ls : Array Slot), lv_has ls 9 [(0, .ref h0), (1, .int x1), (2, .int x2), (3, .int 1), (4, .int 0), (5, .int 2147483647), (6, .int (-2)), (7, .int (nI i))] → W p l e (rm 5 126) s m ([.ref h0, .int x1, .int x2] : List Value).toArray below meth c H locs 0 0 Q (F0 m 87 ls []) := by
        intro n
        induction n with
        | zero =>
          intro i hni H locs hP hD hS ls hl
          have hi : i = 10 := by omega
          subst hi
          refine lv_iload hx hb dX9_mayor_87 (lv_at hl 7 rfl) ?_
          refine lv_bipush (v := 10) hx hb dX9_mayor_89 (by decide) ?_
          refine lv_icmp_ge (tgt := 140) hx hb dX9_mayor_91 (by decide) (fun _ => ?_) (fun c_91 => absurd (by decide) c_91)
          refine lv_iload_n hx hb dX9_mayor_140 rfl (lv_at hl 2 rfl) ?_
          refine lv_if_eq (tgt := 151) hx hb dX9_mayor_141 (by decide) (fun c_141 => ?_) (fun c_141 => ?_)
          · refine lv_iload hx hb dX9_mayor_151 (lv_at hl 6 rfl) ?_
            refine lv_goto (tgt := 161) hx hb dX9_mayor_153 (by decide) ?_
            exact ret _ _ _ _ (-2) () dX9_mayor_161 rfl (iI1 ⟨bIt c_33, bIt c_6⟩) (hP.sub [] rfl) (hD.sub [] (by decide) rfl) hS
          · refine lv_iload hx hb dX9_mayor_144 (lv_at hl 6 rfl) ?_
            refine lv_bipush (v := (-2)) hx hb dX9_mayor_146 (by decide) ?_
            refine lv_icmp_ne (tgt := 156) hx hb dX9_mayor_148 (by decide) (fun c_148 => absurd (by decide) c_148) (fun _ => ?_)
            refine lv_iload hx hb dX9_mayor_151 (lv_at hl 6 rfl) ?_
            refine lv_goto (tgt := 161) hx hb dX9_mayor_153 (by decide) ?_
            exact ret _ _ _ _ (-2) () dX9_mayor_161 rfl (iI1 ⟨bIt c_33, bIt c_6⟩) (hP.sub [] rfl) (hD.sub [] (by decide) rfl) hS
        | succ n ih =>
          intro i hni H locs hP hD hS ls hl
          have hi : i < 10 := by omega
          refine lv_iload hx hb dX9_mayor_87 (lv_at hl 7 rfl) ?_
          refine lv_bipush (v := 10) hx hb dX9_mayor_89 (by decide) ?_
          refine lv_icmp_ge (tgt := 140) hx hb dX9_mayor_91 (by decide) (fun c_91 => absurd c_91 (nI_ge hi (by decide))) (fun _ => ?_)
          refine lv_aload_n hx hb dX9_mayor_94 rfl (lv_at hl 0 rfl) ?_
          refine va_get (D := D) (ci := 9) (v := .ref tw) (C := RX9) (T := TX9) (N := 11) hx hb htb itX9 hown hK hP 0 rfl rfl 1 (by decide) (htb _ k_394) (fun _ h9 => h9) rfl dX9_mayor_95 ?_
          refine lv_iload hx hb dX9_mayor_98 (lv_at hl 7 rfl) ?_
          refine cVR (As := [.int (nI i)]) (rest := []) (n := 1) (ci := 7) (q0 := 0) X hN hK hP (c_X7_hasPerson l D cI cB tw 0 t1 t2 t3 t4 (nI i)) (gV k_859 k_860 k_861 k_94 k_862) (by decide +kernel) ⟨Nat.le_of_ble_eq_true rfl, Nat.le_of_ble_eq_true rfl⟩ ⟨rfl, rfl⟩ [1] rfl rfl rfl rfl rfl rfl hl.1 (Nat.le_of_ble_eq_true rfl) dX9_mayor_100 ⟨Nat.le_of_ble_eq_true rfl, Nat.le_of_ble_eq_true rfl⟩ (fun r_14 hr_14 => ?_)
          subst hr_14
          refine lv_if_eq (tgt := 134) hx hb dX9_mayor_103 (by decide) (fun _ => ?_) (fun c_103 => absurd (by decide) c_103)
          refine lv_iinc (v := (nI (i + 1))) (lv' := [(7, .int (nI (i + 1))), (0, .ref h0), (1, .int x1), (2, .int x2), (3, .int 1), (4, .int 0), (5, .int 2147483647), (6, .int (-2))]) hx hb dX9_mayor_134 hl (k := 7) rfl (nI_1 i) (by decide) rfl (fun ls hl => ?_)
          refine lv_goto (tgt := 87) hx hb dX9_mayor_137 (by decide) ?_
          exact ih (i + 1) (by omega) _ _ (hP.sub [0, 1, 2, 3, 4, 5, 6, 7, 8, 9, 10, 11, 12, 13, 14, 15] rfl) (hD.sub [0, 1, 2, 3, 4, 5, 6, 7, 8, 9, 10, 11, 12, 13, 14, 15] (by decide) rfl) hS _ (lv_sub hl [1, 2, 3, 4, 5, 6, 7, 0] rfl)
      exact loop_87 10 0 (by omega) _ _ (hP.sub [0, 1, 2, 3, 4, 5, 6, 7, 8, 9, 10, 11, 12, 13, 14, 15] rfl) (hD.sub [0, 1, 2, 3, 4, 5, 6, 7, 8, 9, 10, 11, 12, 13, 14, 15] (by decide) rfl) hS _ (lv_sub hl [5, 6, 7, 4, 3, 2, 1, 0] rfl)
  · refine lv_aload_n hx hb dX9_mayor_9 rfl (lv_at hl 0 rfl) ?_
    refine va_get (D := D) (ci := 9) (v := .ref tw) (C := RX9) (T := TX9) (N := 11) hx hb htb itX9 hown hK hP 0 rfl rfl 1 (by decide) (htb _ k_394) (fun _ h9 => h9) rfl dX9_mayor_10 ?_
    refine lv_iload_n hx hb dX9_mayor_13 rfl (lv_at hl 2 rfl) ?_
    refine lv_bipush (v := 10) hx hb dX9_mayor_14 (by decide) ?_
    refine lv_isub hx hb dX9_mayor_16 ?_
    refine cVR (As := [.int (x2 - 10)]) (rest := []) (n := 1) (ci := 7) (q0 := 0) X hN hK hP (c_X7_hasPerson l D cI cB tw 0 t1 t2 t3 t4 (x2 - 10)) (gV k_859 k_860 k_861 k_94 k_862) (by decide +kernel) ⟨Nat.le_of_ble_eq_true rfl, Nat.le_of_ble_eq_true rfl⟩ ⟨rfl, rfl⟩ [1] rfl rfl rfl rfl rfl rfl hl.1 (Nat.le_of_ble_eq_true rfl) dX9_mayor_17 ⟨Nat.le_of_ble_eq_true rfl, Nat.le_of_ble_eq_true rfl⟩ (fun r_15 hr_15 => ?_)
    subst hr_15
    refine lv_if_eq (tgt := 27) hx hb dX9_mayor_20 (by decide) (fun _ => ?_) (fun c_20 => absurd (by decide) c_20)
    refine lv_iconst (v := 0) hx hb dX9_mayor_27 (by decide) ?_
    refine lv_istore_n (lv' := [(3, .int 0), (0, .ref h0), (1, .int x1), (2, .int x2)]) hx hb dX9_mayor_28 rfl hl (by decide) rfl (fun ls hl => ?_)
    refine lv_iload_n hx hb dX9_mayor_29 rfl (lv_at hl 2 rfl) ?_
    refine cSR (As := [.int x1]) (rest := []) (n := 1) X hN hK hP (c_X9_isDayCount l D cI cB x1) k_770 k_771 k_92 k_772 (by decide +kernel) ⟨Nat.le_of_ble_eq_true rfl, Nat.le_of_ble_eq_true rfl⟩ ⟨rfl, rfl⟩ [] rfl rfl rfl hl.1 (Nat.le_of_ble_eq_true rfl) dX9_mayor_30 ⟨Nat.le_of_ble_eq_true rfl, Nat.le_of_ble_eq_true rfl⟩ (fun r_16 hr_16 => ?_)
    subst hr_16
    refine lv_if_eq (tgt := 40) hx hb dX9_mayor_33 (by decide) (fun c_33 => ?_) (fun c_33 => ?_)
    · refine lv_ldc (v := (-1000000000)) hx hb hown (htb _ k_918) dX9_mayor_40 ?_
      exact ret _ _ _ _ (-1000000000) () dX9_mayor_42 rfl (iI0 (fun h => bIf c_33 h.1)) (hP.sub [] rfl) (hD.sub [] (by decide) rfl) hS
    · refine lv_iload_n hx hb dX9_mayor_36 rfl (lv_at hl 0 rfl) ?_
      refine lv_if_ne (tgt := 43) hx hb dX9_mayor_37 (by decide) (fun c_37 => absurd (by decide) c_37) (fun _ => ?_)
      refine lv_ldc (v := (-1000000000)) hx hb hown (htb _ k_918) dX9_mayor_40 ?_
      exact ret _ _ _ _ (-1000000000) () dX9_mayor_42 rfl (iI0 (fun h => bIf c_6 h.2)) (hP.sub [] rfl) (hD.sub [] (by decide) rfl) hS

set_option maxRecDepth 100000 in
set_option maxHeartbeats 4000000 in
theorem c_X9_mustStay (l : Launch) (D : va_G) (cI cB : ClassId) (sz : Nat) (h0 : Nat) (tp : Nat) (tw : Nat) (nw : Nat) (kp : Nat) (lw : Nat) (lr : Nat) (dd : Nat) (vv : Nat) (tl : Nat) (sc : Nat) (t1 : Nat) (t2 : Nat) (t3 : Nat) (t4 : Nat) (u2 : Nat) (f2 : Nat) (g2 : Nat) (fu2 : Nat → Int32) (ff2 : Nat → Int32) (fg2 : Nat → Int32) (l1 : Nat) (l2 : Nat) (l3 : Nat) (l4 : Nat) (l5 : Nat) (l6 : Nat) (l7 : Nat) (lz : Int32) (lc : Int32) (fl : Nat → Int32) (st : Nat) (m1 : Nat) (c1 : Nat) (d1 : Nat) (idl : Int32) (idf : Int32) (idt : Int32) (fc : Int32) (fp : Int32) (mb : Int32) (ra : Int32) (cl : Int32) (u1 : Nat) (f1 : Nat) (g1 : Nat) (ms : Int32) (dy : Int32) (dr : Int32) (fu : Nat → Int32) (ff : Nat → Int32) (fg : Nat → Int32) (fm : Nat → Int32) (fc1 : Nat → Int32) (fd : Nat → Int32) (x1 : Int32) (x2 : Int32) (hu : ∀ j, j < 12 → fu2 j = 0) (hf : ∀ j, j < 10 → ff2 j = -2) (hg : ∀ j, j < 10 → fg2 j = -2) : MI (S := Unit) l D cI cB yX9_mustStay cX9_mustStay 7 .int (rm 5 124) [.ref h0, .int x1, .int x2] [(h0, .inr (9, [.ref tp, .ref tw, .ref nw, .ref kp, .ref lw, .ref lr, .ref dd, .ref vv, .ref tl, .ref sc, .int 0])), (tw, .inr (7, [.int 0, .int 0, .int 0, .ref t1, .ref t2, .ref t3, .ref t4])), (nw, .inr (4, [.ref u2, .ref f2, .ref g2, .int 0, .int 0, .int 1])), (u2, .inl (cI, 12, .inl fu2)), (f2, .inl (cI, 10, .inl ff2)), (g2, .inl (cI, 10, .inl fg2)), (lw, .inr (1, [.ref l1, .ref l2, .ref l3, .ref l4, .ref l5, .ref l6, .ref l7, .int lz, .int lc])), (l6, .inl (cI, 8, .inl fl)), (tl, .inr (8, [.ref tw, .ref lw, .ref st, .ref m1, .ref c1, .ref d1, .int idl, .int idf, .int idt, .int fc, .int fp, .int mb, .int ra, .int cl])), (st, .inr (4, [.ref u1, .ref f1, .ref g1, .int ms, .int dy, .int dr])), (u1, .inl (cI, 12, .inl fu)), (f1, .inl (cI, 10, .inl ff)), (g1, .inl (cI, 10, .inl fg)), (m1, .inl (cI, 10, .inl fm)), (c1, .inl (cI, 10, .inl fc1)), (d1, .inl (cI, 10, .inl fd))] sz (fun r u => r = iI ((1 ≤ x1 ∧ x1 ≤ 20) ∧ (0 ≤ x2 ∧ x2 ≤ 1)) 0 (-1)) (fun u : Unit => []) := by
  refine MI.of (by decide) (Nat.le_of_ble_eq_true rfl) ?_
  intro p e s m below meth c Q ls A X hin hN hP hK hD hA hl ret
  have hS : va_S A s.heap s.heap [] := va_S.rf
  obtain ⟨hx, hb, hml, hown, htb⟩ := id X
  have hl : lv_has ls 7 [(0, .ref h0), (1, .int x1), (2, .int x2)] := hl
  refine lv_iload_n hx hb dX9_mustStay_0 rfl (lv_at hl 1 rfl) ?_
  refine lv_iconst (v := 1) hx hb dX9_mustStay_1 (by decide) ?_
  refine lv_bipush (v := 20) hx hb dX9_mustStay_2 (by decide) ?_
  refine cSR (As := [.int x1, .int 1, .int 20]) (rest := []) (n := 3) X hN hK hP (c_X9_within l D cI cB x1 1 20) k_431 k_432 k_92 k_433 (by decide +kernel) ⟨Nat.le_of_ble_eq_true rfl, Nat.le_of_ble_eq_true rfl⟩ ⟨rfl, rfl⟩ [] rfl rfl rfl hl.1 (Nat.le_of_ble_eq_true rfl) dX9_mustStay_4 ⟨Nat.le_of_ble_eq_true rfl, Nat.le_of_ble_eq_true rfl⟩ (fun r_1 hr_1 => ?_)
  subst hr_1
  refine lv_if_eq (tgt := 19) hx hb dX9_mustStay_7 (by decide) (fun c_7 => ?_) (fun c_7 => ?_)
  · refine lv_iconst (v := (-1)) hx hb dX9_mustStay_19 (by decide) ?_
    exact ret _ _ _ _ (-1) () dX9_mustStay_20 rfl (iI0 (fun h => bIf c_7 h.1)) (hP.sub [] rfl) (hD.sub [] (by decide) rfl) hS
  · refine lv_iload_n hx hb dX9_mustStay_10 rfl (lv_at hl 2 rfl) ?_
    refine lv_iconst (v := 0) hx hb dX9_mustStay_11 (by decide) ?_
    refine lv_iconst (v := 1) hx hb dX9_mustStay_12 (by decide) ?_
    refine cSR (As := [.int x2, .int 0, .int 1]) (rest := []) (n := 3) X hN hK hP (c_X9_within l D cI cB x2 0 1) k_431 k_432 k_92 k_433 (by decide +kernel) ⟨Nat.le_of_ble_eq_true rfl, Nat.le_of_ble_eq_true rfl⟩ ⟨rfl, rfl⟩ [] rfl rfl rfl hl.1 (Nat.le_of_ble_eq_true rfl) dX9_mustStay_13 ⟨Nat.le_of_ble_eq_true rfl, Nat.le_of_ble_eq_true rfl⟩ (fun r_2 hr_2 => ?_)
    subst hr_2
    refine lv_if_ne (tgt := 21) hx hb dX9_mustStay_16 (by decide) (fun c_16 => ?_) (fun c_16 => ?_)
    · obtain ⟨N, hN0, en⟩ := dcN (k := 20) (by decide) (bIt c_7)
      refine lv_aload_n hx hb dX9_mustStay_21 rfl (lv_at hl 0 rfl) ?_
      refine va_get (D := D) (ci := 9) (v := .ref nw) (C := RX9) (T := TX9) (N := 11) hx hb htb itX9 hown hK hP 0 rfl rfl 2 (by decide) (htb _ k_395) (fun _ h9 => h9) rfl dX9_mustStay_22 ?_
      refine cVR (As := []) (rest := []) (n := 0) (ci := 4) (q0 := 0) X hN hK hP (c_X4_leaveBits l D cI cB nw u2 f2 g2 0 0 1 ff2 hf) (gV k_746 k_747 k_748 k_95 k_749) (by decide +kernel) ⟨Nat.le_of_ble_eq_true rfl, Nat.le_of_ble_eq_true rfl⟩ ⟨rfl, rfl⟩ [2, 4] rfl rfl rfl rfl rfl rfl hl.1 (Nat.le_of_ble_eq_true rfl) dX9_mustStay_25 ⟨Nat.le_of_ble_eq_true rfl, Nat.le_of_ble_eq_true rfl⟩ (fun r_3 hr_3 => ?_)
      subst hr_3
      refine lv_istore_n (lv' := [(3, .int 0), (0, .ref h0), (1, .int x1), (2, .int x2)]) hx hb dX9_mustStay_28 rfl hl (by decide) rfl (fun ls hl => ?_)
      refine lv_iconst (v := 0) hx hb dX9_mustStay_29 (by decide) ?_
      refine lv_istore (lv' := [(4, .int 0), (3, .int 0), (0, .ref h0), (1, .int x1), (2, .int x2)]) hx hb dX9_mustStay_30 hl (by decide) rfl (fun ls hl => ?_)
      refine lv_iload hx hb dX9_mustStay_32 (lv_at hl 0 rfl) ?_
      refine lv_bipush (v := 10) hx hb dX9_mustStay_34 (by decide) ?_
      refine lv_icmp_gt (tgt := 115) hx hb dX9_mustStay_36 (by decide) (fun c_36 => absurd c_36 (by decide)) (fun _ => ?_)
      refine lv_iconst (v := 0) hx hb dX9_mustStay_39 (by decide) ?_
      refine lv_istore (lv' := [(5, .int 0), (4, .int 0), (3, .int 0), (0, .ref h0), (1, .int x1), (2, .int x2)]) hx hb dX9_mustStay_40 hl (by decide) rfl (fun ls hl => ?_)
      refine lv_iload hx hb dX9_mustStay_42 (lv_at hl 0 rfl) ?_
      refine lv_sipush (v := 1023) hx hb dX9_mustStay_44 (by decide) ?_
      refine lv_icmp_gt (tgt := 109) hx hb dX9_mustStay_47 (by decide) (fun c_47 => absurd c_47 (by decide)) (fun _ => ?_)
      refine lv_iload hx hb dX9_mustStay_50 (lv_at hl 0 rfl) ?_
      refine cSR (As := [.int 0]) (rest := []) (n := 1) X hN hK hP (c_J6_bitCount_0f7a4 l D cI cB 0) k_754 k_755 k_111 k_756 (by decide +kernel) ⟨Nat.le_of_ble_eq_true rfl, Nat.le_of_ble_eq_true rfl⟩ ⟨rfl, rfl⟩ [] rfl rfl rfl hl.1 (Nat.le_of_ble_eq_true rfl) dX9_mustStay_52 ⟨Nat.le_of_ble_eq_true rfl, Nat.le_of_ble_eq_true rfl⟩ (fun rb hrb => ?_)
      refine lv_iload hx hb dX9_mustStay_55 (lv_at hl 1 rfl) ?_
      refine lv_icmp_ne (tgt := 73) hx hb dX9_mustStay_57 (by decide) (fun c_57 => absurd (hrb rfl) c_57) (fun _ => ?_)
      refine lv_iload hx hb dX9_mustStay_60 (lv_at hl 0 rfl) ?_
      refine lv_iload_n hx hb dX9_mustStay_62 rfl (lv_at hl 2 rfl) ?_
      refine lv_iconst (v := (-1)) hx hb dX9_mustStay_63 (by decide) ?_
      refine lv_ixor hx hb dX9_mustStay_64 ?_
      refine tv (z := (-1)) (by decide) ?_
      refine lv_iand hx hb dX9_mustStay_65 ?_
      refine tv (z := 0) (by decide) ?_
      refine lv_if_ne (tgt := 73) hx hb dX9_mustStay_66 (by decide) (fun c_66 => absurd (by decide) c_66) (fun _ => ?_)
      refine lv_iconst (v := 1) hx hb dX9_mustStay_69 (by decide) ?_
      refine lv_goto (tgt := 74) hx hb dX9_mustStay_70 (by decide) ?_
      refine lv_istore (lv' := [(6, .int 1), (5, .int 0), (4, .int 0), (3, .int 0), (0, .ref h0), (1, .int x1), (2, .int x2)]) hx hb dX9_mustStay_74 hl (by decide) rfl (fun ls hl => ?_)
      refine lv_iload hx hb dX9_mustStay_76 (lv_at hl 0 rfl) ?_
      refine lv_if_eq (tgt := 103) hx hb dX9_mustStay_78 (by decide) (fun c_78 => absurd c_78 (by decide)) (fun _ => ?_)
      refine lv_aload_n hx hb dX9_mustStay_81 rfl (lv_at hl 4 rfl) ?_
      refine lv_iload hx hb dX9_mustStay_82 (lv_at hl 1 rfl) ?_
      refine lv_iload_n hx hb dX9_mustStay_84 rfl (lv_at hl 5 rfl) ?_
      refine tv (z := nI N) en ?_
      refine cVI (As := [.int 0, .int (nI N)]) (rest := []) (n := 2) (ci := 9) (q0 := 0) (wr := []) X hN hK hP hD hS hA (c_X9_allIsDoneIfStay l D cI cB _ h0 tp tw nw kp lw lr dd vv tl sc t1 t2 t3 t4 u2 f2 g2 fu2 ff2 fg2 l1 l2 l3 l4 l5 l6 l7 lz lc fl st m1 c1 d1 idl idf idt fc fp mb ra cl u1 f1 g1 ms dy dr fu ff fg fm fc1 fd N 0 hu hf hg (by omega)) (gV k_1016 k_1018 k_30 k_92 k_1019) (by decide +kernel) ⟨Nat.le_of_ble_eq_true rfl, Nat.le_of_ble_eq_true rfl⟩ ⟨rfl, rfl⟩ [0, 1, 2, 3, 4, 5, 6, 7, 8, 9, 10, 11, 12, 13, 14, 15] [] rfl rfl (by decide) (by decide) rfl rfl rfl rfl rfl hl.1 (Nat.le_of_ble_eq_true rfl) dX9_mustStay_85 ⟨Nat.le_of_ble_eq_true rfl, Nat.le_of_ble_eq_true rfl⟩ (fun r_4 u H locs hw_5 hP hD hS => ?_)
      try dsimp only at hw_5
      have hP : va_P D vwCl [] H := hP
      have hD : va_D A [] := hD
      subst hw_5
      refine lv_if_eq (tgt := 103) hx hb dX9_mustStay_88 (by decide) (fun c_88 => absurd c_88 (by decide)) (fun _ => ?_)
      refine lv_iload_n hx hb dX9_mustStay_91 rfl (lv_at hl 6 rfl) ?_
      refine lv_if_ne (tgt := 100) hx hb dX9_mustStay_92 (by decide) (fun c_92 => ?_) (fun c_92 => ?_)
      · refine lv_iload hx hb dX9_mustStay_100 (lv_at hl 1 rfl) ?_
        exact ret _ _ _ _ 0 () dX9_mustStay_102 rfl (iI1 ⟨bIt c_7, bIt c_16⟩) (hP.sub [] rfl) (hD.sub [] (by decide) rfl) hS
      · refine lv_iload hx hb dX9_mustStay_95 (lv_at hl 2 rfl) ?_
        refine lv_goto (tgt := 102) hx hb dX9_mustStay_97 (by decide) ?_
        exact ret _ _ _ _ 0 () dX9_mustStay_102 rfl (iI1 ⟨bIt c_7, bIt c_16⟩) (hP.sub [] rfl) (hD.sub [] (by decide) rfl) hS
    · refine lv_iconst (v := (-1)) hx hb dX9_mustStay_19 (by decide) ?_
      exact ret _ _ _ _ (-1) () dX9_mustStay_20 rfl (iI0 (fun h => bIf c_16 h.2)) (hP.sub [] rfl) (hD.sub [] (by decide) rfl) hS

set_option maxRecDepth 100000 in
set_option maxHeartbeats 4000000 in
theorem c_X9_keep (l : Launch) (D : va_G) (cI cB : ClassId) (sz : Nat) (h0 : Nat) (tp : Nat) (tw : Nat) (nw : Nat) (kp : Nat) (lw : Nat) (lr : Nat) (dd : Nat) (vv : Nat) (tl : Nat) (sc : Nat) (u2 : Nat) (f2 : Nat) (g2 : Nat) (fu2 : Nat → Int32) (ff2 : Nat → Int32) (fg2 : Nat → Int32) (u3 : Nat) (f3 : Nat) (g3 : Nat) (ms : Int32) (dy : Int32) (dr : Int32) (fu3 : Nat → Int32) (ff3 : Nat → Int32) (fg3 : Nat → Int32) (hu : ∀ j, j < 12 → fu2 j = 0) (hf : ∀ j, j < 10 → ff2 j = -2) (hg : ∀ j, j < 10 → fg2 j = -2) : MI (S := Unit) l D cI cB yX9_keep cX9_keep 1 .int (rm 2 81) [.ref h0] [(h0, .inr (9, [.ref tp, .ref tw, .ref nw, .ref kp, .ref lw, .ref lr, .ref dd, .ref vv, .ref tl, .ref sc, .int 0])), (nw, .inr (4, [.ref u2, .ref f2, .ref g2, .int 0, .int 0, .int 1])), (u2, .inl (cI, 12, .inl fu2)), (f2, .inl (cI, 10, .inl ff2)), (g2, .inl (cI, 10, .inl fg2)), (kp, .inr (4, [.ref u3, .ref f3, .ref g3, .int ms, .int dy, .int dr])), (u3, .inl (cI, 12, .inl fu3)), (f3, .inl (cI, 10, .inl ff3)), (g3, .inl (cI, 10, .inl fg3))] sz (fun r u => r = 0) (fun u : Unit => []) := by
  refine MI.of (by decide) (Nat.le_of_ble_eq_true rfl) ?_
  intro p e s m below meth c Q ls A X hin hN hP hK hD hA hl ret
  have hS : va_S A s.heap s.heap [] := va_S.rf
  obtain ⟨hx, hb, hml, hown, htb⟩ := id X
  have hl : lv_has ls 1 [(0, .ref h0)] := hl
  refine lv_aload_n hx hb dX9_keep_0 rfl (lv_at hl 0 rfl) ?_
  refine va_get (D := D) (ci := 9) (v := .ref kp) (C := RX9) (T := TX9) (N := 11) hx hb htb itX9 hown hK hP 0 rfl rfl 3 (by decide) (htb _ k_396) (fun _ h9 => h9) rfl dX9_keep_1 ?_
  refine lv_aload_n hx hb dX9_keep_4 rfl (lv_at hl 0 rfl) ?_
  refine va_get (D := D) (ci := 9) (v := .ref nw) (C := RX9) (T := TX9) (N := 11) hx hb htb itX9 hown hK hP 0 rfl rfl 2 (by decide) (htb _ k_395) (fun _ h9 => h9) rfl dX9_keep_5 ?_
  refine cVV (As := [.ref nw]) (rest := []) (n := 1) (ci := 4) (q0 := 0) (wr := [(h0, .inr (9, [.ref tp, .ref tw, .ref nw, .ref kp, .ref lw, .ref lr, .ref dd, .ref vv, .ref tl, .ref sc, .int 0]))]) X hN hK hP hD hS hA (c_X4_copy l D cI cB _ kp u3 f3 g3 ms dy dr nw u2 f2 g2 0 0 1 fu3 ff3 fg3 fu2 ff2 fg2 hu hf hg) (gV k_849 k_778 k_779 k_95 k_780) (by decide +kernel) ⟨Nat.le_of_ble_eq_true rfl, Nat.le_of_ble_eq_true rfl⟩ ⟨rfl, rfl⟩ [5, 6, 7, 8, 1, 2, 3, 4] [0] rfl rfl (by decide) (by decide) rfl rfl rfl rfl rfl hl.1 (Nat.le_of_ble_eq_true rfl) dX9_keep_8 ⟨Nat.le_of_ble_eq_true rfl, Nat.le_of_ble_eq_true rfl⟩ (fun u H locs hw_5 hP hD hS => ?_)
  obtain ⟨uo_2, fo_3, go_4⟩ := u
  try dsimp only at hw_5
  have hP : va_P D vwCl [(h0, .inr (9, [.ref tp, .ref tw, .ref nw, .ref kp, .ref lw, .ref lr, .ref dd, .ref vv, .ref tl, .ref sc, .int 0])), (kp, .inr (4, [.ref u3, .ref f3, .ref g3, .int 0, .int 0, .int 1])), (u3, .inl (cI, 12, .inl uo_2)), (f3, .inl (cI, 10, .inl fo_3)), (g3, .inl (cI, 10, .inl go_4)), (nw, .inr (4, [.ref u2, .ref f2, .ref g2, .int 0, .int 0, .int 1])), (u2, .inl (cI, 12, .inl fu2)), (f2, .inl (cI, 10, .inl ff2)), (g2, .inl (cI, 10, .inl fg2))] H := hP
  have hD : va_D A [(h0, .inr (9, [.ref tp, .ref tw, .ref nw, .ref kp, .ref lw, .ref lr, .ref dd, .ref vv, .ref tl, .ref sc, .int 0])), (kp, .inr (4, [.ref u3, .ref f3, .ref g3, .int 0, .int 0, .int 1])), (u3, .inl (cI, 12, .inl uo_2)), (f3, .inl (cI, 10, .inl fo_3)), (g3, .inl (cI, 10, .inl go_4)), (nw, .inr (4, [.ref u2, .ref f2, .ref g2, .int 0, .int 0, .int 1])), (u2, .inl (cI, 12, .inl fu2)), (f2, .inl (cI, 10, .inl ff2)), (g2, .inl (cI, 10, .inl fg2))] := hD
  refine lv_aload_n hx hb dX9_keep_11 rfl (lv_at hl 0 rfl) ?_
  refine lv_iconst (v := 1) hx hb dX9_keep_12 (by decide) ?_
  refine va_put (D := D) (ci := 9) (v := .int 1) (ty := .boolean) (C := RX9) (T := TX9) (N := 11) hx hb htb itX9 tyX9 tyX9_ok nmX9 hown hK hP hD hS 0 rfl rfl 10 (by decide) (htb _ k_403) (fun _ h9 => h9) rfl (tyX9_ok 10 (by decide)) rfl rfl (Nat.le_of_ble_eq_true rfl) dX9_keep_13 (fun H locs hP hD hS => ?_)
  have hP : va_P D vwCl [(h0, .inr (9, [.ref tp, .ref tw, .ref nw, .ref kp, .ref lw, .ref lr, .ref dd, .ref vv, .ref tl, .ref sc, .int 1])), (kp, .inr (4, [.ref u3, .ref f3, .ref g3, .int 0, .int 0, .int 1])), (u3, .inl (cI, 12, .inl uo_2)), (f3, .inl (cI, 10, .inl fo_3)), (g3, .inl (cI, 10, .inl go_4)), (nw, .inr (4, [.ref u2, .ref f2, .ref g2, .int 0, .int 0, .int 1])), (u2, .inl (cI, 12, .inl fu2)), (f2, .inl (cI, 10, .inl ff2)), (g2, .inl (cI, 10, .inl fg2))] H := hP
  have hD : va_D A [(h0, .inr (9, [.ref tp, .ref tw, .ref nw, .ref kp, .ref lw, .ref lr, .ref dd, .ref vv, .ref tl, .ref sc, .int 1])), (kp, .inr (4, [.ref u3, .ref f3, .ref g3, .int 0, .int 0, .int 1])), (u3, .inl (cI, 12, .inl uo_2)), (f3, .inl (cI, 10, .inl fo_3)), (g3, .inl (cI, 10, .inl go_4)), (nw, .inr (4, [.ref u2, .ref f2, .ref g2, .int 0, .int 0, .int 1])), (u2, .inl (cI, 12, .inl fu2)), (f2, .inl (cI, 10, .inl ff2)), (g2, .inl (cI, 10, .inl fg2))] := hD
  refine lv_aload_n hx hb dX9_keep_16 rfl (lv_at hl 0 rfl) ?_
  refine va_get (D := D) (ci := 9) (v := .ref nw) (C := RX9) (T := TX9) (N := 11) hx hb htb itX9 hown hK hP 0 rfl rfl 2 (by decide) (htb _ k_395) (fun _ h9 => h9) rfl dX9_keep_17 ?_
  refine va_getN (D := D) (ci := 4) (v := .int 0) (C := RX4) (T := TX4) (N := 6) hx hb htb itX4 hown hK hP 5 rfl rfl 4 (by decide) (va_Nw.use rfl (hN _ n_201 rfl)) (fun _ h9 => h9) rfl dX9_keep_20 ?_
  exact ret _ _ _ _ 0 () dX9_keep_23 rfl rfl (hP.sub [] rfl) (hD.sub [] (by decide) rfl) hS

set_option maxRecDepth 100000 in
set_option maxHeartbeats 4000000 in
theorem c_X9_undo (l : Launch) (D : va_G) (cI cB : ClassId) (h0 : Nat) (tp : Nat) (tw : Nat) (nw : Nat) (kp : Nat) (lw : Nat) (lr : Nat) (dd : Nat) (vv : Nat) (tl : Nat) (sc : Nat)  : MR l D cI cB yX9_undo cX9_undo 1 .boolean (rm 0 0) [.ref h0] [(h0, .inr (9, [.ref tp, .ref tw, .ref nw, .ref kp, .ref lw, .ref lr, .ref dd, .ref vv, .ref tl, .ref sc, .int 0]))] (fun r : Int32 => r = 0) := by
  refine MR.of (by decide) (Nat.le_of_ble_eq_true rfl) ?_
  intro p e s m below meth c Q ls X hN hP hK hl ret
  obtain ⟨hx, hb, hml, hown, htb⟩ := id X
  have hl : lv_has ls 1 [(0, .ref h0)] := hl
  refine lv_aload_n hx hb dX9_undo_0 rfl (lv_at hl 0 rfl) ?_
  refine va_get (D := D) (ci := 9) (v := .int 0) (C := RX9) (T := TX9) (N := 11) hx hb htb itX9 hown hK hP 0 rfl rfl 10 (by decide) (htb _ k_403) (fun _ h9 => h9) rfl dX9_undo_1 ?_
  refine lv_if_eq (tgt := 18) hx hb dX9_undo_4 (by decide) (fun _ => ?_) (fun c_4 => absurd (by decide) c_4)
  refine lv_aload_n hx hb dX9_undo_18 rfl (lv_at hl 0 rfl) ?_
  refine va_get (D := D) (ci := 9) (v := .int 0) (C := RX9) (T := TX9) (N := 11) hx hb htb itX9 hown hK hP 0 rfl rfl 10 (by decide) (htb _ k_403) (fun _ h9 => h9) rfl dX9_undo_19 ?_
  exact ret _ _ 0 dX9_undo_22 rfl rfl

set_option maxRecDepth 100000 in
set_option maxHeartbeats 4000000 in
theorem c_X9_check (l : Launch) (D : va_G) (cI cB : ClassId) (sz : Nat) (h0 : Nat) (tp : Nat) (tw : Nat) (nw : Nat) (kp : Nat) (lw : Nat) (lr : Nat) (dd : Nat) (vv : Nat) (tl : Nat) (sc : Nat) (by_ : Nat) (u2 : Nat) (f2 : Nat) (g2 : Nat) (x1 : Int32)  : MI (S := Unit) l D cI cB yX9_check cX9_check 3 .int (rm 1 23) [.ref h0, .int x1] [(h0, .inr (9, [.ref tp, .ref tw, .ref nw, .ref kp, .ref lw, .ref lr, .ref dd, .ref vv, .ref tl, .ref sc, .int 0])), (tp, .inr (5, [.ref by_, .int 0])), (nw, .inr (4, [.ref u2, .ref f2, .ref g2, .int 0, .int 0, .int 1]))] sz (fun r u => r = iI (x1 = 0) (-1) (-2)) (fun u : Unit => []) := by
  refine MI.of (by decide) (Nat.le_of_ble_eq_true rfl) ?_
  intro p e s m below meth c Q ls A X hin hN hP hK hD hA hl ret
  have hS : va_S A s.heap s.heap [] := va_S.rf
  obtain ⟨hx, hb, hml, hown, htb⟩ := id X
  have hl : lv_has ls 3 [(0, .ref h0), (1, .int x1)] := hl
  refine lv_aload_n hx hb dX9_check_0 rfl (lv_at hl 0 rfl) ?_
  refine va_get (D := D) (ci := 9) (v := .ref tp) (C := RX9) (T := TX9) (N := 11) hx hb htb itX9 hown hK hP 0 rfl rfl 0 (by decide) (htb _ k_393) (fun _ h9 => h9) rfl dX9_check_1 ?_
  refine lv_iload_n hx hb dX9_check_4 rfl (lv_at hl 1 rfl) ?_
  refine lv_iconst (v := 0) hx hb dX9_check_5 (by decide) ?_
  refine lv_bipush (v := 12) hx hb dX9_check_6 (by decide) ?_
  refine cVR (As := [.int x1, .int 0, .int 12]) (rest := []) (n := 3) (ci := 5) (q0 := 0) X hN hK hP (c_X5_canGive l D cI cB tp by_ x1 0 12) (gV k_458 k_459 k_460 k_93 k_461) (by decide +kernel) ⟨Nat.le_of_ble_eq_true rfl, Nat.le_of_ble_eq_true rfl⟩ ⟨rfl, rfl⟩ [1] rfl rfl rfl rfl rfl rfl hl.1 (Nat.le_of_ble_eq_true rfl) dX9_check_8 ⟨Nat.le_of_ble_eq_true rfl, Nat.le_of_ble_eq_true rfl⟩ (fun r_1 hr_1 => ?_)
  subst hr_1
  refine lv_if_ne (tgt := 17) hx hb dX9_check_11 (by decide) (fun c_11 => ?_) (fun c_11 => ?_)
  · refine lv_aload_n hx hb dX9_check_17 rfl (lv_at hl 0 rfl) ?_
    refine lv_aload_n hx hb dX9_check_18 rfl (lv_at hl 0 rfl) ?_
    refine va_get (D := D) (ci := 9) (v := .ref nw) (C := RX9) (T := TX9) (N := 11) hx hb htb itX9 hown hK hP 0 rfl rfl 2 (by decide) (htb _ k_395) (fun _ h9 => h9) rfl dX9_check_19 ?_
    refine lv_iload_n hx hb dX9_check_22 rfl (lv_at hl 1 rfl) ?_
    refine tv (z := 0) (le0 (bIt c_11).1.1 (bIt c_11).2) ?_
    refine cVR (As := [.ref nw, .int 0]) (rest := []) (n := 2) (ci := 9) (q0 := 0) X hN hK hP (c_X9_firstOther l D cI cB h0 tp tw nw kp lw lr dd vv tl sc nw) (gV k_980 k_982 k_28 k_92 k_983) (by decide +kernel) ⟨Nat.le_of_ble_eq_true rfl, Nat.le_of_ble_eq_true rfl⟩ ⟨rfl, rfl⟩ [0] rfl rfl rfl rfl rfl rfl hl.1 (Nat.le_of_ble_eq_true rfl) dX9_check_23 ⟨Nat.le_of_ble_eq_true rfl, Nat.le_of_ble_eq_true rfl⟩ (fun r_2 hr_2 => ?_)
    subst hr_2
    refine lv_istore_n (lv' := [(2, .int (-1)), (0, .ref h0), (1, .int x1)]) hx hb dX9_check_26 rfl hl (by decide) rfl (fun ls hl => ?_)
    refine lv_aload_n hx hb dX9_check_27 rfl (lv_at hl 1 rfl) ?_
    refine va_get (D := D) (ci := 9) (v := .ref tp) (C := RX9) (T := TX9) (N := 11) hx hb htb itX9 hown hK hP 0 rfl rfl 0 (by decide) (htb _ k_393) (fun _ h9 => h9) rfl dX9_check_28 ?_
    refine lv_iconst (v := 0) hx hb dX9_check_31 (by decide) ?_
    refine va_putN (D := D) (ci := 5) (v := .int 0) (ty := .int) (C := RX5) (T := TX5) (N := 2) hx hb htb itX5 tyX5 tyX5_ok nmX5 hown hK hP hD hS 1 rfl rfl 1 (by decide) (va_Nw.use rfl (hN _ n_130 rfl)) (fun _ h9 => h9) rfl (tyX5_ok 1 (by decide)) rfl rfl (Nat.le_of_ble_eq_true rfl) dX9_check_32 (fun H locs hP hD hS => ?_)
    have hP : va_P D vwCl [(h0, .inr (9, [.ref tp, .ref tw, .ref nw, .ref kp, .ref lw, .ref lr, .ref dd, .ref vv, .ref tl, .ref sc, .int 0])), (tp, .inr (5, [.ref by_, .int 0])), (nw, .inr (4, [.ref u2, .ref f2, .ref g2, .int 0, .int 0, .int 1]))] H := hP
    have hD : va_D A [(h0, .inr (9, [.ref tp, .ref tw, .ref nw, .ref kp, .ref lw, .ref lr, .ref dd, .ref vv, .ref tl, .ref sc, .int 0])), (tp, .inr (5, [.ref by_, .int 0])), (nw, .inr (4, [.ref u2, .ref f2, .ref g2, .int 0, .int 0, .int 1]))] := hD
    refine lv_iload_n hx hb dX9_check_35 rfl (lv_at hl 0 rfl) ?_
    exact ret _ _ _ _ (-1) () dX9_check_36 rfl (iI1 (le0 (bIt c_11).1.1 (bIt c_11).2)) (hP.sub [] rfl) (hD.sub [] (by decide) rfl) hS
  · refine lv_bipush (v := (-2)) hx hb dX9_check_14 (by decide) ?_
    exact ret _ _ _ _ (-2) () dX9_check_16 rfl (iI0 (fun h => bIf c_11 (by rw [h]; decide))) (hP.sub [] rfl) (hD.sub [] (by decide) rfl) hS
