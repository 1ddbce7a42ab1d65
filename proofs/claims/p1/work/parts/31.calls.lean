set_option maxRecDepth 100000 in
set_option maxHeartbeats 4000000 in
theorem c_X9_runAway (l : Launch) (D : va_G) (cI cB : ClassId) (sz : Nat) (h0 : Nat) (tp : Nat) (tw : Nat) (nw : Nat) (kp : Nat) (lw : Nat) (lr : Nat) (dd : Nat) (vv : Nat) (tl : Nat) (sc : Nat) (t1 : Nat) (t2 : Nat) (t3 : Nat) (t4 : Nat) (u2 : Nat) (f2 : Nat) (g2 : Nat) (fu2 : Nat → Int32) (ff2 : Nat → Int32) (fg2 : Nat → Int32) (l1 : Nat) (l2 : Nat) (l3 : Nat) (l4 : Nat) (l5 : Nat) (l6 : Nat) (l7 : Nat) (lz : Int32) (lc : Int32) (fl : Nat → Int32) (st : Nat) (m1 : Nat) (c1 : Nat) (d1 : Nat) (idl : Int32) (idf : Int32) (idt : Int32) (fc : Int32) (fp : Int32) (mb : Int32) (ra : Int32) (cl : Int32) (u1 : Nat) (f1 : Nat) (g1 : Nat) (ms : Int32) (dy : Int32) (dr : Int32) (fu : Nat → Int32) (ff : Nat → Int32) (fg : Nat → Int32) (fm : Nat → Int32) (fc1 : Nat → Int32) (fd : Nat → Int32) (N : Nat) (en : Int32) (hu : ∀ j, j < 12 → fu2 j = 0) (hf : ∀ j, j < 10 → ff2 j = -2) (hg : ∀ j, j < 10 → fg2 j = -2) (hN0 : N ≤ 60) : MI (S := ((Nat) × (Nat) × (Nat → Int32) × (Nat → Int32) × (Nat → Int32) × (Nat → Int32) × (Nat → Int32) × (Nat → Int32) × (Nat → Int32))) l D cI cB yX9_runAway cX9_runAway 5 .int (rm 4 102) [.ref h0, .int 0, .int (nI N), .int en] [(h0, .inr (9, [.ref tp, .ref tw, .ref nw, .ref kp, .ref lw, .ref lr, .ref dd, .ref vv, .ref tl, .ref sc, .int 0])), (tw, .inr (7, [.int 0, .int 0, .int 0, .ref t1, .ref t2, .ref t3, .ref t4])), (nw, .inr (4, [.ref u2, .ref f2, .ref g2, .int 0, .int 0, .int 1])), (u2, .inl (cI, 12, .inl fu2)), (f2, .inl (cI, 10, .inl ff2)), (g2, .inl (cI, 10, .inl fg2)), (lw, .inr (1, [.ref l1, .ref l2, .ref l3, .ref l4, .ref l5, .ref l6, .ref l7, .int lz, .int lc])), (l6, .inl (cI, 8, .inl fl)), (tl, .inr (8, [.ref tw, .ref lw, .ref st, .ref m1, .ref c1, .ref d1, .int idl, .int idf, .int idt, .int fc, .int fp, .int mb, .int ra, .int cl])), (st, .inr (4, [.ref u1, .ref f1, .ref g1, .int ms, .int dy, .int dr])), (u1, .inl (cI, 12, .inl fu)), (f1, .inl (cI, 10, .inl ff)), (g1, .inl (cI, 10, .inl fg)), (m1, .inl (cI, 10, .inl fm)), (c1, .inl (cI, 10, .inl fc1)), (d1, .inl (cI, 10, .inl fd))] sz (fun r u => r = 0) (fun u : ((Nat) × (Nat) × (Nat → Int32) × (Nat → Int32) × (Nat → Int32) × (Nat → Int32) × (Nat → Int32) × (Nat → Int32) × (Nat → Int32)) => [(h0, .inr (9, [.ref tp, .ref tw, .ref nw, .ref kp, .ref lw, .ref lr, .ref dd, .ref vv, .ref tl, .ref sc, .int 0])), (tw, .inr (7, [.int 0, .int 0, .int 0, .ref t1, .ref t2, .ref t3, .ref t4])), (nw, .inr (4, [.ref u2, .ref f2, .ref g2, .int 0, .int 0, .int 1])), (u2, .inl (cI, 12, .inl fu2)), (f2, .inl (cI, 10, .inl ff2)), (g2, .inl (cI, 10, .inl fg2)), (lw, .inr (1, [.ref l1, .ref l2, .ref l3, .ref l4, .ref l5, .ref l6, .ref l7, .int lz, .int lc])), (l6, .inl (cI, 8, .inl u.2.2.1)), (tl, .inr (8, [.ref tw, .ref lw, .ref st, .ref m1, .ref c1, .ref d1, .int (-1), .int idf, .int idt, .int (-1), .int fp, .int 0, .int 0, .int (nI u.1)])), (st, .inr (4, [.ref u1, .ref f1, .ref g1, .int 0, .int (nI u.1), .int (nI u.2.1)])), (u1, .inl (cI, 12, .inl u.2.2.2.1)), (f1, .inl (cI, 10, .inl u.2.2.2.2.1)), (g1, .inl (cI, 10, .inl u.2.2.2.2.2.1)), (m1, .inl (cI, 10, .inl u.2.2.2.2.2.2.1)), (c1, .inl (cI, 10, .inl u.2.2.2.2.2.2.2.1)), (d1, .inl (cI, 10, .inl u.2.2.2.2.2.2.2.2))]) := by
  refine MI.of (by decide) (Nat.le_of_ble_eq_true rfl) ?_
  intro p e s m below meth c Q ls A X hin hN hP hK hD hA hl ret
  have hS : va_S A s.heap s.heap [] := va_S.rf
  obtain ⟨hx, hb, hml, hown, htb⟩ := id X
  have hl : lv_has ls 5 [(0, .ref h0), (1, .int 0), (2, .int (nI N)), (3, .int en)] := hl
  refine lv_aload_n hx hb dX9_runAway_0 rfl (lv_at hl 0 rfl) ?_
  refine va_get (D := D) (ci := 9) (v := .ref tl) (C := RX9) (T := TX9) (N := 11) hx hb htb itX9 hown hK hP 0 rfl rfl 8 (by decide) (htb _ k_401) (fun _ h9 => h9) rfl dX9_runAway_1 ?_
  refine lv_aload_n hx hb dX9_runAway_4 rfl (lv_at hl 0 rfl) ?_
  refine va_get (D := D) (ci := 9) (v := .ref nw) (C := RX9) (T := TX9) (N := 11) hx hb htb itX9 hown hK hP 0 rfl rfl 2 (by decide) (htb _ k_395) (fun _ h9 => h9) rfl dX9_runAway_5 ?_
  refine cVV (As := [.ref nw]) (rest := []) (n := 1) (ci := 8) (q0 := 0) (wr := [(h0, .inr (9, [.ref tp, .ref tw, .ref nw, .ref kp, .ref lw, .ref lr, .ref dd, .ref vv, .ref tl, .ref sc, .int 0])), (tw, .inr (7, [.int 0, .int 0, .int 0, .ref t1, .ref t2, .ref t3, .ref t4])), (lw, .inr (1, [.ref l1, .ref l2, .ref l3, .ref l4, .ref l5, .ref l6, .ref l7, .int lz, .int lc])), (l6, .inl (cI, 8, .inl fl)), (c1, .inl (cI, 10, .inl fc1))]) X hN hK hP hD hS hA (c_X8_begin l D cI cB _ tl tw lw st m1 c1 d1 idl idf idt fc fp mb ra cl u1 f1 g1 ms dy dr nw u2 f2 g2 1 fu ff fg fm fd fu2 ff2 fg2 hu hf hg) (gV k_773 k_774 k_775 k_102 k_776) (by decide +kernel) ⟨Nat.le_of_ble_eq_true rfl, Nat.le_of_ble_eq_true rfl⟩ ⟨rfl, rfl⟩ [8, 9, 10, 11, 12, 13, 15, 2, 3, 4, 5] [0, 1, 6, 7, 14] rfl rfl (by decide) (by decide) rfl rfl rfl rfl rfl hl.1 (Nat.le_of_ble_eq_true rfl) dX9_runAway_8 ⟨Nat.le_of_ble_eq_true rfl, Nat.le_of_ble_eq_true rfl⟩ (fun u H locs hw_7 hP hD hS => ?_)
  obtain ⟨uo_2, fo_3, go_4, mo_5, do__6⟩ := u
  try dsimp only at hw_7
  have hP : va_P D vwCl [(h0, .inr (9, [.ref tp, .ref tw, .ref nw, .ref kp, .ref lw, .ref lr, .ref dd, .ref vv, .ref tl, .ref sc, .int 0])), (tw, .inr (7, [.int 0, .int 0, .int 0, .ref t1, .ref t2, .ref t3, .ref t4])), (lw, .inr (1, [.ref l1, .ref l2, .ref l3, .ref l4, .ref l5, .ref l6, .ref l7, .int lz, .int lc])), (l6, .inl (cI, 8, .inl fl)), (c1, .inl (cI, 10, .inl fc1)), (tl, .inr (8, [.ref tw, .ref lw, .ref st, .ref m1, .ref c1, .ref d1, .int (-1), .int idf, .int idt, .int (-1), .int fp, .int 0, .int 0, .int 0])), (st, .inr (4, [.ref u1, .ref f1, .ref g1, .int 0, .int 0, .int 1])), (u1, .inl (cI, 12, .inl uo_2)), (f1, .inl (cI, 10, .inl fo_3)), (g1, .inl (cI, 10, .inl go_4)), (m1, .inl (cI, 10, .inl mo_5)), (d1, .inl (cI, 10, .inl do__6)), (nw, .inr (4, [.ref u2, .ref f2, .ref g2, .int 0, .int 0, .int 1])), (u2, .inl (cI, 12, .inl fu2)), (f2, .inl (cI, 10, .inl ff2)), (g2, .inl (cI, 10, .inl fg2))] H := hP
  have hD : va_D A [(h0, .inr (9, [.ref tp, .ref tw, .ref nw, .ref kp, .ref lw, .ref lr, .ref dd, .ref vv, .ref tl, .ref sc, .int 0])), (tw, .inr (7, [.int 0, .int 0, .int 0, .ref t1, .ref t2, .ref t3, .ref t4])), (lw, .inr (1, [.ref l1, .ref l2, .ref l3, .ref l4, .ref l5, .ref l6, .ref l7, .int lz, .int lc])), (l6, .inl (cI, 8, .inl fl)), (c1, .inl (cI, 10, .inl fc1)), (tl, .inr (8, [.ref tw, .ref lw, .ref st, .ref m1, .ref c1, .ref d1, .int (-1), .int idf, .int idt, .int (-1), .int fp, .int 0, .int 0, .int 0])), (st, .inr (4, [.ref u1, .ref f1, .ref g1, .int 0, .int 0, .int 1])), (u1, .inl (cI, 12, .inl uo_2)), (f1, .inl (cI, 10, .inl fo_3)), (g1, .inl (cI, 10, .inl go_4)), (m1, .inl (cI, 10, .inl mo_5)), (d1, .inl (cI, 10, .inl do__6)), (nw, .inr (4, [.ref u2, .ref f2, .ref g2, .int 0, .int 0, .int 1])), (u2, .inl (cI, 12, .inl fu2)), (f2, .inl (cI, 10, .inl ff2)), (g2, .inl (cI, 10, .inl fg2))] := hD
  refine lv_aload_n hx hb dX9_runAway_11 rfl (lv_at hl 0 rfl) ?_
  refine va_get (D := D) (ci := 9) (v := .ref tl) (C := RX9) (T := TX9) (N := 11) hx hb htb itX9 hown hK hP 0 rfl rfl 8 (by decide) (htb _ k_401) (fun _ h9 => h9) rfl dX9_runAway_12 ?_
  refine va_getN (D := D) (ci := 8) (v := .ref st) (C := RX8) (T := TX8) (N := 14) hx hb htb itX8 hown hK hP 5 rfl rfl 2 (by decide) (va_Nw.use rfl (hN _ n_348 rfl)) (fun _ h9 => h9) rfl dX9_runAway_15 ?_
  refine lv_sipush (v := 1023) hx hb dX9_runAway_18 (by decide) ?_
  refine cVV (As := [.int 1023]) (rest := []) (n := 1) (ci := 4) (q0 := 0) (wr := [(h0, .inr (9, [.ref tp, .ref tw, .ref nw, .ref kp, .ref lw, .ref lr, .ref dd, .ref vv, .ref tl, .ref sc, .int 0])), (tw, .inr (7, [.int 0, .int 0, .int 0, .ref t1, .ref t2, .ref t3, .ref t4])), (lw, .inr (1, [.ref l1, .ref l2, .ref l3, .ref l4, .ref l5, .ref l6, .ref l7, .int lz, .int lc])), (l6, .inl (cI, 8, .inl fl)), (c1, .inl (cI, 10, .inl fc1)), (tl, .inr (8, [.ref tw, .ref lw, .ref st, .ref m1, .ref c1, .ref d1, .int (-1), .int idf, .int idt, .int (-1), .int fp, .int 0, .int 0, .int 0])), (u1, .inl (cI, 12, .inl uo_2)), (m1, .inl (cI, 10, .inl mo_5)), (d1, .inl (cI, 10, .inl do__6)), (nw, .inr (4, [.ref u2, .ref f2, .ref g2, .int 0, .int 0, .int 1])), (u2, .inl (cI, 12, .inl fu2)), (f2, .inl (cI, 10, .inl ff2)), (g2, .inl (cI, 10, .inl fg2))]) X hN hK hP hD hS hA (c_X4_endLeaves l D cI cB _ st u1 f1 g1 0 0 1 1023 fo_3 go_4 hw_7.2.1 hw_7.2.2.1) (gV k_760 k_734 k_735 k_95 k_736) (by decide +kernel) ⟨Nat.le_of_ble_eq_true rfl, Nat.le_of_ble_eq_true rfl⟩ ⟨rfl, rfl⟩ [6, 8, 9] [0, 1, 2, 3, 4, 5, 7, 10, 11, 12, 13, 14, 15] rfl rfl (by decide) (by decide) rfl rfl rfl rfl rfl hl.1 (Nat.le_of_ble_eq_true rfl) dX9_runAway_21 ⟨Nat.le_of_ble_eq_true rfl, Nat.le_of_ble_eq_true rfl⟩ (fun u H locs hw_11 hP hD hS => ?_)
  obtain ⟨fo_9, go_10⟩ := u
  try dsimp only at hw_11
  have hP : va_P D vwCl [(h0, .inr (9, [.ref tp, .ref tw, .ref nw, .ref kp, .ref lw, .ref lr, .ref dd, .ref vv, .ref tl, .ref sc, .int 0])), (tw, .inr (7, [.int 0, .int 0, .int 0, .ref t1, .ref t2, .ref t3, .ref t4])), (lw, .inr (1, [.ref l1, .ref l2, .ref l3, .ref l4, .ref l5, .ref l6, .ref l7, .int lz, .int lc])), (l6, .inl (cI, 8, .inl fl)), (c1, .inl (cI, 10, .inl fc1)), (tl, .inr (8, [.ref tw, .ref lw, .ref st, .ref m1, .ref c1, .ref d1, .int (-1), .int idf, .int idt, .int (-1), .int fp, .int 0, .int 0, .int 0])), (u1, .inl (cI, 12, .inl uo_2)), (m1, .inl (cI, 10, .inl mo_5)), (d1, .inl (cI, 10, .inl do__6)), (nw, .inr (4, [.ref u2, .ref f2, .ref g2, .int 0, .int 0, .int 1])), (u2, .inl (cI, 12, .inl fu2)), (f2, .inl (cI, 10, .inl ff2)), (g2, .inl (cI, 10, .inl fg2)), (st, .inr (4, [.ref u1, .ref f1, .ref g1, .int 0, .int 0, .int 1])), (f1, .inl (cI, 10, .inl fo_9)), (g1, .inl (cI, 10, .inl go_10))] H := hP
  have hD : va_D A [(h0, .inr (9, [.ref tp, .ref tw, .ref nw, .ref kp, .ref lw, .ref lr, .ref dd, .ref vv, .ref tl, .ref sc, .int 0])), (tw, .inr (7, [.int 0, .int 0, .int 0, .ref t1, .ref t2, .ref t3, .ref t4])), (lw, .inr (1, [.ref l1, .ref l2, .ref l3, .ref l4, .ref l5, .ref l6, .ref l7, .int lz, .int lc])), (l6, .inl (cI, 8, .inl fl)), (c1, .inl (cI, 10, .inl fc1)), (tl, .inr (8, [.ref tw, .ref lw, .ref st, .ref m1, .ref c1, .ref d1, .int (-1), .int idf, .int idt, .int (-1), .int fp, .int 0, .int 0, .int 0])), (u1, .inl (cI, 12, .inl uo_2)), (m1, .inl (cI, 10, .inl mo_5)), (d1, .inl (cI, 10, .inl do__6)), (nw, .inr (4, [.ref u2, .ref f2, .ref g2, .int 0, .int 0, .int 1])), (u2, .inl (cI, 12, .inl fu2)), (f2, .inl (cI, 10, .inl ff2)), (g2, .inl (cI, 10, .inl fg2)), (st, .inr (4, [.ref u1, .ref f1, .ref g1, .int 0, .int 0, .int 1])), (f1, .inl (cI, 10, .inl fo_9)), (g1, .inl (cI, 10, .inl go_10))] := hD
  refine lv_iconst (v := 0) hx hb dX9_runAway_24 (by decide) ?_
  refine lv_istore (lv' := [(4, .int 0), (0, .ref h0), (1, .int 0), (2, .int (nI N)), (3, .int en)]) hx hb dX9_runAway_25 hl (by decide) rfl (fun ls hl => ?_)
  have loop_27 : ∀ (n i : Nat), n + i = 10 → ∀ (H : Heap) (locs : List Loc), va_P D vwCl [(h0, .inr (9, [.ref tp, .ref tw, .ref nw, .ref kp, .ref lw, .ref lr, .ref dd, .ref vv, .ref tl, .ref sc, .int 0])), (tw, .inr (7, [.int 0, .int 0, .int 0, .ref t1, .ref t2, .ref t3, .ref t4])), (lw, .inr (1, [.ref l1, .ref l2, .ref l3, .ref l4, .ref l5, .ref l6, .ref l7, .int lz, .int lc])), (l6, .inl (cI, 8, .inl fl)), (c1, .inl (cI, 10, .inl fc1)), (tl, .inr (8, [.ref tw, .ref lw, .ref st, .ref m1, .ref c1, .ref d1, .int (-1), .int idf, .int idt, .int (-1), .int fp, .int 0, .int 0, .int 0])), (u1, .inl (cI, 12, .inl uo_2)), (m1, .inl (cI, 10, .inl mo_5)), (d1, .inl (cI, 10, .inl do__6)), (nw, .inr (4, [.ref u2, .ref f2, .ref g2, .int 0, .int 0, .int 1])), (u2, .inl (cI, 12, .inl fu2)), (f2, .inl (cI, 10, .inl ff2)), (g2, .inl (cI, 10, .inl fg2)), (st, .inr (4, [.ref u1, .ref f1, .ref g1, .int 0, .int 0, .int 1])), (f1, .inl (cI, 10, .inl fo_9)), (g1, .inl (cI, 10, .inl go_10))] H → va_D A [(h0, .inr (9, [.ref tp, .ref tw, .ref nw, .ref kp, .ref lw, .ref lr, .ref dd, .ref vv, .ref tl, .ref sc, .int 0])), (tw, .inr (7, [.int 0, .int 0, .int 0, .ref t1, .ref t2, .ref t3, .ref t4])), (lw, .inr (1, [.ref l1, .ref l2, .ref l3, .ref l4, .ref l5, .ref l6, .ref l7, .int lz, .int lc])), (l6, .inl (cI, 8, .inl fl)), (c1, .inl (cI, 10, .inl fc1)), (tl, .inr (8, [.ref tw, .ref lw, .ref st, .ref m1, .ref c1, .ref d1, .int (-1), .int idf, .int idt, .int (-1), .int fp, .int 0, .int 0, .int 0])), (u1, .inl (cI, 12, .inl uo_2)), (m1, .inl (cI, 10, .inl mo_5)), (d1, .inl (cI, 10, .inl do__6)), (nw, .inr (4, [.ref u2, .ref f2, .ref g2, .int 0, .int 0, .int 1])), (u2, .inl (cI, 12, .inl fu2)), (f2, .inl (cI, 10, .inl ff2)), (g2, .inl (cI, 10, .inl fg2)), (st, .inr (4, [.ref u1, .ref f1, .ref g1, .int 0, .int 0, .int 1])), (f1, .inl (cI, 10, .inl fo_9)), (g1, .inl (cI, 10, .inl go_10))] → va_S A s.heap H locs → ∀ (ls : Array Slot), lv_has ls 5 [(0, .ref h0), (1, .int 0), (2, .int (nI N)), (3, .int en), (4, .int (nI i))] → W p l e (rm 4 102) s m ([.ref h0, .int 0, .int (nI N), .int en] : List Value).toArray below meth c H locs 0 0 Q (F0 m 27 ls []) := by
    intro n
    induction n with
    | zero =>
      intro i hni H locs hP hD hS ls hl
      have hi : i = 10 := by omega
      subst hi
      refine lv_iload hx hb dX9_runAway_27 (lv_at hl 4 rfl) ?_
      refine lv_bipush (v := 10) hx hb dX9_runAway_29 (by decide) ?_
      refine lv_icmp_ge (tgt := 71) hx hb dX9_runAway_31 (by decide) (fun _ => ?_) (fun c_31 => absurd (by decide) c_31)
      refine lv_aload_n hx hb dX9_runAway_71 rfl (lv_at hl 0 rfl) ?_
      refine va_get (D := D) (ci := 9) (v := .ref tl) (C := RX9) (T := TX9) (N := 11) hx hb htb itX9 hown hK hP 0 rfl rfl 8 (by decide) (htb _ k_401) (fun _ h9 => h9) rfl dX9_runAway_72 ?_
      refine lv_iload_n hx hb dX9_runAway_75 rfl (lv_at hl 2 rfl) ?_
      refine lv_iload_n hx hb dX9_runAway_76 rfl (lv_at hl 3 rfl) ?_
      refine cVI (As := [.int (nI N), .int en]) (rest := []) (n := 2) (ci := 8) (q0 := 0) (wr := [(h0, .inr (9, [.ref tp, .ref tw, .ref nw, .ref kp, .ref lw, .ref lr, .ref dd, .ref vv, .ref tl, .ref sc, .int 0])), (u1, .inl (cI, 12, .inl uo_2)), (m1, .inl (cI, 10, .inl mo_5)), (d1, .inl (cI, 10, .inl do__6)), (nw, .inr (4, [.ref u2, .ref f2, .ref g2, .int 0, .int 0, .int 1])), (u2, .inl (cI, 12, .inl fu2)), (f2, .inl (cI, 10, .inl ff2)), (g2, .inl (cI, 10, .inl fg2))]) X hN hK hP hD hS hA (c_X8_run l D cI cB _ tl tw lw st m1 c1 d1 (-1) idf idt (-1) fp l1 l2 l3 l4 l5 l6 l7 lz lc t1 t2 t3 t4 u1 f1 g1 N en 1 fl fo_9 go_10 fc1 hN0 (by decide) hw_11.2) (gV k_784 k_785 k_786 k_102 k_787) (by decide +kernel) ⟨Nat.le_of_ble_eq_true rfl, Nat.le_of_ble_eq_true rfl⟩ ⟨rfl, rfl⟩ [5, 1, 2, 3, 13, 14, 15, 4] [0, 6, 7, 8, 9, 10, 11, 12] rfl rfl (by decide) (by decide) rfl rfl rfl rfl rfl hl.1 (Nat.le_of_ble_eq_true rfl) dX9_runAway_77 ⟨Nat.le_of_ble_eq_true rfl, Nat.le_of_ble_eq_true rfl⟩ (fun r_12 u H locs hw_17 hP hD hS => ?_)
      obtain ⟨jo_13, ko_14, lo_15, co_16⟩ := u
      try dsimp only at hw_17
      have hP : va_P D vwCl [(h0, .inr (9, [.ref tp, .ref tw, .ref nw, .ref kp, .ref lw, .ref lr, .ref dd, .ref vv, .ref tl, .ref sc, .int 0])), (u1, .inl (cI, 12, .inl uo_2)), (m1, .inl (cI, 10, .inl mo_5)), (d1, .inl (cI, 10, .inl do__6)), (nw, .inr (4, [.ref u2, .ref f2, .ref g2, .int 0, .int 0, .int 1])), (u2, .inl (cI, 12, .inl fu2)), (f2, .inl (cI, 10, .inl ff2)), (g2, .inl (cI, 10, .inl fg2)), (tl, .inr (8, [.ref tw, .ref lw, .ref st, .ref m1, .ref c1, .ref d1, .int (-1), .int idf, .int idt, .int (-1), .int fp, .int 0, .int 0, .int (nI jo_13)])), (tw, .inr (7, [.int 0, .int 0, .int 0, .ref t1, .ref t2, .ref t3, .ref t4])), (lw, .inr (1, [.ref l1, .ref l2, .ref l3, .ref l4, .ref l5, .ref l6, .ref l7, .int lz, .int lc])), (l6, .inl (cI, 8, .inl lo_15)), (st, .inr (4, [.ref u1, .ref f1, .ref g1, .int 0, .int (nI jo_13), .int (nI ko_14)])), (f1, .inl (cI, 10, .inl fo_9)), (g1, .inl (cI, 10, .inl go_10)), (c1, .inl (cI, 10, .inl co_16))] H := hP
      have hD : va_D A [(h0, .inr (9, [.ref tp, .ref tw, .ref nw, .ref kp, .ref lw, .ref lr, .ref dd, .ref vv, .ref tl, .ref sc, .int 0])), (u1, .inl (cI, 12, .inl uo_2)), (m1, .inl (cI, 10, .inl mo_5)), (d1, .inl (cI, 10, .inl do__6)), (nw, .inr (4, [.ref u2, .ref f2, .ref g2, .int 0, .int 0, .int 1])), (u2, .inl (cI, 12, .inl fu2)), (f2, .inl (cI, 10, .inl ff2)), (g2, .inl (cI, 10, .inl fg2)), (tl, .inr (8, [.ref tw, .ref lw, .ref st, .ref m1, .ref c1, .ref d1, .int (-1), .int idf, .int idt, .int (-1), .int fp, .int 0, .int 0, .int (nI jo_13)])), (tw, .inr (7, [.int 0, .int 0, .int 0, .ref t1, .ref t2, .ref t3, .ref t4])), (lw, .inr (1, [.ref l1, .ref l2, .ref l3, .ref l4, .ref l5, .ref l6, .ref l7, .int lz, .int lc])), (l6, .inl (cI, 8, .inl lo_15)), (st, .inr (4, [.ref u1, .ref f1, .ref g1, .int 0, .int (nI jo_13), .int (nI ko_14)])), (f1, .inl (cI, 10, .inl fo_9)), (g1, .inl (cI, 10, .inl go_10)), (c1, .inl (cI, 10, .inl co_16))] := hD
      exact ret _ _ _ _ r_12 (jo_13, ko_14, lo_15, uo_2, fo_9, go_10, mo_5, co_16, do__6) dX9_runAway_80 rfl hw_17.1 (hP.sub [0, 9, 4, 5, 6, 7, 10, 11, 8, 12, 1, 13, 14, 2, 15, 3] rfl) (hD.sub [0, 9, 4, 5, 6, 7, 10, 11, 8, 12, 1, 13, 14, 2, 15, 3] (by decide) rfl) hS
    | succ n ih =>
      intro i hni H locs hP hD hS ls hl
      have hi : i < 10 := by omega
      refine lv_iload hx hb dX9_runAway_27 (lv_at hl 4 rfl) ?_
      refine lv_bipush (v := 10) hx hb dX9_runAway_29 (by decide) ?_
      refine lv_icmp_ge (tgt := 71) hx hb dX9_runAway_31 (by decide) (fun c_31 => absurd c_31 (nI_ge hi (by decide))) (fun _ => ?_)
      refine lv_iload_n hx hb dX9_runAway_34 rfl (lv_at hl 1 rfl) ?_
      refine lv_iload hx hb dX9_runAway_35 (lv_at hl 4 rfl) ?_
      refine cSR (As := [.int 0, .int (nI i)]) (rest := []) (n := 2) X hN hK hP (c_X9_isIn l D cI cB 0 (nI i)) k_927 k_696 k_92 k_697 (by decide +kernel) ⟨Nat.le_of_ble_eq_true rfl, Nat.le_of_ble_eq_true rfl⟩ ⟨rfl, rfl⟩ [] rfl rfl rfl hl.1 (Nat.le_of_ble_eq_true rfl) dX9_runAway_37 ⟨Nat.le_of_ble_eq_true rfl, Nat.le_of_ble_eq_true rfl⟩ (fun r1 hr1 => ?_)
      refine lv_if_eq (tgt := 65) hx hb dX9_runAway_40 (by decide) (fun _ => ?_) (fun c_40 => absurd (hr1.2 rfl) c_40)
      refine lv_iinc (v := (nI (i + 1))) (lv' := [(4, .int (nI (i + 1))), (0, .ref h0), (1, .int 0), (2, .int (nI N)), (3, .int en)]) hx hb dX9_runAway_65 hl (k := 4) rfl (nI_1 i) (by decide) rfl (fun ls hl => ?_)
      refine lv_goto (tgt := 27) hx hb dX9_runAway_68 (by decide) ?_
      exact ih (i + 1) (by omega) _ _ (hP.sub [0, 1, 2, 3, 4, 5, 6, 7, 8, 9, 10, 11, 12, 13, 14, 15] rfl) (hD.sub [0, 1, 2, 3, 4, 5, 6, 7, 8, 9, 10, 11, 12, 13, 14, 15] (by decide) rfl) hS _ (lv_sub hl [1, 2, 3, 4, 0] rfl)
  exact loop_27 10 0 (by omega) _ _ (hP.sub [0, 1, 2, 3, 4, 5, 6, 7, 8, 9, 10, 11, 12, 13, 14, 15] rfl) (hD.sub [0, 1, 2, 3, 4, 5, 6, 7, 8, 9, 10, 11, 12, 13, 14, 15] (by decide) rfl) hS _ (lv_sub hl [1, 2, 3, 4, 0] rfl)

set_option maxRecDepth 100000 in
set_option maxHeartbeats 4000000 in
theorem c_X9_costIf (l : Launch) (D : va_G) (cI cB : ClassId) (sz : Nat) (h0 : Nat) (tp : Nat) (tw : Nat) (nw : Nat) (kp : Nat) (lw : Nat) (lr : Nat) (dd : Nat) (vv : Nat) (tl : Nat) (sc : Nat) (t1 : Nat) (t2 : Nat) (t3 : Nat) (t4 : Nat) (u2 : Nat) (f2 : Nat) (g2 : Nat) (fu2 : Nat → Int32) (ff2 : Nat → Int32) (fg2 : Nat → Int32) (l1 : Nat) (l2 : Nat) (l3 : Nat) (l4 : Nat) (l5 : Nat) (l6 : Nat) (l7 : Nat) (lz : Int32) (lc : Int32) (fl : Nat → Int32) (st : Nat) (m1 : Nat) (c1 : Nat) (d1 : Nat) (idl : Int32) (idf : Int32) (idt : Int32) (fc : Int32) (fp : Int32) (mb : Int32) (ra : Int32) (cl : Int32) (u1 : Nat) (f1 : Nat) (g1 : Nat) (ms : Int32) (dy : Int32) (dr : Int32) (fu : Nat → Int32) (ff : Nat → Int32) (fg : Nat → Int32) (fm : Nat → Int32) (fc1 : Nat → Int32) (fd : Nat → Int32) (N : Nat) (a : Int32) (hu : ∀ j, j < 12 → fu2 j = 0) (hf : ∀ j, j < 10 → ff2 j = -2) (hg : ∀ j, j < 10 → fg2 j = -2) (hN0 : N ≤ 60) : MI (S := Unit) l D cI cB yX9_costIf cX9_costIf 6 .int (rm 4 102) [.ref h0, .int a, .int (nI N), .int (-1), .int (-1), .int (-1)] [(h0, .inr (9, [.ref tp, .ref tw, .ref nw, .ref kp, .ref lw, .ref lr, .ref dd, .ref vv, .ref tl, .ref sc, .int 0])), (tw, .inr (7, [.int 0, .int 0, .int 0, .ref t1, .ref t2, .ref t3, .ref t4])), (nw, .inr (4, [.ref u2, .ref f2, .ref g2, .int 0, .int 0, .int 1])), (u2, .inl (cI, 12, .inl fu2)), (f2, .inl (cI, 10, .inl ff2)), (g2, .inl (cI, 10, .inl fg2)), (lw, .inr (1, [.ref l1, .ref l2, .ref l3, .ref l4, .ref l5, .ref l6, .ref l7, .int lz, .int lc])), (l6, .inl (cI, 8, .inl fl)), (tl, .inr (8, [.ref tw, .ref lw, .ref st, .ref m1, .ref c1, .ref d1, .int idl, .int idf, .int idt, .int fc, .int fp, .int mb, .int ra, .int cl])), (st, .inr (4, [.ref u1, .ref f1, .ref g1, .int ms, .int dy, .int dr])), (u1, .inl (cI, 12, .inl fu)), (f1, .inl (cI, 10, .inl ff)), (g1, .inl (cI, 10, .inl fg)), (m1, .inl (cI, 10, .inl fm)), (c1, .inl (cI, 10, .inl fc1)), (d1, .inl (cI, 10, .inl fd))] sz (fun r u => r = 0) (fun u : Unit => []) := by
  refine MI.of (by decide) (Nat.le_of_ble_eq_true rfl) ?_
  intro p e s m below meth c Q ls A X hin hN hP hK hD hA hl ret
  have hS : va_S A s.heap s.heap [] := va_S.rf
  obtain ⟨hx, hb, hml, hown, htb⟩ := id X
  have hl : lv_has ls 6 [(0, .ref h0), (1, .int a), (2, .int (nI N)), (3, .int (-1)), (4, .int (-1)), (5, .int (-1))] := hl
  refine lv_aload_n hx hb dX9_costIf_0 rfl (lv_at hl 0 rfl) ?_
  refine va_get (D := D) (ci := 9) (v := .ref tl) (C := RX9) (T := TX9) (N := 11) hx hb htb itX9 hown hK hP 0 rfl rfl 8 (by decide) (htb _ k_401) (fun _ h9 => h9) rfl dX9_costIf_1 ?_
  refine lv_aload_n hx hb dX9_costIf_4 rfl (lv_at hl 0 rfl) ?_
  refine va_get (D := D) (ci := 9) (v := .ref nw) (C := RX9) (T := TX9) (N := 11) hx hb htb itX9 hown hK hP 0 rfl rfl 2 (by decide) (htb _ k_395) (fun _ h9 => h9) rfl dX9_costIf_5 ?_
  refine cVV (As := [.ref nw]) (rest := []) (n := 1) (ci := 8) (q0 := 0) (wr := [(h0, .inr (9, [.ref tp, .ref tw, .ref nw, .ref kp, .ref lw, .ref lr, .ref dd, .ref vv, .ref tl, .ref sc, .int 0])), (tw, .inr (7, [.int 0, .int 0, .int 0, .ref t1, .ref t2, .ref t3, .ref t4])), (lw, .inr (1, [.ref l1, .ref l2, .ref l3, .ref l4, .ref l5, .ref l6, .ref l7, .int lz, .int lc])), (l6, .inl (cI, 8, .inl fl)), (c1, .inl (cI, 10, .inl fc1))]) X hN hK hP hD hS hA (c_X8_begin l D cI cB _ tl tw lw st m1 c1 d1 idl idf idt fc fp mb ra cl u1 f1 g1 ms dy dr nw u2 f2 g2 1 fu ff fg fm fd fu2 ff2 fg2 hu hf hg) (gV k_773 k_774 k_775 k_102 k_776) (by decide +kernel) ⟨Nat.le_of_ble_eq_true rfl, Nat.le_of_ble_eq_true rfl⟩ ⟨rfl, rfl⟩ [8, 9, 10, 11, 12, 13, 15, 2, 3, 4, 5] [0, 1, 6, 7, 14] rfl rfl (by decide) (by decide) rfl rfl rfl rfl rfl hl.1 (Nat.le_of_ble_eq_true rfl) dX9_costIf_8 ⟨Nat.le_of_ble_eq_true rfl, Nat.le_of_ble_eq_true rfl⟩ (fun u H locs hw_7 hP hD hS => ?_)
  obtain ⟨uo_2, fo_3, go_4, mo_5, do__6⟩ := u
  try dsimp only at hw_7
  have hP : va_P D vwCl [(h0, .inr (9, [.ref tp, .ref tw, .ref nw, .ref kp, .ref lw, .ref lr, .ref dd, .ref vv, .ref tl, .ref sc, .int 0])), (tw, .inr (7, [.int 0, .int 0, .int 0, .ref t1, .ref t2, .ref t3, .ref t4])), (lw, .inr (1, [.ref l1, .ref l2, .ref l3, .ref l4, .ref l5, .ref l6, .ref l7, .int lz, .int lc])), (l6, .inl (cI, 8, .inl fl)), (c1, .inl (cI, 10, .inl fc1)), (tl, .inr (8, [.ref tw, .ref lw, .ref st, .ref m1, .ref c1, .ref d1, .int (-1), .int idf, .int idt, .int (-1), .int fp, .int 0, .int 0, .int 0])), (st, .inr (4, [.ref u1, .ref f1, .ref g1, .int 0, .int 0, .int 1])), (u1, .inl (cI, 12, .inl uo_2)), (f1, .inl (cI, 10, .inl fo_3)), (g1, .inl (cI, 10, .inl go_4)), (m1, .inl (cI, 10, .inl mo_5)), (d1, .inl (cI, 10, .inl do__6)), (nw, .inr (4, [.ref u2, .ref f2, .ref g2, .int 0, .int 0, .int 1])), (u2, .inl (cI, 12, .inl fu2)), (f2, .inl (cI, 10, .inl ff2)), (g2, .inl (cI, 10, .inl fg2))] H := hP
  have hD : va_D A [(h0, .inr (9, [.ref tp, .ref tw, .ref nw, .ref kp, .ref lw, .ref lr, .ref dd, .ref vv, .ref tl, .ref sc, .int 0])), (tw, .inr (7, [.int 0, .int 0, .int 0, .ref t1, .ref t2, .ref t3, .ref t4])), (lw, .inr (1, [.ref l1, .ref l2, .ref l3, .ref l4, .ref l5, .ref l6, .ref l7, .int lz, .int lc])), (l6, .inl (cI, 8, .inl fl)), (c1, .inl (cI, 10, .inl fc1)), (tl, .inr (8, [.ref tw, .ref lw, .ref st, .ref m1, .ref c1, .ref d1, .int (-1), .int idf, .int idt, .int (-1), .int fp, .int 0, .int 0, .int 0])), (st, .inr (4, [.ref u1, .ref f1, .ref g1, .int 0, .int 0, .int 1])), (u1, .inl (cI, 12, .inl uo_2)), (f1, .inl (cI, 10, .inl fo_3)), (g1, .inl (cI, 10, .inl go_4)), (m1, .inl (cI, 10, .inl mo_5)), (d1, .inl (cI, 10, .inl do__6)), (nw, .inr (4, [.ref u2, .ref f2, .ref g2, .int 0, .int 0, .int 1])), (u2, .inl (cI, 12, .inl fu2)), (f2, .inl (cI, 10, .inl ff2)), (g2, .inl (cI, 10, .inl fg2))] := hD
  refine lv_aload_n hx hb dX9_costIf_11 rfl (lv_at hl 0 rfl) ?_
  refine va_get (D := D) (ci := 9) (v := .ref tl) (C := RX9) (T := TX9) (N := 11) hx hb htb itX9 hown hK hP 0 rfl rfl 8 (by decide) (htb _ k_401) (fun _ h9 => h9) rfl dX9_costIf_12 ?_
  refine va_getN (D := D) (ci := 8) (v := .ref st) (C := RX8) (T := TX8) (N := 14) hx hb htb itX8 hown hK hP 5 rfl rfl 2 (by decide) (va_Nw.use rfl (hN _ n_348 rfl)) (fun _ h9 => h9) rfl dX9_costIf_15 ?_
  refine lv_iload_n hx hb dX9_costIf_18 rfl (lv_at hl 1 rfl) ?_
  refine lv_iconst (v := (-1)) hx hb dX9_costIf_19 (by decide) ?_
  refine lv_ixor hx hb dX9_costIf_20 ?_
  refine cVV (As := [.int (a ^^^ (-1))]) (rest := []) (n := 1) (ci := 4) (q0 := 0) (wr := [(h0, .inr (9, [.ref tp, .ref tw, .ref nw, .ref kp, .ref lw, .ref lr, .ref dd, .ref vv, .ref tl, .ref sc, .int 0])), (tw, .inr (7, [.int 0, .int 0, .int 0, .ref t1, .ref t2, .ref t3, .ref t4])), (lw, .inr (1, [.ref l1, .ref l2, .ref l3, .ref l4, .ref l5, .ref l6, .ref l7, .int lz, .int lc])), (l6, .inl (cI, 8, .inl fl)), (c1, .inl (cI, 10, .inl fc1)), (tl, .inr (8, [.ref tw, .ref lw, .ref st, .ref m1, .ref c1, .ref d1, .int (-1), .int idf, .int idt, .int (-1), .int fp, .int 0, .int 0, .int 0])), (u1, .inl (cI, 12, .inl uo_2)), (m1, .inl (cI, 10, .inl mo_5)), (d1, .inl (cI, 10, .inl do__6)), (nw, .inr (4, [.ref u2, .ref f2, .ref g2, .int 0, .int 0, .int 1])), (u2, .inl (cI, 12, .inl fu2)), (f2, .inl (cI, 10, .inl ff2)), (g2, .inl (cI, 10, .inl fg2))]) X hN hK hP hD hS hA (c_X4_endLeaves l D cI cB _ st u1 f1 g1 0 0 1 (a ^^^ (-1)) fo_3 go_4 hw_7.2.1 hw_7.2.2.1) (gV k_760 k_734 k_735 k_95 k_736) (by decide +kernel) ⟨Nat.le_of_ble_eq_true rfl, Nat.le_of_ble_eq_true rfl⟩ ⟨rfl, rfl⟩ [6, 8, 9] [0, 1, 2, 3, 4, 5, 7, 10, 11, 12, 13, 14, 15] rfl rfl (by decide) (by decide) rfl rfl rfl rfl rfl hl.1 (Nat.le_of_ble_eq_true rfl) dX9_costIf_21 ⟨Nat.le_of_ble_eq_true rfl, Nat.le_of_ble_eq_true rfl⟩ (fun u H locs hw_11 hP hD hS => ?_)
  obtain ⟨fo_9, go_10⟩ := u
  try dsimp only at hw_11
  have hP : va_P D vwCl [(h0, .inr (9, [.ref tp, .ref tw, .ref nw, .ref kp, .ref lw, .ref lr, .ref dd, .ref vv, .ref tl, .ref sc, .int 0])), (tw, .inr (7, [.int 0, .int 0, .int 0, .ref t1, .ref t2, .ref t3, .ref t4])), (lw, .inr (1, [.ref l1, .ref l2, .ref l3, .ref l4, .ref l5, .ref l6, .ref l7, .int lz, .int lc])), (l6, .inl (cI, 8, .inl fl)), (c1, .inl (cI, 10, .inl fc1)), (tl, .inr (8, [.ref tw, .ref lw, .ref st, .ref m1, .ref c1, .ref d1, .int (-1), .int idf, .int idt, .int (-1), .int fp, .int 0, .int 0, .int 0])), (u1, .inl (cI, 12, .inl uo_2)), (m1, .inl (cI, 10, .inl mo_5)), (d1, .inl (cI, 10, .inl do__6)), (nw, .inr (4, [.ref u2, .ref f2, .ref g2, .int 0, .int 0, .int 1])), (u2, .inl (cI, 12, .inl fu2)), (f2, .inl (cI, 10, .inl ff2)), (g2, .inl (cI, 10, .inl fg2)), (st, .inr (4, [.ref u1, .ref f1, .ref g1, .int 0, .int 0, .int 1])), (f1, .inl (cI, 10, .inl fo_9)), (g1, .inl (cI, 10, .inl go_10))] H := hP
  have hD : va_D A [(h0, .inr (9, [.ref tp, .ref tw, .ref nw, .ref kp, .ref lw, .ref lr, .ref dd, .ref vv, .ref tl, .ref sc, .int 0])), (tw, .inr (7, [.int 0, .int 0, .int 0, .ref t1, .ref t2, .ref t3, .ref t4])), (lw, .inr (1, [.ref l1, .ref l2, .ref l3, .ref l4, .ref l5, .ref l6, .ref l7, .int lz, .int lc])), (l6, .inl (cI, 8, .inl fl)), (c1, .inl (cI, 10, .inl fc1)), (tl, .inr (8, [.ref tw, .ref lw, .ref st, .ref m1, .ref c1, .ref d1, .int (-1), .int idf, .int idt, .int (-1), .int fp, .int 0, .int 0, .int 0])), (u1, .inl (cI, 12, .inl uo_2)), (m1, .inl (cI, 10, .inl mo_5)), (d1, .inl (cI, 10, .inl do__6)), (nw, .inr (4, [.ref u2, .ref f2, .ref g2, .int 0, .int 0, .int 1])), (u2, .inl (cI, 12, .inl fu2)), (f2, .inl (cI, 10, .inl ff2)), (g2, .inl (cI, 10, .inl fg2)), (st, .inr (4, [.ref u1, .ref f1, .ref g1, .int 0, .int 0, .int 1])), (f1, .inl (cI, 10, .inl fo_9)), (g1, .inl (cI, 10, .inl go_10))] := hD
  refine lv_aload_n hx hb dX9_costIf_24 rfl (lv_at hl 0 rfl) ?_
  refine va_get (D := D) (ci := 9) (v := .ref tl) (C := RX9) (T := TX9) (N := 11) hx hb htb itX9 hown hK hP 0 rfl rfl 8 (by decide) (htb _ k_401) (fun _ h9 => h9) rfl dX9_costIf_25 ?_
  refine lv_iload_n hx hb dX9_costIf_28 rfl (lv_at hl 3 rfl) ?_
  refine lv_iconst (v := 0) hx hb dX9_costIf_29 (by decide) ?_
  refine lv_sipush (v := 9999) hx hb dX9_costIf_30 (by decide) ?_
  refine cVV (As := [.int (-1), .int 0, .int 9999]) (rest := []) (n := 3) (ci := 8) (q0 := 0) (wr := [(h0, .inr (9, [.ref tp, .ref tw, .ref nw, .ref kp, .ref lw, .ref lr, .ref dd, .ref vv, .ref tl, .ref sc, .int 0])), (tw, .inr (7, [.int 0, .int 0, .int 0, .ref t1, .ref t2, .ref t3, .ref t4])), (lw, .inr (1, [.ref l1, .ref l2, .ref l3, .ref l4, .ref l5, .ref l6, .ref l7, .int lz, .int lc])), (l6, .inl (cI, 8, .inl fl)), (c1, .inl (cI, 10, .inl fc1)), (u1, .inl (cI, 12, .inl uo_2)), (m1, .inl (cI, 10, .inl mo_5)), (d1, .inl (cI, 10, .inl do__6)), (nw, .inr (4, [.ref u2, .ref f2, .ref g2, .int 0, .int 0, .int 1])), (u2, .inl (cI, 12, .inl fu2)), (f2, .inl (cI, 10, .inl ff2)), (g2, .inl (cI, 10, .inl fg2)), (st, .inr (4, [.ref u1, .ref f1, .ref g1, .int 0, .int 0, .int 1])), (f1, .inl (cI, 10, .inl fo_9)), (g1, .inl (cI, 10, .inl go_10))]) X hN hK hP hD hS hA (c_X8_setIdle l D cI cB _ tl tw lw st m1 c1 d1 (-1) idf idt (-1) fp 0 0 0 (-1) 0 9999) (gV k_901 k_902 k_903 k_102 k_904) (by decide +kernel) ⟨Nat.le_of_ble_eq_true rfl, Nat.le_of_ble_eq_true rfl⟩ ⟨rfl, rfl⟩ [5] [0, 1, 2, 3, 4, 6, 7, 8, 9, 10, 11, 12, 13, 14, 15] rfl rfl (by decide) (by decide) rfl rfl rfl rfl rfl hl.1 (Nat.le_of_ble_eq_true rfl) dX9_costIf_33 ⟨Nat.le_of_ble_eq_true rfl, Nat.le_of_ble_eq_true rfl⟩ (fun u H locs hw_13 hP hD hS => ?_)
  try dsimp only at hw_13
  have hP : va_P D vwCl [(h0, .inr (9, [.ref tp, .ref tw, .ref nw, .ref kp, .ref lw, .ref lr, .ref dd, .ref vv, .ref tl, .ref sc, .int 0])), (tw, .inr (7, [.int 0, .int 0, .int 0, .ref t1, .ref t2, .ref t3, .ref t4])), (lw, .inr (1, [.ref l1, .ref l2, .ref l3, .ref l4, .ref l5, .ref l6, .ref l7, .int lz, .int lc])), (l6, .inl (cI, 8, .inl fl)), (c1, .inl (cI, 10, .inl fc1)), (u1, .inl (cI, 12, .inl uo_2)), (m1, .inl (cI, 10, .inl mo_5)), (d1, .inl (cI, 10, .inl do__6)), (nw, .inr (4, [.ref u2, .ref f2, .ref g2, .int 0, .int 0, .int 1])), (u2, .inl (cI, 12, .inl fu2)), (f2, .inl (cI, 10, .inl ff2)), (g2, .inl (cI, 10, .inl fg2)), (st, .inr (4, [.ref u1, .ref f1, .ref g1, .int 0, .int 0, .int 1])), (f1, .inl (cI, 10, .inl fo_9)), (g1, .inl (cI, 10, .inl go_10)), (tl, .inr (8, [.ref tw, .ref lw, .ref st, .ref m1, .ref c1, .ref d1, .int (-1), .int 0, .int 9999, .int (-1), .int fp, .int 0, .int 0, .int 0]))] H := hP
  have hD : va_D A [(h0, .inr (9, [.ref tp, .ref tw, .ref nw, .ref kp, .ref lw, .ref lr, .ref dd, .ref vv, .ref tl, .ref sc, .int 0])), (tw, .inr (7, [.int 0, .int 0, .int 0, .ref t1, .ref t2, .ref t3, .ref t4])), (lw, .inr (1, [.ref l1, .ref l2, .ref l3, .ref l4, .ref l5, .ref l6, .ref l7, .int lz, .int lc])), (l6, .inl (cI, 8, .inl fl)), (c1, .inl (cI, 10, .inl fc1)), (u1, .inl (cI, 12, .inl uo_2)), (m1, .inl (cI, 10, .inl mo_5)), (d1, .inl (cI, 10, .inl do__6)), (nw, .inr (4, [.ref u2, .ref f2, .ref g2, .int 0, .int 0, .int 1])), (u2, .inl (cI, 12, .inl fu2)), (f2, .inl (cI, 10, .inl ff2)), (g2, .inl (cI, 10, .inl fg2)), (st, .inr (4, [.ref u1, .ref f1, .ref g1, .int 0, .int 0, .int 1])), (f1, .inl (cI, 10, .inl fo_9)), (g1, .inl (cI, 10, .inl go_10)), (tl, .inr (8, [.ref tw, .ref lw, .ref st, .ref m1, .ref c1, .ref d1, .int (-1), .int 0, .int 9999, .int (-1), .int fp, .int 0, .int 0, .int 0]))] := hD
  refine lv_aload_n hx hb dX9_costIf_36 rfl (lv_at hl 0 rfl) ?_
  refine va_get (D := D) (ci := 9) (v := .ref tl) (C := RX9) (T := TX9) (N := 11) hx hb htb itX9 hown hK hP 0 rfl rfl 8 (by decide) (htb _ k_401) (fun _ h9 => h9) rfl dX9_costIf_37 ?_
  refine lv_iload hx hb dX9_costIf_40 (lv_at hl 4 rfl) ?_
  refine lv_iload hx hb dX9_costIf_42 (lv_at hl 5 rfl) ?_
  refine cVV (As := [.int (-1), .int (-1)]) (rest := []) (n := 2) (ci := 8) (q0 := 0) (wr := [(h0, .inr (9, [.ref tp, .ref tw, .ref nw, .ref kp, .ref lw, .ref lr, .ref dd, .ref vv, .ref tl, .ref sc, .int 0])), (tw, .inr (7, [.int 0, .int 0, .int 0, .ref t1, .ref t2, .ref t3, .ref t4])), (lw, .inr (1, [.ref l1, .ref l2, .ref l3, .ref l4, .ref l5, .ref l6, .ref l7, .int lz, .int lc])), (l6, .inl (cI, 8, .inl fl)), (c1, .inl (cI, 10, .inl fc1)), (u1, .inl (cI, 12, .inl uo_2)), (m1, .inl (cI, 10, .inl mo_5)), (d1, .inl (cI, 10, .inl do__6)), (nw, .inr (4, [.ref u2, .ref f2, .ref g2, .int 0, .int 0, .int 1])), (u2, .inl (cI, 12, .inl fu2)), (f2, .inl (cI, 10, .inl ff2)), (g2, .inl (cI, 10, .inl fg2)), (st, .inr (4, [.ref u1, .ref f1, .ref g1, .int 0, .int 0, .int 1])), (f1, .inl (cI, 10, .inl fo_9)), (g1, .inl (cI, 10, .inl go_10))]) X hN hK hP hD hS hA (c_X8_setFront l D cI cB _ tl tw lw st m1 c1 d1 (-1) 0 9999 (-1) fp 0 0 0 (-1) (-1)) (gV k_905 k_906 k_907 k_102 k_908) (by decide +kernel) ⟨Nat.le_of_ble_eq_true rfl, Nat.le_of_ble_eq_true rfl⟩ ⟨rfl, rfl⟩ [15] [0, 1, 2, 3, 4, 5, 6, 7, 8, 9, 10, 11, 12, 13, 14] rfl rfl (by decide) (by decide) rfl rfl rfl rfl rfl hl.1 (Nat.le_of_ble_eq_true rfl) dX9_costIf_44 ⟨Nat.le_of_ble_eq_true rfl, Nat.le_of_ble_eq_true rfl⟩ (fun u H locs hw_15 hP hD hS => ?_)
  try dsimp only at hw_15
  have hP : va_P D vwCl [(h0, .inr (9, [.ref tp, .ref tw, .ref nw, .ref kp, .ref lw, .ref lr, .ref dd, .ref vv, .ref tl, .ref sc, .int 0])), (tw, .inr (7, [.int 0, .int 0, .int 0, .ref t1, .ref t2, .ref t3, .ref t4])), (lw, .inr (1, [.ref l1, .ref l2, .ref l3, .ref l4, .ref l5, .ref l6, .ref l7, .int lz, .int lc])), (l6, .inl (cI, 8, .inl fl)), (c1, .inl (cI, 10, .inl fc1)), (u1, .inl (cI, 12, .inl uo_2)), (m1, .inl (cI, 10, .inl mo_5)), (d1, .inl (cI, 10, .inl do__6)), (nw, .inr (4, [.ref u2, .ref f2, .ref g2, .int 0, .int 0, .int 1])), (u2, .inl (cI, 12, .inl fu2)), (f2, .inl (cI, 10, .inl ff2)), (g2, .inl (cI, 10, .inl fg2)), (st, .inr (4, [.ref u1, .ref f1, .ref g1, .int 0, .int 0, .int 1])), (f1, .inl (cI, 10, .inl fo_9)), (g1, .inl (cI, 10, .inl go_10)), (tl, .inr (8, [.ref tw, .ref lw, .ref st, .ref m1, .ref c1, .ref d1, .int (-1), .int 0, .int 9999, .int (-1), .int (-1), .int 0, .int 0, .int 0]))] H := hP
  have hD : va_D A [(h0, .inr (9, [.ref tp, .ref tw, .ref nw, .ref kp, .ref lw, .ref lr, .ref dd, .ref vv, .ref tl, .ref sc, .int 0])), (tw, .inr (7, [.int 0, .int 0, .int 0, .ref t1, .ref t2, .ref t3, .ref t4])), (lw, .inr (1, [.ref l1, .ref l2, .ref l3, .ref l4, .ref l5, .ref l6, .ref l7, .int lz, .int lc])), (l6, .inl (cI, 8, .inl fl)), (c1, .inl (cI, 10, .inl fc1)), (u1, .inl (cI, 12, .inl uo_2)), (m1, .inl (cI, 10, .inl mo_5)), (d1, .inl (cI, 10, .inl do__6)), (nw, .inr (4, [.ref u2, .ref f2, .ref g2, .int 0, .int 0, .int 1])), (u2, .inl (cI, 12, .inl fu2)), (f2, .inl (cI, 10, .inl ff2)), (g2, .inl (cI, 10, .inl fg2)), (st, .inr (4, [.ref u1, .ref f1, .ref g1, .int 0, .int 0, .int 1])), (f1, .inl (cI, 10, .inl fo_9)), (g1, .inl (cI, 10, .inl go_10)), (tl, .inr (8, [.ref tw, .ref lw, .ref st, .ref m1, .ref c1, .ref d1, .int (-1), .int 0, .int 9999, .int (-1), .int (-1), .int 0, .int 0, .int 0]))] := hD
  refine lv_aload_n hx hb dX9_costIf_47 rfl (lv_at hl 0 rfl) ?_
  refine va_get (D := D) (ci := 9) (v := .ref tl) (C := RX9) (T := TX9) (N := 11) hx hb htb itX9 hown hK hP 0 rfl rfl 8 (by decide) (htb _ k_401) (fun _ h9 => h9) rfl dX9_costIf_48 ?_
  refine lv_iload_n hx hb dX9_costIf_51 rfl (lv_at hl 2 rfl) ?_
  refine lv_ldc (v := 2147483647) hx hb hown (htb _ k_783) dX9_costIf_52 ?_
  refine cVI (As := [.int (nI N), .int 2147483647]) (rest := []) (n := 2) (ci := 8) (q0 := 0) (wr := [(h0, .inr (9, [.ref tp, .ref tw, .ref nw, .ref kp, .ref lw, .ref lr, .ref dd, .ref vv, .ref tl, .ref sc, .int 0])), (u1, .inl (cI, 12, .inl uo_2)), (m1, .inl (cI, 10, .inl mo_5)), (d1, .inl (cI, 10, .inl do__6)), (nw, .inr (4, [.ref u2, .ref f2, .ref g2, .int 0, .int 0, .int 1])), (u2, .inl (cI, 12, .inl fu2)), (f2, .inl (cI, 10, .inl ff2)), (g2, .inl (cI, 10, .inl fg2))]) X hN hK hP hD hS hA (c_X8_run l D cI cB _ tl tw lw st m1 c1 d1 (-1) 0 9999 (-1) (-1) l1 l2 l3 l4 l5 l6 l7 lz lc t1 t2 t3 t4 u1 f1 g1 N 2147483647 1 fl fo_9 go_10 fc1 hN0 (by decide) hw_11.2) (gV k_784 k_785 k_786 k_102 k_787) (by decide +kernel) ⟨Nat.le_of_ble_eq_true rfl, Nat.le_of_ble_eq_true rfl⟩ ⟨rfl, rfl⟩ [15, 1, 2, 3, 12, 13, 14, 4] [0, 5, 6, 7, 8, 9, 10, 11] rfl rfl (by decide) (by decide) rfl rfl rfl rfl rfl hl.1 (Nat.le_of_ble_eq_true rfl) dX9_costIf_54 ⟨Nat.le_of_ble_eq_true rfl, Nat.le_of_ble_eq_true rfl⟩ (fun r_16 u H locs hw_21 hP hD hS => ?_)
  obtain ⟨jo_17, ko_18, lo_19, co_20⟩ := u
  try dsimp only at hw_21
  have hP : va_P D vwCl [(h0, .inr (9, [.ref tp, .ref tw, .ref nw, .ref kp, .ref lw, .ref lr, .ref dd, .ref vv, .ref tl, .ref sc, .int 0])), (u1, .inl (cI, 12, .inl uo_2)), (m1, .inl (cI, 10, .inl mo_5)), (d1, .inl (cI, 10, .inl do__6)), (nw, .inr (4, [.ref u2, .ref f2, .ref g2, .int 0, .int 0, .int 1])), (u2, .inl (cI, 12, .inl fu2)), (f2, .inl (cI, 10, .inl ff2)), (g2, .inl (cI, 10, .inl fg2)), (tl, .inr (8, [.ref tw, .ref lw, .ref st, .ref m1, .ref c1, .ref d1, .int (-1), .int 0, .int 9999, .int (-1), .int (-1), .int 0, .int 0, .int (nI jo_17)])), (tw, .inr (7, [.int 0, .int 0, .int 0, .ref t1, .ref t2, .ref t3, .ref t4])), (lw, .inr (1, [.ref l1, .ref l2, .ref l3, .ref l4, .ref l5, .ref l6, .ref l7, .int lz, .int lc])), (l6, .inl (cI, 8, .inl lo_19)), (st, .inr (4, [.ref u1, .ref f1, .ref g1, .int 0, .int (nI jo_17), .int (nI ko_18)])), (f1, .inl (cI, 10, .inl fo_9)), (g1, .inl (cI, 10, .inl go_10)), (c1, .inl (cI, 10, .inl co_20))] H := hP
  have hD : va_D A [(h0, .inr (9, [.ref tp, .ref tw, .ref nw, .ref kp, .ref lw, .ref lr, .ref dd, .ref vv, .ref tl, .ref sc, .int 0])), (u1, .inl (cI, 12, .inl uo_2)), (m1, .inl (cI, 10, .inl mo_5)), (d1, .inl (cI, 10, .inl do__6)), (nw, .inr (4, [.ref u2, .ref f2, .ref g2, .int 0, .int 0, .int 1])), (u2, .inl (cI, 12, .inl fu2)), (f2, .inl (cI, 10, .inl ff2)), (g2, .inl (cI, 10, .inl fg2)), (tl, .inr (8, [.ref tw, .ref lw, .ref st, .ref m1, .ref c1, .ref d1, .int (-1), .int 0, .int 9999, .int (-1), .int (-1), .int 0, .int 0, .int (nI jo_17)])), (tw, .inr (7, [.int 0, .int 0, .int 0, .ref t1, .ref t2, .ref t3, .ref t4])), (lw, .inr (1, [.ref l1, .ref l2, .ref l3, .ref l4, .ref l5, .ref l6, .ref l7, .int lz, .int lc])), (l6, .inl (cI, 8, .inl lo_19)), (st, .inr (4, [.ref u1, .ref f1, .ref g1, .int 0, .int (nI jo_17), .int (nI ko_18)])), (f1, .inl (cI, 10, .inl fo_9)), (g1, .inl (cI, 10, .inl go_10)), (c1, .inl (cI, 10, .inl co_20))] := hD
  exact ret _ _ _ _ r_16 () dX9_costIf_57 rfl hw_21.1 (hP.sub [] rfl) (hD.sub [] (by decide) rfl) hS

set_option maxRecDepth 100000 in
set_option maxHeartbeats 4000000 in
theorem c_X9_allIsDoneIfStay (l : Launch) (D : va_G) (cI cB : ClassId) (sz : Nat) (h0 : Nat) (tp : Nat) (tw : Nat) (nw : Nat) (kp : Nat) (lw : Nat) (lr : Nat) (dd : Nat) (vv : Nat) (tl : Nat) (sc : Nat) (t1 : Nat) (t2 : Nat) (t3 : Nat) (t4 : Nat) (u2 : Nat) (f2 : Nat) (g2 : Nat) (fu2 : Nat → Int32) (ff2 : Nat → Int32) (fg2 : Nat → Int32) (l1 : Nat) (l2 : Nat) (l3 : Nat) (l4 : Nat) (l5 : Nat) (l6 : Nat) (l7 : Nat) (lz : Int32) (lc : Int32) (fl : Nat → Int32) (st : Nat) (m1 : Nat) (c1 : Nat) (d1 : Nat) (idl : Int32) (idf : Int32) (idt : Int32) (fc : Int32) (fp : Int32) (mb : Int32) (ra : Int32) (cl : Int32) (u1 : Nat) (f1 : Nat) (g1 : Nat) (ms : Int32) (dy : Int32) (dr : Int32) (fu : Nat → Int32) (ff : Nat → Int32) (fg : Nat → Int32) (fm : Nat → Int32) (fc1 : Nat → Int32) (fd : Nat → Int32) (N : Nat) (a : Int32) (hu : ∀ j, j < 12 → fu2 j = 0) (hf : ∀ j, j < 10 → ff2 j = -2) (hg : ∀ j, j < 10 → fg2 j = -2) (hN0 : N ≤ 60) : MI (S := Unit) l D cI cB yX9_allIsDoneIfStay cX9_allIsDoneIfStay 3 .boolean (rm 4 102) [.ref h0, .int a, .int (nI N)] [(h0, .inr (9, [.ref tp, .ref tw, .ref nw, .ref kp, .ref lw, .ref lr, .ref dd, .ref vv, .ref tl, .ref sc, .int 0])), (tw, .inr (7, [.int 0, .int 0, .int 0, .ref t1, .ref t2, .ref t3, .ref t4])), (nw, .inr (4, [.ref u2, .ref f2, .ref g2, .int 0, .int 0, .int 1])), (u2, .inl (cI, 12, .inl fu2)), (f2, .inl (cI, 10, .inl ff2)), (g2, .inl (cI, 10, .inl fg2)), (lw, .inr (1, [.ref l1, .ref l2, .ref l3, .ref l4, .ref l5, .ref l6, .ref l7, .int lz, .int lc])), (l6, .inl (cI, 8, .inl fl)), (tl, .inr (8, [.ref tw, .ref lw, .ref st, .ref m1, .ref c1, .ref d1, .int idl, .int idf, .int idt, .int fc, .int fp, .int mb, .int ra, .int cl])), (st, .inr (4, [.ref u1, .ref f1, .ref g1, .int ms, .int dy, .int dr])), (u1, .inl (cI, 12, .inl fu)), (f1, .inl (cI, 10, .inl ff)), (g1, .inl (cI, 10, .inl fg)), (m1, .inl (cI, 10, .inl fm)), (c1, .inl (cI, 10, .inl fc1)), (d1, .inl (cI, 10, .inl fd))] sz (fun r u => r = 1) (fun u : Unit => []) := by
  refine MI.of (by decide) (Nat.le_of_ble_eq_true rfl) ?_
  intro p e s m below meth c Q ls A X hin hN hP hK hD hA hl ret
  have hS : va_S A s.heap s.heap [] := va_S.rf
  obtain ⟨hx, hb, hml, hown, htb⟩ := id X
  have hl : lv_has ls 3 [(0, .ref h0), (1, .int a), (2, .int (nI N))] := hl
  refine lv_aload_n hx hb dX9_allIsDoneIfStay_0 rfl (lv_at hl 0 rfl) ?_
  refine va_get (D := D) (ci := 9) (v := .ref tl) (C := RX9) (T := TX9) (N := 11) hx hb htb itX9 hown hK hP 0 rfl rfl 8 (by decide) (htb _ k_401) (fun _ h9 => h9) rfl dX9_allIsDoneIfStay_1 ?_
  refine lv_aload_n hx hb dX9_allIsDoneIfStay_4 rfl (lv_at hl 0 rfl) ?_
  refine va_get (D := D) (ci := 9) (v := .ref nw) (C := RX9) (T := TX9) (N := 11) hx hb htb itX9 hown hK hP 0 rfl rfl 2 (by decide) (htb _ k_395) (fun _ h9 => h9) rfl dX9_allIsDoneIfStay_5 ?_
  refine cVV (As := [.ref nw]) (rest := []) (n := 1) (ci := 8) (q0 := 0) (wr := [(h0, .inr (9, [.ref tp, .ref tw, .ref nw, .ref kp, .ref lw, .ref lr, .ref dd, .ref vv, .ref tl, .ref sc, .int 0])), (tw, .inr (7, [.int 0, .int 0, .int 0, .ref t1, .ref t2, .ref t3, .ref t4])), (lw, .inr (1, [.ref l1, .ref l2, .ref l3, .ref l4, .ref l5, .ref l6, .ref l7, .int lz, .int lc])), (l6, .inl (cI, 8, .inl fl)), (c1, .inl (cI, 10, .inl fc1))]) X hN hK hP hD hS hA (c_X8_begin l D cI cB _ tl tw lw st m1 c1 d1 idl idf idt fc fp mb ra cl u1 f1 g1 ms dy dr nw u2 f2 g2 1 fu ff fg fm fd fu2 ff2 fg2 hu hf hg) (gV k_773 k_774 k_775 k_102 k_776) (by decide +kernel) ⟨Nat.le_of_ble_eq_true rfl, Nat.le_of_ble_eq_true rfl⟩ ⟨rfl, rfl⟩ [8, 9, 10, 11, 12, 13, 15, 2, 3, 4, 5] [0, 1, 6, 7, 14] rfl rfl (by decide) (by decide) rfl rfl rfl rfl rfl hl.1 (Nat.le_of_ble_eq_true rfl) dX9_allIsDoneIfStay_8 ⟨Nat.le_of_ble_eq_true rfl, Nat.le_of_ble_eq_true rfl⟩ (fun u H locs hw_7 hP hD hS => ?_)
  obtain ⟨uo_2, fo_3, go_4, mo_5, do__6⟩ := u
  try dsimp only at hw_7
  have hP : va_P D vwCl [(h0, .inr (9, [.ref tp, .ref tw, .ref nw, .ref kp, .ref lw, .ref lr, .ref dd, .ref vv, .ref tl, .ref sc, .int 0])), (tw, .inr (7, [.int 0, .int 0, .int 0, .ref t1, .ref t2, .ref t3, .ref t4])), (lw, .inr (1, [.ref l1, .ref l2, .ref l3, .ref l4, .ref l5, .ref l6, .ref l7, .int lz, .int lc])), (l6, .inl (cI, 8, .inl fl)), (c1, .inl (cI, 10, .inl fc1)), (tl, .inr (8, [.ref tw, .ref lw, .ref st, .ref m1, .ref c1, .ref d1, .int (-1), .int idf, .int idt, .int (-1), .int fp, .int 0, .int 0, .int 0])), (st, .inr (4, [.ref u1, .ref f1, .ref g1, .int 0, .int 0, .int 1])), (u1, .inl (cI, 12, .inl uo_2)), (f1, .inl (cI, 10, .inl fo_3)), (g1, .inl (cI, 10, .inl go_4)), (m1, .inl (cI, 10, .inl mo_5)), (d1, .inl (cI, 10, .inl do__6)), (nw, .inr (4, [.ref u2, .ref f2, .ref g2, .int 0, .int 0, .int 1])), (u2, .inl (cI, 12, .inl fu2)), (f2, .inl (cI, 10, .inl ff2)), (g2, .inl (cI, 10, .inl fg2))] H := hP
  have hD : va_D A [(h0, .inr (9, [.ref tp, .ref tw, .ref nw, .ref kp, .ref lw, .ref lr, .ref dd, .ref vv, .ref tl, .ref sc, .int 0])), (tw, .inr (7, [.int 0, .int 0, .int 0, .ref t1, .ref t2, .ref t3, .ref t4])), (lw, .inr (1, [.ref l1, .ref l2, .ref l3, .ref l4, .ref l5, .ref l6, .ref l7, .int lz, .int lc])), (l6, .inl (cI, 8, .inl fl)), (c1, .inl (cI, 10, .inl fc1)), (tl, .inr (8, [.ref tw, .ref lw, .ref st, .ref m1, .ref c1, .ref d1, .int (-1), .int idf, .int idt, .int (-1), .int fp, .int 0, .int 0, .int 0])), (st, .inr (4, [.ref u1, .ref f1, .ref g1, .int 0, .int 0, .int 1])), (u1, .inl (cI, 12, .inl uo_2)), (f1, .inl (cI, 10, .inl fo_3)), (g1, .inl (cI, 10, .inl go_4)), (m1, .inl (cI, 10, .inl mo_5)), (d1, .inl (cI, 10, .inl do__6)), (nw, .inr (4, [.ref u2, .ref f2, .ref g2, .int 0, .int 0, .int 1])), (u2, .inl (cI, 12, .inl fu2)), (f2, .inl (cI, 10, .inl ff2)), (g2, .inl (cI, 10, .inl fg2))] := hD
  refine lv_aload_n hx hb dX9_allIsDoneIfStay_11 rfl (lv_at hl 0 rfl) ?_
  refine va_get (D := D) (ci := 9) (v := .ref tl) (C := RX9) (T := TX9) (N := 11) hx hb htb itX9 hown hK hP 0 rfl rfl 8 (by decide) (htb _ k_401) (fun _ h9 => h9) rfl dX9_allIsDoneIfStay_12 ?_
  refine va_getN (D := D) (ci := 8) (v := .ref st) (C := RX8) (T := TX8) (N := 14) hx hb htb itX8 hown hK hP 5 rfl rfl 2 (by decide) (va_Nw.use rfl (hN _ n_348 rfl)) (fun _ h9 => h9) rfl dX9_allIsDoneIfStay_15 ?_
  refine lv_iload_n hx hb dX9_allIsDoneIfStay_18 rfl (lv_at hl 1 rfl) ?_
  refine cVV (As := [.int a]) (rest := []) (n := 1) (ci := 4) (q0 := 0) (wr := [(h0, .inr (9, [.ref tp, .ref tw, .ref nw, .ref kp, .ref lw, .ref lr, .ref dd, .ref vv, .ref tl, .ref sc, .int 0])), (tw, .inr (7, [.int 0, .int 0, .int 0, .ref t1, .ref t2, .ref t3, .ref t4])), (lw, .inr (1, [.ref l1, .ref l2, .ref l3, .ref l4, .ref l5, .ref l6, .ref l7, .int lz, .int lc])), (l6, .inl (cI, 8, .inl fl)), (c1, .inl (cI, 10, .inl fc1)), (tl, .inr (8, [.ref tw, .ref lw, .ref st, .ref m1, .ref c1, .ref d1, .int (-1), .int idf, .int idt, .int (-1), .int fp, .int 0, .int 0, .int 0])), (u1, .inl (cI, 12, .inl uo_2)), (m1, .inl (cI, 10, .inl mo_5)), (d1, .inl (cI, 10, .inl do__6)), (nw, .inr (4, [.ref u2, .ref f2, .ref g2, .int 0, .int 0, .int 1])), (u2, .inl (cI, 12, .inl fu2)), (f2, .inl (cI, 10, .inl ff2)), (g2, .inl (cI, 10, .inl fg2))]) X hN hK hP hD hS hA (c_X4_endLeaves l D cI cB _ st u1 f1 g1 0 0 1 a fo_3 go_4 hw_7.2.1 hw_7.2.2.1) (gV k_760 k_734 k_735 k_95 k_736) (by decide +kernel) ⟨Nat.le_of_ble_eq_true rfl, Nat.le_of_ble_eq_true rfl⟩ ⟨rfl, rfl⟩ [6, 8, 9] [0, 1, 2, 3, 4, 5, 7, 10, 11, 12, 13, 14, 15] rfl rfl (by decide) (by decide) rfl rfl rfl rfl rfl hl.1 (Nat.le_of_ble_eq_true rfl) dX9_allIsDoneIfStay_19 ⟨Nat.le_of_ble_eq_true rfl, Nat.le_of_ble_eq_true rfl⟩ (fun u H locs hw_11 hP hD hS => ?_)
  obtain ⟨fo_9, go_10⟩ := u
  try dsimp only at hw_11
  have hP : va_P D vwCl [(h0, .inr (9, [.ref tp, .ref tw, .ref nw, .ref kp, .ref lw, .ref lr, .ref dd, .ref vv, .ref tl, .ref sc, .int 0])), (tw, .inr (7, [.int 0, .int 0, .int 0, .ref t1, .ref t2, .ref t3, .ref t4])), (lw, .inr (1, [.ref l1, .ref l2, .ref l3, .ref l4, .ref l5, .ref l6, .ref l7, .int lz, .int lc])), (l6, .inl (cI, 8, .inl fl)), (c1, .inl (cI, 10, .inl fc1)), (tl, .inr (8, [.ref tw, .ref lw, .ref st, .ref m1, .ref c1, .ref d1, .int (-1), .int idf, .int idt, .int (-1), .int fp, .int 0, .int 0, .int 0])), (u1, .inl (cI, 12, .inl uo_2)), (m1, .inl (cI, 10, .inl mo_5)), (d1, .inl (cI, 10, .inl do__6)), (nw, .inr (4, [.ref u2, .ref f2, .ref g2, .int 0, .int 0, .int 1])), (u2, .inl (cI, 12, .inl fu2)), (f2, .inl (cI, 10, .inl ff2)), (g2, .inl (cI, 10, .inl fg2)), (st, .inr (4, [.ref u1, .ref f1, .ref g1, .int 0, .int 0, .int 1])), (f1, .inl (cI, 10, .inl fo_9)), (g1, .inl (cI, 10, .inl go_10))] H := hP
  have hD : va_D A [(h0, .inr (9, [.ref tp, .ref tw, .ref nw, .ref kp, .ref lw, .ref lr, .ref dd, .ref vv, .ref tl, .ref sc, .int 0])), (tw, .inr (7, [.int 0, .int 0, .int 0, .ref t1, .ref t2, .ref t3, .ref t4])), (lw, .inr (1, [.ref l1, .ref l2, .ref l3, .ref l4, .ref l5, .ref l6, .ref l7, .int lz, .int lc])), (l6, .inl (cI, 8, .inl fl)), (c1, .inl (cI, 10, .inl fc1)), (tl, .inr (8, [.ref tw, .ref lw, .ref st, .ref m1, .ref c1, .ref d1, .int (-1), .int idf, .int idt, .int (-1), .int fp, .int 0, .int 0, .int 0])), (u1, .inl (cI, 12, .inl uo_2)), (m1, .inl (cI, 10, .inl mo_5)), (d1, .inl (cI, 10, .inl do__6)), (nw, .inr (4, [.ref u2, .ref f2, .ref g2, .int 0, .int 0, .int 1])), (u2, .inl (cI, 12, .inl fu2)), (f2, .inl (cI, 10, .inl ff2)), (g2, .inl (cI, 10, .inl fg2)), (st, .inr (4, [.ref u1, .ref f1, .ref g1, .int 0, .int 0, .int 1])), (f1, .inl (cI, 10, .inl fo_9)), (g1, .inl (cI, 10, .inl go_10))] := hD
  refine lv_aload_n hx hb dX9_allIsDoneIfStay_22 rfl (lv_at hl 0 rfl) ?_
  refine va_get (D := D) (ci := 9) (v := .ref tl) (C := RX9) (T := TX9) (N := 11) hx hb htb itX9 hown hK hP 0 rfl rfl 8 (by decide) (htb _ k_401) (fun _ h9 => h9) rfl dX9_allIsDoneIfStay_23 ?_
  refine lv_iload_n hx hb dX9_allIsDoneIfStay_26 rfl (lv_at hl 2 rfl) ?_
  refine cVI (As := [.int (nI N)]) (rest := []) (n := 1) (ci := 8) (q0 := 0) (wr := [(h0, .inr (9, [.ref tp, .ref tw, .ref nw, .ref kp, .ref lw, .ref lr, .ref dd, .ref vv, .ref tl, .ref sc, .int 0])), (u1, .inl (cI, 12, .inl uo_2)), (m1, .inl (cI, 10, .inl mo_5)), (d1, .inl (cI, 10, .inl do__6)), (nw, .inr (4, [.ref u2, .ref f2, .ref g2, .int 0, .int 0, .int 1])), (u2, .inl (cI, 12, .inl fu2)), (f2, .inl (cI, 10, .inl ff2)), (g2, .inl (cI, 10, .inl fg2))]) X hN hK hP hD hS hA (c_X8_staysClear l D cI cB _ tl tw lw st m1 c1 d1 (-1) idf idt (-1) fp l1 l2 l3 l4 l5 l6 l7 lz lc t1 t2 t3 t4 u1 f1 g1 N 1 fl fo_9 go_10 fc1 hN0 (by decide) hw_11.2) (gV k_1020 k_1021 k_1022 k_102 k_1023) (by decide +kernel) ⟨Nat.le_of_ble_eq_true rfl, Nat.le_of_ble_eq_true rfl⟩ ⟨rfl, rfl⟩ [5, 1, 2, 3, 13, 14, 15, 4] [0, 6, 7, 8, 9, 10, 11, 12] rfl rfl (by decide) (by decide) rfl rfl rfl rfl rfl hl.1 (Nat.le_of_ble_eq_true rfl) dX9_allIsDoneIfStay_27 ⟨Nat.le_of_ble_eq_true rfl, Nat.le_of_ble_eq_true rfl⟩ (fun r_12 u H locs hw_17 hP hD hS => ?_)
  obtain ⟨jo_13, ko_14, lo_15, co_16⟩ := u
  try dsimp only at hw_17
  have hP : va_P D vwCl [(h0, .inr (9, [.ref tp, .ref tw, .ref nw, .ref kp, .ref lw, .ref lr, .ref dd, .ref vv, .ref tl, .ref sc, .int 0])), (u1, .inl (cI, 12, .inl uo_2)), (m1, .inl (cI, 10, .inl mo_5)), (d1, .inl (cI, 10, .inl do__6)), (nw, .inr (4, [.ref u2, .ref f2, .ref g2, .int 0, .int 0, .int 1])), (u2, .inl (cI, 12, .inl fu2)), (f2, .inl (cI, 10, .inl ff2)), (g2, .inl (cI, 10, .inl fg2)), (tl, .inr (8, [.ref tw, .ref lw, .ref st, .ref m1, .ref c1, .ref d1, .int (-1), .int idf, .int idt, .int (-1), .int fp, .int 0, .int 0, .int (nI jo_13)])), (tw, .inr (7, [.int 0, .int 0, .int 0, .ref t1, .ref t2, .ref t3, .ref t4])), (lw, .inr (1, [.ref l1, .ref l2, .ref l3, .ref l4, .ref l5, .ref l6, .ref l7, .int lz, .int lc])), (l6, .inl (cI, 8, .inl lo_15)), (st, .inr (4, [.ref u1, .ref f1, .ref g1, .int 0, .int (nI jo_13), .int (nI ko_14)])), (f1, .inl (cI, 10, .inl fo_9)), (g1, .inl (cI, 10, .inl go_10)), (c1, .inl (cI, 10, .inl co_16))] H := hP
  have hD : va_D A [(h0, .inr (9, [.ref tp, .ref tw, .ref nw, .ref kp, .ref lw, .ref lr, .ref dd, .ref vv, .ref tl, .ref sc, .int 0])), (u1, .inl (cI, 12, .inl uo_2)), (m1, .inl (cI, 10, .inl mo_5)), (d1, .inl (cI, 10, .inl do__6)), (nw, .inr (4, [.ref u2, .ref f2, .ref g2, .int 0, .int 0, .int 1])), (u2, .inl (cI, 12, .inl fu2)), (f2, .inl (cI, 10, .inl ff2)), (g2, .inl (cI, 10, .inl fg2)), (tl, .inr (8, [.ref tw, .ref lw, .ref st, .ref m1, .ref c1, .ref d1, .int (-1), .int idf, .int idt, .int (-1), .int fp, .int 0, .int 0, .int (nI jo_13)])), (tw, .inr (7, [.int 0, .int 0, .int 0, .ref t1, .ref t2, .ref t3, .ref t4])), (lw, .inr (1, [.ref l1, .ref l2, .ref l3, .ref l4, .ref l5, .ref l6, .ref l7, .int lz, .int lc])), (l6, .inl (cI, 8, .inl lo_15)), (st, .inr (4, [.ref u1, .ref f1, .ref g1, .int 0, .int (nI jo_13), .int (nI ko_14)])), (f1, .inl (cI, 10, .inl fo_9)), (g1, .inl (cI, 10, .inl go_10)), (c1, .inl (cI, 10, .inl co_16))] := hD
  exact ret _ _ _ _ r_12 () dX9_allIsDoneIfStay_30 (by rw [hw_17.1]; rfl) hw_17.1 (hP.sub [] rfl) (hD.sub [] (by decide) rfl) hS

set_option maxRecDepth 100000 in
set_option maxHeartbeats 4000000 in
theorem c_X9_firstOther (l : Launch) (D : va_G) (cI cB : ClassId) (h0 : Nat) (tp : Nat) (tw : Nat) (nw : Nat) (kp : Nat) (lw : Nat) (lr : Nat) (dd : Nat) (vv : Nat) (tl : Nat) (sc : Nat) (sx : Nat)  : MR l D cI cB yX9_firstOther cX9_firstOther 4 .int (rm 0 0) [.ref h0, .ref sx, .int 0] [(h0, .inr (9, [.ref tp, .ref tw, .ref nw, .ref kp, .ref lw, .ref lr, .ref dd, .ref vv, .ref tl, .ref sc, .int 0]))] (fun r : Int32 => r = -1) := by
  refine MR.of (by decide) (Nat.le_of_ble_eq_true rfl) ?_
  intro p e s m below meth c Q ls X hN hP hK hl ret
  obtain ⟨hx, hb, hml, hown, htb⟩ := id X
  have hl : lv_has ls 4 [(0, .ref h0), (1, .ref sx), (2, .int 0)] := hl
  refine lv_iconst (v := 0) hx hb dX9_firstOther_0 (by decide) ?_
  refine lv_istore_n (lv' := [(3, .int 0), (0, .ref h0), (1, .ref sx), (2, .int 0)]) hx hb dX9_firstOther_1 rfl hl (by decide) rfl (fun ls hl => ?_)
  refine lv_iload_n hx hb dX9_firstOther_2 rfl (lv_at hl 0 rfl) ?_
  refine lv_iload_n hx hb dX9_firstOther_3 rfl (lv_at hl 3 rfl) ?_
  refine lv_icmp_ge (tgt := 38) hx hb dX9_firstOther_4 (by decide) (fun _ => ?_) (fun c_4 => absurd (by decide) c_4)
  refine lv_iconst (v := (-1)) hx hb dX9_firstOther_38 (by decide) ?_
  exact ret _ _ (-1) dX9_firstOther_39 rfl rfl

set_option maxRecDepth 100000 in
set_option maxHeartbeats 4000000 in
theorem c_X9_person (l : Launch) (D : va_G) (cI cB : ClassId) (sz : Nat) (h0 : Nat) (tp : Nat) (tw : Nat) (nw : Nat) (kp : Nat) (lw : Nat) (lr : Nat) (dd : Nat) (vv : Nat) (tl : Nat) (sc : Nat) (t1 : Nat) (t2 : Nat) (t3 : Nat) (t4 : Nat) (fa : Nat → Int32) (x1 : Int32) (x2 : Int32)  : MI (S := Unit) l D cI cB yX9_person cX9_person 3 .boolean (rm 1 22) [.ref h0, .int x1, .int x2] [(h0, .inr (9, [.ref tp, .ref tw, .ref nw, .ref kp, .ref lw, .ref lr, .ref dd, .ref vv, .ref tl, .ref sc, .int 0])), (tw, .inr (7, [.int 0, .int 0, .int 0, .ref t1, .ref t2, .ref t3, .ref t4])), (t1, .inl (cI, 10, .inl fa))] sz (fun r u => r = bI ((0 ≤ x1 ∧ x1 ≤ 9) ∧ (0 ≤ x2 ∧ x2 ≤ 20))) (fun u : Unit => []) := by
  refine MI.of (by decide) (Nat.le_of_ble_eq_true rfl) ?_
  intro p e s m below meth c Q ls A X hin hN hP hK hD hA hl ret
  have hS : va_S A s.heap s.heap [] := va_S.rf
  obtain ⟨hx, hb, hml, hown, htb⟩ := id X
  have hl : lv_has ls 3 [(0, .ref h0), (1, .int x1), (2, .int x2)] := hl
  refine lv_iload_n hx hb dX9_person_0 rfl (lv_at hl 1 rfl) ?_
  refine lv_iconst (v := 0) hx hb dX9_person_1 (by decide) ?_
  refine lv_bipush (v := 9) hx hb dX9_person_2 (by decide) ?_
  refine cSR (As := [.int x1, .int 0, .int 9]) (rest := []) (n := 3) X hN hK hP (c_X9_within l D cI cB x1 0 9) k_431 k_432 k_92 k_433 (by decide +kernel) ⟨Nat.le_of_ble_eq_true rfl, Nat.le_of_ble_eq_true rfl⟩ ⟨rfl, rfl⟩ [] rfl rfl rfl hl.1 (Nat.le_of_ble_eq_true rfl) dX9_person_4 ⟨Nat.le_of_ble_eq_true rfl, Nat.le_of_ble_eq_true rfl⟩ (fun r_1 hr_1 => ?_)
  subst hr_1
  refine lv_if_eq (tgt := 20) hx hb dX9_person_7 (by decide) (fun c_7 => ?_) (fun c_7 => ?_)
  · refine lv_iconst (v := 0) hx hb dX9_person_20 (by decide) ?_
    exact ret _ _ _ _ 0 () dX9_person_21 rfl (bI0 (fun h => bIf c_7 h.1)) (hP.sub [] rfl) (hD.sub [] (by decide) rfl) hS
  · refine lv_iload_n hx hb dX9_person_10 rfl (lv_at hl 2 rfl) ?_
    refine lv_iconst (v := 0) hx hb dX9_person_11 (by decide) ?_
    refine lv_bipush (v := 20) hx hb dX9_person_12 (by decide) ?_
    refine cSR (As := [.int x2, .int 0, .int 20]) (rest := []) (n := 3) X hN hK hP (c_X9_within l D cI cB x2 0 20) k_431 k_432 k_92 k_433 (by decide +kernel) ⟨Nat.le_of_ble_eq_true rfl, Nat.le_of_ble_eq_true rfl⟩ ⟨rfl, rfl⟩ [] rfl rfl rfl hl.1 (Nat.le_of_ble_eq_true rfl) dX9_person_14 ⟨Nat.le_of_ble_eq_true rfl, Nat.le_of_ble_eq_true rfl⟩ (fun r_2 hr_2 => ?_)
    subst hr_2
    refine lv_if_ne (tgt := 22) hx hb dX9_person_17 (by decide) (fun c_17 => ?_) (fun c_17 => ?_)
    · refine lv_aload_n hx hb dX9_person_22 rfl (lv_at hl 0 rfl) ?_
      refine va_get (D := D) (ci := 9) (v := .ref tw) (C := RX9) (T := TX9) (N := 11) hx hb htb itX9 hown hK hP 0 rfl rfl 1 (by decide) (htb _ k_394) (fun _ h9 => h9) rfl dX9_person_23 ?_
      refine lv_dup hx hb dX9_person_26 rfl ?_
      refine va_getN (D := D) (ci := 7) (v := .int 0) (C := RX7) (T := TX7) (N := 7) hx hb htb itX7 hown hK hP 1 rfl rfl 0 (by decide) (va_Nw.use rfl (hN _ n_144 rfl)) (fun _ h9 => h9) rfl dX9_person_27 ?_
      refine lv_iconst (v := 1) hx hb dX9_person_30 (by decide) ?_
      refine lv_iload_n hx hb dX9_person_31 rfl (lv_at hl 1 rfl) ?_
      refine lv_ishl hx hb dX9_person_32 ?_
      refine lv_ior hx hb dX9_person_33 ?_
      refine lv_topi (fun x_3 ex_3 => ?_)
      refine va_putN (D := D) (ci := 7) (v := .int x_3) (ty := .int) (C := RX7) (T := TX7) (N := 7) hx hb htb itX7 tyX7 tyX7_ok nmX7 hown hK hP hD hS 1 rfl rfl 0 (by decide) (va_Nw.use rfl (hN _ n_144 rfl)) (fun _ h9 => h9) rfl (tyX7_ok 0 (by decide)) rfl rfl (Nat.le_of_ble_eq_true rfl) dX9_person_34 (fun H locs hP hD hS => ?_)
      have hP : va_P D vwCl [(h0, .inr (9, [.ref tp, .ref tw, .ref nw, .ref kp, .ref lw, .ref lr, .ref dd, .ref vv, .ref tl, .ref sc, .int 0])), (tw, .inr (7, [.int x_3, .int 0, .int 0, .ref t1, .ref t2, .ref t3, .ref t4])), (t1, .inl (cI, 10, .inl fa))] H := hP
      have hD : va_D A [(h0, .inr (9, [.ref tp, .ref tw, .ref nw, .ref kp, .ref lw, .ref lr, .ref dd, .ref vv, .ref tl, .ref sc, .int 0])), (tw, .inr (7, [.int x_3, .int 0, .int 0, .ref t1, .ref t2, .ref t3, .ref t4])), (t1, .inl (cI, 10, .inl fa))] := hD
      refine lv_aload_n hx hb dX9_person_37 rfl (lv_at hl 0 rfl) ?_
      refine va_get (D := D) (ci := 9) (v := .ref tw) (C := RX9) (T := TX9) (N := 11) hx hb htb itX9 hown hK hP 0 rfl rfl 1 (by decide) (htb _ k_394) (fun _ h9 => h9) rfl dX9_person_38 ?_
      refine va_getN (D := D) (ci := 7) (v := .ref t1) (C := RX7) (T := TX7) (N := 7) hx hb htb itX7 hown hK hP 1 rfl rfl 3 (by decide) (va_Nw.use rfl (hN _ n_152 rfl)) (fun _ h9 => h9) rfl dX9_person_41 ?_
      refine lv_iload_n hx hb dX9_person_44 rfl (lv_at hl 1 rfl) ?_
      refine lv_iload_n hx hb dX9_person_45 rfl (lv_at hl 2 rfl) ?_
      refine va_iast hx hb hK hP hD hS 2 0 rfl rfl (vin (Int32.not_lt.mpr (bIt c_7).1) (fun q => absurd (Int32.le_trans q (bIt c_7).2) (by decide)) (by decide)) dX9_person_46 (fun H locs hP hD hS => ?_)
      obtain ⟨f_4, ef_4⟩ : ∃ g : Nat → Int32, g = upd fa (Int32.toNatClampNeg x1) x2 := ⟨_, rfl⟩
      rw [← ef_4] at hP hD
      have hP : va_P D vwCl [(h0, .inr (9, [.ref tp, .ref tw, .ref nw, .ref kp, .ref lw, .ref lr, .ref dd, .ref vv, .ref tl, .ref sc, .int 0])), (tw, .inr (7, [.int x_3, .int 0, .int 0, .ref t1, .ref t2, .ref t3, .ref t4])), (t1, .inl (cI, 10, .inl f_4))] H := hP
      have hD : va_D A [(h0, .inr (9, [.ref tp, .ref tw, .ref nw, .ref kp, .ref lw, .ref lr, .ref dd, .ref vv, .ref tl, .ref sc, .int 0])), (tw, .inr (7, [.int x_3, .int 0, .int 0, .ref t1, .ref t2, .ref t3, .ref t4])), (t1, .inl (cI, 10, .inl f_4))] := hD
      refine lv_iconst (v := 1) hx hb dX9_person_47 (by decide) ?_
      exact ret _ _ _ _ 1 () dX9_person_48 rfl (bI1 ⟨bIt c_7, bIt c_17⟩) (hP.sub [] rfl) (hD.sub [] (by decide) rfl) hS
    · refine lv_iconst (v := 0) hx hb dX9_person_20 (by decide) ?_
      exact ret _ _ _ _ 0 () dX9_person_21 rfl (bI0 (fun h => bIf c_17 h.2)) (hP.sub [] rfl) (hD.sub [] (by decide) rfl) hS

set_option maxRecDepth 100000 in
set_option maxHeartbeats 4000000 in
theorem c_X9_chore (l : Launch) (D : va_G) (cI cB : ClassId) (sz : Nat) (h0 : Nat) (tp : Nat) (tw : Nat) (nw : Nat) (kp : Nat) (lw : Nat) (lr : Nat) (dd : Nat) (vv : Nat) (tl : Nat) (sc : Nat) (t1 : Nat) (t2 : Nat) (t3 : Nat) (t4 : Nat) (u2 : Nat) (f2 : Nat) (g2 : Nat) (fu2 : Nat → Int32) (fa : Nat → Int32) (x1 : Int32) (x2 : Int32)  : MI (S := Unit) l D cI cB yX9_chore cX9_chore 3 .boolean (rm 1 22) [.ref h0, .int x1, .int x2] [(h0, .inr (9, [.ref tp, .ref tw, .ref nw, .ref kp, .ref lw, .ref lr, .ref dd, .ref vv, .ref tl, .ref sc, .int 0])), (tw, .inr (7, [.int 0, .int 0, .int 0, .ref t1, .ref t2, .ref t3, .ref t4])), (t2, .inl (cI, 12, .inl fa)), (nw, .inr (4, [.ref u2, .ref f2, .ref g2, .int 0, .int 0, .int 1])), (u2, .inl (cI, 12, .inl fu2))] sz (fun r u => r = bI ((0 ≤ x1 ∧ x1 ≤ 11) ∧ (0 ≤ x2 ∧ x2 ≤ 20))) (fun u : Unit => []) := by
  refine MI.of (by decide) (Nat.le_of_ble_eq_true rfl) ?_
  intro p e s m below meth c Q ls A X hin hN hP hK hD hA hl ret
  have hS : va_S A s.heap s.heap [] := va_S.rf
  obtain ⟨hx, hb, hml, hown, htb⟩ := id X
  have hl : lv_has ls 3 [(0, .ref h0), (1, .int x1), (2, .int x2)] := hl
  refine lv_iload_n hx hb dX9_chore_0 rfl (lv_at hl 1 rfl) ?_
  refine lv_iconst (v := 0) hx hb dX9_chore_1 (by decide) ?_
  refine lv_bipush (v := 11) hx hb dX9_chore_2 (by decide) ?_
  refine cSR (As := [.int x1, .int 0, .int 11]) (rest := []) (n := 3) X hN hK hP (c_X9_within l D cI cB x1 0 11) k_431 k_432 k_92 k_433 (by decide +kernel) ⟨Nat.le_of_ble_eq_true rfl, Nat.le_of_ble_eq_true rfl⟩ ⟨rfl, rfl⟩ [] rfl rfl rfl hl.1 (Nat.le_of_ble_eq_true rfl) dX9_chore_4 ⟨Nat.le_of_ble_eq_true rfl, Nat.le_of_ble_eq_true rfl⟩ (fun r_1 hr_1 => ?_)
  subst hr_1
  refine lv_if_eq (tgt := 20) hx hb dX9_chore_7 (by decide) (fun c_7 => ?_) (fun c_7 => ?_)
  · refine lv_iconst (v := 0) hx hb dX9_chore_20 (by decide) ?_
    exact ret _ _ _ _ 0 () dX9_chore_21 rfl (bI0 (fun h => bIf c_7 h.1)) (hP.sub [] rfl) (hD.sub [] (by decide) rfl) hS
  · refine lv_iload_n hx hb dX9_chore_10 rfl (lv_at hl 2 rfl) ?_
    refine lv_iconst (v := 0) hx hb dX9_chore_11 (by decide) ?_
    refine lv_bipush (v := 20) hx hb dX9_chore_12 (by decide) ?_
    refine cSR (As := [.int x2, .int 0, .int 20]) (rest := []) (n := 3) X hN hK hP (c_X9_within l D cI cB x2 0 20) k_431 k_432 k_92 k_433 (by decide +kernel) ⟨Nat.le_of_ble_eq_true rfl, Nat.le_of_ble_eq_true rfl⟩ ⟨rfl, rfl⟩ [] rfl rfl rfl hl.1 (Nat.le_of_ble_eq_true rfl) dX9_chore_14 ⟨Nat.le_of_ble_eq_true rfl, Nat.le_of_ble_eq_true rfl⟩ (fun r_2 hr_2 => ?_)
    subst hr_2
    refine lv_if_ne (tgt := 22) hx hb dX9_chore_17 (by decide) (fun c_17 => ?_) (fun c_17 => ?_)
    · refine lv_aload_n hx hb dX9_chore_22 rfl (lv_at hl 0 rfl) ?_
      refine va_get (D := D) (ci := 9) (v := .ref tw) (C := RX9) (T := TX9) (N := 11) hx hb htb itX9 hown hK hP 0 rfl rfl 1 (by decide) (htb _ k_394) (fun _ h9 => h9) rfl dX9_chore_23 ?_
      refine lv_dup hx hb dX9_chore_26 rfl ?_
      refine va_getN (D := D) (ci := 7) (v := .int 0) (C := RX7) (T := TX7) (N := 7) hx hb htb itX7 hown hK hP 1 rfl rfl 1 (by decide) (va_Nw.use rfl (hN _ n_147 rfl)) (fun _ h9 => h9) rfl dX9_chore_27 ?_
      refine lv_iconst (v := 1) hx hb dX9_chore_30 (by decide) ?_
      refine lv_iload_n hx hb dX9_chore_31 rfl (lv_at hl 1 rfl) ?_
      refine lv_ishl hx hb dX9_chore_32 ?_
      refine lv_ior hx hb dX9_chore_33 ?_
      refine lv_topi (fun x_3 ex_3 => ?_)
      refine va_putN (D := D) (ci := 7) (v := .int x_3) (ty := .int) (C := RX7) (T := TX7) (N := 7) hx hb htb itX7 tyX7 tyX7_ok nmX7 hown hK hP hD hS 1 rfl rfl 1 (by decide) (va_Nw.use rfl (hN _ n_147 rfl)) (fun _ h9 => h9) rfl (tyX7_ok 1 (by decide)) rfl rfl (Nat.le_of_ble_eq_true rfl) dX9_chore_34 (fun H locs hP hD hS => ?_)
      have hP : va_P D vwCl [(h0, .inr (9, [.ref tp, .ref tw, .ref nw, .ref kp, .ref lw, .ref lr, .ref dd, .ref vv, .ref tl, .ref sc, .int 0])), (tw, .inr (7, [.int 0, .int x_3, .int 0, .ref t1, .ref t2, .ref t3, .ref t4])), (t2, .inl (cI, 12, .inl fa)), (nw, .inr (4, [.ref u2, .ref f2, .ref g2, .int 0, .int 0, .int 1])), (u2, .inl (cI, 12, .inl fu2))] H := hP
      have hD : va_D A [(h0, .inr (9, [.ref tp, .ref tw, .ref nw, .ref kp, .ref lw, .ref lr, .ref dd, .ref vv, .ref tl, .ref sc, .int 0])), (tw, .inr (7, [.int 0, .int x_3, .int 0, .ref t1, .ref t2, .ref t3, .ref t4])), (t2, .inl (cI, 12, .inl fa)), (nw, .inr (4, [.ref u2, .ref f2, .ref g2, .int 0, .int 0, .int 1])), (u2, .inl (cI, 12, .inl fu2))] := hD
      refine lv_aload_n hx hb dX9_chore_37 rfl (lv_at hl 0 rfl) ?_
      refine va_get (D := D) (ci := 9) (v := .ref tw) (C := RX9) (T := TX9) (N := 11) hx hb htb itX9 hown hK hP 0 rfl rfl 1 (by decide) (htb _ k_394) (fun _ h9 => h9) rfl dX9_chore_38 ?_
      refine va_getN (D := D) (ci := 7) (v := .ref t2) (C := RX7) (T := TX7) (N := 7) hx hb htb itX7 hown hK hP 1 rfl rfl 4 (by decide) (va_Nw.use rfl (hN _ n_155 rfl)) (fun _ h9 => h9) rfl dX9_chore_41 ?_
      refine lv_iload_n hx hb dX9_chore_44 rfl (lv_at hl 1 rfl) ?_
      refine lv_iload_n hx hb dX9_chore_45 rfl (lv_at hl 2 rfl) ?_
      refine va_iast hx hb hK hP hD hS 2 0 rfl rfl (vin (Int32.not_lt.mpr (bIt c_7).1) (fun q => absurd (Int32.le_trans q (bIt c_7).2) (by decide)) (by decide)) dX9_chore_46 (fun H locs hP hD hS => ?_)
      obtain ⟨f_4, ef_4⟩ : ∃ g : Nat → Int32, g = upd fa (Int32.toNatClampNeg x1) x2 := ⟨_, rfl⟩
      rw [← ef_4] at hP hD
      have hP : va_P D vwCl [(h0, .inr (9, [.ref tp, .ref tw, .ref nw, .ref kp, .ref lw, .ref lr, .ref dd, .ref vv, .ref tl, .ref sc, .int 0])), (tw, .inr (7, [.int 0, .int x_3, .int 0, .ref t1, .ref t2, .ref t3, .ref t4])), (t2, .inl (cI, 12, .inl f_4)), (nw, .inr (4, [.ref u2, .ref f2, .ref g2, .int 0, .int 0, .int 1])), (u2, .inl (cI, 12, .inl fu2))] H := hP
      have hD : va_D A [(h0, .inr (9, [.ref tp, .ref tw, .ref nw, .ref kp, .ref lw, .ref lr, .ref dd, .ref vv, .ref tl, .ref sc, .int 0])), (tw, .inr (7, [.int 0, .int x_3, .int 0, .ref t1, .ref t2, .ref t3, .ref t4])), (t2, .inl (cI, 12, .inl f_4)), (nw, .inr (4, [.ref u2, .ref f2, .ref g2, .int 0, .int 0, .int 1])), (u2, .inl (cI, 12, .inl fu2))] := hD
      refine lv_aload_n hx hb dX9_chore_47 rfl (lv_at hl 0 rfl) ?_
      refine va_get (D := D) (ci := 9) (v := .ref nw) (C := RX9) (T := TX9) (N := 11) hx hb htb itX9 hown hK hP 0 rfl rfl 2 (by decide) (htb _ k_395) (fun _ h9 => h9) rfl dX9_chore_48 ?_
      refine va_getN (D := D) (ci := 4) (v := .ref u2) (C := RX4) (T := TX4) (N := 6) hx hb htb itX4 hown hK hP 3 rfl rfl 0 (by decide) (va_Nw.use rfl (hN _ n_190 rfl)) (fun _ h9 => h9) rfl dX9_chore_51 ?_
      refine lv_iload_n hx hb dX9_chore_54 rfl (lv_at hl 1 rfl) ?_
      refine lv_iconst (v := 0) hx hb dX9_chore_55 (by decide) ?_
      refine va_iast hx hb hK hP hD hS 4 0 rfl rfl (vin (Int32.not_lt.mpr (bIt c_7).1) (fun q => absurd (Int32.le_trans q (bIt c_7).2) (by decide)) (by decide)) dX9_chore_56 (fun H locs hP hD hS => ?_)
      obtain ⟨f_5, ef_5⟩ : ∃ g : Nat → Int32, g = upd fu2 (Int32.toNatClampNeg x1) 0 := ⟨_, rfl⟩
      rw [← ef_5] at hP hD
      have hP : va_P D vwCl [(h0, .inr (9, [.ref tp, .ref tw, .ref nw, .ref kp, .ref lw, .ref lr, .ref dd, .ref vv, .ref tl, .ref sc, .int 0])), (tw, .inr (7, [.int 0, .int x_3, .int 0, .ref t1, .ref t2, .ref t3, .ref t4])), (t2, .inl (cI, 12, .inl f_4)), (nw, .inr (4, [.ref u2, .ref f2, .ref g2, .int 0, .int 0, .int 1])), (u2, .inl (cI, 12, .inl f_5))] H := hP
      have hD : va_D A [(h0, .inr (9, [.ref tp, .ref tw, .ref nw, .ref kp, .ref lw, .ref lr, .ref dd, .ref vv, .ref tl, .ref sc, .int 0])), (tw, .inr (7, [.int 0, .int x_3, .int 0, .ref t1, .ref t2, .ref t3, .ref t4])), (t2, .inl (cI, 12, .inl f_4)), (nw, .inr (4, [.ref u2, .ref f2, .ref g2, .int 0, .int 0, .int 1])), (u2, .inl (cI, 12, .inl f_5))] := hD
      refine lv_iconst (v := 1) hx hb dX9_chore_57 (by decide) ?_
      exact ret _ _ _ _ 1 () dX9_chore_58 rfl (bI1 ⟨bIt c_7, bIt c_17⟩) (hP.sub [] rfl) (hD.sub [] (by decide) rfl) hS
    · refine lv_iconst (v := 0) hx hb dX9_chore_20 (by decide) ?_
      exact ret _ _ _ _ 0 () dX9_chore_21 rfl (bI0 (fun h => bIf c_17 h.2)) (hP.sub [] rfl) (hD.sub [] (by decide) rfl) hS

set_option maxRecDepth 100000 in
set_option maxHeartbeats 4000000 in
theorem c_X9_rain (l : Launch) (D : va_G) (cI cB : ClassId) (sz : Nat) (h0 : Nat) (tp : Nat) (tw : Nat) (nw : Nat) (kp : Nat) (lw : Nat) (lr : Nat) (dd : Nat) (vv : Nat) (tl : Nat) (sc : Nat) (t1 : Nat) (t2 : Nat) (t3 : Nat) (t4 : Nat) (x1 : Int32)  : MI (S := Unit) l D cI cB yX9_rain cX9_rain 2 .boolean (rm 1 22) [.ref h0, .int x1] [(h0, .inr (9, [.ref tp, .ref tw, .ref nw, .ref kp, .ref lw, .ref lr, .ref dd, .ref vv, .ref tl, .ref sc, .int 0])), (tw, .inr (7, [.int 0, .int 0, .int 0, .ref t1, .ref t2, .ref t3, .ref t4]))] sz (fun r u => r = bI (0 ≤ x1 ∧ x1 ≤ 10)) (fun u : Unit => []) := by
  refine MI.of (by decide) (Nat.le_of_ble_eq_true rfl) ?_
  intro p e s m below meth c Q ls A X hin hN hP hK hD hA hl ret
  have hS : va_S A s.heap s.heap [] := va_S.rf
  obtain ⟨hx, hb, hml, hown, htb⟩ := id X
  have hl : lv_has ls 2 [(0, .ref h0), (1, .int x1)] := hl
  refine lv_iload_n hx hb dX9_rain_0 rfl (lv_at hl 1 rfl) ?_
  refine lv_iconst (v := 0) hx hb dX9_rain_1 (by decide) ?_
  refine lv_bipush (v := 10) hx hb dX9_rain_2 (by decide) ?_
  refine cSR (As := [.int x1, .int 0, .int 10]) (rest := []) (n := 3) X hN hK hP (c_X9_within l D cI cB x1 0 10) k_431 k_432 k_92 k_433 (by decide +kernel) ⟨Nat.le_of_ble_eq_true rfl, Nat.le_of_ble_eq_true rfl⟩ ⟨rfl, rfl⟩ [] rfl rfl rfl hl.1 (Nat.le_of_ble_eq_true rfl) dX9_rain_4 ⟨Nat.le_of_ble_eq_true rfl, Nat.le_of_ble_eq_true rfl⟩ (fun r_1 hr_1 => ?_)
  subst hr_1
  refine lv_if_ne (tgt := 12) hx hb dX9_rain_7 (by decide) (fun c_7 => ?_) (fun c_7 => ?_)
  · refine lv_aload_n hx hb dX9_rain_12 rfl (lv_at hl 0 rfl) ?_
    refine va_get (D := D) (ci := 9) (v := .ref tw) (C := RX9) (T := TX9) (N := 11) hx hb htb itX9 hown hK hP 0 rfl rfl 1 (by decide) (htb _ k_394) (fun _ h9 => h9) rfl dX9_rain_13 ?_
    refine lv_iload_n hx hb dX9_rain_16 rfl (lv_at hl 1 rfl) ?_
    refine va_putN (D := D) (ci := 7) (v := .int x1) (ty := .int) (C := RX7) (T := TX7) (N := 7) hx hb htb itX7 tyX7 tyX7_ok nmX7 hown hK hP hD hS 1 rfl rfl 2 (by decide) (va_Nw.use rfl (hN _ n_149 rfl)) (fun _ h9 => h9) rfl (tyX7_ok 2 (by decide)) rfl rfl (Nat.le_of_ble_eq_true rfl) dX9_rain_17 (fun H locs hP hD hS => ?_)
    have hP : va_P D vwCl [(h0, .inr (9, [.ref tp, .ref tw, .ref nw, .ref kp, .ref lw, .ref lr, .ref dd, .ref vv, .ref tl, .ref sc, .int 0])), (tw, .inr (7, [.int 0, .int 0, .int x1, .ref t1, .ref t2, .ref t3, .ref t4]))] H := hP
    have hD : va_D A [(h0, .inr (9, [.ref tp, .ref tw, .ref nw, .ref kp, .ref lw, .ref lr, .ref dd, .ref vv, .ref tl, .ref sc, .int 0])), (tw, .inr (7, [.int 0, .int 0, .int x1, .ref t1, .ref t2, .ref t3, .ref t4]))] := hD
    refine lv_iconst (v := 1) hx hb dX9_rain_20 (by decide) ?_
    exact ret _ _ _ _ 1 () dX9_rain_21 rfl (bI1 (bIt c_7)) (hP.sub [] rfl) (hD.sub [] (by decide) rfl) hS
  · refine lv_iconst (v := 0) hx hb dX9_rain_10 (by decide) ?_
    exact ret _ _ _ _ 0 () dX9_rain_11 rfl (bI0 (bIf c_7)) (hP.sub [] rfl) (hD.sub [] (by decide) rfl) hS

set_option maxRecDepth 100000 in
set_option maxHeartbeats 4000000 in
theorem c_X9_seed (l : Launch) (D : va_G) (cI cB : ClassId) (sz : Nat) (h0 : Nat) (tp : Nat) (tw : Nat) (nw : Nat) (kp : Nat) (lw : Nat) (lr : Nat) (dd : Nat) (vv : Nat) (tl : Nat) (sc : Nat) (u2 : Nat) (f2 : Nat) (g2 : Nat) (x1 : Int32)  : MI (S := Unit) l D cI cB yX9_seed cX9_seed 2 .boolean (rm 1 22) [.ref h0, .int x1] [(h0, .inr (9, [.ref tp, .ref tw, .ref nw, .ref kp, .ref lw, .ref lr, .ref dd, .ref vv, .ref tl, .ref sc, .int 0])), (nw, .inr (4, [.ref u2, .ref f2, .ref g2, .int 0, .int 0, .int 1]))] sz (fun r u => r = bI (0 ≤ x1 ∧ x1 ≤ 65535)) (fun u : Unit => []) := by
  refine MI.of (by decide) (Nat.le_of_ble_eq_true rfl) ?_
  intro p e s m below meth c Q ls A X hin hN hP hK hD hA hl ret
  have hS : va_S A s.heap s.heap [] := va_S.rf
  obtain ⟨hx, hb, hml, hown, htb⟩ := id X
  have hl : lv_has ls 2 [(0, .ref h0), (1, .int x1)] := hl
  refine lv_iload_n hx hb dX9_seed_0 rfl (lv_at hl 1 rfl) ?_
  refine lv_iconst (v := 0) hx hb dX9_seed_1 (by decide) ?_
  refine lv_ldc (v := 65535) hx hb hown (htb _ k_765) dX9_seed_2 ?_
  refine cSR (As := [.int x1, .int 0, .int 65535]) (rest := []) (n := 3) X hN hK hP (c_X9_within l D cI cB x1 0 65535) k_431 k_432 k_92 k_433 (by decide +kernel) ⟨Nat.le_of_ble_eq_true rfl, Nat.le_of_ble_eq_true rfl⟩ ⟨rfl, rfl⟩ [] rfl rfl rfl hl.1 (Nat.le_of_ble_eq_true rfl) dX9_seed_4 ⟨Nat.le_of_ble_eq_true rfl, Nat.le_of_ble_eq_true rfl⟩ (fun r_1 hr_1 => ?_)
  subst hr_1
  refine lv_if_ne (tgt := 12) hx hb dX9_seed_7 (by decide) (fun c_7 => ?_) (fun c_7 => ?_)
  · refine lv_aload_n hx hb dX9_seed_12 rfl (lv_at hl 0 rfl) ?_
    refine va_get (D := D) (ci := 9) (v := .ref nw) (C := RX9) (T := TX9) (N := 11) hx hb htb itX9 hown hK hP 0 rfl rfl 2 (by decide) (htb _ k_395) (fun _ h9 => h9) rfl dX9_seed_13 ?_
    refine lv_iload_n hx hb dX9_seed_16 rfl (lv_at hl 1 rfl) ?_
    refine va_putN (D := D) (ci := 4) (v := .int x1) (ty := .int) (C := RX4) (T := TX4) (N := 6) hx hb htb itX4 tyX4 tyX4_ok nmX4 hown hK hP hD hS 1 rfl rfl 5 (by decide) (va_Nw.use rfl (hN _ n_204 rfl)) (fun _ h9 => h9) rfl (tyX4_ok 5 (by decide)) rfl rfl (Nat.le_of_ble_eq_true rfl) dX9_seed_17 (fun H locs hP hD hS => ?_)
    have hP : va_P D vwCl [(h0, .inr (9, [.ref tp, .ref tw, .ref nw, .ref kp, .ref lw, .ref lr, .ref dd, .ref vv, .ref tl, .ref sc, .int 0])), (nw, .inr (4, [.ref u2, .ref f2, .ref g2, .int 0, .int 0, .int x1]))] H := hP
    have hD : va_D A [(h0, .inr (9, [.ref tp, .ref tw, .ref nw, .ref kp, .ref lw, .ref lr, .ref dd, .ref vv, .ref tl, .ref sc, .int 0])), (nw, .inr (4, [.ref u2, .ref f2, .ref g2, .int 0, .int 0, .int x1]))] := hD
    refine lv_iconst (v := 1) hx hb dX9_seed_20 (by decide) ?_
    exact ret _ _ _ _ 1 () dX9_seed_21 rfl (bI1 (bIt c_7)) (hP.sub [] rfl) (hD.sub [] (by decide) rfl) hS
  · refine lv_iconst (v := 0) hx hb dX9_seed_10 (by decide) ?_
    exact ret _ _ _ _ 0 () dX9_seed_11 rfl (bI0 (bIf c_7)) (hP.sub [] rfl) (hD.sub [] (by decide) rfl) hS

set_option maxRecDepth 100000 in
set_option maxHeartbeats 4000000 in
theorem c_X9_feed (l : Launch) (D : va_G) (cI cB : ClassId) (sz : Nat) (h0 : Nat) (tp : Nat) (tw : Nat) (nw : Nat) (kp : Nat) (lw : Nat) (lr : Nat) (dd : Nat) (vv : Nat) (tl : Nat) (sc : Nat) (by_ : Nat) (fb : Nat → Int32) (v1 : Int32) (v2 : Int32) (v3 : Int32) (v4 : Int32) (v5 : Int32)  : MI (S := Unit) l D cI cB yX9_feed cX9_feed 6 .int (rm 1 22) [.ref h0, .int v1, .int v2, .int v3, .int v4, .int v5] [(h0, .inr (9, [.ref tp, .ref tw, .ref nw, .ref kp, .ref lw, .ref lr, .ref dd, .ref vv, .ref tl, .ref sc, .int 0])), (tp, .inr (5, [.ref by_, .int 0])), (by_, .inl (cI, 260, .inl fb))] sz (fun r u => r = 20) (fun u : Unit => []) := by
  refine MI.of (by decide) (Nat.le_of_ble_eq_true rfl) ?_
  intro p e s m below meth c Q ls A X hin hN hP hK hD hA hl ret
  have hS : va_S A s.heap s.heap [] := va_S.rf
  obtain ⟨hx, hb, hml, hown, htb⟩ := id X
  have hl : lv_has ls 6 [(0, .ref h0), (1, .int v1), (2, .int v2), (3, .int v3), (4, .int v4), (5, .int v5)] := hl
  refine lv_aload_n hx hb dX9_feed_0 rfl (lv_at hl 0 rfl) ?_
  refine va_get (D := D) (ci := 9) (v := .ref tp) (C := RX9) (T := TX9) (N := 11) hx hb htb itX9 hown hK hP 0 rfl rfl 0 (by decide) (htb _ k_393) (fun _ h9 => h9) rfl dX9_feed_1 ?_
  refine lv_bipush (v := 20) hx hb dX9_feed_4 (by decide) ?_
  refine cVR (As := [.int 20]) (rest := []) (n := 1) (ci := 5) (q0 := 0) X hN hK hP (c_X5_hasRoomFor l D cI cB tp by_ fb) (gV k_446 k_447 k_448 k_93 k_449) (by decide +kernel) ⟨Nat.le_of_ble_eq_true rfl, Nat.le_of_ble_eq_true rfl⟩ ⟨rfl, rfl⟩ [1, 2] rfl rfl rfl rfl rfl rfl hl.1 (Nat.le_of_ble_eq_true rfl) dX9_feed_6 ⟨Nat.le_of_ble_eq_true rfl, Nat.le_of_ble_eq_true rfl⟩ (fun r_1 hr_1 => ?_)
  subst hr_1
  refine lv_if_ne (tgt := 14) hx hb dX9_feed_9 (by decide) (fun _ => ?_) (fun c_9 => absurd c_9 (by decide))
  refine lv_aload_n hx hb dX9_feed_14 rfl (lv_at hl 0 rfl) ?_
  refine va_get (D := D) (ci := 9) (v := .ref tp) (C := RX9) (T := TX9) (N := 11) hx hb htb itX9 hown hK hP 0 rfl rfl 0 (by decide) (htb _ k_393) (fun _ h9 => h9) rfl dX9_feed_15 ?_
  refine lv_iload_n hx hb dX9_feed_18 rfl (lv_at hl 1 rfl) ?_
  refine cVV (As := [.int v1]) (rest := []) (n := 1) (ci := 5) (q0 := 0) (wr := [(h0, .inr (9, [.ref tp, .ref tw, .ref nw, .ref kp, .ref lw, .ref lr, .ref dd, .ref vv, .ref tl, .ref sc, .int 0]))]) X hN hK hP hD hS hA (c_X5_addWord l D cI cB _ tp by_ 0 v1 fb (by decide)) (gV k_450 k_451 k_452 k_93 k_453) (by decide +kernel) ⟨Nat.le_of_ble_eq_true rfl, Nat.le_of_ble_eq_true rfl⟩ ⟨rfl, rfl⟩ [1, 2] [0] rfl rfl (by decide) (by decide) rfl rfl rfl rfl rfl hl.1 (Nat.le_of_ble_eq_true rfl) dX9_feed_19 ⟨Nat.le_of_ble_eq_true rfl, Nat.le_of_ble_eq_true rfl⟩ (fun u H locs hw_4 hP hD hS => ?_)
  obtain ⟨bo_3, rfl⟩ : ∃ z, z = u := ⟨_, rfl⟩
  try dsimp only at hw_4
  have hP : va_P D vwCl [(h0, .inr (9, [.ref tp, .ref tw, .ref nw, .ref kp, .ref lw, .ref lr, .ref dd, .ref vv, .ref tl, .ref sc, .int 0])), (tp, .inr (5, [.ref by_, .int (nI (0 + 4))])), (by_, .inl (cI, 260, .inl bo_3))] H := hP
  have hD : va_D A [(h0, .inr (9, [.ref tp, .ref tw, .ref nw, .ref kp, .ref lw, .ref lr, .ref dd, .ref vv, .ref tl, .ref sc, .int 0])), (tp, .inr (5, [.ref by_, .int (nI (0 + 4))])), (by_, .inl (cI, 260, .inl bo_3))] := hD
  refine lv_aload_n hx hb dX9_feed_22 rfl (lv_at hl 0 rfl) ?_
  refine va_get (D := D) (ci := 9) (v := .ref tp) (C := RX9) (T := TX9) (N := 11) hx hb htb itX9 hown hK hP 0 rfl rfl 0 (by decide) (htb _ k_393) (fun _ h9 => h9) rfl dX9_feed_23 ?_
  refine lv_iload_n hx hb dX9_feed_26 rfl (lv_at hl 2 rfl) ?_
  refine cVV (As := [.int v2]) (rest := []) (n := 1) (ci := 5) (q0 := 0) (wr := [(h0, .inr (9, [.ref tp, .ref tw, .ref nw, .ref kp, .ref lw, .ref lr, .ref dd, .ref vv, .ref tl, .ref sc, .int 0]))]) X hN hK hP hD hS hA (c_X5_addWord l D cI cB _ tp by_ (0 + 4) v2 bo_3 (by decide)) (gV k_450 k_451 k_452 k_93 k_453) (by decide +kernel) ⟨Nat.le_of_ble_eq_true rfl, Nat.le_of_ble_eq_true rfl⟩ ⟨rfl, rfl⟩ [1, 2] [0] rfl rfl (by decide) (by decide) rfl rfl rfl rfl rfl hl.1 (Nat.le_of_ble_eq_true rfl) dX9_feed_27 ⟨Nat.le_of_ble_eq_true rfl, Nat.le_of_ble_eq_true rfl⟩ (fun u H locs hw_7 hP hD hS => ?_)
  obtain ⟨bo_6, rfl⟩ : ∃ z, z = u := ⟨_, rfl⟩
  try dsimp only at hw_7
  have hP : va_P D vwCl [(h0, .inr (9, [.ref tp, .ref tw, .ref nw, .ref kp, .ref lw, .ref lr, .ref dd, .ref vv, .ref tl, .ref sc, .int 0])), (tp, .inr (5, [.ref by_, .int (nI ((0 + 4) + 4))])), (by_, .inl (cI, 260, .inl bo_6))] H := hP
  have hD : va_D A [(h0, .inr (9, [.ref tp, .ref tw, .ref nw, .ref kp, .ref lw, .ref lr, .ref dd, .ref vv, .ref tl, .ref sc, .int 0])), (tp, .inr (5, [.ref by_, .int (nI ((0 + 4) + 4))])), (by_, .inl (cI, 260, .inl bo_6))] := hD
  refine lv_aload_n hx hb dX9_feed_30 rfl (lv_at hl 0 rfl) ?_
  refine va_get (D := D) (ci := 9) (v := .ref tp) (C := RX9) (T := TX9) (N := 11) hx hb htb itX9 hown hK hP 0 rfl rfl 0 (by decide) (htb _ k_393) (fun _ h9 => h9) rfl dX9_feed_31 ?_
  refine lv_iload_n hx hb dX9_feed_34 rfl (lv_at hl 3 rfl) ?_
  refine cVV (As := [.int v3]) (rest := []) (n := 1) (ci := 5) (q0 := 0) (wr := [(h0, .inr (9, [.ref tp, .ref tw, .ref nw, .ref kp, .ref lw, .ref lr, .ref dd, .ref vv, .ref tl, .ref sc, .int 0]))]) X hN hK hP hD hS hA (c_X5_addWord l D cI cB _ tp by_ ((0 + 4) + 4) v3 bo_6 (by decide)) (gV k_450 k_451 k_452 k_93 k_453) (by decide +kernel) ⟨Nat.le_of_ble_eq_true rfl, Nat.le_of_ble_eq_true rfl⟩ ⟨rfl, rfl⟩ [1, 2] [0] rfl rfl (by decide) (by decide) rfl rfl rfl rfl rfl hl.1 (Nat.le_of_ble_eq_true rfl) dX9_feed_35 ⟨Nat.le_of_ble_eq_true rfl, Nat.le_of_ble_eq_true rfl⟩ (fun u H locs hw_10 hP hD hS => ?_)
  obtain ⟨bo_9, rfl⟩ : ∃ z, z = u := ⟨_, rfl⟩
  try dsimp only at hw_10
  have hP : va_P D vwCl [(h0, .inr (9, [.ref tp, .ref tw, .ref nw, .ref kp, .ref lw, .ref lr, .ref dd, .ref vv, .ref tl, .ref sc, .int 0])), (tp, .inr (5, [.ref by_, .int (nI (((0 + 4) + 4) + 4))])), (by_, .inl (cI, 260, .inl bo_9))] H := hP
  have hD : va_D A [(h0, .inr (9, [.ref tp, .ref tw, .ref nw, .ref kp, .ref lw, .ref lr, .ref dd, .ref vv, .ref tl, .ref sc, .int 0])), (tp, .inr (5, [.ref by_, .int (nI (((0 + 4) + 4) + 4))])), (by_, .inl (cI, 260, .inl bo_9))] := hD
  refine lv_aload_n hx hb dX9_feed_38 rfl (lv_at hl 0 rfl) ?_
  refine va_get (D := D) (ci := 9) (v := .ref tp) (C := RX9) (T := TX9) (N := 11) hx hb htb itX9 hown hK hP 0 rfl rfl 0 (by decide) (htb _ k_393) (fun _ h9 => h9) rfl dX9_feed_39 ?_
  refine lv_iload hx hb dX9_feed_42 (lv_at hl 4 rfl) ?_
  refine cVV (As := [.int v4]) (rest := []) (n := 1) (ci := 5) (q0 := 0) (wr := [(h0, .inr (9, [.ref tp, .ref tw, .ref nw, .ref kp, .ref lw, .ref lr, .ref dd, .ref vv, .ref tl, .ref sc, .int 0]))]) X hN hK hP hD hS hA (c_X5_addWord l D cI cB _ tp by_ (((0 + 4) + 4) + 4) v4 bo_9 (by decide)) (gV k_450 k_451 k_452 k_93 k_453) (by decide +kernel) ⟨Nat.le_of_ble_eq_true rfl, Nat.le_of_ble_eq_true rfl⟩ ⟨rfl, rfl⟩ [1, 2] [0] rfl rfl (by decide) (by decide) rfl rfl rfl rfl rfl hl.1 (Nat.le_of_ble_eq_true rfl) dX9_feed_44 ⟨Nat.le_of_ble_eq_true rfl, Nat.le_of_ble_eq_true rfl⟩ (fun u H locs hw_13 hP hD hS => ?_)
  obtain ⟨bo_12, rfl⟩ : ∃ z, z = u := ⟨_, rfl⟩
  try dsimp only at hw_13
  have hP : va_P D vwCl [(h0, .inr (9, [.ref tp, .ref tw, .ref nw, .ref kp, .ref lw, .ref lr, .ref dd, .ref vv, .ref tl, .ref sc, .int 0])), (tp, .inr (5, [.ref by_, .int (nI ((((0 + 4) + 4) + 4) + 4))])), (by_, .inl (cI, 260, .inl bo_12))] H := hP
  have hD : va_D A [(h0, .inr (9, [.ref tp, .ref tw, .ref nw, .ref kp, .ref lw, .ref lr, .ref dd, .ref vv, .ref tl, .ref sc, .int 0])), (tp, .inr (5, [.ref by_, .int (nI ((((0 + 4) + 4) + 4) + 4))])), (by_, .inl (cI, 260, .inl bo_12))] := hD
  refine lv_aload_n hx hb dX9_feed_47 rfl (lv_at hl 0 rfl) ?_
  refine va_get (D := D) (ci := 9) (v := .ref tp) (C := RX9) (T := TX9) (N := 11) hx hb htb itX9 hown hK hP 0 rfl rfl 0 (by decide) (htb _ k_393) (fun _ h9 => h9) rfl dX9_feed_48 ?_
  refine lv_iload hx hb dX9_feed_51 (lv_at hl 5 rfl) ?_
  refine cVV (As := [.int v5]) (rest := []) (n := 1) (ci := 5) (q0 := 0) (wr := [(h0, .inr (9, [.ref tp, .ref tw, .ref nw, .ref kp, .ref lw, .ref lr, .ref dd, .ref vv, .ref tl, .ref sc, .int 0]))]) X hN hK hP hD hS hA (c_X5_addWord l D cI cB _ tp by_ ((((0 + 4) + 4) + 4) + 4) v5 bo_12 (by decide)) (gV k_450 k_451 k_452 k_93 k_453) (by decide +kernel) ⟨Nat.le_of_ble_eq_true rfl, Nat.le_of_ble_eq_true rfl⟩ ⟨rfl, rfl⟩ [1, 2] [0] rfl rfl (by decide) (by decide) rfl rfl rfl rfl rfl hl.1 (Nat.le_of_ble_eq_true rfl) dX9_feed_53 ⟨Nat.le_of_ble_eq_true rfl, Nat.le_of_ble_eq_true rfl⟩ (fun u H locs hw_16 hP hD hS => ?_)
  obtain ⟨bo_15, rfl⟩ : ∃ z, z = u := ⟨_, rfl⟩
  try dsimp only at hw_16
  have hP : va_P D vwCl [(h0, .inr (9, [.ref tp, .ref tw, .ref nw, .ref kp, .ref lw, .ref lr, .ref dd, .ref vv, .ref tl, .ref sc, .int 0])), (tp, .inr (5, [.ref by_, .int (nI (((((0 + 4) + 4) + 4) + 4) + 4))])), (by_, .inl (cI, 260, .inl bo_15))] H := hP
  have hD : va_D A [(h0, .inr (9, [.ref tp, .ref tw, .ref nw, .ref kp, .ref lw, .ref lr, .ref dd, .ref vv, .ref tl, .ref sc, .int 0])), (tp, .inr (5, [.ref by_, .int (nI (((((0 + 4) + 4) + 4) + 4) + 4))])), (by_, .inl (cI, 260, .inl bo_15))] := hD
  refine lv_aload_n hx hb dX9_feed_56 rfl (lv_at hl 0 rfl) ?_
  refine va_get (D := D) (ci := 9) (v := .ref tp) (C := RX9) (T := TX9) (N := 11) hx hb htb itX9 hown hK hP 0 rfl rfl 0 (by decide) (htb _ k_393) (fun _ h9 => h9) rfl dX9_feed_57 ?_
  refine va_getN (D := D) (ci := 5) (v := .int (nI (((((0 + 4) + 4) + 4) + 4) + 4))) (C := RX5) (T := TX5) (N := 2) hx hb htb itX5 hown hK hP 1 rfl rfl 1 (by decide) (va_Nw.use rfl (hN _ n_130 rfl)) (fun _ h9 => h9) rfl dX9_feed_60 ?_
  exact ret _ _ _ _ (nI (((((0 + 4) + 4) + 4) + 4) + 4)) () dX9_feed_63 rfl (by decide) (hP.sub [] rfl) (hD.sub [] (by decide) rfl) hS

set_option maxRecDepth 100000 in
set_option maxHeartbeats 4000000 in
theorem c_X9_law (l : Launch) (D : va_G) (cI cB : ClassId) (h0 : Nat) (tp : Nat) (tw : Nat) (nw : Nat) (kp : Nat) (lw : Nat) (lr : Nat) (dd : Nat) (vv : Nat) (tl : Nat) (sc : Nat) (by_ : Nat) (n : Int32)  : MR l D cI cB yX9_law cX9_law 3 .int (rm 1 23) [.ref h0, .int n] [(h0, .inr (9, [.ref tp, .ref tw, .ref nw, .ref kp, .ref lw, .ref lr, .ref dd, .ref vv, .ref tl, .ref sc, .int 0])), (tp, .inr (5, [.ref by_, .int 0]))] (fun r : Int32 => r = -1) := by
  refine MR.of (by decide) (Nat.le_of_ble_eq_true rfl) ?_
  intro p e s m below meth c Q ls X hN hP hK hl ret
  obtain ⟨hx, hb, hml, hown, htb⟩ := id X
  have hl : lv_has ls 3 [(0, .ref h0), (1, .int n)] := hl
  refine lv_aload_n hx hb dX9_law_0 rfl (lv_at hl 0 rfl) ?_
  refine va_get (D := D) (ci := 9) (v := .ref tp) (C := RX9) (T := TX9) (N := 11) hx hb htb itX9 hown hK hP 0 rfl rfl 0 (by decide) (htb _ k_393) (fun _ h9 => h9) rfl dX9_law_1 ?_
  refine lv_iload_n hx hb dX9_law_4 rfl (lv_at hl 1 rfl) ?_
  refine lv_iconst (v := 1) hx hb dX9_law_5 (by decide) ?_
  refine lv_sipush (v := 240) hx hb dX9_law_6 (by decide) ?_
  refine cVR (As := [.int n, .int 1, .int 240]) (rest := []) (n := 3) (ci := 5) (q0 := 0) X hN hK hP (c_X5_canGive l D cI cB tp by_ n 1 240) (gV k_458 k_459 k_460 k_93 k_461) (by decide +kernel) ⟨Nat.le_of_ble_eq_true rfl, Nat.le_of_ble_eq_true rfl⟩ ⟨rfl, rfl⟩ [1] rfl rfl rfl rfl rfl rfl hl.1 (Nat.le_of_ble_eq_true rfl) dX9_law_9 ⟨Nat.le_of_ble_eq_true rfl, Nat.le_of_ble_eq_true rfl⟩ (fun r_1 hr_1 => ?_)
  subst hr_1
  refine lv_if_ne (tgt := 17) hx hb dX9_law_12 (by decide) (fun c_12 => absurd ((bI0 (cg0 (by decide))).symm) c_12) (fun _ => ?_)
  refine lv_iconst (v := (-1)) hx hb dX9_law_15 (by decide) ?_
  exact ret _ _ (-1) dX9_law_16 rfl rfl

set_option maxRecDepth 100000 in
set_option maxHeartbeats 4000000 in
theorem c_X9_doers (l : Launch) (D : va_G) (cI cB : ClassId) (h0 : Nat) (tp : Nat) (tw : Nat) (nw : Nat) (kp : Nat) (lw : Nat) (lr : Nat) (dd : Nat) (vv : Nat) (tl : Nat) (sc : Nat) (by_ : Nat) (n : Int32)  : MR l D cI cB yX9_doers cX9_doers 3 .int (rm 1 23) [.ref h0, .int n] [(h0, .inr (9, [.ref tp, .ref tw, .ref nw, .ref kp, .ref lw, .ref lr, .ref dd, .ref vv, .ref tl, .ref sc, .int 0])), (tp, .inr (5, [.ref by_, .int 0]))] (fun r : Int32 => r = -1) := by
  refine MR.of (by decide) (Nat.le_of_ble_eq_true rfl) ?_
  intro p e s m below meth c Q ls X hN hP hK hl ret
  obtain ⟨hx, hb, hml, hown, htb⟩ := id X
  have hl : lv_has ls 3 [(0, .ref h0), (1, .int n)] := hl
  refine lv_aload_n hx hb dX9_doers_0 rfl (lv_at hl 0 rfl) ?_
  refine va_get (D := D) (ci := 9) (v := .ref tp) (C := RX9) (T := TX9) (N := 11) hx hb htb itX9 hown hK hP 0 rfl rfl 0 (by decide) (htb _ k_393) (fun _ h9 => h9) rfl dX9_doers_1 ?_
  refine lv_iload_n hx hb dX9_doers_4 rfl (lv_at hl 1 rfl) ?_
  refine lv_iconst (v := 1) hx hb dX9_doers_5 (by decide) ?_
  refine lv_bipush (v := 120) hx hb dX9_doers_6 (by decide) ?_
  refine cVR (As := [.int n, .int 1, .int 120]) (rest := []) (n := 3) (ci := 5) (q0 := 0) X hN hK hP (c_X5_canGive l D cI cB tp by_ n 1 120) (gV k_458 k_459 k_460 k_93 k_461) (by decide +kernel) ⟨Nat.le_of_ble_eq_true rfl, Nat.le_of_ble_eq_true rfl⟩ ⟨rfl, rfl⟩ [1] rfl rfl rfl rfl rfl rfl hl.1 (Nat.le_of_ble_eq_true rfl) dX9_doers_8 ⟨Nat.le_of_ble_eq_true rfl, Nat.le_of_ble_eq_true rfl⟩ (fun r_1 hr_1 => ?_)
  subst hr_1
  refine lv_if_ne (tgt := 16) hx hb dX9_doers_11 (by decide) (fun c_11 => absurd ((bI0 (cg0 (by decide))).symm) c_11) (fun _ => ?_)
  refine lv_iconst (v := (-1)) hx hb dX9_doers_14 (by decide) ?_
  exact ret _ _ (-1) dX9_doers_15 rfl rfl

set_option maxRecDepth 100000 in
set_option maxHeartbeats 4000000 in
theorem c_X9_leaves (l : Launch) (D : va_G) (cI cB : ClassId) (h0 : Nat) (tp : Nat) (tw : Nat) (nw : Nat) (kp : Nat) (lw : Nat) (lr : Nat) (dd : Nat) (vv : Nat) (tl : Nat) (sc : Nat) (by_ : Nat) (n : Int32)  : MR l D cI cB yX9_leaves cX9_leaves 3 .int (rm 1 23) [.ref h0, .int n] [(h0, .inr (9, [.ref tp, .ref tw, .ref nw, .ref kp, .ref lw, .ref lr, .ref dd, .ref vv, .ref tl, .ref sc, .int 0])), (tp, .inr (5, [.ref by_, .int 0]))] (fun r : Int32 => r = -1) := by
  refine MR.of (by decide) (Nat.le_of_ble_eq_true rfl) ?_
  intro p e s m below meth c Q ls X hN hP hK hl ret
  obtain ⟨hx, hb, hml, hown, htb⟩ := id X
  have hl : lv_has ls 3 [(0, .ref h0), (1, .int n)] := hl
  refine lv_aload_n hx hb dX9_leaves_0 rfl (lv_at hl 0 rfl) ?_
  refine va_get (D := D) (ci := 9) (v := .ref tp) (C := RX9) (T := TX9) (N := 11) hx hb htb itX9 hown hK hP 0 rfl rfl 0 (by decide) (htb _ k_393) (fun _ h9 => h9) rfl dX9_leaves_1 ?_
  refine lv_iload_n hx hb dX9_leaves_4 rfl (lv_at hl 1 rfl) ?_
  refine lv_iconst (v := 1) hx hb dX9_leaves_5 (by decide) ?_
  refine lv_bipush (v := 120) hx hb dX9_leaves_6 (by decide) ?_
  refine cVR (As := [.int n, .int 1, .int 120]) (rest := []) (n := 3) (ci := 5) (q0 := 0) X hN hK hP (c_X5_canGive l D cI cB tp by_ n 1 120) (gV k_458 k_459 k_460 k_93 k_461) (by decide +kernel) ⟨Nat.le_of_ble_eq_true rfl, Nat.le_of_ble_eq_true rfl⟩ ⟨rfl, rfl⟩ [1] rfl rfl rfl rfl rfl rfl hl.1 (Nat.le_of_ble_eq_true rfl) dX9_leaves_8 ⟨Nat.le_of_ble_eq_true rfl, Nat.le_of_ble_eq_true rfl⟩ (fun r_1 hr_1 => ?_)
  subst hr_1
  refine lv_if_ne (tgt := 16) hx hb dX9_leaves_11 (by decide) (fun c_11 => absurd ((bI0 (cg0 (by decide))).symm) c_11) (fun _ => ?_)
  refine lv_iconst (v := (-1)) hx hb dX9_leaves_14 (by decide) ?_
  exact ret _ _ (-1) dX9_leaves_15 rfl rfl

set_option maxRecDepth 100000 in
set_option maxHeartbeats 4000000 in
theorem c_X9_stopped (l : Launch) (D : va_G) (cI cB : ClassId) (h0 : Nat) (tp : Nat) (tw : Nat) (nw : Nat) (kp : Nat) (lw : Nat) (lr : Nat) (dd : Nat) (vv : Nat) (tl : Nat) (sc : Nat) (by_ : Nat) (n : Int32)  : MR l D cI cB yX9_stopped cX9_stopped 4 .int (rm 1 23) [.ref h0, .int n] [(h0, .inr (9, [.ref tp, .ref tw, .ref nw, .ref kp, .ref lw, .ref lr, .ref dd, .ref vv, .ref tl, .ref sc, .int 0])), (tp, .inr (5, [.ref by_, .int 0]))] (fun r : Int32 => r = -1) := by
  refine MR.of (by decide) (Nat.le_of_ble_eq_true rfl) ?_
  intro p e s m below meth c Q ls X hN hP hK hl ret
  obtain ⟨hx, hb, hml, hown, htb⟩ := id X
  have hl : lv_has ls 4 [(0, .ref h0), (1, .int n)] := hl
  refine lv_aload_n hx hb dX9_stopped_0 rfl (lv_at hl 0 rfl) ?_
  refine va_get (D := D) (ci := 9) (v := .ref tp) (C := RX9) (T := TX9) (N := 11) hx hb htb itX9 hown hK hP 0 rfl rfl 0 (by decide) (htb _ k_393) (fun _ h9 => h9) rfl dX9_stopped_1 ?_
  refine lv_iload_n hx hb dX9_stopped_4 rfl (lv_at hl 1 rfl) ?_
  refine lv_iconst (v := 1) hx hb dX9_stopped_5 (by decide) ?_
  refine lv_bipush (v := 12) hx hb dX9_stopped_6 (by decide) ?_
  refine cVR (As := [.int n, .int 1, .int 12]) (rest := []) (n := 3) (ci := 5) (q0 := 0) X hN hK hP (c_X5_canGive l D cI cB tp by_ n 1 12) (gV k_458 k_459 k_460 k_93 k_461) (by decide +kernel) ⟨Nat.le_of_ble_eq_true rfl, Nat.le_of_ble_eq_true rfl⟩ ⟨rfl, rfl⟩ [1] rfl rfl rfl rfl rfl rfl hl.1 (Nat.le_of_ble_eq_true rfl) dX9_stopped_8 ⟨Nat.le_of_ble_eq_true rfl, Nat.le_of_ble_eq_true rfl⟩ (fun r_1 hr_1 => ?_)
  subst hr_1
  refine lv_if_ne (tgt := 16) hx hb dX9_stopped_11 (by decide) (fun c_11 => absurd ((bI0 (cg0 (by decide))).symm) c_11) (fun _ => ?_)
  refine lv_iconst (v := (-1)) hx hb dX9_stopped_14 (by decide) ?_
  exact ret _ _ (-1) dX9_stopped_15 rfl rfl

set_option maxRecDepth 100000 in
set_option maxHeartbeats 4000000 in
theorem c_X9_personIs (l : Launch) (D : va_G) (cI cB : ClassId) (h0 : Nat) (tp : Nat) (tw : Nat) (nw : Nat) (kp : Nat) (lw : Nat) (lr : Nat) (dd : Nat) (vv : Nat) (tl : Nat) (sc : Nat) (t1 : Nat) (t2 : Nat) (t3 : Nat) (t4 : Nat) (x1 : Int32) (x2 : Int32)  : MR l D cI cB yX9_personIs cX9_personIs 3 .int (rm 2 42) [.ref h0, .int x1, .int x2] [(h0, .inr (9, [.ref tp, .ref tw, .ref nw, .ref kp, .ref lw, .ref lr, .ref dd, .ref vv, .ref tl, .ref sc, .int 0])), (tw, .inr (7, [.int 0, .int 0, .int 0, .ref t1, .ref t2, .ref t3, .ref t4]))] (fun r : Int32 => r = -1) := by
  refine MR.of (by decide) (Nat.le_of_ble_eq_true rfl) ?_
  intro p e s m below meth c Q ls X hN hP hK hl ret
  obtain ⟨hx, hb, hml, hown, htb⟩ := id X
  have hl : lv_has ls 3 [(0, .ref h0), (1, .int x1), (2, .int x2)] := hl
  refine lv_aload_n hx hb dX9_personIs_0 rfl (lv_at hl 0 rfl) ?_
  refine va_get (D := D) (ci := 9) (v := .ref tw) (C := RX9) (T := TX9) (N := 11) hx hb htb itX9 hown hK hP 0 rfl rfl 1 (by decide) (htb _ k_394) (fun _ h9 => h9) rfl dX9_personIs_1 ?_
  refine lv_iload_n hx hb dX9_personIs_4 rfl (lv_at hl 1 rfl) ?_
  refine cVR (As := [.int x1]) (rest := []) (n := 1) (ci := 7) (q0 := 0) X hN hK hP (c_X7_hasPerson l D cI cB tw 0 t1 t2 t3 t4 x1) (gV k_859 k_860 k_861 k_94 k_862) (by decide +kernel) ⟨Nat.le_of_ble_eq_true rfl, Nat.le_of_ble_eq_true rfl⟩ ⟨rfl, rfl⟩ [1] rfl rfl rfl rfl rfl rfl hl.1 (Nat.le_of_ble_eq_true rfl) dX9_personIs_5 ⟨Nat.le_of_ble_eq_true rfl, Nat.le_of_ble_eq_true rfl⟩ (fun r_1 hr_1 => ?_)
  subst hr_1
  refine lv_if_ne (tgt := 13) hx hb dX9_personIs_8 (by decide) (fun c_8 => absurd (by decide) c_8) (fun _ => ?_)
  refine lv_iconst (v := (-1)) hx hb dX9_personIs_11 (by decide) ?_
  exact ret _ _ (-1) dX9_personIs_12 rfl rfl

set_option maxRecDepth 100000 in
set_option maxHeartbeats 4000000 in
theorem c_X9_choreIs (l : Launch) (D : va_G) (cI cB : ClassId) (h0 : Nat) (tp : Nat) (tw : Nat) (nw : Nat) (kp : Nat) (lw : Nat) (lr : Nat) (dd : Nat) (vv : Nat) (tl : Nat) (sc : Nat) (t1 : Nat) (t2 : Nat) (t3 : Nat) (t4 : Nat) (x1 : Int32) (x2 : Int32)  : MR l D cI cB yX9_choreIs cX9_choreIs 3 .int (rm 2 42) [.ref h0, .int x1, .int x2] [(h0, .inr (9, [.ref tp, .ref tw, .ref nw, .ref kp, .ref lw, .ref lr, .ref dd, .ref vv, .ref tl, .ref sc, .int 0])), (tw, .inr (7, [.int 0, .int 0, .int 0, .ref t1, .ref t2, .ref t3, .ref t4]))] (fun r : Int32 => r = -1) := by
  refine MR.of (by decide) (Nat.le_of_ble_eq_true rfl) ?_
  intro p e s m below meth c Q ls X hN hP hK hl ret
  obtain ⟨hx, hb, hml, hown, htb⟩ := id X
  have hl : lv_has ls 3 [(0, .ref h0), (1, .int x1), (2, .int x2)] := hl
  refine lv_aload_n hx hb dX9_choreIs_0 rfl (lv_at hl 0 rfl) ?_
  refine va_get (D := D) (ci := 9) (v := .ref tw) (C := RX9) (T := TX9) (N := 11) hx hb htb itX9 hown hK hP 0 rfl rfl 1 (by decide) (htb _ k_394) (fun _ h9 => h9) rfl dX9_choreIs_1 ?_
  refine lv_iload_n hx hb dX9_choreIs_4 rfl (lv_at hl 1 rfl) ?_
  refine cVR (As := [.int x1]) (rest := []) (n := 1) (ci := 7) (q0 := 0) X hN hK hP (c_X7_hasChore l D cI cB tw 0 t1 t2 t3 t4 x1) (gV k_854 k_855 k_856 k_94 k_857) (by decide +kernel) ⟨Nat.le_of_ble_eq_true rfl, Nat.le_of_ble_eq_true rfl⟩ ⟨rfl, rfl⟩ [1] rfl rfl rfl rfl rfl rfl hl.1 (Nat.le_of_ble_eq_true rfl) dX9_choreIs_5 ⟨Nat.le_of_ble_eq_true rfl, Nat.le_of_ble_eq_true rfl⟩ (fun r_1 hr_1 => ?_)
  subst hr_1
  refine lv_if_ne (tgt := 13) hx hb dX9_choreIs_8 (by decide) (fun c_8 => absurd (by decide) c_8) (fun _ => ?_)
  refine lv_iconst (v := (-1)) hx hb dX9_choreIs_11 (by decide) ?_
  exact ret _ _ (-1) dX9_choreIs_12 rfl rfl

set_option maxRecDepth 100000 in
set_option maxHeartbeats 4000000 in
theorem c_X9_missed (l : Launch) (D : va_G) (cI cB : ClassId) (h0 : Nat) (tp : Nat) (tw : Nat) (nw : Nat) (kp : Nat) (lw : Nat) (lr : Nat) (dd : Nat) (vv : Nat) (tl : Nat) (sc : Nat) (t1 : Nat) (t2 : Nat) (t3 : Nat) (t4 : Nat) (x1 : Int32) (x2 : Int32)  : MR l D cI cB yX9_missed cX9_missed 3 .int (rm 3 63) [.ref h0, .int x1, .int x2] [(h0, .inr (9, [.ref tp, .ref tw, .ref nw, .ref kp, .ref lw, .ref lr, .ref dd, .ref vv, .ref tl, .ref sc, .int 0])), (tw, .inr (7, [.int 0, .int 0, .int 0, .ref t1, .ref t2, .ref t3, .ref t4]))] (fun r : Int32 => r = -1000000000) := by
  refine MR.of (by decide) (Nat.le_of_ble_eq_true rfl) ?_
  intro p e s m below meth c Q ls X hN hP hK hl ret
  obtain ⟨hx, hb, hml, hown, htb⟩ := id X
  have hl : lv_has ls 3 [(0, .ref h0), (1, .int x1), (2, .int x2)] := hl
  refine lv_iload_n hx hb dX9_missed_0 rfl (lv_at hl 2 rfl) ?_
  refine cSR (As := [.int x2]) (rest := []) (n := 1) X hN hK hP (c_X9_isDayCount l D cI cB x2) k_770 k_771 k_92 k_772 (by decide +kernel) ⟨Nat.le_of_ble_eq_true rfl, Nat.le_of_ble_eq_true rfl⟩ ⟨rfl, rfl⟩ [] rfl rfl rfl hl.1 (Nat.le_of_ble_eq_true rfl) dX9_missed_1 ⟨Nat.le_of_ble_eq_true rfl, Nat.le_of_ble_eq_true rfl⟩ (fun r_1 hr_1 => ?_)
  subst hr_1
  refine lv_if_eq (tgt := 15) hx hb dX9_missed_4 (by decide) (fun c_4 => ?_) (fun c_4 => ?_)
  · refine lv_ldc (v := (-1000000000)) hx hb hown (htb _ k_918) dX9_missed_15 ?_
    exact ret _ _ (-1000000000) dX9_missed_17 rfl rfl
  · refine lv_aload_n hx hb dX9_missed_7 rfl (lv_at hl 0 rfl) ?_
    refine lv_iload_n hx hb dX9_missed_8 rfl (lv_at hl 1 rfl) ?_
    refine cVR (As := [.int x1]) (rest := []) (n := 1) (ci := 9) (q0 := 0) X hN hK hP (c_X9_canLeave l D cI cB h0 tp tw nw kp lw lr dd vv tl sc t1 t2 t3 t4 x1) (gV k_913 k_915 k_22 k_92 k_916) (by decide +kernel) ⟨Nat.le_of_ble_eq_true rfl, Nat.le_of_ble_eq_true rfl⟩ ⟨rfl, rfl⟩ [0, 1] rfl rfl rfl rfl rfl rfl hl.1 (Nat.le_of_ble_eq_true rfl) dX9_missed_9 ⟨Nat.le_of_ble_eq_true rfl, Nat.le_of_ble_eq_true rfl⟩ (fun r_2 hr_2 => ?_)
    subst hr_2
    refine lv_if_ne (tgt := 18) hx hb dX9_missed_12 (by decide) (fun c_12 => absurd (by decide) c_12) (fun _ => ?_)
    refine lv_ldc (v := (-1000000000)) hx hb hown (htb _ k_918) dX9_missed_15 ?_
    exact ret _ _ (-1000000000) dX9_missed_17 rfl rfl

set_option maxRecDepth 100000 in
set_option maxHeartbeats 4000000 in
theorem c_X9_together (l : Launch) (D : va_G) (cI cB : ClassId) (h0 : Nat) (tp : Nat) (tw : Nat) (nw : Nat) (kp : Nat) (lw : Nat) (lr : Nat) (dd : Nat) (vv : Nat) (tl : Nat) (sc : Nat) (t1 : Nat) (t2 : Nat) (t3 : Nat) (t4 : Nat) (x1 : Int32) (x2 : Int32) (x3 : Int32)  : MR l D cI cB yX9_together cX9_together 8 .int (rm 3 63) [.ref h0, .int x1, .int x2, .int x3] [(h0, .inr (9, [.ref tp, .ref tw, .ref nw, .ref kp, .ref lw, .ref lr, .ref dd, .ref vv, .ref tl, .ref sc, .int 0])), (tw, .inr (7, [.int 0, .int 0, .int 0, .ref t1, .ref t2, .ref t3, .ref t4]))] (fun r : Int32 => r = -1000000000) := by
  refine MR.of (by decide) (Nat.le_of_ble_eq_true rfl) ?_
  intro p e s m below meth c Q ls X hN hP hK hl ret
  obtain ⟨hx, hb, hml, hown, htb⟩ := id X
  have hl : lv_has ls 8 [(0, .ref h0), (1, .int x1), (2, .int x2), (3, .int x3)] := hl
  refine lv_iload_n hx hb dX9_together_0 rfl (lv_at hl 3 rfl) ?_
  refine cSR (As := [.int x3]) (rest := []) (n := 1) X hN hK hP (c_X9_isDayCount l D cI cB x3) k_770 k_771 k_92 k_772 (by decide +kernel) ⟨Nat.le_of_ble_eq_true rfl, Nat.le_of_ble_eq_true rfl⟩ ⟨rfl, rfl⟩ [] rfl rfl rfl hl.1 (Nat.le_of_ble_eq_true rfl) dX9_together_1 ⟨Nat.le_of_ble_eq_true rfl, Nat.le_of_ble_eq_true rfl⟩ (fun r_1 hr_1 => ?_)
  subst hr_1
  refine lv_if_eq (tgt := 28) hx hb dX9_together_4 (by decide) (fun c_4 => ?_) (fun c_4 => ?_)
  · refine lv_ldc (v := (-1000000000)) hx hb hown (htb _ k_918) dX9_together_28 ?_
    exact ret _ _ (-1000000000) dX9_together_30 rfl rfl
  · refine lv_aload_n hx hb dX9_together_7 rfl (lv_at hl 0 rfl) ?_
    refine lv_iload_n hx hb dX9_together_8 rfl (lv_at hl 1 rfl) ?_
    refine cVR (As := [.int x1]) (rest := []) (n := 1) (ci := 9) (q0 := 0) X hN hK hP (c_X9_canLeave l D cI cB h0 tp tw nw kp lw lr dd vv tl sc t1 t2 t3 t4 x1) (gV k_913 k_915 k_22 k_92 k_916) (by decide +kernel) ⟨Nat.le_of_ble_eq_true rfl, Nat.le_of_ble_eq_true rfl⟩ ⟨rfl, rfl⟩ [0, 1] rfl rfl rfl rfl rfl rfl hl.1 (Nat.le_of_ble_eq_true rfl) dX9_together_9 ⟨Nat.le_of_ble_eq_true rfl, Nat.le_of_ble_eq_true rfl⟩ (fun r_2 hr_2 => ?_)
    subst hr_2
    refine lv_if_eq (tgt := 28) hx hb dX9_together_12 (by decide) (fun _ => ?_) (fun c_12 => absurd (by decide) c_12)
    refine lv_ldc (v := (-1000000000)) hx hb hown (htb _ k_918) dX9_together_28 ?_
    exact ret _ _ (-1000000000) dX9_together_30 rfl rfl

set_option maxRecDepth 100000 in
set_option maxHeartbeats 4000000 in
theorem c_X9_spoilt (l : Launch) (D : va_G) (cI cB : ClassId) (h0 : Nat) (tp : Nat) (tw : Nat) (nw : Nat) (kp : Nat) (lw : Nat) (lr : Nat) (dd : Nat) (vv : Nat) (tl : Nat) (sc : Nat) (t1 : Nat) (t2 : Nat) (t3 : Nat) (t4 : Nat) (x1 : Int32) (x2 : Int32) (x3 : Int32)  : MR l D cI cB yX9_spoilt cX9_spoilt 10 .int (rm 3 63) [.ref h0, .int x1, .int x2, .int x3] [(h0, .inr (9, [.ref tp, .ref tw, .ref nw, .ref kp, .ref lw, .ref lr, .ref dd, .ref vv, .ref tl, .ref sc, .int 0])), (tw, .inr (7, [.int 0, .int 0, .int 0, .ref t1, .ref t2, .ref t3, .ref t4]))] (fun r : Int32 => r = -1000000000) := by
  refine MR.of (by decide) (Nat.le_of_ble_eq_true rfl) ?_
  intro p e s m below meth c Q ls X hN hP hK hl ret
  obtain ⟨hx, hb, hml, hown, htb⟩ := id X
  have hl : lv_has ls 10 [(0, .ref h0), (1, .int x1), (2, .int x2), (3, .int x3)] := hl
  refine lv_iload_n hx hb dX9_spoilt_0 rfl (lv_at hl 2 rfl) ?_
  refine lv_bipush (v := 10) hx hb dX9_spoilt_1 (by decide) ?_
  refine lv_icmp_eq (tgt := 22) hx hb dX9_spoilt_3 (by decide) (fun c_3 => ?_) (fun c_3 => ?_)
  · refine lv_iconst (v := 1) hx hb dX9_spoilt_22 (by decide) ?_
    refine lv_goto (tgt := 27) hx hb dX9_spoilt_23 (by decide) ?_
    refine lv_istore (lv' := [(4, .int 1), (0, .ref h0), (1, .int x1), (2, .int x2), (3, .int x3)]) hx hb dX9_spoilt_27 hl (by decide) rfl (fun ls hl => ?_)
    refine lv_iload_n hx hb dX9_spoilt_29 rfl (lv_at hl 4 rfl) ?_
    refine cSR (As := [.int x3]) (rest := []) (n := 1) X hN hK hP (c_X9_isDayCount l D cI cB x3) k_770 k_771 k_92 k_772 (by decide +kernel) ⟨Nat.le_of_ble_eq_true rfl, Nat.le_of_ble_eq_true rfl⟩ ⟨rfl, rfl⟩ [] rfl rfl rfl hl.1 (Nat.le_of_ble_eq_true rfl) dX9_spoilt_30 ⟨Nat.le_of_ble_eq_true rfl, Nat.le_of_ble_eq_true rfl⟩ (fun r_1 hr_1 => ?_)
    subst hr_1
    refine lv_if_eq (tgt := 49) hx hb dX9_spoilt_33 (by decide) (fun c_33 => ?_) (fun c_33 => ?_)
    · refine lv_ldc (v := (-1000000000)) hx hb hown (htb _ k_918) dX9_spoilt_49 ?_
      exact ret _ _ (-1000000000) dX9_spoilt_51 rfl rfl
    · refine lv_aload_n hx hb dX9_spoilt_36 rfl (lv_at hl 1 rfl) ?_
      refine lv_iload_n hx hb dX9_spoilt_37 rfl (lv_at hl 2 rfl) ?_
      refine cVR (As := [.int x1]) (rest := []) (n := 1) (ci := 9) (q0 := 0) X hN hK hP (c_X9_canLeave l D cI cB h0 tp tw nw kp lw lr dd vv tl sc t1 t2 t3 t4 x1) (gV k_913 k_915 k_22 k_92 k_916) (by decide +kernel) ⟨Nat.le_of_ble_eq_true rfl, Nat.le_of_ble_eq_true rfl⟩ ⟨rfl, rfl⟩ [0, 1] rfl rfl rfl rfl rfl rfl hl.1 (Nat.le_of_ble_eq_true rfl) dX9_spoilt_38 ⟨Nat.le_of_ble_eq_true rfl, Nat.le_of_ble_eq_true rfl⟩ (fun r_2 hr_2 => ?_)
      subst hr_2
      refine lv_if_eq (tgt := 49) hx hb dX9_spoilt_41 (by decide) (fun _ => ?_) (fun c_41 => absurd (by decide) c_41)
      refine lv_ldc (v := (-1000000000)) hx hb hown (htb _ k_918) dX9_spoilt_49 ?_
      exact ret _ _ (-1000000000) dX9_spoilt_51 rfl rfl
  · refine lv_aload_n hx hb dX9_spoilt_6 rfl (lv_at hl 0 rfl) ?_
    refine va_get (D := D) (ci := 9) (v := .ref tw) (C := RX9) (T := TX9) (N := 11) hx hb htb itX9 hown hK hP 0 rfl rfl 1 (by decide) (htb _ k_394) (fun _ h9 => h9) rfl dX9_spoilt_7 ?_
    refine lv_iload_n hx hb dX9_spoilt_10 rfl (lv_at hl 2 rfl) ?_
    refine cVR (As := [.int x2]) (rest := []) (n := 1) (ci := 7) (q0 := 0) X hN hK hP (c_X7_hasPerson l D cI cB tw 0 t1 t2 t3 t4 x2) (gV k_859 k_860 k_861 k_94 k_862) (by decide +kernel) ⟨Nat.le_of_ble_eq_true rfl, Nat.le_of_ble_eq_true rfl⟩ ⟨rfl, rfl⟩ [1] rfl rfl rfl rfl rfl rfl hl.1 (Nat.le_of_ble_eq_true rfl) dX9_spoilt_11 ⟨Nat.le_of_ble_eq_true rfl, Nat.le_of_ble_eq_true rfl⟩ (fun r_3 hr_3 => ?_)
    subst hr_3
    refine lv_if_eq (tgt := 26) hx hb dX9_spoilt_14 (by decide) (fun _ => ?_) (fun c_14 => absurd (by decide) c_14)
    refine lv_iconst (v := 0) hx hb dX9_spoilt_26 (by decide) ?_
    refine lv_istore (lv' := [(4, .int 0), (0, .ref h0), (1, .int x1), (2, .int x2), (3, .int x3)]) hx hb dX9_spoilt_27 hl (by decide) rfl (fun ls hl => ?_)
    refine lv_iload_n hx hb dX9_spoilt_29 rfl (lv_at hl 4 rfl) ?_
    refine cSR (As := [.int x3]) (rest := []) (n := 1) X hN hK hP (c_X9_isDayCount l D cI cB x3) k_770 k_771 k_92 k_772 (by decide +kernel) ⟨Nat.le_of_ble_eq_true rfl, Nat.le_of_ble_eq_true rfl⟩ ⟨rfl, rfl⟩ [] rfl rfl rfl hl.1 (Nat.le_of_ble_eq_true rfl) dX9_spoilt_30 ⟨Nat.le_of_ble_eq_true rfl, Nat.le_of_ble_eq_true rfl⟩ (fun r_4 hr_4 => ?_)
    subst hr_4
    refine lv_if_eq (tgt := 49) hx hb dX9_spoilt_33 (by decide) (fun c_33 => ?_) (fun c_33 => ?_)
    · refine lv_ldc (v := (-1000000000)) hx hb hown (htb _ k_918) dX9_spoilt_49 ?_
      exact ret _ _ (-1000000000) dX9_spoilt_51 rfl rfl
    · refine lv_aload_n hx hb dX9_spoilt_36 rfl (lv_at hl 1 rfl) ?_
      refine lv_iload_n hx hb dX9_spoilt_37 rfl (lv_at hl 2 rfl) ?_
      refine cVR (As := [.int x1]) (rest := []) (n := 1) (ci := 9) (q0 := 0) X hN hK hP (c_X9_canLeave l D cI cB h0 tp tw nw kp lw lr dd vv tl sc t1 t2 t3 t4 x1) (gV k_913 k_915 k_22 k_92 k_916) (by decide +kernel) ⟨Nat.le_of_ble_eq_true rfl, Nat.le_of_ble_eq_true rfl⟩ ⟨rfl, rfl⟩ [0, 1] rfl rfl rfl rfl rfl rfl hl.1 (Nat.le_of_ble_eq_true rfl) dX9_spoilt_38 ⟨Nat.le_of_ble_eq_true rfl, Nat.le_of_ble_eq_true rfl⟩ (fun r_5 hr_5 => ?_)
      subst hr_5
      refine lv_if_eq (tgt := 49) hx hb dX9_spoilt_41 (by decide) (fun _ => ?_) (fun c_41 => absurd (by decide) c_41)
      refine lv_ldc (v := (-1000000000)) hx hb hown (htb _ k_918) dX9_spoilt_49 ?_
      exact ret _ _ (-1000000000) dX9_spoilt_51 rfl rfl

set_option maxRecDepth 100000 in
set_option maxHeartbeats 4000000 in
theorem c_X9_when (l : Launch) (D : va_G) (cI cB : ClassId) (h0 : Nat) (tp : Nat) (tw : Nat) (nw : Nat) (kp : Nat) (lw : Nat) (lr : Nat) (dd : Nat) (vv : Nat) (tl : Nat) (sc : Nat) (t1 : Nat) (t2 : Nat) (t3 : Nat) (t4 : Nat) (x1 : Int32) (x2 : Int32) (x3 : Int32) (x4 : Int32)  : MR l D cI cB yX9_when cX9_when 9 .int (rm 2 42) [.ref h0, .int x1, .int x2, .int x3, .int x4] [(h0, .inr (9, [.ref tp, .ref tw, .ref nw, .ref kp, .ref lw, .ref lr, .ref dd, .ref vv, .ref tl, .ref sc, .int 0])), (tw, .inr (7, [.int 0, .int 0, .int 0, .ref t1, .ref t2, .ref t3, .ref t4]))] (fun r : Int32 => r = -1000000000) := by
  refine MR.of (by decide) (Nat.le_of_ble_eq_true rfl) ?_
  intro p e s m below meth c Q ls X hN hP hK hl ret
  obtain ⟨hx, hb, hml, hown, htb⟩ := id X
  have hl : lv_has ls 9 [(0, .ref h0), (1, .int x1), (2, .int x2), (3, .int x3), (4, .int x4)] := hl
  refine lv_aload_n hx hb dX9_when_0 rfl (lv_at hl 0 rfl) ?_
  refine va_get (D := D) (ci := 9) (v := .ref tw) (C := RX9) (T := TX9) (N := 11) hx hb htb itX9 hown hK hP 0 rfl rfl 1 (by decide) (htb _ k_394) (fun _ h9 => h9) rfl dX9_when_1 ?_
  refine lv_iload_n hx hb dX9_when_4 rfl (lv_at hl 1 rfl) ?_
  refine cVR (As := [.int x1]) (rest := []) (n := 1) (ci := 7) (q0 := 0) X hN hK hP (c_X7_hasPerson l D cI cB tw 0 t1 t2 t3 t4 x1) (gV k_859 k_860 k_861 k_94 k_862) (by decide +kernel) ⟨Nat.le_of_ble_eq_true rfl, Nat.le_of_ble_eq_true rfl⟩ ⟨rfl, rfl⟩ [1] rfl rfl rfl rfl rfl rfl hl.1 (Nat.le_of_ble_eq_true rfl) dX9_when_5 ⟨Nat.le_of_ble_eq_true rfl, Nat.le_of_ble_eq_true rfl⟩ (fun r_1 hr_1 => ?_)
  subst hr_1
  refine lv_if_eq (tgt := 41) hx hb dX9_when_8 (by decide) (fun _ => ?_) (fun c_8 => absurd (by decide) c_8)
  refine lv_ldc (v := (-1000000000)) hx hb hown (htb _ k_918) dX9_when_41 ?_
  exact ret _ _ (-1000000000) dX9_when_43 rfl rfl

set_option maxRecDepth 100000 in
set_option maxHeartbeats 4000000 in
theorem c_X9_against (l : Launch) (D : va_G) (cI cB : ClassId) (h0 : Nat) (tp : Nat) (tw : Nat) (nw : Nat) (kp : Nat) (lw : Nat) (lr : Nat) (dd : Nat) (vv : Nat) (tl : Nat) (sc : Nat) (t1 : Nat) (t2 : Nat) (t3 : Nat) (t4 : Nat) (x1 : Int32) (x2 : Int32) (x3 : Int32) (x4 : Int32) (x5 : Int32)  : MR l D cI cB yX9_against cX9_against 9 .int (rm 2 42) [.ref h0, .int x1, .int x2, .int x3, .int x4, .int x5] [(h0, .inr (9, [.ref tp, .ref tw, .ref nw, .ref kp, .ref lw, .ref lr, .ref dd, .ref vv, .ref tl, .ref sc, .int 0])), (tw, .inr (7, [.int 0, .int 0, .int 0, .ref t1, .ref t2, .ref t3, .ref t4]))] (fun r : Int32 => r = -1000000000) := by
  refine MR.of (by decide) (Nat.le_of_ble_eq_true rfl) ?_
  intro p e s m below meth c Q ls X hN hP hK hl ret
  obtain ⟨hx, hb, hml, hown, htb⟩ := id X
  have hl : lv_has ls 9 [(0, .ref h0), (1, .int x1), (2, .int x2), (3, .int x3), (4, .int x4), (5, .int x5)] := hl
  refine lv_aload_n hx hb dX9_against_0 rfl (lv_at hl 0 rfl) ?_
  refine va_get (D := D) (ci := 9) (v := .ref tw) (C := RX9) (T := TX9) (N := 11) hx hb htb itX9 hown hK hP 0 rfl rfl 1 (by decide) (htb _ k_394) (fun _ h9 => h9) rfl dX9_against_1 ?_
  refine lv_iload_n hx hb dX9_against_4 rfl (lv_at hl 1 rfl) ?_
  refine cVR (As := [.int x1]) (rest := []) (n := 1) (ci := 7) (q0 := 0) X hN hK hP (c_X7_hasPerson l D cI cB tw 0 t1 t2 t3 t4 x1) (gV k_859 k_860 k_861 k_94 k_862) (by decide +kernel) ⟨Nat.le_of_ble_eq_true rfl, Nat.le_of_ble_eq_true rfl⟩ ⟨rfl, rfl⟩ [1] rfl rfl rfl rfl rfl rfl hl.1 (Nat.le_of_ble_eq_true rfl) dX9_against_5 ⟨Nat.le_of_ble_eq_true rfl, Nat.le_of_ble_eq_true rfl⟩ (fun r_1 hr_1 => ?_)
  subst hr_1
  refine lv_if_eq (tgt := 31) hx hb dX9_against_8 (by decide) (fun _ => ?_) (fun c_8 => absurd (by decide) c_8)
  refine lv_iconst (v := 0) hx hb dX9_against_31 (by decide) ?_
  refine lv_istore (lv' := [(6, .int 0), (0, .ref h0), (1, .int x1), (2, .int x2), (3, .int x3), (4, .int x4), (5, .int x5)]) hx hb dX9_against_32 hl (by decide) rfl (fun ls hl => ?_)
  refine lv_iload hx hb dX9_against_34 (lv_at hl 0 rfl) ?_
  refine lv_if_eq (tgt := 69) hx hb dX9_against_36 (by decide) (fun _ => ?_) (fun c_36 => absurd (by decide) c_36)
  refine lv_ldc (v := (-1000000000)) hx hb hown (htb _ k_918) dX9_against_69 ?_
  exact ret _ _ (-1000000000) dX9_against_71 rfl rfl

set_option maxRecDepth 100000 in
set_option maxHeartbeats 4000000 in
theorem c_X9_standIn (l : Launch) (D : va_G) (cI cB : ClassId) (h0 : Nat) (tp : Nat) (tw : Nat) (nw : Nat) (kp : Nat) (lw : Nat) (lr : Nat) (dd : Nat) (vv : Nat) (tl : Nat) (sc : Nat) (t1 : Nat) (t2 : Nat) (t3 : Nat) (t4 : Nat) (x1 : Int32) (x2 : Int32) (x3 : Int32) (x4 : Int32)  : MR l D cI cB yX9_standIn cX9_standIn 11 .int (rm 3 63) [.ref h0, .int x1, .int x2, .int x3, .int x4] [(h0, .inr (9, [.ref tp, .ref tw, .ref nw, .ref kp, .ref lw, .ref lr, .ref dd, .ref vv, .ref tl, .ref sc, .int 0])), (tw, .inr (7, [.int 0, .int 0, .int 0, .ref t1, .ref t2, .ref t3, .ref t4]))] (fun r : Int32 => r = -1000000000) := by
  refine MR.of (by decide) (Nat.le_of_ble_eq_true rfl) ?_
  intro p e s m below meth c Q ls X hN hP hK hl ret
  obtain ⟨hx, hb, hml, hown, htb⟩ := id X
  have hl : lv_has ls 11 [(0, .ref h0), (1, .int x1), (2, .int x2), (3, .int x3), (4, .int x4)] := hl
  refine lv_aload_n hx hb dX9_standIn_0 rfl (lv_at hl 0 rfl) ?_
  refine lv_iload_n hx hb dX9_standIn_1 rfl (lv_at hl 1 rfl) ?_
  refine cVR (As := [.int x1]) (rest := []) (n := 1) (ci := 9) (q0 := 0) X hN hK hP (c_X9_canLeave l D cI cB h0 tp tw nw kp lw lr dd vv tl sc t1 t2 t3 t4 x1) (gV k_913 k_915 k_22 k_92 k_916) (by decide +kernel) ⟨Nat.le_of_ble_eq_true rfl, Nat.le_of_ble_eq_true rfl⟩ ⟨rfl, rfl⟩ [0, 1] rfl rfl rfl rfl rfl rfl hl.1 (Nat.le_of_ble_eq_true rfl) dX9_standIn_2 ⟨Nat.le_of_ble_eq_true rfl, Nat.le_of_ble_eq_true rfl⟩ (fun r_1 hr_1 => ?_)
  subst hr_1
  refine lv_if_eq (tgt := 28) hx hb dX9_standIn_5 (by decide) (fun _ => ?_) (fun c_5 => absurd (by decide) c_5)
  refine lv_iconst (v := 0) hx hb dX9_standIn_28 (by decide) ?_
  refine lv_istore (lv' := [(5, .int 0), (0, .ref h0), (1, .int x1), (2, .int x2), (3, .int x3), (4, .int x4)]) hx hb dX9_standIn_29 hl (by decide) rfl (fun ls hl => ?_)
  refine lv_aload_n hx hb dX9_standIn_31 rfl (lv_at hl 1 rfl) ?_
  refine va_get (D := D) (ci := 9) (v := .ref tw) (C := RX9) (T := TX9) (N := 11) hx hb htb itX9 hown hK hP 0 rfl rfl 1 (by decide) (htb _ k_394) (fun _ h9 => h9) rfl dX9_standIn_32 ?_
  refine lv_iload_n hx hb dX9_standIn_35 rfl (lv_at hl 4 rfl) ?_
  refine cVR (As := [.int x3]) (rest := []) (n := 1) (ci := 7) (q0 := 0) X hN hK hP (c_X7_hasChore l D cI cB tw 0 t1 t2 t3 t4 x3) (gV k_854 k_855 k_856 k_94 k_857) (by decide +kernel) ⟨Nat.le_of_ble_eq_true rfl, Nat.le_of_ble_eq_true rfl⟩ ⟨rfl, rfl⟩ [1] rfl rfl rfl rfl rfl rfl hl.1 (Nat.le_of_ble_eq_true rfl) dX9_standIn_36 ⟨Nat.le_of_ble_eq_true rfl, Nat.le_of_ble_eq_true rfl⟩ (fun r_2 hr_2 => ?_)
  subst hr_2
  refine lv_if_ne (tgt := 58) hx hb dX9_standIn_39 (by decide) (fun c_39 => absurd (by decide) c_39) (fun _ => ?_)
  refine lv_iload_n hx hb dX9_standIn_42 rfl (lv_at hl 4 rfl) ?_
  refine lv_bipush (v := 12) hx hb dX9_standIn_43 (by decide) ?_
  refine lv_icmp_ne (tgt := 62) hx hb dX9_standIn_45 (by decide) (fun c_45 => ?_) (fun c_45 => ?_)
  · refine lv_iconst (v := 0) hx hb dX9_standIn_62 (by decide) ?_
    refine lv_istore (lv' := [(6, .int 0), (5, .int 0), (0, .ref h0), (1, .int x1), (2, .int x2), (3, .int x3), (4, .int x4)]) hx hb dX9_standIn_63 hl (by decide) rfl (fun ls hl => ?_)
    refine lv_iload hx hb dX9_standIn_65 (lv_at hl 6 rfl) ?_
    refine cSR (As := [.int x4]) (rest := []) (n := 1) X hN hK hP (c_X9_isDayCount l D cI cB x4) k_770 k_771 k_92 k_772 (by decide +kernel) ⟨Nat.le_of_ble_eq_true rfl, Nat.le_of_ble_eq_true rfl⟩ ⟨rfl, rfl⟩ [] rfl rfl rfl hl.1 (Nat.le_of_ble_eq_true rfl) dX9_standIn_67 ⟨Nat.le_of_ble_eq_true rfl, Nat.le_of_ble_eq_true rfl⟩ (fun r_3 hr_3 => ?_)
    subst hr_3
    refine lv_if_eq (tgt := 83) hx hb dX9_standIn_70 (by decide) (fun c_70 => ?_) (fun c_70 => ?_)
    · refine lv_ldc (v := (-1000000000)) hx hb hown (htb _ k_918) dX9_standIn_83 ?_
      exact ret _ _ (-1000000000) dX9_standIn_85 rfl rfl
    · refine lv_iload hx hb dX9_standIn_73 (lv_at hl 1 rfl) ?_
      refine lv_if_eq (tgt := 83) hx hb dX9_standIn_75 (by decide) (fun _ => ?_) (fun c_75 => absurd (by decide) c_75)
      refine lv_ldc (v := (-1000000000)) hx hb hown (htb _ k_918) dX9_standIn_83 ?_
      exact ret _ _ (-1000000000) dX9_standIn_85 rfl rfl
  · refine lv_aload_n hx hb dX9_standIn_48 rfl (lv_at hl 1 rfl) ?_
    refine va_get (D := D) (ci := 9) (v := .ref tw) (C := RX9) (T := TX9) (N := 11) hx hb htb itX9 hown hK hP 0 rfl rfl 1 (by decide) (htb _ k_394) (fun _ h9 => h9) rfl dX9_standIn_49 ?_
    refine va_getN (D := D) (ci := 7) (v := .int 0) (C := RX7) (T := TX7) (N := 7) hx hb htb itX7 hown hK hP 1 rfl rfl 1 (by decide) (va_Nw.use rfl (hN _ n_147 rfl)) (fun _ h9 => h9) rfl dX9_standIn_52 ?_
    refine lv_if_eq (tgt := 62) hx hb dX9_standIn_55 (by decide) (fun _ => ?_) (fun c_55 => absurd (by decide) c_55)
    refine lv_iconst (v := 0) hx hb dX9_standIn_62 (by decide) ?_
    refine lv_istore (lv' := [(6, .int 0), (5, .int 0), (0, .ref h0), (1, .int x1), (2, .int x2), (3, .int x3), (4, .int x4)]) hx hb dX9_standIn_63 hl (by decide) rfl (fun ls hl => ?_)
    refine lv_iload hx hb dX9_standIn_65 (lv_at hl 6 rfl) ?_
    refine cSR (As := [.int x4]) (rest := []) (n := 1) X hN hK hP (c_X9_isDayCount l D cI cB x4) k_770 k_771 k_92 k_772 (by decide +kernel) ⟨Nat.le_of_ble_eq_true rfl, Nat.le_of_ble_eq_true rfl⟩ ⟨rfl, rfl⟩ [] rfl rfl rfl hl.1 (Nat.le_of_ble_eq_true rfl) dX9_standIn_67 ⟨Nat.le_of_ble_eq_true rfl, Nat.le_of_ble_eq_true rfl⟩ (fun r_4 hr_4 => ?_)
    subst hr_4
    refine lv_if_eq (tgt := 83) hx hb dX9_standIn_70 (by decide) (fun c_70 => ?_) (fun c_70 => ?_)
    · refine lv_ldc (v := (-1000000000)) hx hb hown (htb _ k_918) dX9_standIn_83 ?_
      exact ret _ _ (-1000000000) dX9_standIn_85 rfl rfl
    · refine lv_iload hx hb dX9_standIn_73 (lv_at hl 1 rfl) ?_
      refine lv_if_eq (tgt := 83) hx hb dX9_standIn_75 (by decide) (fun _ => ?_) (fun c_75 => absurd (by decide) c_75)
      refine lv_ldc (v := (-1000000000)) hx hb hown (htb _ k_918) dX9_standIn_83 ?_
      exact ret _ _ (-1000000000) dX9_standIn_85 rfl rfl

set_option maxRecDepth 100000 in
set_option maxHeartbeats 4000000 in
theorem c_X9_halfDone (l : Launch) (D : va_G) (cI cB : ClassId) (h0 : Nat) (tp : Nat) (tw : Nat) (nw : Nat) (kp : Nat) (lw : Nat) (lr : Nat) (dd : Nat) (vv : Nat) (tl : Nat) (sc : Nat) (t1 : Nat) (t2 : Nat) (t3 : Nat) (t4 : Nat) (x1 : Int32) (x2 : Int32)  : MR l D cI cB yX9_halfDone cX9_halfDone 3 .int (rm 3 63) [.ref h0, .int x1, .int x2] [(h0, .inr (9, [.ref tp, .ref tw, .ref nw, .ref kp, .ref lw, .ref lr, .ref dd, .ref vv, .ref tl, .ref sc, .int 0])), (tw, .inr (7, [.int 0, .int 0, .int 0, .ref t1, .ref t2, .ref t3, .ref t4]))] (fun r : Int32 => r = -1000000000) := by
  refine MR.of (by decide) (Nat.le_of_ble_eq_true rfl) ?_
  intro p e s m below meth c Q ls X hN hP hK hl ret
  obtain ⟨hx, hb, hml, hown, htb⟩ := id X
  have hl : lv_has ls 3 [(0, .ref h0), (1, .int x1), (2, .int x2)] := hl
  refine lv_aload_n hx hb dX9_halfDone_0 rfl (lv_at hl 0 rfl) ?_
  refine lv_iload_n hx hb dX9_halfDone_1 rfl (lv_at hl 1 rfl) ?_
  refine cVR (As := [.int x1]) (rest := []) (n := 1) (ci := 9) (q0 := 0) X hN hK hP (c_X9_canLeave l D cI cB h0 tp tw nw kp lw lr dd vv tl sc t1 t2 t3 t4 x1) (gV k_913 k_915 k_22 k_92 k_916) (by decide +kernel) ⟨Nat.le_of_ble_eq_true rfl, Nat.le_of_ble_eq_true rfl⟩ ⟨rfl, rfl⟩ [0, 1] rfl rfl rfl rfl rfl rfl hl.1 (Nat.le_of_ble_eq_true rfl) dX9_halfDone_2 ⟨Nat.le_of_ble_eq_true rfl, Nat.le_of_ble_eq_true rfl⟩ (fun r_1 hr_1 => ?_)
  subst hr_1
  refine lv_if_eq (tgt := 18) hx hb dX9_halfDone_5 (by decide) (fun _ => ?_) (fun c_5 => absurd (by decide) c_5)
  refine lv_ldc (v := (-1000000000)) hx hb hown (htb _ k_918) dX9_halfDone_18 ?_
  exact ret _ _ (-1000000000) dX9_halfDone_20 rfl rfl

set_option maxRecDepth 100000 in
set_option maxHeartbeats 4000000 in
theorem c_X9_firstDoer (l : Launch) (D : va_G) (cI cB : ClassId) (h0 : Nat) (tp : Nat) (tw : Nat) (nw : Nat) (kp : Nat) (lw : Nat) (lr : Nat) (dd : Nat) (vv : Nat) (tl : Nat) (sc : Nat) (t1 : Nat) (t2 : Nat) (t3 : Nat) (t4 : Nat) (x1 : Int32) (x2 : Int32) (x3 : Int32)  : MR l D cI cB yX9_firstDoer cX9_firstDoer 9 .int (rm 2 42) [.ref h0, .int x1, .int x2, .int x3] [(h0, .inr (9, [.ref tp, .ref tw, .ref nw, .ref kp, .ref lw, .ref lr, .ref dd, .ref vv, .ref tl, .ref sc, .int 0])), (tw, .inr (7, [.int 0, .int 0, .int 0, .ref t1, .ref t2, .ref t3, .ref t4]))] (fun r : Int32 => r = -1) := by
  refine MR.of (by decide) (Nat.le_of_ble_eq_true rfl) ?_
  intro p e s m below meth c Q ls X hN hP hK hl ret
  obtain ⟨hx, hb, hml, hown, htb⟩ := id X
  have hl : lv_has ls 9 [(0, .ref h0), (1, .int x1), (2, .int x2), (3, .int x3)] := hl
  refine lv_aload_n hx hb dX9_firstDoer_0 rfl (lv_at hl 0 rfl) ?_
  refine va_get (D := D) (ci := 9) (v := .ref tw) (C := RX9) (T := TX9) (N := 11) hx hb htb itX9 hown hK hP 0 rfl rfl 1 (by decide) (htb _ k_394) (fun _ h9 => h9) rfl dX9_firstDoer_1 ?_
  refine lv_iload_n hx hb dX9_firstDoer_4 rfl (lv_at hl 1 rfl) ?_
  refine cVR (As := [.int x1]) (rest := []) (n := 1) (ci := 7) (q0 := 0) X hN hK hP (c_X7_hasChore l D cI cB tw 0 t1 t2 t3 t4 x1) (gV k_854 k_855 k_856 k_94 k_857) (by decide +kernel) ⟨Nat.le_of_ble_eq_true rfl, Nat.le_of_ble_eq_true rfl⟩ ⟨rfl, rfl⟩ [1] rfl rfl rfl rfl rfl rfl hl.1 (Nat.le_of_ble_eq_true rfl) dX9_firstDoer_5 ⟨Nat.le_of_ble_eq_true rfl, Nat.le_of_ble_eq_true rfl⟩ (fun r_1 hr_1 => ?_)
  subst hr_1
  refine lv_if_eq (tgt := 27) hx hb dX9_firstDoer_8 (by decide) (fun _ => ?_) (fun c_8 => absurd (by decide) c_8)
  refine lv_iconst (v := (-1)) hx hb dX9_firstDoer_27 (by decide) ?_
  exact ret _ _ (-1) dX9_firstDoer_28 rfl rfl

set_option maxRecDepth 100000 in
set_option maxHeartbeats 4000000 in
theorem c_X9_share (l : Launch) (D : va_G) (cI cB : ClassId) (h0 : Nat) (tp : Nat) (tw : Nat) (nw : Nat) (kp : Nat) (lw : Nat) (lr : Nat) (dd : Nat) (vv : Nat) (tl : Nat) (sc : Nat) (t1 : Nat) (t2 : Nat) (t3 : Nat) (t4 : Nat) (u2 : Nat) (f2 : Nat) (g2 : Nat) (ff2 : Nat → Int32) (x1 : Int32) (x2 : Int32) (x3 : Int32) (x4 : Int32) (hf : ∀ j, j < 10 → ff2 j = -2) : MR l D cI cB yX9_share cX9_share 10 .int (rm 2 43) [.ref h0, .int x1, .int x2, .int x3, .int x4] [(h0, .inr (9, [.ref tp, .ref tw, .ref nw, .ref kp, .ref lw, .ref lr, .ref dd, .ref vv, .ref tl, .ref sc, .int 0])), (tw, .inr (7, [.int 0, .int 0, .int 0, .ref t1, .ref t2, .ref t3, .ref t4])), (nw, .inr (4, [.ref u2, .ref f2, .ref g2, .int 0, .int 0, .int 1])), (f2, .inl (cI, 10, .inl ff2))] (fun r : Int32 => r = -1000000000) := by
  refine MR.of (by decide) (Nat.le_of_ble_eq_true rfl) ?_
  intro p e s m below meth c Q ls X hN hP hK hl ret
  obtain ⟨hx, hb, hml, hown, htb⟩ := id X
  have hl : lv_has ls 10 [(0, .ref h0), (1, .int x1), (2, .int x2), (3, .int x3), (4, .int x4)] := hl
  refine lv_iload_n hx hb dX9_share_0 rfl (lv_at hl 1 rfl) ?_
  refine cSR (As := [.int x1]) (rest := []) (n := 1) X hN hK hP (c_J6_bitCount_0f7a4 l D cI cB x1) k_754 k_755 k_111 k_756 (by decide +kernel) ⟨Nat.le_of_ble_eq_true rfl, Nat.le_of_ble_eq_true rfl⟩ ⟨rfl, rfl⟩ [] rfl rfl rfl hl.1 (Nat.le_of_ble_eq_true rfl) dX9_share_1 ⟨Nat.le_of_ble_eq_true rfl, Nat.le_of_ble_eq_true rfl⟩ (fun sz hsz => ?_)
  refine lv_istore (lv' := [(5, .int sz), (0, .ref h0), (1, .int x1), (2, .int x2), (3, .int x3), (4, .int x4)]) hx hb dX9_share_4 hl (by decide) rfl (fun ls hl => ?_)
  refine lv_aload_n hx hb dX9_share_6 rfl (lv_at hl 1 rfl) ?_
  refine lv_iload_n hx hb dX9_share_7 rfl (lv_at hl 2 rfl) ?_
  refine cVR (As := [.int x1]) (rest := []) (n := 1) (ci := 9) (q0 := 0) X hN hK hP (c_X9_areTold l D cI cB h0 tp tw nw kp lw lr dd vv tl sc t1 t2 t3 t4 x1) (gV k_893 k_895 k_20 k_92 k_896) (by decide +kernel) ⟨Nat.le_of_ble_eq_true rfl, Nat.le_of_ble_eq_true rfl⟩ ⟨rfl, rfl⟩ [0, 1] rfl rfl rfl rfl rfl rfl hl.1 (Nat.le_of_ble_eq_true rfl) dX9_share_8 ⟨Nat.le_of_ble_eq_true rfl, Nat.le_of_ble_eq_true rfl⟩ (fun r_1 hr_1 => ?_)
  subst hr_1
  refine lv_if_eq (tgt := 42) hx hb dX9_share_11 (by decide) (fun c_11 => ?_) (fun c_11 => ?_)
  · refine lv_iconst (v := 0) hx hb dX9_share_42 (by decide) ?_
    refine lv_istore (lv' := [(6, .int 0), (5, .int sz), (0, .ref h0), (1, .int x1), (2, .int x2), (3, .int x3), (4, .int x4)]) hx hb dX9_share_43 hl (by decide) rfl (fun ls hl => ?_)
    refine lv_iload_n hx hb dX9_share_45 rfl (lv_at hl 5 rfl) ?_
    refine cSR (As := [.int x3]) (rest := []) (n := 1) X hN hK hP (c_X9_isDayCount l D cI cB x3) k_770 k_771 k_92 k_772 (by decide +kernel) ⟨Nat.le_of_ble_eq_true rfl, Nat.le_of_ble_eq_true rfl⟩ ⟨rfl, rfl⟩ [] rfl rfl rfl hl.1 (Nat.le_of_ble_eq_true rfl) dX9_share_46 ⟨Nat.le_of_ble_eq_true rfl, Nat.le_of_ble_eq_true rfl⟩ (fun r_2 hr_2 => ?_)
    subst hr_2
    refine lv_if_eq (tgt := 67) hx hb dX9_share_49 (by decide) (fun c_49 => ?_) (fun c_49 => ?_)
    · refine lv_ldc (v := (-1000000000)) hx hb hown (htb _ k_918) dX9_share_67 ?_
      exact ret _ _ (-1000000000) dX9_share_69 rfl rfl
    · refine lv_iload hx hb dX9_share_52 (lv_at hl 0 rfl) ?_
      refine lv_if_eq (tgt := 67) hx hb dX9_share_54 (by decide) (fun _ => ?_) (fun c_54 => absurd (by decide) c_54)
      refine lv_ldc (v := (-1000000000)) hx hb hown (htb _ k_918) dX9_share_67 ?_
      exact ret _ _ (-1000000000) dX9_share_69 rfl rfl
  · refine lv_iload_n hx hb dX9_share_14 rfl (lv_at hl 2 rfl) ?_
    refine lv_aload_n hx hb dX9_share_15 rfl (lv_at hl 1 rfl) ?_
    refine va_get (D := D) (ci := 9) (v := .ref nw) (C := RX9) (T := TX9) (N := 11) hx hb htb itX9 hown hK hP 0 rfl rfl 2 (by decide) (htb _ k_395) (fun _ h9 => h9) rfl dX9_share_16 ?_
    refine cVR (As := []) (rest := [.int x1]) (n := 0) (ci := 4) (q0 := 0) X hN hK hP (c_X4_leaveBits l D cI cB nw u2 f2 g2 0 0 1 ff2 hf) (gV k_746 k_747 k_748 k_95 k_749) (by decide +kernel) ⟨Nat.le_of_ble_eq_true rfl, Nat.le_of_ble_eq_true rfl⟩ ⟨rfl, rfl⟩ [2, 3] rfl rfl rfl rfl rfl rfl hl.1 (Nat.le_of_ble_eq_true rfl) dX9_share_19 ⟨Nat.le_of_ble_eq_true rfl, Nat.le_of_ble_eq_true rfl⟩ (fun r_3 hr_3 => ?_)
    subst hr_3
    refine lv_iconst (v := (-1)) hx hb dX9_share_22 (by decide) ?_
    refine lv_ixor hx hb dX9_share_23 ?_
    refine tv (z := (-1)) (by decide) ?_
    refine lv_iand hx hb dX9_share_24 ?_
    refine tv (z := x1) (aM1 x1) ?_
    refine lv_if_ne (tgt := 42) hx hb dX9_share_25 (by decide) (fun c_25 => absurd (bIt c_11) c_25) (fun _ => ?_)
    refine lv_iload hx hb dX9_share_28 (lv_at hl 0 rfl) ?_
    refine lv_iconst (v := 1) hx hb dX9_share_30 (by decide) ?_
    refine lv_iconst (v := 5) hx hb dX9_share_31 (by decide) ?_
    refine cSR (As := [.int sz, .int 1, .int 5]) (rest := []) (n := 3) X hN hK hP (c_X9_within l D cI cB sz 1 5) k_431 k_432 k_92 k_433 (by decide +kernel) ⟨Nat.le_of_ble_eq_true rfl, Nat.le_of_ble_eq_true rfl⟩ ⟨rfl, rfl⟩ [] rfl rfl rfl hl.1 (Nat.le_of_ble_eq_true rfl) dX9_share_32 ⟨Nat.le_of_ble_eq_true rfl, Nat.le_of_ble_eq_true rfl⟩ (fun r_4 hr_4 => ?_)
    subst hr_4
    refine lv_if_eq (tgt := 42) hx hb dX9_share_35 (by decide) (fun _ => ?_) (fun c_35 => absurd (by rw [hsz (bIt c_11)]; decide) c_35)
    refine lv_iconst (v := 0) hx hb dX9_share_42 (by decide) ?_
    refine lv_istore (lv' := [(6, .int 0), (5, .int sz), (0, .ref h0), (1, .int x1), (2, .int x2), (3, .int x3), (4, .int x4)]) hx hb dX9_share_43 hl (by decide) rfl (fun ls hl => ?_)
    refine lv_iload_n hx hb dX9_share_45 rfl (lv_at hl 5 rfl) ?_
    refine cSR (As := [.int x3]) (rest := []) (n := 1) X hN hK hP (c_X9_isDayCount l D cI cB x3) k_770 k_771 k_92 k_772 (by decide +kernel) ⟨Nat.le_of_ble_eq_true rfl, Nat.le_of_ble_eq_true rfl⟩ ⟨rfl, rfl⟩ [] rfl rfl rfl hl.1 (Nat.le_of_ble_eq_true rfl) dX9_share_46 ⟨Nat.le_of_ble_eq_true rfl, Nat.le_of_ble_eq_true rfl⟩ (fun r_5 hr_5 => ?_)
    subst hr_5
    refine lv_if_eq (tgt := 67) hx hb dX9_share_49 (by decide) (fun c_49 => ?_) (fun c_49 => ?_)
    · refine lv_ldc (v := (-1000000000)) hx hb hown (htb _ k_918) dX9_share_67 ?_
      exact ret _ _ (-1000000000) dX9_share_69 rfl rfl
    · refine lv_iload hx hb dX9_share_52 (lv_at hl 0 rfl) ?_
      refine lv_if_eq (tgt := 67) hx hb dX9_share_54 (by decide) (fun _ => ?_) (fun c_54 => absurd (by decide) c_54)
      refine lv_ldc (v := (-1000000000)) hx hb hown (htb _ k_918) dX9_share_67 ?_
      exact ret _ _ (-1000000000) dX9_share_69 rfl rfl

set_option maxRecDepth 100000 in
set_option maxHeartbeats 4000000 in
theorem c_X9_hired (l : Launch) (D : va_G) (cI cB : ClassId) (h0 : Nat) (tp : Nat) (tw : Nat) (nw : Nat) (kp : Nat) (lw : Nat) (lr : Nat) (dd : Nat) (vv : Nat) (tl : Nat) (sc : Nat) (t1 : Nat) (t2 : Nat) (t3 : Nat) (t4 : Nat) (x1 : Int32) (x2 : Int32) (x3 : Int32) (x4 : Int32)  : MR l D cI cB yX9_hired cX9_hired 12 .int (rm 1 22) [.ref h0, .int x1, .int x2, .int x3, .int x4] [(h0, .inr (9, [.ref tp, .ref tw, .ref nw, .ref kp, .ref lw, .ref lr, .ref dd, .ref vv, .ref tl, .ref sc, .int 0])), (tw, .inr (7, [.int 0, .int 0, .int 0, .ref t1, .ref t2, .ref t3, .ref t4]))] (fun r : Int32 => r = -1) := by
  refine MR.of (by decide) (Nat.le_of_ble_eq_true rfl) ?_
  intro p e s m below meth c Q ls X hN hP hK hl ret
  obtain ⟨hx, hb, hml, hown, htb⟩ := id X
  have hl : lv_has ls 12 [(0, .ref h0), (1, .int x1), (2, .int x2), (3, .int x3), (4, .int x4)] := hl
  refine lv_iload_n hx hb dX9_hired_0 rfl (lv_at hl 2 rfl) ?_
  refine cSR (As := [.int x2]) (rest := []) (n := 1) X hN hK hP (c_J6_bitCount_0f7a4 l D cI cB x2) k_754 k_755 k_111 k_756 (by decide +kernel) ⟨Nat.le_of_ble_eq_true rfl, Nat.le_of_ble_eq_true rfl⟩ ⟨rfl, rfl⟩ [] rfl rfl rfl hl.1 (Nat.le_of_ble_eq_true rfl) dX9_hired_1 ⟨Nat.le_of_ble_eq_true rfl, Nat.le_of_ble_eq_true rfl⟩ (fun sz hsz => ?_)
  refine lv_istore (lv' := [(5, .int sz), (0, .ref h0), (1, .int x1), (2, .int x2), (3, .int x3), (4, .int x4)]) hx hb dX9_hired_4 hl (by decide) rfl (fun ls hl => ?_)
  refine lv_aload_n hx hb dX9_hired_6 rfl (lv_at hl 1 rfl) ?_
  refine lv_iload_n hx hb dX9_hired_7 rfl (lv_at hl 3 rfl) ?_
  refine cVR (As := [.int x2]) (rest := []) (n := 1) (ci := 9) (q0 := 0) X hN hK hP (c_X9_areTold l D cI cB h0 tp tw nw kp lw lr dd vv tl sc t1 t2 t3 t4 x2) (gV k_893 k_895 k_20 k_92 k_896) (by decide +kernel) ⟨Nat.le_of_ble_eq_true rfl, Nat.le_of_ble_eq_true rfl⟩ ⟨rfl, rfl⟩ [0, 1] rfl rfl rfl rfl rfl rfl hl.1 (Nat.le_of_ble_eq_true rfl) dX9_hired_8 ⟨Nat.le_of_ble_eq_true rfl, Nat.le_of_ble_eq_true rfl⟩ (fun r_1 hr_1 => ?_)
  subst hr_1
  refine lv_if_eq (tgt := 44) hx hb dX9_hired_11 (by decide) (fun c_11 => ?_) (fun c_11 => ?_)
  · refine lv_iconst (v := 0) hx hb dX9_hired_44 (by decide) ?_
    refine lv_istore (lv' := [(6, .int 0), (5, .int sz), (0, .ref h0), (1, .int x1), (2, .int x2), (3, .int x3), (4, .int x4)]) hx hb dX9_hired_45 hl (by decide) rfl (fun ls hl => ?_)
    refine lv_iload_n hx hb dX9_hired_47 rfl (lv_at hl 3 rfl) ?_
    refine lv_iconst (v := 1) hx hb dX9_hired_48 (by decide) ?_
    refine lv_bipush (v := 9) hx hb dX9_hired_49 (by decide) ?_
    refine cSR (As := [.int x1, .int 1, .int 9]) (rest := []) (n := 3) X hN hK hP (c_X9_within l D cI cB x1 1 9) k_431 k_432 k_92 k_433 (by decide +kernel) ⟨Nat.le_of_ble_eq_true rfl, Nat.le_of_ble_eq_true rfl⟩ ⟨rfl, rfl⟩ [] rfl rfl rfl hl.1 (Nat.le_of_ble_eq_true rfl) dX9_hired_51 ⟨Nat.le_of_ble_eq_true rfl, Nat.le_of_ble_eq_true rfl⟩ (fun r_2 hr_2 => ?_)
    subst hr_2
    refine lv_if_eq (tgt := 69) hx hb dX9_hired_54 (by decide) (fun c_54 => ?_) (fun c_54 => ?_)
    · refine lv_iconst (v := (-1)) hx hb dX9_hired_69 (by decide) ?_
      exact ret _ _ (-1) dX9_hired_70 rfl rfl
    · refine lv_iload hx hb dX9_hired_57 (lv_at hl 0 rfl) ?_
      refine lv_if_eq (tgt := 69) hx hb dX9_hired_59 (by decide) (fun _ => ?_) (fun c_59 => absurd (by decide) c_59)
      refine lv_iconst (v := (-1)) hx hb dX9_hired_69 (by decide) ?_
      exact ret _ _ (-1) dX9_hired_70 rfl rfl
  · refine lv_iload hx hb dX9_hired_14 (lv_at hl 0 rfl) ?_
    refine lv_iconst (v := 1) hx hb dX9_hired_16 (by decide) ?_
    refine lv_iconst (v := 3) hx hb dX9_hired_17 (by decide) ?_
    refine cSR (As := [.int sz, .int 1, .int 3]) (rest := []) (n := 3) X hN hK hP (c_X9_within l D cI cB sz 1 3) k_431 k_432 k_92 k_433 (by decide +kernel) ⟨Nat.le_of_ble_eq_true rfl, Nat.le_of_ble_eq_true rfl⟩ ⟨rfl, rfl⟩ [] rfl rfl rfl hl.1 (Nat.le_of_ble_eq_true rfl) dX9_hired_18 ⟨Nat.le_of_ble_eq_true rfl, Nat.le_of_ble_eq_true rfl⟩ (fun r_3 hr_3 => ?_)
    subst hr_3
    refine lv_if_eq (tgt := 44) hx hb dX9_hired_21 (by decide) (fun _ => ?_) (fun c_21 => absurd (by rw [hsz (bIt c_11)]; decide) c_21)
    refine lv_iconst (v := 0) hx hb dX9_hired_44 (by decide) ?_
    refine lv_istore (lv' := [(6, .int 0), (5, .int sz), (0, .ref h0), (1, .int x1), (2, .int x2), (3, .int x3), (4, .int x4)]) hx hb dX9_hired_45 hl (by decide) rfl (fun ls hl => ?_)
    refine lv_iload_n hx hb dX9_hired_47 rfl (lv_at hl 3 rfl) ?_
    refine lv_iconst (v := 1) hx hb dX9_hired_48 (by decide) ?_
    refine lv_bipush (v := 9) hx hb dX9_hired_49 (by decide) ?_
    refine cSR (As := [.int x1, .int 1, .int 9]) (rest := []) (n := 3) X hN hK hP (c_X9_within l D cI cB x1 1 9) k_431 k_432 k_92 k_433 (by decide +kernel) ⟨Nat.le_of_ble_eq_true rfl, Nat.le_of_ble_eq_true rfl⟩ ⟨rfl, rfl⟩ [] rfl rfl rfl hl.1 (Nat.le_of_ble_eq_true rfl) dX9_hired_51 ⟨Nat.le_of_ble_eq_true rfl, Nat.le_of_ble_eq_true rfl⟩ (fun r_4 hr_4 => ?_)
    subst hr_4
    refine lv_if_eq (tgt := 69) hx hb dX9_hired_54 (by decide) (fun c_54 => ?_) (fun c_54 => ?_)
    · refine lv_iconst (v := (-1)) hx hb dX9_hired_69 (by decide) ?_
      exact ret _ _ (-1) dX9_hired_70 rfl rfl
    · refine lv_iload hx hb dX9_hired_57 (lv_at hl 0 rfl) ?_
      refine lv_if_eq (tgt := 69) hx hb dX9_hired_59 (by decide) (fun _ => ?_) (fun c_59 => absurd (by decide) c_59)
      refine lv_iconst (v := (-1)) hx hb dX9_hired_69 (by decide) ?_
      exact ret _ _ (-1) dX9_hired_70 rfl rfl

set_option maxRecDepth 100000 in
set_option maxHeartbeats 4000000 in
theorem c_X9_byTurns (l : Launch) (D : va_G) (cI cB : ClassId) (h0 : Nat) (tp : Nat) (tw : Nat) (nw : Nat) (kp : Nat) (lw : Nat) (lr : Nat) (dd : Nat) (vv : Nat) (tl : Nat) (sc : Nat) (t1 : Nat) (t2 : Nat) (t3 : Nat) (t4 : Nat) (x1 : Int32) (x2 : Int32) (x3 : Int32)  : MR l D cI cB yX9_byTurns cX9_byTurns 10 .int (rm 1 22) [.ref h0, .int x1, .int x2, .int x3] [(h0, .inr (9, [.ref tp, .ref tw, .ref nw, .ref kp, .ref lw, .ref lr, .ref dd, .ref vv, .ref tl, .ref sc, .int 0])), (tw, .inr (7, [.int 0, .int 0, .int 0, .ref t1, .ref t2, .ref t3, .ref t4]))] (fun r : Int32 => r = -1) := by
  refine MR.of (by decide) (Nat.le_of_ble_eq_true rfl) ?_
  intro p e s m below meth c Q ls X hN hP hK hl ret
  obtain ⟨hx, hb, hml, hown, htb⟩ := id X
  have hl : lv_has ls 10 [(0, .ref h0), (1, .int x1), (2, .int x2), (3, .int x3)] := hl
  refine lv_iload_n hx hb dX9_byTurns_0 rfl (lv_at hl 1 rfl) ?_
  refine cSR (As := [.int x1]) (rest := []) (n := 1) X hN hK hP (c_J6_bitCount_0f7a4 l D cI cB x1) k_754 k_755 k_111 k_756 (by decide +kernel) ⟨Nat.le_of_ble_eq_true rfl, Nat.le_of_ble_eq_true rfl⟩ ⟨rfl, rfl⟩ [] rfl rfl rfl hl.1 (Nat.le_of_ble_eq_true rfl) dX9_byTurns_1 ⟨Nat.le_of_ble_eq_true rfl, Nat.le_of_ble_eq_true rfl⟩ (fun sz hsz => ?_)
  refine lv_istore (lv' := [(4, .int sz), (0, .ref h0), (1, .int x1), (2, .int x2), (3, .int x3)]) hx hb dX9_byTurns_4 hl (by decide) rfl (fun ls hl => ?_)
  refine lv_aload_n hx hb dX9_byTurns_6 rfl (lv_at hl 1 rfl) ?_
  refine lv_iload_n hx hb dX9_byTurns_7 rfl (lv_at hl 2 rfl) ?_
  refine cVR (As := [.int x1]) (rest := []) (n := 1) (ci := 9) (q0 := 0) X hN hK hP (c_X9_areTold l D cI cB h0 tp tw nw kp lw lr dd vv tl sc t1 t2 t3 t4 x1) (gV k_893 k_895 k_20 k_92 k_896) (by decide +kernel) ⟨Nat.le_of_ble_eq_true rfl, Nat.le_of_ble_eq_true rfl⟩ ⟨rfl, rfl⟩ [0, 1] rfl rfl rfl rfl rfl rfl hl.1 (Nat.le_of_ble_eq_true rfl) dX9_byTurns_8 ⟨Nat.le_of_ble_eq_true rfl, Nat.le_of_ble_eq_true rfl⟩ (fun r_1 hr_1 => ?_)
  subst hr_1
  refine lv_if_eq (tgt := 46) hx hb dX9_byTurns_11 (by decide) (fun c_11 => ?_) (fun c_11 => ?_)
  · refine lv_iconst (v := 0) hx hb dX9_byTurns_46 (by decide) ?_
    refine lv_istore (lv' := [(5, .int 0), (4, .int sz), (0, .ref h0), (1, .int x1), (2, .int x2), (3, .int x3)]) hx hb dX9_byTurns_47 hl (by decide) rfl (fun ls hl => ?_)
    refine lv_iload hx hb dX9_byTurns_49 (lv_at hl 0 rfl) ?_
    refine lv_if_eq (tgt := 64) hx hb dX9_byTurns_51 (by decide) (fun _ => ?_) (fun c_51 => absurd (by decide) c_51)
    refine lv_iconst (v := (-1)) hx hb dX9_byTurns_64 (by decide) ?_
    exact ret _ _ (-1) dX9_byTurns_65 rfl rfl
  · refine lv_iload hx hb dX9_byTurns_14 (lv_at hl 0 rfl) ?_
    refine lv_iconst (v := 2) hx hb dX9_byTurns_16 (by decide) ?_
    refine lv_iconst (v := 4) hx hb dX9_byTurns_17 (by decide) ?_
    refine cSR (As := [.int sz, .int 2, .int 4]) (rest := []) (n := 3) X hN hK hP (c_X9_within l D cI cB sz 2 4) k_431 k_432 k_92 k_433 (by decide +kernel) ⟨Nat.le_of_ble_eq_true rfl, Nat.le_of_ble_eq_true rfl⟩ ⟨rfl, rfl⟩ [] rfl rfl rfl hl.1 (Nat.le_of_ble_eq_true rfl) dX9_byTurns_18 ⟨Nat.le_of_ble_eq_true rfl, Nat.le_of_ble_eq_true rfl⟩ (fun r_2 hr_2 => ?_)
    subst hr_2
    refine lv_if_eq (tgt := 46) hx hb dX9_byTurns_21 (by decide) (fun _ => ?_) (fun c_21 => absurd (by rw [hsz (bIt c_11)]; decide) c_21)
    refine lv_iconst (v := 0) hx hb dX9_byTurns_46 (by decide) ?_
    refine lv_istore (lv' := [(5, .int 0), (4, .int sz), (0, .ref h0), (1, .int x1), (2, .int x2), (3, .int x3)]) hx hb dX9_byTurns_47 hl (by decide) rfl (fun ls hl => ?_)
    refine lv_iload hx hb dX9_byTurns_49 (lv_at hl 0 rfl) ?_
    refine lv_if_eq (tgt := 64) hx hb dX9_byTurns_51 (by decide) (fun _ => ?_) (fun c_51 => absurd (by decide) c_51)
    refine lv_iconst (v := (-1)) hx hb dX9_byTurns_64 (by decide) ?_
    exact ret _ _ (-1) dX9_byTurns_65 rfl rfl

set_option maxRecDepth 100000 in
set_option maxHeartbeats 4000000 in
theorem c_X9_count (l : Launch) (D : va_G) (cI cB : ClassId) (h0 : Nat) (tp : Nat) (tw : Nat) (nw : Nat) (kp : Nat) (lw : Nat) (lr : Nat) (dd : Nat) (vv : Nat) (tl : Nat) (sc : Nat) (t1 : Nat) (t2 : Nat) (t3 : Nat) (t4 : Nat) (by_ : Nat) (u2 : Nat) (f2 : Nat) (g2 : Nat) (ff2 : Nat → Int32) (fg2 : Nat → Int32) (l1 : Nat) (l2 : Nat) (l3 : Nat) (l4 : Nat) (l5 : Nat) (l6 : Nat) (l7 : Nat) (lz : Int32) (x2 : Int32) (hf : ∀ j, j < 10 → ff2 j = -2) (hg : ∀ j, j < 10 → fg2 j = -2) : MR l D cI cB yX9_count cX9_count 2 .int (rm 2 43) [.ref h0, .int x2] [(h0, .inr (9, [.ref tp, .ref tw, .ref nw, .ref kp, .ref lw, .ref lr, .ref dd, .ref vv, .ref tl, .ref sc, .int 0])), (tp, .inr (5, [.ref by_, .int 0])), (tw, .inr (7, [.int 0, .int 0, .int 0, .ref t1, .ref t2, .ref t3, .ref t4])), (nw, .inr (4, [.ref u2, .ref f2, .ref g2, .int 0, .int 0, .int 1])), (f2, .inl (cI, 10, .inl ff2)), (g2, .inl (cI, 10, .inl fg2)), (lw, .inr (1, [.ref l1, .ref l2, .ref l3, .ref l4, .ref l5, .ref l6, .ref l7, .int lz, .int 0]))] (fun r : Int32 => r = iI (x2 = 7) 1 (iI (0 ≤ x2 ∧ x2 ≤ 9) 0 (-1))) := by
  refine MR.of (by decide) (Nat.le_of_ble_eq_true rfl) ?_
  intro p e s m below meth c Q ls X hN hP hK hl ret
  obtain ⟨hx, hb, hml, hown, htb⟩ := id X
  have hl : lv_has ls 2 [(0, .ref h0), (1, .int x2)] := hl
  refine lv_iload_n hx hb dX9_count_0 rfl (lv_at hl 1 rfl) ?_
  by_cases e1_0 : x2 = 0
  · subst e1_0
    refine lv_tableIn (off := 55) (tgt := 56) hx hb dX9_count_1 (by decide) (by decide) (by decide) (by decide) ?_
    refine lv_aload_n hx hb dX9_count_56 rfl (lv_at hl 0 rfl) ?_
    refine va_get (D := D) (ci := 9) (v := .ref nw) (C := RX9) (T := TX9) (N := 11) hx hb htb itX9 hown hK hP 0 rfl rfl 2 (by decide) (htb _ k_395) (fun _ h9 => h9) rfl dX9_count_57 ?_
    refine va_getN (D := D) (ci := 4) (v := .int 0) (C := RX4) (T := TX4) (N := 6) hx hb htb itX4 hown hK hP 3 rfl rfl 4 (by decide) (va_Nw.use rfl (hN _ n_201 rfl)) (fun _ h9 => h9) rfl dX9_count_60 ?_
    exact ret _ _ 0 dX9_count_63 rfl (by decide)
  by_cases e1_1 : x2 = 1
  · subst e1_1
    refine lv_tableIn (off := 63) (tgt := 64) hx hb dX9_count_1 (by decide) (by decide) (by decide) (by decide) ?_
    refine lv_aload_n hx hb dX9_count_64 rfl (lv_at hl 0 rfl) ?_
    refine va_get (D := D) (ci := 9) (v := .ref nw) (C := RX9) (T := TX9) (N := 11) hx hb htb itX9 hown hK hP 0 rfl rfl 2 (by decide) (htb _ k_395) (fun _ h9 => h9) rfl dX9_count_65 ?_
    refine va_getN (D := D) (ci := 4) (v := .int 0) (C := RX4) (T := TX4) (N := 6) hx hb htb itX4 hown hK hP 3 rfl rfl 3 (by decide) (va_Nw.use rfl (hN _ n_198 rfl)) (fun _ h9 => h9) rfl dX9_count_68 ?_
    exact ret _ _ 0 dX9_count_71 rfl (by decide)
  by_cases e1_2 : x2 = 2
  · subst e1_2
    refine lv_tableIn (off := 71) (tgt := 72) hx hb dX9_count_1 (by decide) (by decide) (by decide) (by decide) ?_
    refine lv_aload_n hx hb dX9_count_72 rfl (lv_at hl 0 rfl) ?_
    refine va_get (D := D) (ci := 9) (v := .ref tw) (C := RX9) (T := TX9) (N := 11) hx hb htb itX9 hown hK hP 0 rfl rfl 1 (by decide) (htb _ k_394) (fun _ h9 => h9) rfl dX9_count_73 ?_
    refine va_getN (D := D) (ci := 7) (v := .int 0) (C := RX7) (T := TX7) (N := 7) hx hb htb itX7 hown hK hP 2 rfl rfl 0 (by decide) (va_Nw.use rfl (hN _ n_144 rfl)) (fun _ h9 => h9) rfl dX9_count_76 ?_
    exact ret _ _ 0 dX9_count_79 rfl (by decide)
  by_cases e1_3 : x2 = 3
  · subst e1_3
    refine lv_tableIn (off := 79) (tgt := 80) hx hb dX9_count_1 (by decide) (by decide) (by decide) (by decide) ?_
    refine lv_aload_n hx hb dX9_count_80 rfl (lv_at hl 0 rfl) ?_
    refine va_get (D := D) (ci := 9) (v := .ref tw) (C := RX9) (T := TX9) (N := 11) hx hb htb itX9 hown hK hP 0 rfl rfl 1 (by decide) (htb _ k_394) (fun _ h9 => h9) rfl dX9_count_81 ?_
    refine va_getN (D := D) (ci := 7) (v := .int 0) (C := RX7) (T := TX7) (N := 7) hx hb htb itX7 hown hK hP 2 rfl rfl 1 (by decide) (va_Nw.use rfl (hN _ n_147 rfl)) (fun _ h9 => h9) rfl dX9_count_84 ?_
    exact ret _ _ 0 dX9_count_87 rfl (by decide)
  by_cases e1_4 : x2 = 4
  · subst e1_4
    refine lv_tableIn (off := 87) (tgt := 88) hx hb dX9_count_1 (by decide) (by decide) (by decide) (by decide) ?_
    refine lv_aload_n hx hb dX9_count_88 rfl (lv_at hl 0 rfl) ?_
    refine va_get (D := D) (ci := 9) (v := .ref nw) (C := RX9) (T := TX9) (N := 11) hx hb htb itX9 hown hK hP 0 rfl rfl 2 (by decide) (htb _ k_395) (fun _ h9 => h9) rfl dX9_count_89 ?_
    refine cVR (As := []) (rest := []) (n := 0) (ci := 4) (q0 := 0) X hN hK hP (c_X4_awayBits l D cI cB nw u2 f2 g2 0 0 1 ff2 fg2 hg (by decide)) (gV k_888 k_794 k_795 k_95 k_796) (by decide +kernel) ⟨Nat.le_of_ble_eq_true rfl, Nat.le_of_ble_eq_true rfl⟩ ⟨rfl, rfl⟩ [3, 4, 5] rfl rfl rfl rfl rfl rfl hl.1 (Nat.le_of_ble_eq_true rfl) dX9_count_92 ⟨Nat.le_of_ble_eq_true rfl, Nat.le_of_ble_eq_true rfl⟩ (fun r_1 hr_1 => ?_)
    subst hr_1
    exact ret _ _ 0 dX9_count_95 rfl (by decide)
  by_cases e1_5 : x2 = 5
  · subst e1_5
    refine lv_tableIn (off := 95) (tgt := 96) hx hb dX9_count_1 (by decide) (by decide) (by decide) (by decide) ?_
    refine lv_aload_n hx hb dX9_count_96 rfl (lv_at hl 0 rfl) ?_
    refine va_get (D := D) (ci := 9) (v := .ref lw) (C := RX9) (T := TX9) (N := 11) hx hb htb itX9 hown hK hP 0 rfl rfl 4 (by decide) (htb _ k_397) (fun _ h9 => h9) rfl dX9_count_97 ?_
    refine va_getN (D := D) (ci := 1) (v := .int 0) (C := RX1) (T := TX1) (N := 9) hx hb htb itX1 hown hK hP 6 rfl rfl 8 (by decide) (va_Nw.use rfl (hN _ n_235 rfl)) (fun _ h9 => h9) rfl dX9_count_100 ?_
    exact ret _ _ 0 dX9_count_103 rfl (by decide)
  by_cases e1_6 : x2 = 6
  · subst e1_6
    refine lv_tableIn (off := 103) (tgt := 104) hx hb dX9_count_1 (by decide) (by decide) (by decide) (by decide) ?_
    refine lv_aload_n hx hb dX9_count_104 rfl (lv_at hl 0 rfl) ?_
    refine va_get (D := D) (ci := 9) (v := .ref tp) (C := RX9) (T := TX9) (N := 11) hx hb htb itX9 hown hK hP 0 rfl rfl 0 (by decide) (htb _ k_393) (fun _ h9 => h9) rfl dX9_count_105 ?_
    refine va_getN (D := D) (ci := 5) (v := .int 0) (C := RX5) (T := TX5) (N := 2) hx hb htb itX5 hown hK hP 1 rfl rfl 1 (by decide) (va_Nw.use rfl (hN _ n_130 rfl)) (fun _ h9 => h9) rfl dX9_count_108 ?_
    exact ret _ _ 0 dX9_count_111 rfl (by decide)
  by_cases e1_7 : x2 = 7
  · subst e1_7
    refine lv_tableIn (off := 111) (tgt := 112) hx hb dX9_count_1 (by decide) (by decide) (by decide) (by decide) ?_
    refine lv_aload_n hx hb dX9_count_112 rfl (lv_at hl 0 rfl) ?_
    refine va_get (D := D) (ci := 9) (v := .ref nw) (C := RX9) (T := TX9) (N := 11) hx hb htb itX9 hown hK hP 0 rfl rfl 2 (by decide) (htb _ k_395) (fun _ h9 => h9) rfl dX9_count_113 ?_
    refine va_getN (D := D) (ci := 4) (v := .int 1) (C := RX4) (T := TX4) (N := 6) hx hb htb itX4 hown hK hP 3 rfl rfl 5 (by decide) (va_Nw.use rfl (hN _ n_204 rfl)) (fun _ h9 => h9) rfl dX9_count_116 ?_
    exact ret _ _ 1 dX9_count_119 rfl (by decide)
  by_cases e1_8 : x2 = 8
  · subst e1_8
    refine lv_tableIn (off := 119) (tgt := 120) hx hb dX9_count_1 (by decide) (by decide) (by decide) (by decide) ?_
    refine lv_aload_n hx hb dX9_count_120 rfl (lv_at hl 0 rfl) ?_
    refine va_get (D := D) (ci := 9) (v := .ref tw) (C := RX9) (T := TX9) (N := 11) hx hb htb itX9 hown hK hP 0 rfl rfl 1 (by decide) (htb _ k_394) (fun _ h9 => h9) rfl dX9_count_121 ?_
    refine va_getN (D := D) (ci := 7) (v := .int 0) (C := RX7) (T := TX7) (N := 7) hx hb htb itX7 hown hK hP 2 rfl rfl 2 (by decide) (va_Nw.use rfl (hN _ n_149 rfl)) (fun _ h9 => h9) rfl dX9_count_124 ?_
    exact ret _ _ 0 dX9_count_127 rfl (by decide)
  by_cases e1_9 : x2 = 9
  · subst e1_9
    refine lv_tableIn (off := 127) (tgt := 128) hx hb dX9_count_1 (by decide) (by decide) (by decide) (by decide) ?_
    refine lv_aload_n hx hb dX9_count_128 rfl (lv_at hl 0 rfl) ?_
    refine va_get (D := D) (ci := 9) (v := .ref nw) (C := RX9) (T := TX9) (N := 11) hx hb htb itX9 hown hK hP 0 rfl rfl 2 (by decide) (htb _ k_395) (fun _ h9 => h9) rfl dX9_count_129 ?_
    refine cVR (As := []) (rest := []) (n := 0) (ci := 4) (q0 := 0) X hN hK hP (c_X4_leaveBits l D cI cB nw u2 f2 g2 0 0 1 ff2 hf) (gV k_746 k_747 k_748 k_95 k_749) (by decide +kernel) ⟨Nat.le_of_ble_eq_true rfl, Nat.le_of_ble_eq_true rfl⟩ ⟨rfl, rfl⟩ [3, 4] rfl rfl rfl rfl rfl rfl hl.1 (Nat.le_of_ble_eq_true rfl) dX9_count_132 ⟨Nat.le_of_ble_eq_true rfl, Nat.le_of_ble_eq_true rfl⟩ (fun r_2 hr_2 => ?_)
    subst hr_2
    exact ret _ _ 0 dX9_count_135 rfl (by decide)
  refine lv_tableOut (tgt := 136) hx hb dX9_count_1 (by have t0 := lv_neT e1_0 (a := 0) (by decide); have t1 := lv_neT e1_1 (a := 1) (by decide); have t2 := lv_neT e1_2 (a := 2) (by decide); have t3 := lv_neT e1_3 (a := 3) (by decide); have t4 := lv_neT e1_4 (a := 4) (by decide); have t5 := lv_neT e1_5 (a := 5) (by decide); have t6 := lv_neT e1_6 (a := 6) (by decide); have t7 := lv_neT e1_7 (a := 7) (by decide); have t8 := lv_neT e1_8 (a := 8) (by decide); have t9 := lv_neT e1_9 (a := 9) (by decide); omega) (by decide) ?_
  refine lv_iconst (v := (-1)) hx hb dX9_count_136 (by decide) ?_
  exact ret _ _ (-1) dX9_count_137 rfl (by rw [← iI0 e1_7]; exact iI0 (fun h => by obtain ⟨j, hj, rfl⟩ := inN (k := 9) (by decide) h; exact absurd ⟨e1_0, e1_1, e1_2, e1_3, e1_4, e1_5, e1_6, e1_7, e1_8, e1_9⟩ (c10 hj)))
