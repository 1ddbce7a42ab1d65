set_option maxRecDepth 100000 in
set_option maxHeartbeats 4000000 in
theorem c_X8_begin (l : Launch) (D : va_G) (cI cB : ClassId) (sz : Nat) (h0 : Nat) (tw : Nat) (lw : Nat) (st : Nat) (m1 : Nat) (c1 : Nat) (d1 : Nat) (idl : Int32) (idf : Int32) (idt : Int32) (fc : Int32) (fp : Int32) (mb : Int32) (ra : Int32) (cl : Int32) (u1 : Nat) (f1 : Nat) (g1 : Nat) (ms : Int32) (dy : Int32) (dr : Int32) (nw : Nat) (u2 : Nat) (f2 : Nat) (g2 : Nat) (dr2 : Int32) (fu : Nat → Int32) (ff : Nat → Int32) (fg : Nat → Int32) (fm : Nat → Int32) (fd : Nat → Int32) (fu2 : Nat → Int32) (ff2 : Nat → Int32) (fg2 : Nat → Int32) (hu : ∀ j, j < 12 → fu2 j = 0) (hf : ∀ j, j < 10 → ff2 j = -2) (hg : ∀ j, j < 10 → fg2 j = -2) : MV (S := ((Nat → Int32) × (Nat → Int32) × (Nat → Int32) × (Nat → Int32) × (Nat → Int32))) l D cI cB yX8_begin cX8_begin 2 (rm 2 81) [.ref h0, .ref nw] [(h0, .inr (8, [.ref tw, .ref lw, .ref st, .ref m1, .ref c1, .ref d1, .int idl, .int idf, .int idt, .int fc, .int fp, .int mb, .int ra, .int cl])), (st, .inr (4, [.ref u1, .ref f1, .ref g1, .int ms, .int dy, .int dr])), (u1, .inl (cI, 12, .inl fu)), (f1, .inl (cI, 10, .inl ff)), (g1, .inl (cI, 10, .inl fg)), (m1, .inl (cI, 10, .inl fm)), (d1, .inl (cI, 10, .inl fd)), (nw, .inr (4, [.ref u2, .ref f2, .ref g2, .int 0, .int 0, .int dr2])), (u2, .inl (cI, 12, .inl fu2)), (f2, .inl (cI, 10, .inl ff2)), (g2, .inl (cI, 10, .inl fg2))] sz (fun u => (∀ j, j < 12 → u.1 j = 0) ∧ (∀ j, j < 10 → u.2.1 j = -2) ∧ (∀ j, j < 10 → u.2.2.1 j = -2) ∧ (∀ j, j < 10 → u.2.2.2.1 j = 0) ∧ (∀ j, j < 10 → u.2.2.2.2 j = 0)) (fun u : ((Nat → Int32) × (Nat → Int32) × (Nat → Int32) × (Nat → Int32) × (Nat → Int32)) => [(h0, .inr (8, [.ref tw, .ref lw, .ref st, .ref m1, .ref c1, .ref d1, .int (-1), .int idf, .int idt, .int (-1), .int fp, .int 0, .int 0, .int 0])), (st, .inr (4, [.ref u1, .ref f1, .ref g1, .int 0, .int 0, .int dr2])), (u1, .inl (cI, 12, .inl u.1)), (f1, .inl (cI, 10, .inl u.2.1)), (g1, .inl (cI, 10, .inl u.2.2.1)), (m1, .inl (cI, 10, .inl u.2.2.2.1)), (d1, .inl (cI, 10, .inl u.2.2.2.2)), (nw, .inr (4, [.ref u2, .ref f2, .ref g2, .int 0, .int 0, .int dr2])), (u2, .inl (cI, 12, .inl fu2)), (f2, .inl (cI, 10, .inl ff2)), (g2, .inl (cI, 10, .inl fg2))]) := by
  refine MV.of (by decide) (Nat.le_of_ble_eq_true rfl) ?_
  intro p e s m below meth c Q ls A X hin hN hP hK hD hA hl ret
  have hS : va_S A s.heap s.heap [] := va_S.rf
  obtain ⟨hx, hb, hml, hown, htb⟩ := id X
  have hl : lv_has ls 2 [(0, .ref h0), (1, .ref nw)] := hl
  refine lv_aload_n hx hb dX8_begin_0 rfl (lv_at hl 0 rfl) ?_
  refine va_get (D := D) (ci := 8) (v := .ref st) (C := RX8) (T := TX8) (N := 14) hx hb htb itX8 hown hK hP 0 rfl rfl 2 (by decide) (htb _ k_347) (fun _ h9 => h9) rfl dX8_begin_1 ?_
  refine lv_aload_n hx hb dX8_begin_4 rfl (lv_at hl 1 rfl) ?_
  refine cVV (As := [.ref nw]) (rest := []) (n := 1) (ci := 4) (q0 := 0) (wr := [(h0, .inr (8, [.ref tw, .ref lw, .ref st, .ref m1, .ref c1, .ref d1, .int idl, .int idf, .int idt, .int fc, .int fp, .int mb, .int ra, .int cl])), (m1, .inl (cI, 10, .inl fm)), (d1, .inl (cI, 10, .inl fd))]) X hN hK hP hD hS hA (c_X4_copy l D cI cB _ st u1 f1 g1 ms dy dr nw u2 f2 g2 0 0 dr2 fu ff fg fu2 ff2 fg2 hu hf hg) (gV k_777 k_778 k_779 k_95 k_780) (by decide +kernel) ⟨Nat.le_of_ble_eq_true rfl, Nat.le_of_ble_eq_true rfl⟩ ⟨rfl, rfl⟩ [1, 2, 3, 4, 7, 8, 9, 10] [0, 5, 6] rfl rfl (by decide) (by decide) rfl rfl rfl rfl rfl hl.1 (Nat.le_of_ble_eq_true rfl) dX8_begin_5 ⟨Nat.le_of_ble_eq_true rfl, Nat.le_of_ble_eq_true rfl⟩ (fun u H locs hw_5 hP hD hS => ?_)
  obtain ⟨uo_2, fo_3, go_4⟩ := u
  try dsimp only at hw_5
  have hP : va_P D vwCl [(h0, .inr (8, [.ref tw, .ref lw, .ref st, .ref m1, .ref c1, .ref d1, .int idl, .int idf, .int idt, .int fc, .int fp, .int mb, .int ra, .int cl])), (m1, .inl (cI, 10, .inl fm)), (d1, .inl (cI, 10, .inl fd)), (st, .inr (4, [.ref u1, .ref f1, .ref g1, .int 0, .int 0, .int dr2])), (u1, .inl (cI, 12, .inl uo_2)), (f1, .inl (cI, 10, .inl fo_3)), (g1, .inl (cI, 10, .inl go_4)), (nw, .inr (4, [.ref u2, .ref f2, .ref g2, .int 0, .int 0, .int dr2])), (u2, .inl (cI, 12, .inl fu2)), (f2, .inl (cI, 10, .inl ff2)), (g2, .inl (cI, 10, .inl fg2))] H := hP
  have hD : va_D A [(h0, .inr (8, [.ref tw, .ref lw, .ref st, .ref m1, .ref c1, .ref d1, .int idl, .int idf, .int idt, .int fc, .int fp, .int mb, .int ra, .int cl])), (m1, .inl (cI, 10, .inl fm)), (d1, .inl (cI, 10, .inl fd)), (st, .inr (4, [.ref u1, .ref f1, .ref g1, .int 0, .int 0, .int dr2])), (u1, .inl (cI, 12, .inl uo_2)), (f1, .inl (cI, 10, .inl fo_3)), (g1, .inl (cI, 10, .inl go_4)), (nw, .inr (4, [.ref u2, .ref f2, .ref g2, .int 0, .int 0, .int dr2])), (u2, .inl (cI, 12, .inl fu2)), (f2, .inl (cI, 10, .inl ff2)), (g2, .inl (cI, 10, .inl fg2))] := hD
  refine lv_aload_n hx hb dX8_begin_8 rfl (lv_at hl 0 rfl) ?_
  refine va_get (D := D) (ci := 8) (v := .ref m1) (C := RX8) (T := TX8) (N := 14) hx hb htb itX8 hown hK hP 0 rfl rfl 3 (by decide) (htb _ k_349) (fun _ h9 => h9) rfl dX8_begin_9 ?_
  refine lv_iconst (v := 0) hx hb dX8_begin_12 (by decide) ?_
  refine cSV (As := [.ref m1, .int 0]) (rest := []) (n := 2) (wr := [(h0, .inr (8, [.ref tw, .ref lw, .ref st, .ref m1, .ref c1, .ref d1, .int idl, .int idf, .int idt, .int fc, .int fp, .int mb, .int ra, .int cl])), (d1, .inl (cI, 10, .inl fd)), (st, .inr (4, [.ref u1, .ref f1, .ref g1, .int 0, .int 0, .int dr2])), (u1, .inl (cI, 12, .inl uo_2)), (f1, .inl (cI, 10, .inl fo_3)), (g1, .inl (cI, 10, .inl go_4)), (nw, .inr (4, [.ref u2, .ref f2, .ref g2, .int 0, .int 0, .int dr2])), (u2, .inl (cI, 12, .inl fu2)), (f2, .inl (cI, 10, .inl ff2)), (g2, .inl (cI, 10, .inl fg2))]) X hN hK hP hD hS hA (c_J7_fill_53178 l D cI cB _ m1 0 fm) k_782 k_187 k_96 k_188 (by decide +kernel) ⟨Nat.le_of_ble_eq_true rfl, Nat.le_of_ble_eq_true rfl⟩ ⟨rfl, rfl⟩ [1] [0, 2, 3, 4, 5, 6, 7, 8, 9, 10] rfl rfl (by decide) (by decide) rfl rfl hl.1 (Nat.le_of_ble_eq_true rfl) dX8_begin_13 ⟨Nat.le_of_ble_eq_true rfl, Nat.le_of_ble_eq_true rfl⟩ (fun u H locs hw_8 hP hD hS => ?_)
  obtain ⟨fo_7, rfl⟩ : ∃ z, z = u := ⟨_, rfl⟩
  try dsimp only at hw_8
  have hP : va_P D vwCl [(h0, .inr (8, [.ref tw, .ref lw, .ref st, .ref m1, .ref c1, .ref d1, .int idl, .int idf, .int idt, .int fc, .int fp, .int mb, .int ra, .int cl])), (d1, .inl (cI, 10, .inl fd)), (st, .inr (4, [.ref u1, .ref f1, .ref g1, .int 0, .int 0, .int dr2])), (u1, .inl (cI, 12, .inl uo_2)), (f1, .inl (cI, 10, .inl fo_3)), (g1, .inl (cI, 10, .inl go_4)), (nw, .inr (4, [.ref u2, .ref f2, .ref g2, .int 0, .int 0, .int dr2])), (u2, .inl (cI, 12, .inl fu2)), (f2, .inl (cI, 10, .inl ff2)), (g2, .inl (cI, 10, .inl fg2)), (m1, .inl (cI, 10, .inl fo_7))] H := hP
  have hD : va_D A [(h0, .inr (8, [.ref tw, .ref lw, .ref st, .ref m1, .ref c1, .ref d1, .int idl, .int idf, .int idt, .int fc, .int fp, .int mb, .int ra, .int cl])), (d1, .inl (cI, 10, .inl fd)), (st, .inr (4, [.ref u1, .ref f1, .ref g1, .int 0, .int 0, .int dr2])), (u1, .inl (cI, 12, .inl uo_2)), (f1, .inl (cI, 10, .inl fo_3)), (g1, .inl (cI, 10, .inl go_4)), (nw, .inr (4, [.ref u2, .ref f2, .ref g2, .int 0, .int 0, .int dr2])), (u2, .inl (cI, 12, .inl fu2)), (f2, .inl (cI, 10, .inl ff2)), (g2, .inl (cI, 10, .inl fg2)), (m1, .inl (cI, 10, .inl fo_7))] := hD
  refine lv_aload_n hx hb dX8_begin_16 rfl (lv_at hl 0 rfl) ?_
  refine va_get (D := D) (ci := 8) (v := .ref d1) (C := RX8) (T := TX8) (N := 14) hx hb htb itX8 hown hK hP 0 rfl rfl 5 (by decide) (htb _ k_352) (fun _ h9 => h9) rfl dX8_begin_17 ?_
  refine lv_iconst (v := 0) hx hb dX8_begin_20 (by decide) ?_
  refine cSV (As := [.ref d1, .int 0]) (rest := []) (n := 2) (wr := [(h0, .inr (8, [.ref tw, .ref lw, .ref st, .ref m1, .ref c1, .ref d1, .int idl, .int idf, .int idt, .int fc, .int fp, .int mb, .int ra, .int cl])), (st, .inr (4, [.ref u1, .ref f1, .ref g1, .int 0, .int 0, .int dr2])), (u1, .inl (cI, 12, .inl uo_2)), (f1, .inl (cI, 10, .inl fo_3)), (g1, .inl (cI, 10, .inl go_4)), (nw, .inr (4, [.ref u2, .ref f2, .ref g2, .int 0, .int 0, .int dr2])), (u2, .inl (cI, 12, .inl fu2)), (f2, .inl (cI, 10, .inl ff2)), (g2, .inl (cI, 10, .inl fg2)), (m1, .inl (cI, 10, .inl fo_7))]) X hN hK hP hD hS hA (c_J7_fill_53178 l D cI cB _ d1 0 fd) k_782 k_187 k_96 k_188 (by decide +kernel) ⟨Nat.le_of_ble_eq_true rfl, Nat.le_of_ble_eq_true rfl⟩ ⟨rfl, rfl⟩ [1] [0, 2, 3, 4, 5, 6, 7, 8, 9, 10] rfl rfl (by decide) (by decide) rfl rfl hl.1 (Nat.le_of_ble_eq_true rfl) dX8_begin_21 ⟨Nat.le_of_ble_eq_true rfl, Nat.le_of_ble_eq_true rfl⟩ (fun u H locs hw_11 hP hD hS => ?_)
  obtain ⟨fo_10, rfl⟩ : ∃ z, z = u := ⟨_, rfl⟩
  try dsimp only at hw_11
  have hP : va_P D vwCl [(h0, .inr (8, [.ref tw, .ref lw, .ref st, .ref m1, .ref c1, .ref d1, .int idl, .int idf, .int idt, .int fc, .int fp, .int mb, .int ra, .int cl])), (st, .inr (4, [.ref u1, .ref f1, .ref g1, .int 0, .int 0, .int dr2])), (u1, .inl (cI, 12, .inl uo_2)), (f1, .inl (cI, 10, .inl fo_3)), (g1, .inl (cI, 10, .inl go_4)), (nw, .inr (4, [.ref u2, .ref f2, .ref g2, .int 0, .int 0, .int dr2])), (u2, .inl (cI, 12, .inl fu2)), (f2, .inl (cI, 10, .inl ff2)), (g2, .inl (cI, 10, .inl fg2)), (m1, .inl (cI, 10, .inl fo_7)), (d1, .inl (cI, 10, .inl fo_10))] H := hP
  have hD : va_D A [(h0, .inr (8, [.ref tw, .ref lw, .ref st, .ref m1, .ref c1, .ref d1, .int idl, .int idf, .int idt, .int fc, .int fp, .int mb, .int ra, .int cl])), (st, .inr (4, [.ref u1, .ref f1, .ref g1, .int 0, .int 0, .int dr2])), (u1, .inl (cI, 12, .inl uo_2)), (f1, .inl (cI, 10, .inl fo_3)), (g1, .inl (cI, 10, .inl go_4)), (nw, .inr (4, [.ref u2, .ref f2, .ref g2, .int 0, .int 0, .int dr2])), (u2, .inl (cI, 12, .inl fu2)), (f2, .inl (cI, 10, .inl ff2)), (g2, .inl (cI, 10, .inl fg2)), (m1, .inl (cI, 10, .inl fo_7)), (d1, .inl (cI, 10, .inl fo_10))] := hD
  refine lv_aload_n hx hb dX8_begin_24 rfl (lv_at hl 0 rfl) ?_
  refine lv_iconst (v := (-1)) hx hb dX8_begin_25 (by decide) ?_
  refine va_put (D := D) (ci := 8) (v := .int (-1)) (ty := .int) (C := RX8) (T := TX8) (N := 14) hx hb htb itX8 tyX8 tyX8_ok nmX8 hown hK hP hD hS 0 rfl rfl 6 (by decide) (htb _ k_354) (fun _ h9 => h9) rfl (tyX8_ok 6 (by decide)) rfl rfl (Nat.le_of_ble_eq_true rfl) dX8_begin_26 (fun H locs hP hD hS => ?_)
  have hP : va_P D vwCl [(h0, .inr (8, [.ref tw, .ref lw, .ref st, .ref m1, .ref c1, .ref d1, .int (-1), .int idf, .int idt, .int fc, .int fp, .int mb, .int ra, .int cl])), (st, .inr (4, [.ref u1, .ref f1, .ref g1, .int 0, .int 0, .int dr2])), (u1, .inl (cI, 12, .inl uo_2)), (f1, .inl (cI, 10, .inl fo_3)), (g1, .inl (cI, 10, .inl go_4)), (nw, .inr (4, [.ref u2, .ref f2, .ref g2, .int 0, .int 0, .int dr2])), (u2, .inl (cI, 12, .inl fu2)), (f2, .inl (cI, 10, .inl ff2)), (g2, .inl (cI, 10, .inl fg2)), (m1, .inl (cI, 10, .inl fo_7)), (d1, .inl (cI, 10, .inl fo_10))] H := hP
  have hD : va_D A [(h0, .inr (8, [.ref tw, .ref lw, .ref st, .ref m1, .ref c1, .ref d1, .int (-1), .int idf, .int idt, .int fc, .int fp, .int mb, .int ra, .int cl])), (st, .inr (4, [.ref u1, .ref f1, .ref g1, .int 0, .int 0, .int dr2])), (u1, .inl (cI, 12, .inl uo_2)), (f1, .inl (cI, 10, .inl fo_3)), (g1, .inl (cI, 10, .inl go_4)), (nw, .inr (4, [.ref u2, .ref f2, .ref g2, .int 0, .int 0, .int dr2])), (u2, .inl (cI, 12, .inl fu2)), (f2, .inl (cI, 10, .inl ff2)), (g2, .inl (cI, 10, .inl fg2)), (m1, .inl (cI, 10, .inl fo_7)), (d1, .inl (cI, 10, .inl fo_10))] := hD
  refine lv_aload_n hx hb dX8_begin_29 rfl (lv_at hl 0 rfl) ?_
  refine lv_iconst (v := (-1)) hx hb dX8_begin_30 (by decide) ?_
  refine va_put (D := D) (ci := 8) (v := .int (-1)) (ty := .int) (C := RX8) (T := TX8) (N := 14) hx hb htb itX8 tyX8 tyX8_ok nmX8 hown hK hP hD hS 0 rfl rfl 9 (by decide) (htb _ k_357) (fun _ h9 => h9) rfl (tyX8_ok 9 (by decide)) rfl rfl (Nat.le_of_ble_eq_true rfl) dX8_begin_31 (fun H locs hP hD hS => ?_)
  have hP : va_P D vwCl [(h0, .inr (8, [.ref tw, .ref lw, .ref st, .ref m1, .ref c1, .ref d1, .int (-1), .int idf, .int idt, .int (-1), .int fp, .int mb, .int ra, .int cl])), (st, .inr (4, [.ref u1, .ref f1, .ref g1, .int 0, .int 0, .int dr2])), (u1, .inl (cI, 12, .inl uo_2)), (f1, .inl (cI, 10, .inl fo_3)), (g1, .inl (cI, 10, .inl go_4)), (nw, .inr (4, [.ref u2, .ref f2, .ref g2, .int 0, .int 0, .int dr2])), (u2, .inl (cI, 12, .inl fu2)), (f2, .inl (cI, 10, .inl ff2)), (g2, .inl (cI, 10, .inl fg2)), (m1, .inl (cI, 10, .inl fo_7)), (d1, .inl (cI, 10, .inl fo_10))] H := hP
  have hD : va_D A [(h0, .inr (8, [.ref tw, .ref lw, .ref st, .ref m1, .ref c1, .ref d1, .int (-1), .int idf, .int idt, .int (-1), .int fp, .int mb, .int ra, .int cl])), (st, .inr (4, [.ref u1, .ref f1, .ref g1, .int 0, .int 0, .int dr2])), (u1, .inl (cI, 12, .inl uo_2)), (f1, .inl (cI, 10, .inl fo_3)), (g1, .inl (cI, 10, .inl go_4)), (nw, .inr (4, [.ref u2, .ref f2, .ref g2, .int 0, .int 0, .int dr2])), (u2, .inl (cI, 12, .inl fu2)), (f2, .inl (cI, 10, .inl ff2)), (g2, .inl (cI, 10, .inl fg2)), (m1, .inl (cI, 10, .inl fo_7)), (d1, .inl (cI, 10, .inl fo_10))] := hD
  refine lv_aload_n hx hb dX8_begin_34 rfl (lv_at hl 0 rfl) ?_
  refine lv_aload_n hx hb dX8_begin_35 rfl (lv_at hl 1 rfl) ?_
  refine va_getN (D := D) (ci := 4) (v := .int 0) (C := RX4) (T := TX4) (N := 6) hx hb htb itX4 hown hK hP 5 rfl rfl 3 (by decide) (va_Nw.use rfl (hN _ n_196 rfl)) (fun _ h9 => h9) rfl dX8_begin_36 ?_
  refine va_put (D := D) (ci := 8) (v := .int 0) (ty := .int) (C := RX8) (T := TX8) (N := 14) hx hb htb itX8 tyX8 tyX8_ok nmX8 hown hK hP hD hS 0 rfl rfl 11 (by decide) (htb _ k_359) (fun _ h9 => h9) rfl (tyX8_ok 11 (by decide)) rfl rfl (Nat.le_of_ble_eq_true rfl) dX8_begin_39 (fun H locs hP hD hS => ?_)
  have hP : va_P D vwCl [(h0, .inr (8, [.ref tw, .ref lw, .ref st, .ref m1, .ref c1, .ref d1, .int (-1), .int idf, .int idt, .int (-1), .int fp, .int 0, .int ra, .int cl])), (st, .inr (4, [.ref u1, .ref f1, .ref g1, .int 0, .int 0, .int dr2])), (u1, .inl (cI, 12, .inl uo_2)), (f1, .inl (cI, 10, .inl fo_3)), (g1, .inl (cI, 10, .inl go_4)), (nw, .inr (4, [.ref u2, .ref f2, .ref g2, .int 0, .int 0, .int dr2])), (u2, .inl (cI, 12, .inl fu2)), (f2, .inl (cI, 10, .inl ff2)), (g2, .inl (cI, 10, .inl fg2)), (m1, .inl (cI, 10, .inl fo_7)), (d1, .inl (cI, 10, .inl fo_10))] H := hP
  have hD : va_D A [(h0, .inr (8, [.ref tw, .ref lw, .ref st, .ref m1, .ref c1, .ref d1, .int (-1), .int idf, .int idt, .int (-1), .int fp, .int 0, .int ra, .int cl])), (st, .inr (4, [.ref u1, .ref f1, .ref g1, .int 0, .int 0, .int dr2])), (u1, .inl (cI, 12, .inl uo_2)), (f1, .inl (cI, 10, .inl fo_3)), (g1, .inl (cI, 10, .inl go_4)), (nw, .inr (4, [.ref u2, .ref f2, .ref g2, .int 0, .int 0, .int dr2])), (u2, .inl (cI, 12, .inl fu2)), (f2, .inl (cI, 10, .inl ff2)), (g2, .inl (cI, 10, .inl fg2)), (m1, .inl (cI, 10, .inl fo_7)), (d1, .inl (cI, 10, .inl fo_10))] := hD
  refine lv_aload_n hx hb dX8_begin_42 rfl (lv_at hl 0 rfl) ?_
  refine lv_iconst (v := 0) hx hb dX8_begin_43 (by decide) ?_
  refine va_put (D := D) (ci := 8) (v := .int 0) (ty := .int) (C := RX8) (T := TX8) (N := 14) hx hb htb itX8 tyX8 tyX8_ok nmX8 hown hK hP hD hS 0 rfl rfl 12 (by decide) (htb _ k_360) (fun _ h9 => h9) rfl (tyX8_ok 12 (by decide)) rfl rfl (Nat.le_of_ble_eq_true rfl) dX8_begin_44 (fun H locs hP hD hS => ?_)
  have hP : va_P D vwCl [(h0, .inr (8, [.ref tw, .ref lw, .ref st, .ref m1, .ref c1, .ref d1, .int (-1), .int idf, .int idt, .int (-1), .int fp, .int 0, .int 0, .int cl])), (st, .inr (4, [.ref u1, .ref f1, .ref g1, .int 0, .int 0, .int dr2])), (u1, .inl (cI, 12, .inl uo_2)), (f1, .inl (cI, 10, .inl fo_3)), (g1, .inl (cI, 10, .inl go_4)), (nw, .inr (4, [.ref u2, .ref f2, .ref g2, .int 0, .int 0, .int dr2])), (u2, .inl (cI, 12, .inl fu2)), (f2, .inl (cI, 10, .inl ff2)), (g2, .inl (cI, 10, .inl fg2)), (m1, .inl (cI, 10, .inl fo_7)), (d1, .inl (cI, 10, .inl fo_10))] H := hP
  have hD : va_D A [(h0, .inr (8, [.ref tw, .ref lw, .ref st, .ref m1, .ref c1, .ref d1, .int (-1), .int idf, .int idt, .int (-1), .int fp, .int 0, .int 0, .int cl])), (st, .inr (4, [.ref u1, .ref f1, .ref g1, .int 0, .int 0, .int dr2])), (u1, .inl (cI, 12, .inl uo_2)), (f1, .inl (cI, 10, .inl fo_3)), (g1, .inl (cI, 10, .inl go_4)), (nw, .inr (4, [.ref u2, .ref f2, .ref g2, .int 0, .int 0, .int dr2])), (u2, .inl (cI, 12, .inl fu2)), (f2, .inl (cI, 10, .inl ff2)), (g2, .inl (cI, 10, .inl fg2)), (m1, .inl (cI, 10, .inl fo_7)), (d1, .inl (cI, 10, .inl fo_10))] := hD
  refine lv_aload_n hx hb dX8_begin_47 rfl (lv_at hl 0 rfl) ?_
  refine lv_iconst (v := 0) hx hb dX8_begin_48 (by decide) ?_
  refine va_put (D := D) (ci := 8) (v := .int 0) (ty := .int) (C := RX8) (T := TX8) (N := 14) hx hb htb itX8 tyX8 tyX8_ok nmX8 hown hK hP hD hS 0 rfl rfl 13 (by decide) (htb _ k_362) (fun _ h9 => h9) rfl (tyX8_ok 13 (by decide)) rfl rfl (Nat.le_of_ble_eq_true rfl) dX8_begin_49 (fun H locs hP hD hS => ?_)
  have hP : va_P D vwCl [(h0, .inr (8, [.ref tw, .ref lw, .ref st, .ref m1, .ref c1, .ref d1, .int (-1), .int idf, .int idt, .int (-1), .int fp, .int 0, .int 0, .int 0])), (st, .inr (4, [.ref u1, .ref f1, .ref g1, .int 0, .int 0, .int dr2])), (u1, .inl (cI, 12, .inl uo_2)), (f1, .inl (cI, 10, .inl fo_3)), (g1, .inl (cI, 10, .inl go_4)), (nw, .inr (4, [.ref u2, .ref f2, .ref g2, .int 0, .int 0, .int dr2])), (u2, .inl (cI, 12, .inl fu2)), (f2, .inl (cI, 10, .inl ff2)), (g2, .inl (cI, 10, .inl fg2)), (m1, .inl (cI, 10, .inl fo_7)), (d1, .inl (cI, 10, .inl fo_10))] H := hP
  have hD : va_D A [(h0, .inr (8, [.ref tw, .ref lw, .ref st, .ref m1, .ref c1, .ref d1, .int (-1), .int idf, .int idt, .int (-1), .int fp, .int 0, .int 0, .int 0])), (st, .inr (4, [.ref u1, .ref f1, .ref g1, .int 0, .int 0, .int dr2])), (u1, .inl (cI, 12, .inl uo_2)), (f1, .inl (cI, 10, .inl fo_3)), (g1, .inl (cI, 10, .inl go_4)), (nw, .inr (4, [.ref u2, .ref f2, .ref g2, .int 0, .int 0, .int dr2])), (u2, .inl (cI, 12, .inl fu2)), (f2, .inl (cI, 10, .inl ff2)), (g2, .inl (cI, 10, .inl fg2)), (m1, .inl (cI, 10, .inl fo_7)), (d1, .inl (cI, 10, .inl fo_10))] := hD
  exact ret _ _ _ _ (uo_2, fo_3, go_4, fo_7, fo_10) dX8_begin_52 (⟨hw_5.1, hw_5.2.1, hw_5.2.2, hw_8, hw_11⟩) (hP.sub [0, 1, 2, 3, 4, 9, 10, 5, 6, 7, 8] rfl) (hD.sub [0, 1, 2, 3, 4, 9, 10, 5, 6, 7, 8] (by decide) rfl) hS

set_option maxRecDepth 100000 in
set_option maxHeartbeats 4000000 in
theorem c_X8_setIdle (l : Launch) (D : va_G) (cI cB : ClassId) (sz : Nat) (h0 : Nat) (tw : Nat) (lw : Nat) (st : Nat) (m1 : Nat) (c1 : Nat) (d1 : Nat) (idl : Int32) (idf : Int32) (idt : Int32) (fc : Int32) (fp : Int32) (mb : Int32) (ra : Int32) (cl : Int32) (a : Int32) (b : Int32) (k : Int32)  : MV (S := Unit) l D cI cB yX8_setIdle cX8_setIdle 4 (rm 0 0) [.ref h0, .int a, .int b, .int k] [(h0, .inr (8, [.ref tw, .ref lw, .ref st, .ref m1, .ref c1, .ref d1, .int idl, .int idf, .int idt, .int fc, .int fp, .int mb, .int ra, .int cl]))] sz (fun u => True) (fun u : Unit => [(h0, .inr (8, [.ref tw, .ref lw, .ref st, .ref m1, .ref c1, .ref d1, .int a, .int b, .int k, .int fc, .int fp, .int mb, .int ra, .int cl]))]) := by
  refine MV.of (by decide) (Nat.le_of_ble_eq_true rfl) ?_
  intro p e s m below meth c Q ls A X hin hN hP hK hD hA hl ret
  have hS : va_S A s.heap s.heap [] := va_S.rf
  obtain ⟨hx, hb, hml, hown, htb⟩ := id X
  have hl : lv_has ls 4 [(0, .ref h0), (1, .int a), (2, .int b), (3, .int k)] := hl
  refine lv_aload_n hx hb dX8_setIdle_0 rfl (lv_at hl 0 rfl) ?_
  refine lv_iload_n hx hb dX8_setIdle_1 rfl (lv_at hl 1 rfl) ?_
  refine va_put (D := D) (ci := 8) (v := .int a) (ty := .int) (C := RX8) (T := TX8) (N := 14) hx hb htb itX8 tyX8 tyX8_ok nmX8 hown hK hP hD hS 0 rfl rfl 6 (by decide) (htb _ k_354) (fun _ h9 => h9) rfl (tyX8_ok 6 (by decide)) rfl rfl (Nat.le_of_ble_eq_true rfl) dX8_setIdle_2 (fun H locs hP hD hS => ?_)
  have hP : va_P D vwCl [(h0, .inr (8, [.ref tw, .ref lw, .ref st, .ref m1, .ref c1, .ref d1, .int a, .int idf, .int idt, .int fc, .int fp, .int mb, .int ra, .int cl]))] H := hP
  have hD : va_D A [(h0, .inr (8, [.ref tw, .ref lw, .ref st, .ref m1, .ref c1, .ref d1, .int a, .int idf, .int idt, .int fc, .int fp, .int mb, .int ra, .int cl]))] := hD
  refine lv_aload_n hx hb dX8_setIdle_5 rfl (lv_at hl 0 rfl) ?_
  refine lv_iload_n hx hb dX8_setIdle_6 rfl (lv_at hl 2 rfl) ?_
  refine va_put (D := D) (ci := 8) (v := .int b) (ty := .int) (C := RX8) (T := TX8) (N := 14) hx hb htb itX8 tyX8 tyX8_ok nmX8 hown hK hP hD hS 0 rfl rfl 7 (by decide) (htb _ k_355) (fun _ h9 => h9) rfl (tyX8_ok 7 (by decide)) rfl rfl (Nat.le_of_ble_eq_true rfl) dX8_setIdle_7 (fun H locs hP hD hS => ?_)
  have hP : va_P D vwCl [(h0, .inr (8, [.ref tw, .ref lw, .ref st, .ref m1, .ref c1, .ref d1, .int a, .int b, .int idt, .int fc, .int fp, .int mb, .int ra, .int cl]))] H := hP
  have hD : va_D A [(h0, .inr (8, [.ref tw, .ref lw, .ref st, .ref m1, .ref c1, .ref d1, .int a, .int b, .int idt, .int fc, .int fp, .int mb, .int ra, .int cl]))] := hD
  refine lv_aload_n hx hb dX8_setIdle_10 rfl (lv_at hl 0 rfl) ?_
  refine lv_iload_n hx hb dX8_setIdle_11 rfl (lv_at hl 3 rfl) ?_
  refine va_put (D := D) (ci := 8) (v := .int k) (ty := .int) (C := RX8) (T := TX8) (N := 14) hx hb htb itX8 tyX8 tyX8_ok nmX8 hown hK hP hD hS 0 rfl rfl 8 (by decide) (htb _ k_356) (fun _ h9 => h9) rfl (tyX8_ok 8 (by decide)) rfl rfl (Nat.le_of_ble_eq_true rfl) dX8_setIdle_12 (fun H locs hP hD hS => ?_)
  have hP : va_P D vwCl [(h0, .inr (8, [.ref tw, .ref lw, .ref st, .ref m1, .ref c1, .ref d1, .int a, .int b, .int k, .int fc, .int fp, .int mb, .int ra, .int cl]))] H := hP
  have hD : va_D A [(h0, .inr (8, [.ref tw, .ref lw, .ref st, .ref m1, .ref c1, .ref d1, .int a, .int b, .int k, .int fc, .int fp, .int mb, .int ra, .int cl]))] := hD
  exact ret _ _ _ _ () dX8_setIdle_15 trivial (hP.sub [0] rfl) (hD.sub [0] (by decide) rfl) hS

set_option maxRecDepth 100000 in
set_option maxHeartbeats 4000000 in
theorem c_X8_setFront (l : Launch) (D : va_G) (cI cB : ClassId) (sz : Nat) (h0 : Nat) (tw : Nat) (lw : Nat) (st : Nat) (m1 : Nat) (c1 : Nat) (d1 : Nat) (idl : Int32) (idf : Int32) (idt : Int32) (fc : Int32) (fp : Int32) (mb : Int32) (ra : Int32) (cl : Int32) (a : Int32) (b : Int32)  : MV (S := Unit) l D cI cB yX8_setFront cX8_setFront 3 (rm 0 0) [.ref h0, .int a, .int b] [(h0, .inr (8, [.ref tw, .ref lw, .ref st, .ref m1, .ref c1, .ref d1, .int idl, .int idf, .int idt, .int fc, .int fp, .int mb, .int ra, .int cl]))] sz (fun u => True) (fun u : Unit => [(h0, .inr (8, [.ref tw, .ref lw, .ref st, .ref m1, .ref c1, .ref d1, .int idl, .int idf, .int idt, .int a, .int b, .int mb, .int ra, .int cl]))]) := by
  refine MV.of (by decide) (Nat.le_of_ble_eq_true rfl) ?_
  intro p e s m below meth c Q ls A X hin hN hP hK hD hA hl ret
  have hS : va_S A s.heap s.heap [] := va_S.rf
  obtain ⟨hx, hb, hml, hown, htb⟩ := id X
  have hl : lv_has ls 3 [(0, .ref h0), (1, .int a), (2, .int b)] := hl
  refine lv_aload_n hx hb dX8_setFront_0 rfl (lv_at hl 0 rfl) ?_
  refine lv_iload_n hx hb dX8_setFront_1 rfl (lv_at hl 1 rfl) ?_
  refine va_put (D := D) (ci := 8) (v := .int a) (ty := .int) (C := RX8) (T := TX8) (N := 14) hx hb htb itX8 tyX8 tyX8_ok nmX8 hown hK hP hD hS 0 rfl rfl 9 (by decide) (htb _ k_357) (fun _ h9 => h9) rfl (tyX8_ok 9 (by decide)) rfl rfl (Nat.le_of_ble_eq_true rfl) dX8_setFront_2 (fun H locs hP hD hS => ?_)
  have hP : va_P D vwCl [(h0, .inr (8, [.ref tw, .ref lw, .ref st, .ref m1, .ref c1, .ref d1, .int idl, .int idf, .int idt, .int a, .int fp, .int mb, .int ra, .int cl]))] H := hP
  have hD : va_D A [(h0, .inr (8, [.ref tw, .ref lw, .ref st, .ref m1, .ref c1, .ref d1, .int idl, .int idf, .int idt, .int a, .int fp, .int mb, .int ra, .int cl]))] := hD
  refine lv_aload_n hx hb dX8_setFront_5 rfl (lv_at hl 0 rfl) ?_
  refine lv_iload_n hx hb dX8_setFront_6 rfl (lv_at hl 2 rfl) ?_
  refine va_put (D := D) (ci := 8) (v := .int b) (ty := .int) (C := RX8) (T := TX8) (N := 14) hx hb htb itX8 tyX8 tyX8_ok nmX8 hown hK hP hD hS 0 rfl rfl 10 (by decide) (htb _ k_358) (fun _ h9 => h9) rfl (tyX8_ok 10 (by decide)) rfl rfl (Nat.le_of_ble_eq_true rfl) dX8_setFront_7 (fun H locs hP hD hS => ?_)
  have hP : va_P D vwCl [(h0, .inr (8, [.ref tw, .ref lw, .ref st, .ref m1, .ref c1, .ref d1, .int idl, .int idf, .int idt, .int a, .int b, .int mb, .int ra, .int cl]))] H := hP
  have hD : va_D A [(h0, .inr (8, [.ref tw, .ref lw, .ref st, .ref m1, .ref c1, .ref d1, .int idl, .int idf, .int idt, .int a, .int b, .int mb, .int ra, .int cl]))] := hD
  exact ret _ _ _ _ () dX8_setFront_10 trivial (hP.sub [0] rfl) (hD.sub [0] (by decide) rfl) hS

set_option maxRecDepth 100000 in
set_option maxHeartbeats 4000000 in
theorem c_X8_goThroughDay (l : Launch) (D : va_G) (cI cB : ClassId) (sz : Nat) (h0 : Nat) (tw : Nat) (lw : Nat) (st : Nat) (m1 : Nat) (c1 : Nat) (d1 : Nat) (idl : Int32) (idf : Int32) (idt : Int32) (fc : Int32) (fp : Int32) (l1 : Nat) (l2 : Nat) (l3 : Nat) (l4 : Nat) (l5 : Nat) (l6 : Nat) (l7 : Nat) (lz : Int32) (lc : Int32) (t1 : Nat) (t2 : Nat) (t3 : Nat) (t4 : Nat) (u1 : Nat) (f1 : Nat) (g1 : Nat) (i0 : Nat) (k : Nat) (fl : Nat → Int32) (ff : Nat → Int32) (fg : Nat → Int32) (fc1 : Nat → Int32) (hi0 : i0 < 9999) (hk : k < 65536) (hg : ∀ j, j < 10 → fg j = -2) : MI (S := ((Nat) × (Nat → Int32) × (Nat → Int32))) l D cI cB yX8_goThroughDay cX8_goThroughDay 6 .int (rm 2 43) [.ref h0] [(h0, .inr (8, [.ref tw, .ref lw, .ref st, .ref m1, .ref c1, .ref d1, .int idl, .int idf, .int idt, .int fc, .int fp, .int 0, .int 0, .int (nI i0)])), (tw, .inr (7, [.int 0, .int 0, .int 0, .ref t1, .ref t2, .ref t3, .ref t4])), (lw, .inr (1, [.ref l1, .ref l2, .ref l3, .ref l4, .ref l5, .ref l6, .ref l7, .int lz, .int lc])), (l6, .inl (cI, 8, .inl fl)), (st, .inr (4, [.ref u1, .ref f1, .ref g1, .int 0, .int (nI i0), .int (nI k)])), (f1, .inl (cI, 10, .inl ff)), (g1, .inl (cI, 10, .inl fg)), (c1, .inl (cI, 10, .inl fc1))] sz (fun r u => r = 0 ∧ u.1 < 65536) (fun u : ((Nat) × (Nat → Int32) × (Nat → Int32)) => [(h0, .inr (8, [.ref tw, .ref lw, .ref st, .ref m1, .ref c1, .ref d1, .int idl, .int idf, .int idt, .int fc, .int fp, .int 0, .int 0, .int (nI (i0 + 1))])), (tw, .inr (7, [.int 0, .int 0, .int 0, .ref t1, .ref t2, .ref t3, .ref t4])), (lw, .inr (1, [.ref l1, .ref l2, .ref l3, .ref l4, .ref l5, .ref l6, .ref l7, .int lz, .int lc])), (l6, .inl (cI, 8, .inl u.2.1)), (st, .inr (4, [.ref u1, .ref f1, .ref g1, .int 0, .int (nI (i0 + 1)), .int (nI u.1)])), (f1, .inl (cI, 10, .inl ff)), (g1, .inl (cI, 10, .inl fg)), (c1, .inl (cI, 10, .inl u.2.2))]) := by
  refine MI.of (by decide) (Nat.le_of_ble_eq_true rfl) ?_
  intro p e s m below meth c Q ls A X hin hN hP hK hD hA hl ret
  have hS : va_S A s.heap s.heap [] := va_S.rf
  obtain ⟨hx, hb, hml, hown, htb⟩ := id X
  have hl : lv_has ls 6 [(0, .ref h0)] := hl
  refine lv_aload_n hx hb dX8_goThroughDay_0 rfl (lv_at hl 0 rfl) ?_
  refine va_get (D := D) (ci := 8) (v := .ref st) (C := RX8) (T := TX8) (N := 14) hx hb htb itX8 hown hK hP 0 rfl rfl 2 (by decide) (htb _ k_347) (fun _ h9 => h9) rfl dX8_goThroughDay_1 ?_
  refine va_getN (D := D) (ci := 4) (v := .int (nI i0)) (C := RX4) (T := TX4) (N := 6) hx hb htb itX4 hown hK hP 4 rfl rfl 4 (by decide) (va_Nw.use rfl (hN _ n_200 rfl)) (fun _ h9 => h9) rfl dX8_goThroughDay_4 ?_
  refine lv_sipush (v := 9999) hx hb dX8_goThroughDay_7 (by decide) ?_
  refine lv_icmp_lt (tgt := 15) hx hb dX8_goThroughDay_10 (by decide) (fun _ => ?_) (fun c_10 => absurd (nI_lt hi0 (by decide)) c_10)
  refine lv_aload_n hx hb dX8_goThroughDay_15 rfl (lv_at hl 0 rfl) ?_
  refine va_get (D := D) (ci := 8) (v := .ref st) (C := RX8) (T := TX8) (N := 14) hx hb htb itX8 hown hK hP 0 rfl rfl 2 (by decide) (htb _ k_347) (fun _ h9 => h9) rfl dX8_goThroughDay_16 ?_
  refine lv_sipush (v := 25173) hx hb dX8_goThroughDay_19 (by decide) ?_
  refine lv_aload_n hx hb dX8_goThroughDay_22 rfl (lv_at hl 0 rfl) ?_
  refine va_get (D := D) (ci := 8) (v := .ref st) (C := RX8) (T := TX8) (N := 14) hx hb htb itX8 hown hK hP 0 rfl rfl 2 (by decide) (htb _ k_347) (fun _ h9 => h9) rfl dX8_goThroughDay_23 ?_
  refine va_getN (D := D) (ci := 4) (v := .int (nI k)) (C := RX4) (T := TX4) (N := 6) hx hb htb itX4 hown hK hP 4 rfl rfl 5 (by decide) (va_Nw.use rfl (hN _ n_203 rfl)) (fun _ h9 => h9) rfl dX8_goThroughDay_26 ?_
  refine lv_imul hx hb dX8_goThroughDay_29 ?_
  refine lv_sipush (v := 13849) hx hb dX8_goThroughDay_30 (by decide) ?_
  refine lv_iadd hx hb dX8_goThroughDay_33 ?_
  refine lv_ldc (v := 65536) hx hb hown (htb _ k_792) dX8_goThroughDay_34 ?_
  refine lv_irem hx hb dX8_goThroughDay_36 (by decide) ?_
  obtain ⟨k2, hk2, ek2⟩ := drw hk
  refine tv (z := (nI k2)) (ek2) ?_
  refine va_putN (D := D) (ci := 4) (v := .int (nI k2)) (ty := .int) (C := RX4) (T := TX4) (N := 6) hx hb htb itX4 tyX4 tyX4_ok nmX4 hown hK hP hD hS 4 rfl rfl 5 (by decide) (va_Nw.use rfl (hN _ n_203 rfl)) (fun _ h9 => h9) rfl (tyX4_ok 5 (by decide)) rfl rfl (Nat.le_of_ble_eq_true rfl) dX8_goThroughDay_37 (fun H locs hP hD hS => ?_)
  have hP : va_P D vwCl [(h0, .inr (8, [.ref tw, .ref lw, .ref st, .ref m1, .ref c1, .ref d1, .int idl, .int idf, .int idt, .int fc, .int fp, .int 0, .int 0, .int (nI i0)])), (tw, .inr (7, [.int 0, .int 0, .int 0, .ref t1, .ref t2, .ref t3, .ref t4])), (lw, .inr (1, [.ref l1, .ref l2, .ref l3, .ref l4, .ref l5, .ref l6, .ref l7, .int lz, .int lc])), (l6, .inl (cI, 8, .inl fl)), (st, .inr (4, [.ref u1, .ref f1, .ref g1, .int 0, .int (nI i0), .int (nI k2)])), (f1, .inl (cI, 10, .inl ff)), (g1, .inl (cI, 10, .inl fg)), (c1, .inl (cI, 10, .inl fc1))] H := hP
  have hD : va_D A [(h0, .inr (8, [.ref tw, .ref lw, .ref st, .ref m1, .ref c1, .ref d1, .int idl, .int idf, .int idt, .int fc, .int fp, .int 0, .int 0, .int (nI i0)])), (tw, .inr (7, [.int 0, .int 0, .int 0, .ref t1, .ref t2, .ref t3, .ref t4])), (lw, .inr (1, [.ref l1, .ref l2, .ref l3, .ref l4, .ref l5, .ref l6, .ref l7, .int lz, .int lc])), (l6, .inl (cI, 8, .inl fl)), (st, .inr (4, [.ref u1, .ref f1, .ref g1, .int 0, .int (nI i0), .int (nI k2)])), (f1, .inl (cI, 10, .inl ff)), (g1, .inl (cI, 10, .inl fg)), (c1, .inl (cI, 10, .inl fc1))] := hD
  refine lv_aload_n hx hb dX8_goThroughDay_40 rfl (lv_at hl 0 rfl) ?_
  refine va_get (D := D) (ci := 8) (v := .ref st) (C := RX8) (T := TX8) (N := 14) hx hb htb itX8 hown hK hP 0 rfl rfl 2 (by decide) (htb _ k_347) (fun _ h9 => h9) rfl dX8_goThroughDay_41 ?_
  refine va_getN (D := D) (ci := 4) (v := .int (nI k2)) (C := RX4) (T := TX4) (N := 6) hx hb htb itX4 hown hK hP 4 rfl rfl 5 (by decide) (va_Nw.use rfl (hN _ n_203 rfl)) (fun _ h9 => h9) rfl dX8_goThroughDay_44 ?_
  refine lv_bipush (v := 10) hx hb dX8_goThroughDay_47 (by decide) ?_
  refine lv_irem hx hb dX8_goThroughDay_49 (by decide) ?_
  obtain ⟨k3, hk3, ek3⟩ := r10 hk2
  refine tv (z := (nI k3)) (ek3) ?_
  refine lv_aload_n hx hb dX8_goThroughDay_50 rfl (lv_at hl 0 rfl) ?_
  refine va_get (D := D) (ci := 8) (v := .ref tw) (C := RX8) (T := TX8) (N := 14) hx hb htb itX8 hown hK hP 0 rfl rfl 0 (by decide) (htb _ k_345) (fun _ h9 => h9) rfl dX8_goThroughDay_51 ?_
  refine va_getN (D := D) (ci := 7) (v := .int 0) (C := RX7) (T := TX7) (N := 7) hx hb htb itX7 hown hK hP 1 rfl rfl 2 (by decide) (va_Nw.use rfl (hN _ n_150 rfl)) (fun _ h9 => h9) rfl dX8_goThroughDay_54 ?_
  refine lv_icmp_ge (tgt := 64) hx hb dX8_goThroughDay_57 (by decide) (fun _ => ?_) (fun c_57 => absurd (nI_pos' (by omega)) c_57)
  refine lv_iconst (v := 0) hx hb dX8_goThroughDay_64 (by decide) ?_
  refine lv_istore_n (lv' := [(1, .int 0), (0, .ref h0)]) hx hb dX8_goThroughDay_65 rfl hl (by decide) rfl (fun ls hl => ?_)
  refine lv_aload_n hx hb dX8_goThroughDay_66 rfl (lv_at hl 1 rfl) ?_
  refine va_get (D := D) (ci := 8) (v := .ref st) (C := RX8) (T := TX8) (N := 14) hx hb htb itX8 hown hK hP 0 rfl rfl 2 (by decide) (htb _ k_347) (fun _ h9 => h9) rfl dX8_goThroughDay_67 ?_
  refine cVR (As := []) (rest := []) (n := 0) (ci := 4) (q0 := 0) X hN hK hP (c_X4_awayBits l D cI cB st u1 f1 g1 0 (nI i0) (nI k2) ff fg hg (nI_pos' (by omega))) (gV k_793 k_794 k_795 k_95 k_796) (by decide +kernel) ⟨Nat.le_of_ble_eq_true rfl, Nat.le_of_ble_eq_true rfl⟩ ⟨rfl, rfl⟩ [4, 5, 6] rfl rfl rfl rfl rfl rfl hl.1 (Nat.le_of_ble_eq_true rfl) dX8_goThroughDay_70 ⟨Nat.le_of_ble_eq_true rfl, Nat.le_of_ble_eq_true rfl⟩ (fun r_1 hr_1 => ?_)
  subst hr_1
  refine lv_istore_n (lv' := [(2, .int 0), (1, .int 0), (0, .ref h0)]) hx hb dX8_goThroughDay_73 rfl hl (by decide) rfl (fun ls hl => ?_)
  refine lv_aload_n hx hb dX8_goThroughDay_74 rfl (lv_at hl 2 rfl) ?_
  refine va_get (D := D) (ci := 8) (v := .ref lw) (C := RX8) (T := TX8) (N := 14) hx hb htb itX8 hown hK hP 0 rfl rfl 1 (by decide) (htb _ k_346) (fun _ h9 => h9) rfl dX8_goThroughDay_75 ?_
  refine lv_aload_n hx hb dX8_goThroughDay_78 rfl (lv_at hl 2 rfl) ?_
  refine va_get (D := D) (ci := 8) (v := .ref st) (C := RX8) (T := TX8) (N := 14) hx hb htb itX8 hown hK hP 0 rfl rfl 2 (by decide) (htb _ k_347) (fun _ h9 => h9) rfl dX8_goThroughDay_79 ?_
  refine va_getN (D := D) (ci := 4) (v := .int (nI i0)) (C := RX4) (T := TX4) (N := 6) hx hb htb itX4 hown hK hP 4 rfl rfl 4 (by decide) (va_Nw.use rfl (hN _ n_200 rfl)) (fun _ h9 => h9) rfl dX8_goThroughDay_82 ?_
  refine lv_iload_n hx hb dX8_goThroughDay_85 rfl (lv_at hl 1 rfl) ?_
  refine lv_if_eq (tgt := 93) hx hb dX8_goThroughDay_86 (by decide) (fun _ => ?_) (fun c_86 => absurd (by decide) c_86)
  refine lv_iconst (v := 0) hx hb dX8_goThroughDay_93 (by decide) ?_
  refine lv_iload_n hx hb dX8_goThroughDay_94 rfl (lv_at hl 0 rfl) ?_
  refine cSR (As := [.int 0]) (rest := [.int 0, .int (nI i0), .ref lw]) (n := 1) X hN hK hP (c_J6_bitCount_0f7a4 l D cI cB 0) k_801 k_755 k_111 k_756 (by decide +kernel) ⟨Nat.le_of_ble_eq_true rfl, Nat.le_of_ble_eq_true rfl⟩ ⟨rfl, rfl⟩ [] rfl rfl rfl hl.1 (Nat.le_of_ble_eq_true rfl) dX8_goThroughDay_95 ⟨Nat.le_of_ble_eq_true rfl, Nat.le_of_ble_eq_true rfl⟩ (fun r_2 hr_2 => ?_)
  refine cVV (As := [.int (nI i0), .int 0, .int r_2]) (rest := []) (n := 3) (ci := 1) (q0 := 0) (wr := [(h0, .inr (8, [.ref tw, .ref lw, .ref st, .ref m1, .ref c1, .ref d1, .int idl, .int idf, .int idt, .int fc, .int fp, .int 0, .int 0, .int (nI i0)])), (tw, .inr (7, [.int 0, .int 0, .int 0, .ref t1, .ref t2, .ref t3, .ref t4])), (st, .inr (4, [.ref u1, .ref f1, .ref g1, .int 0, .int (nI i0), .int (nI k2)])), (f1, .inl (cI, 10, .inl ff)), (g1, .inl (cI, 10, .inl fg)), (c1, .inl (cI, 10, .inl fc1))]) X hN hK hP hD hS hA (c_X1_setDay l D cI cB _ lw l1 l2 l3 l4 l5 l6 l7 lz lc (nI i0) 0 r_2 fl) (gV k_802 k_803 k_804 k_97 k_805) (by decide +kernel) ⟨Nat.le_of_ble_eq_true rfl, Nat.le_of_ble_eq_true rfl⟩ ⟨rfl, rfl⟩ [2, 3] [0, 1, 4, 5, 6, 7] rfl rfl (by decide) (by decide) rfl rfl rfl rfl rfl hl.1 (Nat.le_of_ble_eq_true rfl) dX8_goThroughDay_98 ⟨Nat.le_of_ble_eq_true rfl, Nat.le_of_ble_eq_true rfl⟩ (fun u H locs hw_5 hP hD hS => ?_)
  obtain ⟨lo_4, rfl⟩ : ∃ z, z = u := ⟨_, rfl⟩
  try dsimp only at hw_5
  have hP : va_P D vwCl [(h0, .inr (8, [.ref tw, .ref lw, .ref st, .ref m1, .ref c1, .ref d1, .int idl, .int idf, .int idt, .int fc, .int fp, .int 0, .int 0, .int (nI i0)])), (tw, .inr (7, [.int 0, .int 0, .int 0, .ref t1, .ref t2, .ref t3, .ref t4])), (st, .inr (4, [.ref u1, .ref f1, .ref g1, .int 0, .int (nI i0), .int (nI k2)])), (f1, .inl (cI, 10, .inl ff)), (g1, .inl (cI, 10, .inl fg)), (c1, .inl (cI, 10, .inl fc1)), (lw, .inr (1, [.ref l1, .ref l2, .ref l3, .ref l4, .ref l5, .ref l6, .ref l7, .int lz, .int lc])), (l6, .inl (cI, 8, .inl lo_4))] H := hP
  have hD : va_D A [(h0, .inr (8, [.ref tw, .ref lw, .ref st, .ref m1, .ref c1, .ref d1, .int idl, .int idf, .int idt, .int fc, .int fp, .int 0, .int 0, .int (nI i0)])), (tw, .inr (7, [.int 0, .int 0, .int 0, .ref t1, .ref t2, .ref t3, .ref t4])), (st, .inr (4, [.ref u1, .ref f1, .ref g1, .int 0, .int (nI i0), .int (nI k2)])), (f1, .inl (cI, 10, .inl ff)), (g1, .inl (cI, 10, .inl fg)), (c1, .inl (cI, 10, .inl fc1)), (lw, .inr (1, [.ref l1, .ref l2, .ref l3, .ref l4, .ref l5, .ref l6, .ref l7, .int lz, .int lc])), (l6, .inl (cI, 8, .inl lo_4))] := hD
  refine lv_aload_n hx hb dX8_goThroughDay_101 rfl (lv_at hl 2 rfl) ?_
  refine va_get (D := D) (ci := 8) (v := .ref tw) (C := RX8) (T := TX8) (N := 14) hx hb htb itX8 hown hK hP 0 rfl rfl 0 (by decide) (htb _ k_345) (fun _ h9 => h9) rfl dX8_goThroughDay_102 ?_
  refine va_getN (D := D) (ci := 7) (v := .int 0) (C := RX7) (T := TX7) (N := 7) hx hb htb itX7 hown hK hP 1 rfl rfl 0 (by decide) (va_Nw.use rfl (hN _ n_145 rfl)) (fun _ h9 => h9) rfl dX8_goThroughDay_105 ?_
  refine lv_iload_n hx hb dX8_goThroughDay_108 rfl (lv_at hl 0 rfl) ?_
  refine lv_iconst (v := (-1)) hx hb dX8_goThroughDay_109 (by decide) ?_
  refine lv_ixor hx hb dX8_goThroughDay_110 ?_
  refine tv (z := (-1)) (by decide) ?_
  refine lv_iand hx hb dX8_goThroughDay_111 ?_
  refine tv (z := 0) (by decide) ?_
  refine lv_istore_n (lv' := [(3, .int 0), (2, .int 0), (1, .int 0), (0, .ref h0)]) hx hb dX8_goThroughDay_112 rfl hl (by decide) rfl (fun ls hl => ?_)
  refine lv_iconst (v := 0) hx hb dX8_goThroughDay_113 (by decide) ?_
  refine lv_istore (lv' := [(4, .int 0), (3, .int 0), (2, .int 0), (1, .int 0), (0, .ref h0)]) hx hb dX8_goThroughDay_114 hl (by decide) rfl (fun ls hl => ?_)
  have loop_116 : ∀ (n i : Nat) (fa : Nat → Int32), n + i = 10 → ∀ (H : Heap) (locs : List Loc), va_P D vwCl [(h0, .inr (8, [.ref tw, .ref lw, .ref st, .ref m1, .ref c1, .ref d1, .int idl, .int idf, .int idt, .int fc, .int fp, .int 0, .int 0, .int (nI i0)])), (tw, .inr (7, [.int 0, .int 0, .int 0, .ref t1, .ref t2, .ref t3, .ref t4])), (st, .inr (4, [.ref u1, .ref f1, .ref g1, .int 0, .int (nI i0), .int (nI k2)])), (f1, .inl (cI, 10, .inl ff)), (g1, .inl (cI, 10, .inl fg)), (c1, .inl (cI, 10, .inl fa)), (lw, .inr (1, [.ref l1, .ref l2, .ref l3, .ref l4, .ref l5, .ref l6, .ref l7, .int lz, .int lc])), (l6, .inl (cI, 8, .inl lo_4))] H → va_D A [(h0, .inr (8, [.ref tw, .ref lw, .ref st, .ref m1, .ref c1, .ref d1, .int idl, .int idf, .int idt, .int fc, .int fp, .int 0, .int 0, .int (nI i0)])), (tw, .inr (7, [.int 0, .int 0, .int 0, .ref t1, .ref t2, .ref t3, .ref t4])), (st, .inr (4, [.ref u1, .ref f1, .ref g1, .int 0, .int (nI i0), .int (nI k2)])), (f1, .inl (cI, 10, .inl ff)), (g1, .inl (cI, 10, .inl fg)), (c1, .inl (cI, 10, .inl fa)), (lw, .inr (1, [.ref l1, .ref l2, .ref l3, .ref l4, .ref l5, .ref l6, .ref l7, .int lz, .int lc])), (l6, .inl (cI, 8, .inl lo_4))] → va_S A s.heap H locs → ∀ (ls : Array Slot), lv_has ls 6 [(0, .ref h0), (1, .int 0), (2, .int 0), (3, .int 0), (4, .int (nI i))] → W p l e (rm 2 43) s m ([.ref h0] : List Value).toArray below meth c H locs 0 0 Q (F0 m 116 ls []) := by
    intro n
    induction n with
    | zero =>
      intro i fa hni H locs hP hD hS ls hl
      have hi : i = 10 := by omega
      subst hi
      refine lv_iload hx hb dX8_goThroughDay_116 (lv_at hl 4 rfl) ?_
      refine lv_bipush (v := 10) hx hb dX8_goThroughDay_118 (by decide) ?_
      refine lv_icmp_ge (tgt := 155) hx hb dX8_goThroughDay_120 (by decide) (fun _ => ?_) (fun c_120 => absurd (by decide) c_120)
      refine lv_iconst (v := 0) hx hb dX8_goThroughDay_155 (by decide) ?_
      refine lv_istore (lv' := [(4, .int 0), (0, .ref h0), (1, .int 0), (2, .int 0), (3, .int 0)]) hx hb dX8_goThroughDay_156 hl (by decide) rfl (fun ls hl => ?_)
      refine lv_iconst (v := 0) hx hb dX8_goThroughDay_158 (by decide) ?_
      refine lv_istore (lv' := [(5, .int 0), (4, .int 0), (0, .ref h0), (1, .int 0), (2, .int 0), (3, .int 0)]) hx hb dX8_goThroughDay_159 hl (by decide) rfl (fun ls hl => ?_)
      have loop_161 : ∀ (n i : Nat), n + i = 12 → ∀ (H : Heap) (locs : List Loc), va_P D vwCl [(h0, .inr (8, [.ref tw, .ref lw, .ref st, .ref m1, .ref c1, .ref d1, .int idl, .int idf, .int idt, .int fc, .int fp, .int 0, .int 0, .int (nI i0)])), (tw, .inr (7, [.int 0, .int 0, .int 0, .ref t1, .ref t2, .ref t3, .ref t4])), (st, .inr (4, [.ref u1, .ref f1, .ref g1, .int 0, .int (nI i0), .int (nI k2)])), (f1, .inl (cI, 10, .inl ff)), (g1, .inl (cI, 10, .inl fg)), (c1, .inl (cI, 10, .inl fa)), (lw, .inr (1, [.ref l1, .ref l2, .ref l3, .ref l4, .ref l5, .ref l6, .ref l7, .int lz, .int lc])), (l6, .inl (cI, 8, .inl lo_4))] H → va_D A [(h0, .inr (8, [.ref tw, .ref lw, .ref st, .ref m1, .ref c1, .ref d1, .int idl, .int idf, .int idt, .int fc, .int fp, .int 0, .int 0, .int (nI i0)])), (tw, .inr (7, [.int 0, .int 0, .int 0, .ref t1, .ref t2, .ref t3, .ref t4])), (st, .inr (4, [.ref u1, .ref f1, .ref g1, .int 0, .int (nI i0), .int (nI k2)])), (f1, .inl (cI, 10, .inl ff)), (g1, .inl (cI, 10, .inl fg)), (c1, .inl (cI, 10, .inl fa)), (lw, .inr (1, [.ref l1, .ref l2, .ref l3, .ref l4, .ref l5, .ref l6, .ref l7, .int lz, .int lc])), (l6, .inl (cI, 8, .inl lo_4))] → va_S A s.heap H locs → ∀ (ls : Array Slot), lv_has ls 6 [(0, .ref h0), (1, .int 0), (2, .int 0), (3, .int 0), (4, .int 0), (5, .int (nI i))] → W p l e (rm 2 43) s m ([.ref h0] : List Value).toArray below meth c H locs 0 0 Q (F0 m 161 ls []) := by
        intro n
        induction n with
        | zero =>
          intro i hni H locs hP hD hS ls hl
          have hi : i = 12 := by omega
          subst hi
          refine lv_iload hx hb dX8_goThroughDay_161 (lv_at hl 5 rfl) ?_
          refine lv_bipush (v := 12) hx hb dX8_goThroughDay_163 (by decide) ?_
          refine lv_icmp_ge (tgt := 204) hx hb dX8_goThroughDay_165 (by decide) (fun _ => ?_) (fun c_165 => absurd (by decide) c_165)
          refine lv_aload_n hx hb dX8_goThroughDay_204 rfl (lv_at hl 0 rfl) ?_
          refine lv_dup hx hb dX8_goThroughDay_205 rfl ?_
          refine va_get (D := D) (ci := 8) (v := .int 0) (C := RX8) (T := TX8) (N := 14) hx hb htb itX8 hown hK hP 0 rfl rfl 12 (by decide) (htb _ k_360) (fun _ h9 => h9) rfl dX8_goThroughDay_206 ?_
          refine lv_iload_n hx hb dX8_goThroughDay_209 rfl (lv_at hl 1 rfl) ?_
          refine lv_if_eq (tgt := 217) hx hb dX8_goThroughDay_210 (by decide) (fun _ => ?_) (fun c_210 => absurd (by decide) c_210)
          refine lv_iconst (v := 0) hx hb dX8_goThroughDay_217 (by decide) ?_
          refine lv_iadd hx hb dX8_goThroughDay_218 ?_
          refine tv (z := 0) (by decide) ?_
          refine va_put (D := D) (ci := 8) (v := .int 0) (ty := .int) (C := RX8) (T := TX8) (N := 14) hx hb htb itX8 tyX8 tyX8_ok nmX8 hown hK hP hD hS 0 rfl rfl 12 (by decide) (htb _ k_360) (fun _ h9 => h9) rfl (tyX8_ok 12 (by decide)) rfl rfl (Nat.le_of_ble_eq_true rfl) dX8_goThroughDay_219 (fun H locs hP hD hS => ?_)
          have hP : va_P D vwCl [(h0, .inr (8, [.ref tw, .ref lw, .ref st, .ref m1, .ref c1, .ref d1, .int idl, .int idf, .int idt, .int fc, .int fp, .int 0, .int 0, .int (nI i0)])), (tw, .inr (7, [.int 0, .int 0, .int 0, .ref t1, .ref t2, .ref t3, .ref t4])), (st, .inr (4, [.ref u1, .ref f1, .ref g1, .int 0, .int (nI i0), .int (nI k2)])), (f1, .inl (cI, 10, .inl ff)), (g1, .inl (cI, 10, .inl fg)), (c1, .inl (cI, 10, .inl fa)), (lw, .inr (1, [.ref l1, .ref l2, .ref l3, .ref l4, .ref l5, .ref l6, .ref l7, .int lz, .int lc])), (l6, .inl (cI, 8, .inl lo_4))] H := hP
          have hD : va_D A [(h0, .inr (8, [.ref tw, .ref lw, .ref st, .ref m1, .ref c1, .ref d1, .int idl, .int idf, .int idt, .int fc, .int fp, .int 0, .int 0, .int (nI i0)])), (tw, .inr (7, [.int 0, .int 0, .int 0, .ref t1, .ref t2, .ref t3, .ref t4])), (st, .inr (4, [.ref u1, .ref f1, .ref g1, .int 0, .int (nI i0), .int (nI k2)])), (f1, .inl (cI, 10, .inl ff)), (g1, .inl (cI, 10, .inl fg)), (c1, .inl (cI, 10, .inl fa)), (lw, .inr (1, [.ref l1, .ref l2, .ref l3, .ref l4, .ref l5, .ref l6, .ref l7, .int lz, .int lc])), (l6, .inl (cI, 8, .inl lo_4))] := hD
          refine lv_aload_n hx hb dX8_goThroughDay_222 rfl (lv_at hl 0 rfl) ?_
          refine lv_dup hx hb dX8_goThroughDay_223 rfl ?_
          refine va_get (D := D) (ci := 8) (v := .int (nI i0)) (C := RX8) (T := TX8) (N := 14) hx hb htb itX8 hown hK hP 0 rfl rfl 13 (by decide) (htb _ k_362) (fun _ h9 => h9) rfl dX8_goThroughDay_224 ?_
          refine lv_iload hx hb dX8_goThroughDay_227 (lv_at hl 4 rfl) ?_
          refine lv_if_ne (tgt := 236) hx hb dX8_goThroughDay_229 (by decide) (fun c_229 => absurd (by decide) c_229) (fun _ => ?_)
          refine lv_iconst (v := 1) hx hb dX8_goThroughDay_232 (by decide) ?_
          refine lv_goto (tgt := 237) hx hb dX8_goThroughDay_233 (by decide) ?_
          refine lv_iadd hx hb dX8_goThroughDay_237 ?_
          refine tv (z := (nI (i0 + 1))) (nI_1 i0) ?_
          refine va_put (D := D) (ci := 8) (v := .int (nI (i0 + 1))) (ty := .int) (C := RX8) (T := TX8) (N := 14) hx hb htb itX8 tyX8 tyX8_ok nmX8 hown hK hP hD hS 0 rfl rfl 13 (by decide) (htb _ k_362) (fun _ h9 => h9) rfl (tyX8_ok 13 (by decide)) rfl rfl (Nat.le_of_ble_eq_true rfl) dX8_goThroughDay_238 (fun H locs hP hD hS => ?_)
          have hP : va_P D vwCl [(h0, .inr (8, [.ref tw, .ref lw, .ref st, .ref m1, .ref c1, .ref d1, .int idl, .int idf, .int idt, .int fc, .int fp, .int 0, .int 0, .int (nI (i0 + 1))])), (tw, .inr (7, [.int 0, .int 0, .int 0, .ref t1, .ref t2, .ref t3, .ref t4])), (st, .inr (4, [.ref u1, .ref f1, .ref g1, .int 0, .int (nI i0), .int (nI k2)])), (f1, .inl (cI, 10, .inl ff)), (g1, .inl (cI, 10, .inl fg)), (c1, .inl (cI, 10, .inl fa)), (lw, .inr (1, [.ref l1, .ref l2, .ref l3, .ref l4, .ref l5, .ref l6, .ref l7, .int lz, .int lc])), (l6, .inl (cI, 8, .inl lo_4))] H := hP
          have hD : va_D A [(h0, .inr (8, [.ref tw, .ref lw, .ref st, .ref m1, .ref c1, .ref d1, .int idl, .int idf, .int idt, .int fc, .int fp, .int 0, .int 0, .int (nI (i0 + 1))])), (tw, .inr (7, [.int 0, .int 0, .int 0, .ref t1, .ref t2, .ref t3, .ref t4])), (st, .inr (4, [.ref u1, .ref f1, .ref g1, .int 0, .int (nI i0), .int (nI k2)])), (f1, .inl (cI, 10, .inl ff)), (g1, .inl (cI, 10, .inl fg)), (c1, .inl (cI, 10, .inl fa)), (lw, .inr (1, [.ref l1, .ref l2, .ref l3, .ref l4, .ref l5, .ref l6, .ref l7, .int lz, .int lc])), (l6, .inl (cI, 8, .inl lo_4))] := hD
          refine lv_aload_n hx hb dX8_goThroughDay_241 rfl (lv_at hl 0 rfl) ?_
          refine va_get (D := D) (ci := 8) (v := .ref st) (C := RX8) (T := TX8) (N := 14) hx hb htb itX8 hown hK hP 0 rfl rfl 2 (by decide) (htb _ k_347) (fun _ h9 => h9) rfl dX8_goThroughDay_242 ?_
          refine lv_dup hx hb dX8_goThroughDay_245 rfl ?_
          refine va_getN (D := D) (ci := 4) (v := .int (nI i0)) (C := RX4) (T := TX4) (N := 6) hx hb htb itX4 hown hK hP 2 rfl rfl 4 (by decide) (va_Nw.use rfl (hN _ n_200 rfl)) (fun _ h9 => h9) rfl dX8_goThroughDay_246 ?_
          refine lv_iconst (v := 1) hx hb dX8_goThroughDay_249 (by decide) ?_
          refine lv_iadd hx hb dX8_goThroughDay_250 ?_
          refine tv (z := (nI (i0 + 1))) (nI_1 i0) ?_
          refine va_putN (D := D) (ci := 4) (v := .int (nI (i0 + 1))) (ty := .int) (C := RX4) (T := TX4) (N := 6) hx hb htb itX4 tyX4 tyX4_ok nmX4 hown hK hP hD hS 2 rfl rfl 4 (by decide) (va_Nw.use rfl (hN _ n_200 rfl)) (fun _ h9 => h9) rfl (tyX4_ok 4 (by decide)) rfl rfl (Nat.le_of_ble_eq_true rfl) dX8_goThroughDay_251 (fun H locs hP hD hS => ?_)
          have hP : va_P D vwCl [(h0, .inr (8, [.ref tw, .ref lw, .ref st, .ref m1, .ref c1, .ref d1, .int idl, .int idf, .int idt, .int fc, .int fp, .int 0, .int 0, .int (nI (i0 + 1))])), (tw, .inr (7, [.int 0, .int 0, .int 0, .ref t1, .ref t2, .ref t3, .ref t4])), (st, .inr (4, [.ref u1, .ref f1, .ref g1, .int 0, .int (nI (i0 + 1)), .int (nI k2)])), (f1, .inl (cI, 10, .inl ff)), (g1, .inl (cI, 10, .inl fg)), (c1, .inl (cI, 10, .inl fa)), (lw, .inr (1, [.ref l1, .ref l2, .ref l3, .ref l4, .ref l5, .ref l6, .ref l7, .int lz, .int lc])), (l6, .inl (cI, 8, .inl lo_4))] H := hP
          have hD : va_D A [(h0, .inr (8, [.ref tw, .ref lw, .ref st, .ref m1, .ref c1, .ref d1, .int idl, .int idf, .int idt, .int fc, .int fp, .int 0, .int 0, .int (nI (i0 + 1))])), (tw, .inr (7, [.int 0, .int 0, .int 0, .ref t1, .ref t2, .ref t3, .ref t4])), (st, .inr (4, [.ref u1, .ref f1, .ref g1, .int 0, .int (nI (i0 + 1)), .int (nI k2)])), (f1, .inl (cI, 10, .inl ff)), (g1, .inl (cI, 10, .inl fg)), (c1, .inl (cI, 10, .inl fa)), (lw, .inr (1, [.ref l1, .ref l2, .ref l3, .ref l4, .ref l5, .ref l6, .ref l7, .int lz, .int lc])), (l6, .inl (cI, 8, .inl lo_4))] := hD
          refine lv_iload hx hb dX8_goThroughDay_254 (lv_at hl 4 rfl) ?_
          exact ret _ _ _ _ 0 (k2, lo_4, fa) dX8_goThroughDay_256 rfl (⟨rfl, hk2⟩) (hP.sub [0, 1, 6, 7, 2, 3, 4, 5] rfl) (hD.sub [0, 1, 6, 7, 2, 3, 4, 5] (by decide) rfl) hS
        | succ n ih =>
          intro i hni H locs hP hD hS ls hl
          have hi : i < 12 := by omega
          refine lv_iload hx hb dX8_goThroughDay_161 (lv_at hl 5 rfl) ?_
          refine lv_bipush (v := 12) hx hb dX8_goThroughDay_163 (by decide) ?_
          refine lv_icmp_ge (tgt := 204) hx hb dX8_goThroughDay_165 (by decide) (fun c_165 => absurd c_165 (nI_ge hi (by decide))) (fun _ => ?_)
          refine lv_iload hx hb dX8_goThroughDay_168 (lv_at hl 4 rfl) ?_
          refine lv_aload_n hx hb dX8_goThroughDay_170 rfl (lv_at hl 0 rfl) ?_
          refine va_get (D := D) (ci := 8) (v := .ref tw) (C := RX8) (T := TX8) (N := 14) hx hb htb itX8 hown hK hP 0 rfl rfl 0 (by decide) (htb _ k_345) (fun _ h9 => h9) rfl dX8_goThroughDay_171 ?_
          refine va_getN (D := D) (ci := 7) (v := .int 0) (C := RX7) (T := TX7) (N := 7) hx hb htb itX7 hown hK hP 1 rfl rfl 1 (by decide) (va_Nw.use rfl (hN _ n_148 rfl)) (fun _ h9 => h9) rfl dX8_goThroughDay_174 ?_
          refine lv_iload hx hb dX8_goThroughDay_177 (lv_at hl 5 rfl) ?_
          refine cSNR (As := [.int 0, .int (nI i)]) (rest := [.int 0]) (n := 2) X hN hK hP (c_X9_isIn l D cI cB 0 (nI i)) n_806 k_696 k_92 k_697 (by decide +kernel) ⟨Nat.le_of_ble_eq_true rfl, Nat.le_of_ble_eq_true rfl⟩ ⟨rfl, rfl⟩ [] rfl rfl rfl hl.1 (Nat.le_of_ble_eq_true rfl) dX8_goThroughDay_179 ⟨Nat.le_of_ble_eq_true rfl, Nat.le_of_ble_eq_true rfl⟩ (fun r2 hr2 => ?_)
          refine lv_if_eq (tgt := 194) hx hb dX8_goThroughDay_182 (by decide) (fun _ => ?_) (fun c_182 => absurd (hr2.2 rfl) c_182)
          refine lv_iconst (v := 0) hx hb dX8_goThroughDay_194 (by decide) ?_
          refine lv_iadd hx hb dX8_goThroughDay_195 ?_
          refine tv (z := 0) (by decide) ?_
          refine lv_istore (lv' := [(4, .int 0), (0, .ref h0), (1, .int 0), (2, .int 0), (3, .int 0), (5, .int (nI i))]) hx hb dX8_goThroughDay_196 hl (by decide) rfl (fun ls hl => ?_)
          refine lv_iinc (v := (nI (i + 1))) (lv' := [(5, .int (nI (i + 1))), (4, .int 0), (0, .ref h0), (1, .int 0), (2, .int 0), (3, .int 0)]) hx hb dX8_goThroughDay_198 hl (k := 5) rfl (nI_1 i) (by decide) rfl (fun ls hl => ?_)
          refine lv_goto (tgt := 161) hx hb dX8_goThroughDay_201 (by decide) ?_
          exact ih (i + 1) (by omega) _ _ (hP.sub [0, 1, 2, 3, 4, 5, 6, 7] rfl) (hD.sub [0, 1, 2, 3, 4, 5, 6, 7] (by decide) rfl) hS _ (lv_sub hl [2, 3, 4, 5, 1, 0] rfl)
      exact loop_161 12 0 (by omega) _ _ (hP.sub [0, 1, 2, 3, 4, 5, 6, 7] rfl) (hD.sub [0, 1, 2, 3, 4, 5, 6, 7] (by decide) rfl) hS _ (lv_sub hl [2, 3, 4, 5, 1, 0] rfl)
    | succ n ih =>
      intro i fa hni H locs hP hD hS ls hl
      have hi : i < 10 := by omega
      refine lv_iload hx hb dX8_goThroughDay_116 (lv_at hl 4 rfl) ?_
      refine lv_bipush (v := 10) hx hb dX8_goThroughDay_118 (by decide) ?_
      refine lv_icmp_ge (tgt := 155) hx hb dX8_goThroughDay_120 (by decide) (fun c_120 => absurd c_120 (nI_ge hi (by decide))) (fun _ => ?_)
      refine lv_aload_n hx hb dX8_goThroughDay_123 rfl (lv_at hl 0 rfl) ?_
      refine va_get (D := D) (ci := 8) (v := .ref c1) (C := RX8) (T := TX8) (N := 14) hx hb htb itX8 hown hK hP 0 rfl rfl 4 (by decide) (htb _ k_351) (fun _ h9 => h9) rfl dX8_goThroughDay_124 ?_
      refine lv_iload hx hb dX8_goThroughDay_127 (lv_at hl 4 rfl) ?_
      refine lv_iload_n hx hb dX8_goThroughDay_129 rfl (lv_at hl 3 rfl) ?_
      refine lv_iload hx hb dX8_goThroughDay_130 (lv_at hl 4 rfl) ?_
      refine cSNR (As := [.int 0, .int (nI i)]) (rest := [.int (nI i), .ref c1]) (n := 2) X hN hK hP (c_X9_isIn l D cI cB 0 (nI i)) n_806 k_696 k_92 k_697 (by decide +kernel) ⟨Nat.le_of_ble_eq_true rfl, Nat.le_of_ble_eq_true rfl⟩ ⟨rfl, rfl⟩ [] rfl rfl rfl hl.1 (Nat.le_of_ble_eq_true rfl) dX8_goThroughDay_132 ⟨Nat.le_of_ble_eq_true rfl, Nat.le_of_ble_eq_true rfl⟩ (fun r1 hr1 => ?_)
      refine lv_if_eq (tgt := 147) hx hb dX8_goThroughDay_135 (by decide) (fun _ => ?_) (fun c_135 => absurd (hr1.2 rfl) c_135)
      refine lv_iconst (v := 0) hx hb dX8_goThroughDay_147 (by decide) ?_
      refine va_iast hx hb hK hP hD hS 5 0 rfl rfl (vp_in_nI (by omega) (by decide)) dX8_goThroughDay_148 (fun H locs hP hD hS => ?_)
      obtain ⟨f_6, ef_6⟩ : ∃ g : Nat → Int32, g = upd fa (Int32.toNatClampNeg (nI i)) 0 := ⟨_, rfl⟩
      rw [← ef_6] at hP hD
      have hP : va_P D vwCl [(h0, .inr (8, [.ref tw, .ref lw, .ref st, .ref m1, .ref c1, .ref d1, .int idl, .int idf, .int idt, .int fc, .int fp, .int 0, .int 0, .int (nI i0)])), (tw, .inr (7, [.int 0, .int 0, .int 0, .ref t1, .ref t2, .ref t3, .ref t4])), (st, .inr (4, [.ref u1, .ref f1, .ref g1, .int 0, .int (nI i0), .int (nI k2)])), (f1, .inl (cI, 10, .inl ff)), (g1, .inl (cI, 10, .inl fg)), (c1, .inl (cI, 10, .inl f_6)), (lw, .inr (1, [.ref l1, .ref l2, .ref l3, .ref l4, .ref l5, .ref l6, .ref l7, .int lz, .int lc])), (l6, .inl (cI, 8, .inl lo_4))] H := hP
      have hD : va_D A [(h0, .inr (8, [.ref tw, .ref lw, .ref st, .ref m1, .ref c1, .ref d1, .int idl, .int idf, .int idt, .int fc, .int fp, .int 0, .int 0, .int (nI i0)])), (tw, .inr (7, [.int 0, .int 0, .int 0, .ref t1, .ref t2, .ref t3, .ref t4])), (st, .inr (4, [.ref u1, .ref f1, .ref g1, .int 0, .int (nI i0), .int (nI k2)])), (f1, .inl (cI, 10, .inl ff)), (g1, .inl (cI, 10, .inl fg)), (c1, .inl (cI, 10, .inl f_6)), (lw, .inr (1, [.ref l1, .ref l2, .ref l3, .ref l4, .ref l5, .ref l6, .ref l7, .int lz, .int lc])), (l6, .inl (cI, 8, .inl lo_4))] := hD
      refine lv_iinc (v := (nI (i + 1))) (lv' := [(4, .int (nI (i + 1))), (0, .ref h0), (1, .int 0), (2, .int 0), (3, .int 0)]) hx hb dX8_goThroughDay_149 hl (k := 4) rfl (nI_1 i) (by decide) rfl (fun ls hl => ?_)
      refine lv_goto (tgt := 116) hx hb dX8_goThroughDay_152 (by decide) ?_
      exact ih (i + 1) f_6 (by omega) _ _ (hP.sub [0, 1, 2, 3, 4, 5, 6, 7] rfl) (hD.sub [0, 1, 2, 3, 4, 5, 6, 7] (by decide) rfl) hS _ (lv_sub hl [1, 2, 3, 4, 0] rfl)
  exact loop_116 10 0 fc1 (by omega) _ _ (hP.sub [0, 1, 2, 3, 4, 5, 6, 7] rfl) (hD.sub [0, 1, 2, 3, 4, 5, 6, 7] (by decide) rfl) hS _ (lv_sub hl [4, 3, 2, 1, 0] rfl)

set_option maxRecDepth 100000 in
set_option maxHeartbeats 4000000 in
theorem c_X8_run (l : Launch) (D : va_G) (cI cB : ClassId) (sz : Nat) (h0 : Nat) (tw : Nat) (lw : Nat) (st : Nat) (m1 : Nat) (c1 : Nat) (d1 : Nat) (idl : Int32) (idf : Int32) (idt : Int32) (fc : Int32) (fp : Int32) (l1 : Nat) (l2 : Nat) (l3 : Nat) (l4 : Nat) (l5 : Nat) (l6 : Nat) (l7 : Nat) (lz : Int32) (lc : Int32) (t1 : Nat) (t2 : Nat) (t3 : Nat) (t4 : Nat) (u1 : Nat) (f1 : Nat) (g1 : Nat) (N : Nat) (en : Int32) (k : Nat) (fl : Nat → Int32) (ff : Nat → Int32) (fg : Nat → Int32) (fc1 : Nat → Int32) (hN0 : N ≤ 60) (hk : k < 65536) (hg : ∀ j, j < 10 → fg j = -2) : MI (S := ((Nat) × (Nat) × (Nat → Int32) × (Nat → Int32))) l D cI cB yX8_run cX8_run 4 .int (rm 3 68) [.ref h0, .int (nI N), .int en] [(h0, .inr (8, [.ref tw, .ref lw, .ref st, .ref m1, .ref c1, .ref d1, .int idl, .int idf, .int idt, .int fc, .int fp, .int 0, .int 0, .int (nI 0)])), (tw, .inr (7, [.int 0, .int 0, .int 0, .ref t1, .ref t2, .ref t3, .ref t4])), (lw, .inr (1, [.ref l1, .ref l2, .ref l3, .ref l4, .ref l5, .ref l6, .ref l7, .int lz, .int lc])), (l6, .inl (cI, 8, .inl fl)), (st, .inr (4, [.ref u1, .ref f1, .ref g1, .int 0, .int (nI 0), .int (nI k)])), (f1, .inl (cI, 10, .inl ff)), (g1, .inl (cI, 10, .inl fg)), (c1, .inl (cI, 10, .inl fc1))] sz (fun r u => r = 0 ∧ u.1 ≤ N ∧ (0 < en → u.1 = N) ∧ u.2.1 < 65536) (fun u : ((Nat) × (Nat) × (Nat → Int32) × (Nat → Int32)) => [(h0, .inr (8, [.ref tw, .ref lw, .ref st, .ref m1, .ref c1, .ref d1, .int idl, .int idf, .int idt, .int fc, .int fp, .int 0, .int 0, .int (nI u.1)])), (tw, .inr (7, [.int 0, .int 0, .int 0, .ref t1, .ref t2, .ref t3, .ref t4])), (lw, .inr (1, [.ref l1, .ref l2, .ref l3, .ref l4, .ref l5, .ref l6, .ref l7, .int lz, .int lc])), (l6, .inl (cI, 8, .inl u.2.2.1)), (st, .inr (4, [.ref u1, .ref f1, .ref g1, .int 0, .int (nI u.1), .int (nI u.2.1)])), (f1, .inl (cI, 10, .inl ff)), (g1, .inl (cI, 10, .inl fg)), (c1, .inl (cI, 10, .inl u.2.2.2))]) := by
  refine MI.of (by decide) (Nat.le_of_ble_eq_true rfl) ?_
  intro p e s m below meth c Q ls A X hin hN hP hK hD hA hl ret
  have hS : va_S A s.heap s.heap [] := va_S.rf
  obtain ⟨hx, hb, hml, hown, htb⟩ := id X
  have hl : lv_has ls 4 [(0, .ref h0), (1, .int (nI N)), (2, .int en)] := hl
  refine lv_iconst (v := 0) hx hb dX8_run_0 (by decide) ?_
  refine lv_istore_n (lv' := [(3, .int 0), (0, .ref h0), (1, .int (nI N)), (2, .int en)]) hx hb dX8_run_1 rfl hl (by decide) rfl (fun ls hl => ?_)
  have loop_2 : ∀ (n i : Nat) (ka : Nat) (la : Nat → Int32) (ca : Nat → Int32), n + i = N → (ka < 65536) → ∀ (H : Heap) (locs : List Loc), va_P D vwCl [(h0, .inr (8, [.ref tw, .ref lw, .ref st, .ref m1, .ref c1, .ref d1, .int idl, .int idf, .int idt, .int fc, .int fp, .int 0, .int 0, .int (nI i)])), (tw, .inr (7, [.int 0, .int 0, .int 0, .ref t1, .ref t2, .ref t3, .ref t4])), (lw, .inr (1, [.ref l1, .ref l2, .ref l3, .ref l4, .ref l5, .ref l6, .ref l7, .int lz, .int lc])), (l6, .inl (cI, 8, .inl la)), (st, .inr (4, [.ref u1, .ref f1, .ref g1, .int 0, .int (nI i), .int (nI ka)])), (f1, .inl (cI, 10, .inl ff)), (g1, .inl (cI, 10, .inl fg)), (c1, .inl (cI, 10, .inl ca))] H → va_D A [(h0, .inr (8, [.ref tw, .ref lw, .ref st, .ref m1, .ref c1, .ref d1, .int idl, .int idf, .int idt, .int fc, .int fp, .int 0, .int 0, .int (nI i)])), (tw, .inr (7, [.int 0, .int 0, .int 0, .ref t1, .ref t2, .ref t3, .ref t4])), (lw, .inr (1, [.ref l1, .ref l2, .ref l3, .ref l4, .ref l5, .ref l6, .ref l7, .int lz, .int lc])), (l6, .inl (cI, 8, .inl la)), (st, .inr (4, [.ref u1, .ref f1, .ref g1, .int 0, .int (nI i), .int (nI ka)])), (f1, .inl (cI, 10, .inl ff)), (g1, .inl (cI, 10, .inl fg)), (c1, .inl (cI, 10, .inl ca))] → va_S A s.heap H locs → ∀ (ls : Array Slot), lv_has ls 4 [(0, .ref h0), (1, .int (nI N)), (2, .int en), (3, .int (nI i))] → W p l e (rm 3 68) s m ([.ref h0, .int (nI N), .int en] : List Value).toArray below meth c H locs 0 0 Q (F0 m 2 ls []) := by
    intro n
    induction n with
    | zero =>
      intro i ka la ca hni hka H locs hP hD hS ls hl
      have hi : i = N := by omega
      refine lv_iload_n hx hb dX8_run_2 rfl (lv_at hl 3 rfl) ?_
      refine lv_iload_n hx hb dX8_run_3 rfl (lv_at hl 1 rfl) ?_
      refine lv_icmp_ge (tgt := 34) hx hb dX8_run_4 (by decide) (fun _ => ?_) (fun c_4 => absurd (by rw [hi]; exact nI_le (Nat.le_refl _) (by omega)) c_4)
      refine lv_aload_n hx hb dX8_run_34 rfl (lv_at hl 0 rfl) ?_
      refine va_get (D := D) (ci := 8) (v := .ref st) (C := RX8) (T := TX8) (N := 14) hx hb htb itX8 hown hK hP 0 rfl rfl 2 (by decide) (htb _ k_347) (fun _ h9 => h9) rfl dX8_run_35 ?_
      refine va_getN (D := D) (ci := 4) (v := .int 0) (C := RX4) (T := TX4) (N := 6) hx hb htb itX4 hown hK hP 4 rfl rfl 3 (by decide) (va_Nw.use rfl (hN _ n_196 rfl)) (fun _ h9 => h9) rfl dX8_run_38 ?_
      refine lv_aload_n hx hb dX8_run_41 rfl (lv_at hl 0 rfl) ?_
      refine va_get (D := D) (ci := 8) (v := .int 0) (C := RX8) (T := TX8) (N := 14) hx hb htb itX8 hown hK hP 0 rfl rfl 11 (by decide) (htb _ k_359) (fun _ h9 => h9) rfl dX8_run_42 ?_
      refine lv_isub hx hb dX8_run_45 ?_
      refine tv (z := 0) (by decide) ?_
      exact ret _ _ _ _ 0 (i, ka, la, ca) dX8_run_46 rfl (⟨rfl, by omega, fun _ => hi, hka⟩) (hP.sub [0, 1, 2, 3, 4, 5, 6, 7] rfl) (hD.sub [0, 1, 2, 3, 4, 5, 6, 7] (by decide) rfl) hS
    | succ n ih =>
      intro i ka la ca hni hka H locs hP hD hS ls hl
      have hi : i < N := by omega
      refine lv_iload_n hx hb dX8_run_2 rfl (lv_at hl 3 rfl) ?_
      refine lv_iload_n hx hb dX8_run_3 rfl (lv_at hl 1 rfl) ?_
      refine lv_icmp_ge (tgt := 34) hx hb dX8_run_4 (by decide) (fun c_4 => absurd c_4 (nI_ge hi (by omega))) (fun _ => ?_)
      refine lv_aload_n hx hb dX8_run_7 rfl (lv_at hl 0 rfl) ?_
      refine va_get (D := D) (ci := 8) (v := .ref st) (C := RX8) (T := TX8) (N := 14) hx hb htb itX8 hown hK hP 0 rfl rfl 2 (by decide) (htb _ k_347) (fun _ h9 => h9) rfl dX8_run_8 ?_
      refine va_getN (D := D) (ci := 4) (v := .int 0) (C := RX4) (T := TX4) (N := 6) hx hb htb itX4 hown hK hP 4 rfl rfl 3 (by decide) (va_Nw.use rfl (hN _ n_196 rfl)) (fun _ h9 => h9) rfl dX8_run_11 ?_
      refine lv_aload_n hx hb dX8_run_14 rfl (lv_at hl 0 rfl) ?_
      refine va_get (D := D) (ci := 8) (v := .int 0) (C := RX8) (T := TX8) (N := 14) hx hb htb itX8 hown hK hP 0 rfl rfl 11 (by decide) (htb _ k_359) (fun _ h9 => h9) rfl dX8_run_15 ?_
      refine lv_isub hx hb dX8_run_18 ?_
      refine tv (z := 0) (by decide) ?_
      refine lv_iload_n hx hb dX8_run_19 rfl (lv_at hl 2 rfl) ?_
      refine lv_icmp_ge (tgt := 34) hx hb dX8_run_20 (by decide) (fun c_20 => ?_) (fun c_20 => ?_)
      · refine lv_aload_n hx hb dX8_run_34 rfl (lv_at hl 0 rfl) ?_
        refine va_get (D := D) (ci := 8) (v := .ref st) (C := RX8) (T := TX8) (N := 14) hx hb htb itX8 hown hK hP 0 rfl rfl 2 (by decide) (htb _ k_347) (fun _ h9 => h9) rfl dX8_run_35 ?_
        refine va_getN (D := D) (ci := 4) (v := .int 0) (C := RX4) (T := TX4) (N := 6) hx hb htb itX4 hown hK hP 4 rfl rfl 3 (by decide) (va_Nw.use rfl (hN _ n_196 rfl)) (fun _ h9 => h9) rfl dX8_run_38 ?_
        refine lv_aload_n hx hb dX8_run_41 rfl (lv_at hl 0 rfl) ?_
        refine va_get (D := D) (ci := 8) (v := .int 0) (C := RX8) (T := TX8) (N := 14) hx hb htb itX8 hown hK hP 0 rfl rfl 11 (by decide) (htb _ k_359) (fun _ h9 => h9) rfl dX8_run_42 ?_
        refine lv_isub hx hb dX8_run_45 ?_
        refine tv (z := 0) (by decide) ?_
        exact ret _ _ _ _ 0 (i, ka, la, ca) dX8_run_46 rfl (⟨rfl, by omega, fun h => absurd h (Int32.not_lt.mpr c_20), hka⟩) (hP.sub [0, 1, 2, 3, 4, 5, 6, 7] rfl) (hD.sub [0, 1, 2, 3, 4, 5, 6, 7] (by decide) rfl) hS
      · refine lv_aload_n hx hb dX8_run_23 rfl (lv_at hl 0 rfl) ?_
        refine cVI (As := []) (rest := []) (n := 0) (ci := 8) (q0 := 0) (wr := []) X hN hK hP hD hS hA (c_X8_goThroughDay l D cI cB _ h0 tw lw st m1 c1 d1 idl idf idt fc fp l1 l2 l3 l4 l5 l6 l7 lz lc t1 t2 t3 t4 u1 f1 g1 i ka la ff fg ca (by omega) hka hg) (gV k_788 k_790 k_15 k_102 k_791) (by decide +kernel) ⟨Nat.le_of_ble_eq_true rfl, Nat.le_of_ble_eq_true rfl⟩ ⟨rfl, rfl⟩ [0, 1, 2, 3, 4, 5, 6, 7] [] rfl rfl (by decide) (by decide) rfl rfl rfl rfl rfl hl.1 (Nat.le_of_ble_eq_true rfl) dX8_run_24 ⟨Nat.le_of_ble_eq_true rfl, Nat.le_of_ble_eq_true rfl⟩ (fun r_1 u H locs hw_5 hP hD hS => ?_)
        obtain ⟨ko_2, lo_3, co_4⟩ := u
        try dsimp only at hw_5
        have hP : va_P D vwCl [(h0, .inr (8, [.ref tw, .ref lw, .ref st, .ref m1, .ref c1, .ref d1, .int idl, .int idf, .int idt, .int fc, .int fp, .int 0, .int 0, .int (nI (i + 1))])), (tw, .inr (7, [.int 0, .int 0, .int 0, .ref t1, .ref t2, .ref t3, .ref t4])), (lw, .inr (1, [.ref l1, .ref l2, .ref l3, .ref l4, .ref l5, .ref l6, .ref l7, .int lz, .int lc])), (l6, .inl (cI, 8, .inl lo_3)), (st, .inr (4, [.ref u1, .ref f1, .ref g1, .int 0, .int (nI (i + 1)), .int (nI ko_2)])), (f1, .inl (cI, 10, .inl ff)), (g1, .inl (cI, 10, .inl fg)), (c1, .inl (cI, 10, .inl co_4))] H := hP
        have hD : va_D A [(h0, .inr (8, [.ref tw, .ref lw, .ref st, .ref m1, .ref c1, .ref d1, .int idl, .int idf, .int idt, .int fc, .int fp, .int 0, .int 0, .int (nI (i + 1))])), (tw, .inr (7, [.int 0, .int 0, .int 0, .ref t1, .ref t2, .ref t3, .ref t4])), (lw, .inr (1, [.ref l1, .ref l2, .ref l3, .ref l4, .ref l5, .ref l6, .ref l7, .int lz, .int lc])), (l6, .inl (cI, 8, .inl lo_3)), (st, .inr (4, [.ref u1, .ref f1, .ref g1, .int 0, .int (nI (i + 1)), .int (nI ko_2)])), (f1, .inl (cI, 10, .inl ff)), (g1, .inl (cI, 10, .inl fg)), (c1, .inl (cI, 10, .inl co_4))] := hD
        refine lv_pop hx hb dX8_run_27 rfl ?_
        refine lv_iinc (v := (nI (i + 1))) (lv' := [(3, .int (nI (i + 1))), (0, .ref h0), (1, .int (nI N)), (2, .int en)]) hx hb dX8_run_28 hl (k := 3) rfl (nI_1 i) (by decide) rfl (fun ls hl => ?_)
        refine lv_goto (tgt := 2) hx hb dX8_run_31 (by decide) ?_
        exact ih (i + 1) ko_2 lo_3 co_4 (by omega) hw_5.2 _ _ (hP.sub [0, 1, 2, 3, 4, 5, 6, 7] rfl) (hD.sub [0, 1, 2, 3, 4, 5, 6, 7] (by decide) rfl) hS _ (lv_sub hl [1, 2, 3, 0] rfl)
  exact loop_2 N 0 k fl fc1 (by omega) hk _ _ (hP.sub [0, 1, 2, 3, 4, 5, 6, 7] rfl) (hD.sub [0, 1, 2, 3, 4, 5, 6, 7] (by decide) rfl) hS _ (lv_sub hl [1, 2, 3, 0] rfl)

set_option maxRecDepth 100000 in
set_option maxHeartbeats 4000000 in
theorem c_X8_staysClear (l : Launch) (D : va_G) (cI cB : ClassId) (sz : Nat) (h0 : Nat) (tw : Nat) (lw : Nat) (st : Nat) (m1 : Nat) (c1 : Nat) (d1 : Nat) (idl : Int32) (idf : Int32) (idt : Int32) (fc : Int32) (fp : Int32) (l1 : Nat) (l2 : Nat) (l3 : Nat) (l4 : Nat) (l5 : Nat) (l6 : Nat) (l7 : Nat) (lz : Int32) (lc : Int32) (t1 : Nat) (t2 : Nat) (t3 : Nat) (t4 : Nat) (u1 : Nat) (f1 : Nat) (g1 : Nat) (N : Nat) (k : Nat) (fl : Nat → Int32) (ff : Nat → Int32) (fg : Nat → Int32) (fc1 : Nat → Int32) (hN0 : N ≤ 60) (hk : k < 65536) (hg : ∀ j, j < 10 → fg j = -2) : MI (S := ((Nat) × (Nat) × (Nat → Int32) × (Nat → Int32))) l D cI cB yX8_staysClear cX8_staysClear 4 .boolean (rm 3 68) [.ref h0, .int (nI N)] [(h0, .inr (8, [.ref tw, .ref lw, .ref st, .ref m1, .ref c1, .ref d1, .int idl, .int idf, .int idt, .int fc, .int fp, .int 0, .int 0, .int (nI 0)])), (tw, .inr (7, [.int 0, .int 0, .int 0, .ref t1, .ref t2, .ref t3, .ref t4])), (lw, .inr (1, [.ref l1, .ref l2, .ref l3, .ref l4, .ref l5, .ref l6, .ref l7, .int lz, .int lc])), (l6, .inl (cI, 8, .inl fl)), (st, .inr (4, [.ref u1, .ref f1, .ref g1, .int 0, .int (nI 0), .int (nI k)])), (f1, .inl (cI, 10, .inl ff)), (g1, .inl (cI, 10, .inl fg)), (c1, .inl (cI, 10, .inl fc1))] sz (fun r u => r = 1 ∧ u.2.1 < 65536) (fun u : ((Nat) × (Nat) × (Nat → Int32) × (Nat → Int32)) => [(h0, .inr (8, [.ref tw, .ref lw, .ref st, .ref m1, .ref c1, .ref d1, .int idl, .int idf, .int idt, .int fc, .int fp, .int 0, .int 0, .int (nI u.1)])), (tw, .inr (7, [.int 0, .int 0, .int 0, .ref t1, .ref t2, .ref t3, .ref t4])), (lw, .inr (1, [.ref l1, .ref l2, .ref l3, .ref l4, .ref l5, .ref l6, .ref l7, .int lz, .int lc])), (l6, .inl (cI, 8, .inl u.2.2.1)), (st, .inr (4, [.ref u1, .ref f1, .ref g1, .int 0, .int (nI u.1), .int (nI u.2.1)])), (f1, .inl (cI, 10, .inl ff)), (g1, .inl (cI, 10, .inl fg)), (c1, .inl (cI, 10, .inl u.2.2.2))]) := by
  refine MI.of (by decide) (Nat.le_of_ble_eq_true rfl) ?_
  intro p e s m below meth c Q ls A X hin hN hP hK hD hA hl ret
  have hS : va_S A s.heap s.heap [] := va_S.rf
  obtain ⟨hx, hb, hml, hown, htb⟩ := id X
  have hl : lv_has ls 4 [(0, .ref h0), (1, .int (nI N))] := hl
  refine lv_iconst (v := 1) hx hb dX8_staysClear_0 (by decide) ?_
  refine lv_istore_n (lv' := [(2, .int 1), (0, .ref h0), (1, .int (nI N))]) hx hb dX8_staysClear_1 rfl hl (by decide) rfl (fun ls hl => ?_)
  refine lv_iconst (v := 0) hx hb dX8_staysClear_2 (by decide) ?_
  refine lv_istore_n (lv' := [(3, .int 0), (2, .int 1), (0, .ref h0), (1, .int (nI N))]) hx hb dX8_staysClear_3 rfl hl (by decide) rfl (fun ls hl => ?_)
  have loop_4 : ∀ (n i : Nat) (ka : Nat) (la : Nat → Int32) (ca : Nat → Int32), n + i = N → (ka < 65536) → ∀ (H : Heap) (locs : List Loc), va_P D vwCl [(h0, .inr (8, [.ref tw, .ref lw, .ref st, .ref m1, .ref c1, .ref d1, .int idl, .int idf, .int idt, .int fc, .int fp, .int 0, .int 0, .int (nI i)])), (tw, .inr (7, [.int 0, .int 0, .int 0, .ref t1, .ref t2, .ref t3, .ref t4])), (lw, .inr (1, [.ref l1, .ref l2, .ref l3, .ref l4, .ref l5, .ref l6, .ref l7, .int lz, .int lc])), (l6, .inl (cI, 8, .inl la)), (st, .inr (4, [.ref u1, .ref f1, .ref g1, .int 0, .int (nI i), .int (nI ka)])), (f1, .inl (cI, 10, .inl ff)), (g1, .inl (cI, 10, .inl fg)), (c1, .inl (cI, 10, .inl ca))] H → va_D A [(h0, .inr (8, [.ref tw, .ref lw, .ref st, .ref m1, .ref c1, .ref d1, .int idl, .int idf, .int idt, .int fc, .int fp, .int 0, .int 0, .int (nI i)])), (tw, .inr (7, [.int 0, .int 0, .int 0, .ref t1, .ref t2, .ref t3, .ref t4])), (lw, .inr (1, [.ref l1, .ref l2, .ref l3, .ref l4, .ref l5, .ref l6, .ref l7, .int lz, .int lc])), (l6, .inl (cI, 8, .inl la)), (st, .inr (4, [.ref u1, .ref f1, .ref g1, .int 0, .int (nI i), .int (nI ka)])), (f1, .inl (cI, 10, .inl ff)), (g1, .inl (cI, 10, .inl fg)), (c1, .inl (cI, 10, .inl ca))] → va_S A s.heap H locs → ∀ (ls : Array Slot), lv_has ls 4 [(0, .ref h0), (1, .int (nI N)), (2, .int 1), (3, .int (nI i))] → W p l e (rm 3 68) s m ([.ref h0, .int (nI N)] : List Value).toArray below meth c H locs 0 0 Q (F0 m 4 ls []) := by
    intro n
    induction n with
    | zero =>
      intro i ka la ca hni hka H locs hP hD hS ls hl
      have hi : i = N := by omega
      refine lv_iload_n hx hb dX8_staysClear_4 rfl (lv_at hl 3 rfl) ?_
      refine lv_iload_n hx hb dX8_staysClear_5 rfl (lv_at hl 1 rfl) ?_
      refine lv_icmp_ge (tgt := 32) hx hb dX8_staysClear_6 (by decide) (fun _ => ?_) (fun c_6 => absurd (by rw [hi]; exact nI_le (Nat.le_refl _) (by omega)) c_6)
      refine lv_iload_n hx hb dX8_staysClear_32 rfl (lv_at hl 2 rfl) ?_
      exact ret _ _ _ _ 1 (i, ka, la, ca) dX8_staysClear_33 rfl (⟨rfl, hka⟩) (hP.sub [0, 1, 2, 3, 4, 5, 6, 7] rfl) (hD.sub [0, 1, 2, 3, 4, 5, 6, 7] (by decide) rfl) hS
    | succ n ih =>
      intro i ka la ca hni hka H locs hP hD hS ls hl
      have hi : i < N := by omega
      refine lv_iload_n hx hb dX8_staysClear_4 rfl (lv_at hl 3 rfl) ?_
      refine lv_iload_n hx hb dX8_staysClear_5 rfl (lv_at hl 1 rfl) ?_
      refine lv_icmp_ge (tgt := 32) hx hb dX8_staysClear_6 (by decide) (fun c_6 => absurd c_6 (nI_ge hi (by omega))) (fun _ => ?_)
      refine lv_iload_n hx hb dX8_staysClear_9 rfl (lv_at hl 2 rfl) ?_
      refine lv_if_eq (tgt := 32) hx hb dX8_staysClear_10 (by decide) (fun c_10 => absurd c_10 (by decide)) (fun _ => ?_)
      refine lv_aload_n hx hb dX8_staysClear_13 rfl (lv_at hl 0 rfl) ?_
      refine cVI (As := []) (rest := []) (n := 0) (ci := 8) (q0 := 0) (wr := []) X hN hK hP hD hS hA (c_X8_goThroughDay l D cI cB _ h0 tw lw st m1 c1 d1 idl idf idt fc fp l1 l2 l3 l4 l5 l6 l7 lz lc t1 t2 t3 t4 u1 f1 g1 i ka la ff fg ca (by omega) hka hg) (gV k_788 k_790 k_15 k_102 k_791) (by decide +kernel) ⟨Nat.le_of_ble_eq_true rfl, Nat.le_of_ble_eq_true rfl⟩ ⟨rfl, rfl⟩ [0, 1, 2, 3, 4, 5, 6, 7] [] rfl rfl (by decide) (by decide) rfl rfl rfl rfl rfl hl.1 (Nat.le_of_ble_eq_true rfl) dX8_staysClear_14 ⟨Nat.le_of_ble_eq_true rfl, Nat.le_of_ble_eq_true rfl⟩ (fun rc u H locs hw_4 hP hD hS => ?_)
      obtain ⟨ko_1, lo_2, co_3⟩ := u
      try dsimp only at hw_4
      have hP : va_P D vwCl [(h0, .inr (8, [.ref tw, .ref lw, .ref st, .ref m1, .ref c1, .ref d1, .int idl, .int idf, .int idt, .int fc, .int fp, .int 0, .int 0, .int (nI (i + 1))])), (tw, .inr (7, [.int 0, .int 0, .int 0, .ref t1, .ref t2, .ref t3, .ref t4])), (lw, .inr (1, [.ref l1, .ref l2, .ref l3, .ref l4, .ref l5, .ref l6, .ref l7, .int lz, .int lc])), (l6, .inl (cI, 8, .inl lo_2)), (st, .inr (4, [.ref u1, .ref f1, .ref g1, .int 0, .int (nI (i + 1)), .int (nI ko_1)])), (f1, .inl (cI, 10, .inl ff)), (g1, .inl (cI, 10, .inl fg)), (c1, .inl (cI, 10, .inl co_3))] H := hP
      have hD : va_D A [(h0, .inr (8, [.ref tw, .ref lw, .ref st, .ref m1, .ref c1, .ref d1, .int idl, .int idf, .int idt, .int fc, .int fp, .int 0, .int 0, .int (nI (i + 1))])), (tw, .inr (7, [.int 0, .int 0, .int 0, .ref t1, .ref t2, .ref t3, .ref t4])), (lw, .inr (1, [.ref l1, .ref l2, .ref l3, .ref l4, .ref l5, .ref l6, .ref l7, .int lz, .int lc])), (l6, .inl (cI, 8, .inl lo_2)), (st, .inr (4, [.ref u1, .ref f1, .ref g1, .int 0, .int (nI (i + 1)), .int (nI ko_1)])), (f1, .inl (cI, 10, .inl ff)), (g1, .inl (cI, 10, .inl fg)), (c1, .inl (cI, 10, .inl co_3))] := hD
      refine lv_if_ne (tgt := 24) hx hb dX8_staysClear_17 (by decide) (fun c_17 => absurd (hw_4.1) c_17) (fun _ => ?_)
      refine lv_iconst (v := 1) hx hb dX8_staysClear_20 (by decide) ?_
      refine lv_goto (tgt := 25) hx hb dX8_staysClear_21 (by decide) ?_
      refine lv_istore_n (lv' := [(2, .int 1), (0, .ref h0), (1, .int (nI N)), (3, .int (nI i))]) hx hb dX8_staysClear_25 rfl hl (by decide) rfl (fun ls hl => ?_)
      refine lv_iinc (v := (nI (i + 1))) (lv' := [(3, .int (nI (i + 1))), (2, .int 1), (0, .ref h0), (1, .int (nI N))]) hx hb dX8_staysClear_26 hl (k := 3) rfl (nI_1 i) (by decide) rfl (fun ls hl => ?_)
      refine lv_goto (tgt := 4) hx hb dX8_staysClear_29 (by decide) ?_
      exact ih (i + 1) ko_1 lo_2 co_3 (by omega) hw_4.2 _ _ (hP.sub [0, 1, 2, 3, 4, 5, 6, 7] rfl) (hD.sub [0, 1, 2, 3, 4, 5, 6, 7] (by decide) rfl) hS _ (lv_sub hl [2, 3, 1, 0] rfl)
  exact loop_4 N 0 k fl fc1 (by omega) hk _ _ (hP.sub [0, 1, 2, 3, 4, 5, 6, 7] rfl) (hD.sub [0, 1, 2, 3, 4, 5, 6, 7] (by decide) rfl) hS _ (lv_sub hl [2, 3, 1, 0] rfl)
