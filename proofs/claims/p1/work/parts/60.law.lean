set_option maxRecDepth 100000 in
set_option maxHeartbeats 40000000 in
theorem whole_start {p : Program} {e : Env} {s : State} {m : MethodId} {below : List Frame} {meth : Method} {c : Code} (l : Launch) {b L : Nat} {xs : Nat → Int32} (hL : L ≤ 6) (C0 : lw_At p s m meth c b L xs) : W p l e room_1 s m #[Value.ref b] below meth c s.heap [] 0 0 (lw_Z below #[Value.ref b] s) (entryFrame m ([Value.ref b] : List Value).toArray 4) := by
  obtain ⟨hx, hb, hr, hml, hown0, hts, hX, hbl, hlocks, hgv⟩ := id C0
  have hown : s.vm.findClass RL = some m.cls := hown0
  have htb : ∀ w ∈ tb, w.before #[Value.ref b] s = true := fun w h => hts w (tb_sub h)
  have X : CallFix p m c cL_law 4 s #[Value.ref b] tb RL := ⟨hx, hb, hml, hown, htb⟩
  have hN : NW s := NW.of hts
  have hA : ∀ q : Nat, s.heap.size ≤ q → (fun q : Nat => s.heap.size ≤ q) q := fun _ h => h
  have hbA : ¬ (fun q : Nat => s.heap.size ≤ q) b := Nat.not_le.mpr hbl
  obtain ⟨cI, hcI⟩ := arrK (htb _ k_136) (fun _ h => h)
  obtain ⟨cB, hcB⟩ := arrK (htb _ k_668) (fun _ h => h)
  obtain ⟨D, hKc⟩ := law_D htb
  have hK : va_K D vwCl (tyL cI cB) s := by
    refine ⟨hKc, fun k q h => ?_⟩
    match k, h with
    | 0, h => cases h; exact hcI
    | 1, h => cases h; exact hcB
    | k + 2, h => simp at h
  have hS : va_S (fun q : Nat => s.heap.size ≤ q) s.heap s.heap [] := va_S.rf
  have hP : va_P D vwCl [] s.heap := fun k q h => by simp at h
  have hD : va_D (fun q : Nat => s.heap.size ≤ q) [] := ⟨fun i j p q h => by simp at h, fun k q h => by simp at h⟩
  generalize hAe : (fun q : Nat => s.heap.size ≤ q) = A at hA hbA hS hD
  have hAq : ∀ q : Nat, A q → s.heap.size ≤ q := fun q h => by rw [← hAe] at h; exact h
  have hl := lv_entry ([.ref b]) (n := 4) (Nat.le_of_ble_eq_true rfl)
  rw [lg_entry_eq]
  generalize (lg_sl ([.ref b]) ++ List.replicate (4 - (lg_sl ([.ref b])).length) Slot.unset).toArray = ls at hl ⊢
  have hl : lv_has ls 4 [(0, .ref b)] := hl
  refine va_new (ci := 9) (fs := [.null, .null, .null, .null, .null, .null, .null, .null, .null, .null, .int 0]) (C := RX9) (T := TX9) (N := 11) hx hb htb itX9 tyX9 tyX9_ok hown (htb _ k_112) (htb _ k_113) (htb _ k_92) hK hP hD hS hA rfl (fdX9) (Nat.le_of_ble_eq_true rfl) (Nat.le_of_ble_eq_true rfl) dL_law_0 (fun q_1 H hP hD hS => ?_)
  have hP : va_P D vwCl [(q_1, .inr (9, [.null, .null, .null, .null, .null, .null, .null, .null, .null, .null, .int 0]))] H := hP
  have hD : va_D A [(q_1, .inr (9, [.null, .null, .null, .null, .null, .null, .null, .null, .null, .null, .int 0]))] := hD
  show W p l e room_1 s m #[Value.ref b] below meth c H _ 1 11 (lw_Z below #[Value.ref b] s) (F0 m 3 ls [.ref q_1])
  refine lv_dup hx hb dL_law_3 rfl ?_
  refine cIV (As := []) (rest := [.ref q_1]) (n := 0) (wr := []) X hN hK hP hD hS hA (c_X9_init l D cI cB _ q_1) k_114 k_115 k_92 k_116 rfl (by decide +kernel) ⟨Nat.le_of_ble_eq_true rfl, Nat.le_of_ble_eq_true rfl⟩ [0] [] rfl rfl (by decide) (by decide) rfl rfl hl.1 (Nat.le_of_ble_eq_true rfl) dL_law_4 ⟨Nat.le_of_ble_eq_true rfl, Nat.le_of_ble_eq_true rfl⟩ (fun u H locs hw_44 hP hD hS => ?_)
  obtain ⟨tp_3, by__4, tw_5, t1_6, t2_7, t3_8, t4_9, nw_10, u2_11, f2_12, g2_13, kp_14, u3_15, f3_16, g3_17, lw_18, l1_19, l2_20, l3_21, l4_22, l5_23, l6_24, l7_25, lr_26, dd_27, vv_28, tl_29, st_30, u1_31, f1_32, g1_33, m1_34, c1_35, d1_36, sc_37, ff2_38, fg2_39, ff3_40, fg3_41, ff_42, fg_43⟩ := u
  try dsimp only at hw_44
  have hP : va_P D vwCl [(q_1, .inr (9, [.ref tp_3, .ref tw_5, .ref nw_10, .ref kp_14, .ref lw_18, .ref lr_26, .ref dd_27, .ref vv_28, .ref tl_29, .ref sc_37, .int 0])), (tp_3, .inr (5, [.ref by__4, .int 0])), (by__4, .inl (cI, 260, .inl (fun _ => 0))), (tw_5, .inr (7, [.int 0, .int 0, .int 0, .ref t1_6, .ref t2_7, .ref t3_8, .ref t4_9])), (t1_6, .inl (cI, 10, .inl (fun _ => 0))), (t2_7, .inl (cI, 12, .inl (fun _ => 0))), (nw_10, .inr (4, [.ref u2_11, .ref f2_12, .ref g2_13, .int 0, .int 0, .int 1])), (u2_11, .inl (cI, 12, .inl (fun _ => 0))), (f2_12, .inl (cI, 10, .inl ff2_38)), (g2_13, .inl (cI, 10, .inl fg2_39)), (kp_14, .inr (4, [.ref u3_15, .ref f3_16, .ref g3_17, .int 0, .int 0, .int 1])), (u3_15, .inl (cI, 12, .inl (fun _ => 0))), (f3_16, .inl (cI, 10, .inl ff3_40)), (g3_17, .inl (cI, 10, .inl fg3_41)), (lw_18, .inr (1, [.ref l1_19, .ref l2_20, .ref l3_21, .ref l4_22, .ref l5_23, .ref l6_24, .ref l7_25, .int 0, .int 0])), (l6_24, .inl (cI, 8, .inl (fun _ => 0))), (tl_29, .inr (8, [.ref tw_5, .ref lw_18, .ref st_30, .ref m1_34, .ref c1_35, .ref d1_36, .int 0, .int 0, .int 0, .int 0, .int 0, .int 0, .int 0, .int 0])), (st_30, .inr (4, [.ref u1_31, .ref f1_32, .ref g1_33, .int 0, .int 0, .int 1])), (u1_31, .inl (cI, 12, .inl (fun _ => 0))), (f1_32, .inl (cI, 10, .inl ff_42)), (g1_33, .inl (cI, 10, .inl fg_43)), (m1_34, .inl (cI, 10, .inl (fun _ => 0))), (c1_35, .inl (cI, 10, .inl (fun _ => 0))), (d1_36, .inl (cI, 10, .inl (fun _ => 0)))] H := hP
  have hD : va_D A [(q_1, .inr (9, [.ref tp_3, .ref tw_5, .ref nw_10, .ref kp_14, .ref lw_18, .ref lr_26, .ref dd_27, .ref vv_28, .ref tl_29, .ref sc_37, .int 0])), (tp_3, .inr (5, [.ref by__4, .int 0])), (by__4, .inl (cI, 260, .inl (fun _ => 0))), (tw_5, .inr (7, [.int 0, .int 0, .int 0, .ref t1_6, .ref t2_7, .ref t3_8, .ref t4_9])), (t1_6, .inl (cI, 10, .inl (fun _ => 0))), (t2_7, .inl (cI, 12, .inl (fun _ => 0))), (nw_10, .inr (4, [.ref u2_11, .ref f2_12, .ref g2_13, .int 0, .int 0, .int 1])), (u2_11, .inl (cI, 12, .inl (fun _ => 0))), (f2_12, .inl (cI, 10, .inl ff2_38)), (g2_13, .inl (cI, 10, .inl fg2_39)), (kp_14, .inr (4, [.ref u3_15, .ref f3_16, .ref g3_17, .int 0, .int 0, .int 1])), (u3_15, .inl (cI, 12, .inl (fun _ => 0))), (f3_16, .inl (cI, 10, .inl ff3_40)), (g3_17, .inl (cI, 10, .inl fg3_41)), (lw_18, .inr (1, [.ref l1_19, .ref l2_20, .ref l3_21, .ref l4_22, .ref l5_23, .ref l6_24, .ref l7_25, .int 0, .int 0])), (l6_24, .inl (cI, 8, .inl (fun _ => 0))), (tl_29, .inr (8, [.ref tw_5, .ref lw_18, .ref st_30, .ref m1_34, .ref c1_35, .ref d1_36, .int 0, .int 0, .int 0, .int 0, .int 0, .int 0, .int 0, .int 0])), (st_30, .inr (4, [.ref u1_31, .ref f1_32, .ref g1_33, .int 0, .int 0, .int 1])), (u1_31, .inl (cI, 12, .inl (fun _ => 0))), (f1_32, .inl (cI, 10, .inl ff_42)), (g1_33, .inl (cI, 10, .inl fg_43)), (m1_34, .inl (cI, 10, .inl (fun _ => 0))), (c1_35, .inl (cI, 10, .inl (fun _ => 0))), (d1_36, .inl (cI, 10, .inl (fun _ => 0)))] := hD
  show W p l e room_1 s m #[Value.ref b] below meth c H locs 49 1497 (lw_Z below #[Value.ref b] s) (F0 m 7 ls [.ref q_1])
  refine lv_astore_n (lv' := [(1, .ref q_1), (0, .ref b)]) hx hb dL_law_7 rfl hl (by decide) rfl (fun ls hl => ?_)
  refine va_new (ci := 10) (fs := [.null, .null, .null, .null, .null, .null, .null, .null, .null, .null, .null, .int 0, .int 0, .int 0, .null, .int 0, .int 0, .int 0, .int 0, .int 0, .int 0, .int 0, .int 0, .int 0, .int 0, .null, .null, .null, .null, .null, .null, .null, .null, .null, .null, .null, .null, .null, .null, .null, .null, .null, .null, .int 0, .null, .null, .null, .null, .null, .null, .null, .null, .int 0, .int 0, .int 0, .int 0, .null, .int 0, .null, .null, .null, .null, .null, .null, .int 0]) (C := RX10) (T := TX10) (N := 65) hx hb htb itX10 tyX10 tyX10_ok hown (htb _ k_1062) (htb _ k_1063) (htb _ k_103) hK hP hD hS hA rfl (fdX10) (Nat.le_of_ble_eq_true rfl) (Nat.le_of_ble_eq_true rfl) dL_law_8 (fun q_45 H hP hD hS => ?_)
  have hP : va_P D vwCl [(q_1, .inr (9, [.ref tp_3, .ref tw_5, .ref nw_10, .ref kp_14, .ref lw_18, .ref lr_26, .ref dd_27, .ref vv_28, .ref tl_29, .ref sc_37, .int 0])), (tp_3, .inr (5, [.ref by__4, .int 0])), (by__4, .inl (cI, 260, .inl (fun _ => 0))), (tw_5, .inr (7, [.int 0, .int 0, .int 0, .ref t1_6, .ref t2_7, .ref t3_8, .ref t4_9])), (t1_6, .inl (cI, 10, .inl (fun _ => 0))), (t2_7, .inl (cI, 12, .inl (fun _ => 0))), (nw_10, .inr (4, [.ref u2_11, .ref f2_12, .ref g2_13, .int 0, .int 0, .int 1])), (u2_11, .inl (cI, 12, .inl (fun _ => 0))), (f2_12, .inl (cI, 10, .inl ff2_38)), (g2_13, .inl (cI, 10, .inl fg2_39)), (kp_14, .inr (4, [.ref u3_15, .ref f3_16, .ref g3_17, .int 0, .int 0, .int 1])), (u3_15, .inl (cI, 12, .inl (fun _ => 0))), (f3_16, .inl (cI, 10, .inl ff3_40)), (g3_17, .inl (cI, 10, .inl fg3_41)), (lw_18, .inr (1, [.ref l1_19, .ref l2_20, .ref l3_21, .ref l4_22, .ref l5_23, .ref l6_24, .ref l7_25, .int 0, .int 0])), (l6_24, .inl (cI, 8, .inl (fun _ => 0))), (tl_29, .inr (8, [.ref tw_5, .ref lw_18, .ref st_30, .ref m1_34, .ref c1_35, .ref d1_36, .int 0, .int 0, .int 0, .int 0, .int 0, .int 0, .int 0, .int 0])), (st_30, .inr (4, [.ref u1_31, .ref f1_32, .ref g1_33, .int 0, .int 0, .int 1])), (u1_31, .inl (cI, 12, .inl (fun _ => 0))), (f1_32, .inl (cI, 10, .inl ff_42)), (g1_33, .inl (cI, 10, .inl fg_43)), (m1_34, .inl (cI, 10, .inl (fun _ => 0))), (c1_35, .inl (cI, 10, .inl (fun _ => 0))), (d1_36, .inl (cI, 10, .inl (fun _ => 0))), (q_45, .inr (10, [.null, .null, .null, .null, .null, .null, .null, .null, .null, .null, .null, .int 0, .int 0, .int 0, .null, .int 0, .int 0, .int 0, .int 0, .int 0, .int 0, .int 0, .int 0, .int 0, .int 0, .null, .null, .null, .null, .null, .null, .null, .null, .null, .null, .null, .null, .null, .null, .null, .null, .null, .null, .int 0, .null, .null, .null, .null, .null, .null, .null, .null, .int 0, .int 0, .int 0, .int 0, .null, .int 0, .null, .null, .null, .null, .null, .null, .int 0]))] H := hP
  have hD : va_D A [(q_1, .inr (9, [.ref tp_3, .ref tw_5, .ref nw_10, .ref kp_14, .ref lw_18, .ref lr_26, .ref dd_27, .ref vv_28, .ref tl_29, .ref sc_37, .int 0])), (tp_3, .inr (5, [.ref by__4, .int 0])), (by__4, .inl (cI, 260, .inl (fun _ => 0))), (tw_5, .inr (7, [.int 0, .int 0, .int 0, .ref t1_6, .ref t2_7, .ref t3_8, .ref t4_9])), (t1_6, .inl (cI, 10, .inl (fun _ => 0))), (t2_7, .inl (cI, 12, .inl (fun _ => 0))), (nw_10, .inr (4, [.ref u2_11, .ref f2_12, .ref g2_13, .int 0, .int 0, .int 1])), (u2_11, .inl (cI, 12, .inl (fun _ => 0))), (f2_12, .inl (cI, 10, .inl ff2_38)), (g2_13, .inl (cI, 10, .inl fg2_39)), (kp_14, .inr (4, [.ref u3_15, .ref f3_16, .ref g3_17, .int 0, .int 0, .int 1])), (u3_15, .inl (cI, 12, .inl (fun _ => 0))), (f3_16, .inl (cI, 10, .inl ff3_40)), (g3_17, .inl (cI, 10, .inl fg3_41)), (lw_18, .inr (1, [.ref l1_19, .ref l2_20, .ref l3_21, .ref l4_22, .ref l5_23, .ref l6_24, .ref l7_25, .int 0, .int 0])), (l6_24, .inl (cI, 8, .inl (fun _ => 0))), (tl_29, .inr (8, [.ref tw_5, .ref lw_18, .ref st_30, .ref m1_34, .ref c1_35, .ref d1_36, .int 0, .int 0, .int 0, .int 0, .int 0, .int 0, .int 0, .int 0])), (st_30, .inr (4, [.ref u1_31, .ref f1_32, .ref g1_33, .int 0, .int 0, .int 1])), (u1_31, .inl (cI, 12, .inl (fun _ => 0))), (f1_32, .inl (cI, 10, .inl ff_42)), (g1_33, .inl (cI, 10, .inl fg_43)), (m1_34, .inl (cI, 10, .inl (fun _ => 0))), (c1_35, .inl (cI, 10, .inl (fun _ => 0))), (d1_36, .inl (cI, 10, .inl (fun _ => 0))), (q_45, .inr (10, [.null, .null, .null, .null, .null, .null, .null, .null, .null, .null, .null, .int 0, .int 0, .int 0, .null, .int 0, .int 0, .int 0, .int 0, .int 0, .int 0, .int 0, .int 0, .int 0, .int 0, .null, .null, .null, .null, .null, .null, .null, .null, .null, .null, .null, .null, .null, .null, .null, .null, .null, .null, .int 0, .null, .null, .null, .null, .null, .null, .null, .null, .int 0, .int 0, .int 0, .int 0, .null, .int 0, .null, .null, .null, .null, .null, .null, .int 0]))] := hD
  show W p l e room_1 s m #[Value.ref b] below meth c H _ 50 1562 (lw_Z below #[Value.ref b] s) (F0 m 11 ls [.ref q_45])
  refine lv_dup hx hb dL_law_11 rfl ?_
  refine cIV (As := []) (rest := [.ref q_45]) (n := 0) (wr := [(q_1, .inr (9, [.ref tp_3, .ref tw_5, .ref nw_10, .ref kp_14, .ref lw_18, .ref lr_26, .ref dd_27, .ref vv_28, .ref tl_29, .ref sc_37, .int 0])), (tp_3, .inr (5, [.ref by__4, .int 0])), (by__4, .inl (cI, 260, .inl (fun _ => 0))), (tw_5, .inr (7, [.int 0, .int 0, .int 0, .ref t1_6, .ref t2_7, .ref t3_8, .ref t4_9])), (t1_6, .inl (cI, 10, .inl (fun _ => 0))), (t2_7, .inl (cI, 12, .inl (fun _ => 0))), (nw_10, .inr (4, [.ref u2_11, .ref f2_12, .ref g2_13, .int 0, .int 0, .int 1])), (u2_11, .inl (cI, 12, .inl (fun _ => 0))), (f2_12, .inl (cI, 10, .inl ff2_38)), (g2_13, .inl (cI, 10, .inl fg2_39)), (kp_14, .inr (4, [.ref u3_15, .ref f3_16, .ref g3_17, .int 0, .int 0, .int 1])), (u3_15, .inl (cI, 12, .inl (fun _ => 0))), (f3_16, .inl (cI, 10, .inl ff3_40)), (g3_17, .inl (cI, 10, .inl fg3_41)), (lw_18, .inr (1, [.ref l1_19, .ref l2_20, .ref l3_21, .ref l4_22, .ref l5_23, .ref l6_24, .ref l7_25, .int 0, .int 0])), (l6_24, .inl (cI, 8, .inl (fun _ => 0))), (tl_29, .inr (8, [.ref tw_5, .ref lw_18, .ref st_30, .ref m1_34, .ref c1_35, .ref d1_36, .int 0, .int 0, .int 0, .int 0, .int 0, .int 0, .int 0, .int 0])), (st_30, .inr (4, [.ref u1_31, .ref f1_32, .ref g1_33, .int 0, .int 0, .int 1])), (u1_31, .inl (cI, 12, .inl (fun _ => 0))), (f1_32, .inl (cI, 10, .inl ff_42)), (g1_33, .inl (cI, 10, .inl fg_43)), (m1_34, .inl (cI, 10, .inl (fun _ => 0))), (c1_35, .inl (cI, 10, .inl (fun _ => 0))), (d1_36, .inl (cI, 10, .inl (fun _ => 0)))]) X hN hK hP hD hS hA (c_X10_init l D cI cB _ q_45) k_1064 k_1065 k_103 k_1066 rfl (by decide +kernel) ⟨Nat.le_of_ble_eq_true rfl, Nat.le_of_ble_eq_true rfl⟩ [24] [0, 1, 2, 3, 4, 5, 6, 7, 8, 9, 10, 11, 12, 13, 14, 15, 16, 17, 18, 19, 20, 21, 22, 23] rfl rfl (by decide) (by decide) rfl rfl hl.1 (Nat.le_of_ble_eq_true rfl) dL_law_12 ⟨Nat.le_of_ble_eq_true rfl, Nat.le_of_ble_eq_true rfl⟩ (fun u H locs hw_95 hP hD hS => ?_)
  obtain ⟨a_now_47, a_aside_48, a_kept_49, a_keptFrom_50, a_keptTo_51, a_capOf_52, a_leaveFrom_53, a_leaveTo_54, a_amountOf_55, a_doerMany_56, a_doerOf_57, a_tape_58, a_said_59, a_waitsAt_60, a_saidLetter_61, a_saidFrom_62, a_saidHalf_63, a_saidTo_64, a_codes_65, a_clauseOf_66, a_codeFrom_67, a_codeHalf_68, a_codeTo_69, a_stack_70, a_facts_71, a_lineChore_72, a_lineMany_73, a_lineDoer_74, a_newFrom_75, a_newTo_76, a_goFrom_77, a_goTo_78, a_idleFrom_79, a_idleTo_80, a_moreOf_81, a_firstOf_82, a_leftOf_83, a_didOf_84, a_costBy_85, a_gainBy_86, a_hiredOf_87, a_hiredBest_88, a_hiredTo_89, a_turnOf_90, a_turnWho_91, fw_92, fl_93, fo5_94⟩ := u
  try dsimp only at hw_95
  have hP : va_P D vwCl [(q_1, .inr (9, [.ref tp_3, .ref tw_5, .ref nw_10, .ref kp_14, .ref lw_18, .ref lr_26, .ref dd_27, .ref vv_28, .ref tl_29, .ref sc_37, .int 0])), (tp_3, .inr (5, [.ref by__4, .int 0])), (by__4, .inl (cI, 260, .inl (fun _ => 0))), (tw_5, .inr (7, [.int 0, .int 0, .int 0, .ref t1_6, .ref t2_7, .ref t3_8, .ref t4_9])), (t1_6, .inl (cI, 10, .inl (fun _ => 0))), (t2_7, .inl (cI, 12, .inl (fun _ => 0))), (nw_10, .inr (4, [.ref u2_11, .ref f2_12, .ref g2_13, .int 0, .int 0, .int 1])), (u2_11, .inl (cI, 12, .inl (fun _ => 0))), (f2_12, .inl (cI, 10, .inl ff2_38)), (g2_13, .inl (cI, 10, .inl fg2_39)), (kp_14, .inr (4, [.ref u3_15, .ref f3_16, .ref g3_17, .int 0, .int 0, .int 1])), (u3_15, .inl (cI, 12, .inl (fun _ => 0))), (f3_16, .inl (cI, 10, .inl ff3_40)), (g3_17, .inl (cI, 10, .inl fg3_41)), (lw_18, .inr (1, [.ref l1_19, .ref l2_20, .ref l3_21, .ref l4_22, .ref l5_23, .ref l6_24, .ref l7_25, .int 0, .int 0])), (l6_24, .inl (cI, 8, .inl (fun _ => 0))), (tl_29, .inr (8, [.ref tw_5, .ref lw_18, .ref st_30, .ref m1_34, .ref c1_35, .ref d1_36, .int 0, .int 0, .int 0, .int 0, .int 0, .int 0, .int 0, .int 0])), (st_30, .inr (4, [.ref u1_31, .ref f1_32, .ref g1_33, .int 0, .int 0, .int 1])), (u1_31, .inl (cI, 12, .inl (fun _ => 0))), (f1_32, .inl (cI, 10, .inl ff_42)), (g1_33, .inl (cI, 10, .inl fg_43)), (m1_34, .inl (cI, 10, .inl (fun _ => 0))), (c1_35, .inl (cI, 10, .inl (fun _ => 0))), (d1_36, .inl (cI, 10, .inl (fun _ => 0))), (q_45, .inr (10, [.ref a_now_47, .ref a_aside_48, .ref a_kept_49, .ref a_keptFrom_50, .ref a_keptTo_51, .ref a_capOf_52, .ref a_leaveFrom_53, .ref a_leaveTo_54, .ref a_amountOf_55, .ref a_doerMany_56, .ref a_doerOf_57, .int 0, .int 0, .int 0, .ref a_tape_58, .int 0, .int 0, .int 0, .int 0, .int 0, .int 0, .int 0, .int 0, .int 0, .int 0, .ref a_said_59, .ref a_waitsAt_60, .ref a_saidLetter_61, .ref a_saidFrom_62, .ref a_saidHalf_63, .ref a_saidTo_64, .ref a_codes_65, .ref a_clauseOf_66, .ref a_codeFrom_67, .ref a_codeHalf_68, .ref a_codeTo_69, .ref a_stack_70, .ref a_facts_71, .ref a_lineChore_72, .ref a_lineMany_73, .ref a_lineDoer_74, .ref a_newFrom_75, .ref a_newTo_76, .int 0, .ref a_goFrom_77, .ref a_goTo_78, .ref a_idleFrom_79, .ref a_idleTo_80, .ref a_moreOf_81, .ref a_firstOf_82, .ref a_leftOf_83, .ref a_didOf_84, .int 0, .int 0, .int 0, .int 0, .ref a_costBy_85, .int 0, .ref a_gainBy_86, .ref a_hiredOf_87, .ref a_hiredBest_88, .ref a_hiredTo_89, .ref a_turnOf_90, .ref a_turnWho_91, .int 0])), (a_now_47, .inl (cI, 15, .inl fw_92)), (a_aside_48, .inl (cI, 15, .inl (fun _ => 0))), (a_kept_49, .inl (cI, 15, .inl (fun _ => 0))), (a_keptFrom_50, .inl (cI, 10, .inl (fun _ => 0))), (a_keptTo_51, .inl (cI, 10, .inl (fun _ => 0))), (a_capOf_52, .inl (cI, 10, .inl (fun _ => 0))), (a_leaveFrom_53, .inl (cI, 10, .inl fl_93)), (a_leaveTo_54, .inl (cI, 10, .inl (fun _ => 0))), (a_amountOf_55, .inl (cI, 12, .inl (fun _ => 0))), (a_tape_58, .inl (cB, 260, .inl (fun _ => 0))), (a_facts_71, .inl (cI, 8, .inl (fun _ => 0))), (a_leftOf_83, .inl (cI, 10, .inl (fun _ => 0))), (a_didOf_84, .inl (cI, 10, .inl (fun _ => 0))), (a_goFrom_77, .inl (cI, 10, .inl (fun _ => 0))), (a_goTo_78, .inl (cI, 10, .inl (fun _ => 0))), (a_idleFrom_79, .inl (cI, 10, .inl (fun _ => 0))), (a_idleTo_80, .inl (cI, 10, .inl (fun _ => 0))), (a_moreOf_81, .inl (cI, 10, .inl (fun _ => 0))), (a_firstOf_82, .inl (cI, 12, .inl fo5_94))] H := hP
  have hD : va_D A [(q_1, .inr (9, [.ref tp_3, .ref tw_5, .ref nw_10, .ref kp_14, .ref lw_18, .ref lr_26, .ref dd_27, .ref vv_28, .ref tl_29, .ref sc_37, .int 0])), (tp_3, .inr (5, [.ref by__4, .int 0])), (by__4, .inl (cI, 260, .inl (fun _ => 0))), (tw_5, .inr (7, [.int 0, .int 0, .int 0, .ref t1_6, .ref t2_7, .ref t3_8, .ref t4_9])), (t1_6, .inl (cI, 10, .inl (fun _ => 0))), (t2_7, .inl (cI, 12, .inl (fun _ => 0))), (nw_10, .inr (4, [.ref u2_11, .ref f2_12, .ref g2_13, .int 0, .int 0, .int 1])), (u2_11, .inl (cI, 12, .inl (fun _ => 0))), (f2_12, .inl (cI, 10, .inl ff2_38)), (g2_13, .inl (cI, 10, .inl fg2_39)), (kp_14, .inr (4, [.ref u3_15, .ref f3_16, .ref g3_17, .int 0, .int 0, .int 1])), (u3_15, .inl (cI, 12, .inl (fun _ => 0))), (f3_16, .inl (cI, 10, .inl ff3_40)), (g3_17, .inl (cI, 10, .inl fg3_41)), (lw_18, .inr (1, [.ref l1_19, .ref l2_20, .ref l3_21, .ref l4_22, .ref l5_23, .ref l6_24, .ref l7_25, .int 0, .int 0])), (l6_24, .inl (cI, 8, .inl (fun _ => 0))), (tl_29, .inr (8, [.ref tw_5, .ref lw_18, .ref st_30, .ref m1_34, .ref c1_35, .ref d1_36, .int 0, .int 0, .int 0, .int 0, .int 0, .int 0, .int 0, .int 0])), (st_30, .inr (4, [.ref u1_31, .ref f1_32, .ref g1_33, .int 0, .int 0, .int 1])), (u1_31, .inl (cI, 12, .inl (fun _ => 0))), (f1_32, .inl (cI, 10, .inl ff_42)), (g1_33, .inl (cI, 10, .inl fg_43)), (m1_34, .inl (cI, 10, .inl (fun _ => 0))), (c1_35, .inl (cI, 10, .inl (fun _ => 0))), (d1_36, .inl (cI, 10, .inl (fun _ => 0))), (q_45, .inr (10, [.ref a_now_47, .ref a_aside_48, .ref a_kept_49, .ref a_keptFrom_50, .ref a_keptTo_51, .ref a_capOf_52, .ref a_leaveFrom_53, .ref a_leaveTo_54, .ref a_amountOf_55, .ref a_doerMany_56, .ref a_doerOf_57, .int 0, .int 0, .int 0, .ref a_tape_58, .int 0, .int 0, .int 0, .int 0, .int 0, .int 0, .int 0, .int 0, .int 0, .int 0, .ref a_said_59, .ref a_waitsAt_60, .ref a_saidLetter_61, .ref a_saidFrom_62, .ref a_saidHalf_63, .ref a_saidTo_64, .ref a_codes_65, .ref a_clauseOf_66, .ref a_codeFrom_67, .ref a_codeHalf_68, .ref a_codeTo_69, .ref a_stack_70, .ref a_facts_71, .ref a_lineChore_72, .ref a_lineMany_73, .ref a_lineDoer_74, .ref a_newFrom_75, .ref a_newTo_76, .int 0, .ref a_goFrom_77, .ref a_goTo_78, .ref a_idleFrom_79, .ref a_idleTo_80, .ref a_moreOf_81, .ref a_firstOf_82, .ref a_leftOf_83, .ref a_didOf_84, .int 0, .int 0, .int 0, .int 0, .ref a_costBy_85, .int 0, .ref a_gainBy_86, .ref a_hiredOf_87, .ref a_hiredBest_88, .ref a_hiredTo_89, .ref a_turnOf_90, .ref a_turnWho_91, .int 0])), (a_now_47, .inl (cI, 15, .inl fw_92)), (a_aside_48, .inl (cI, 15, .inl (fun _ => 0))), (a_kept_49, .inl (cI, 15, .inl (fun _ => 0))), (a_keptFrom_50, .inl (cI, 10, .inl (fun _ => 0))), (a_keptTo_51, .inl (cI, 10, .inl (fun _ => 0))), (a_capOf_52, .inl (cI, 10, .inl (fun _ => 0))), (a_leaveFrom_53, .inl (cI, 10, .inl fl_93)), (a_leaveTo_54, .inl (cI, 10, .inl (fun _ => 0))), (a_amountOf_55, .inl (cI, 12, .inl (fun _ => 0))), (a_tape_58, .inl (cB, 260, .inl (fun _ => 0))), (a_facts_71, .inl (cI, 8, .inl (fun _ => 0))), (a_leftOf_83, .inl (cI, 10, .inl (fun _ => 0))), (a_didOf_84, .inl (cI, 10, .inl (fun _ => 0))), (a_goFrom_77, .inl (cI, 10, .inl (fun _ => 0))), (a_goTo_78, .inl (cI, 10, .inl (fun _ => 0))), (a_idleFrom_79, .inl (cI, 10, .inl (fun _ => 0))), (a_idleTo_80, .inl (cI, 10, .inl (fun _ => 0))), (a_moreOf_81, .inl (cI, 10, .inl (fun _ => 0))), (a_firstOf_82, .inl (cI, 12, .inl fo5_94))] := hD
  show W p l e room_1 s m #[Value.ref b] below meth c H locs 95 4549 (lw_Z below #[Value.ref b] s) (F0 m 15 ls [.ref q_45])
  refine lv_astore_n (lv' := [(2, .ref q_45), (1, .ref q_1), (0, .ref b)]) hx hb dL_law_15 rfl hl (by decide) rfl (fun ls hl => ?_)
  refine lv_iconst (v := 0) hx hb dL_law_16 (by decide) ?_
  refine lv_istore_n (lv' := [(3, .int 0), (2, .ref q_45), (1, .ref q_1), (0, .ref b)]) hx hb dL_law_17 rfl hl (by decide) rfl (fun ls hl => ?_)
  refine lv_iload_n hx hb dL_law_18 rfl (lv_at hl 0 rfl) ?_
  refine lv_aload_n hx hb dL_law_19 rfl (lv_at hl 3 rfl) ?_
  rcases (show L < 6 ∨ L = 6 by omega) with hL6 | hL6
  · refine va_slen hx hb hX hbl hbA hS dL_law_20 ?_
    refine lv_bipush (v := 6) hx hb dL_law_21 (by decide) ?_
    refine lv_isub hx hb dL_law_23 ?_
    refine lv_icmp_gt (tgt := 1315) hx hb dL_law_24 (by decide) (fun _ => ?_) (fun c_24 => absurd (lt6 hL6) c_24)
    refine lv_iconst (v := 1) hx hb dL_law_1315 (by decide) ?_
    refine va_forget (fun q hq => hAq _ (hS.2.2 q hq)) ?_
    refine W.widen (k := 600000) (n := 7302250) (Nat.le_of_ble_eq_true rfl) (Nat.le_of_ble_eq_true rfl) ?_
    exact lw_ret hx hb hr hlocks dL_law_1316
  subst hL6
  refine va_slen hx hb hX hbl hbA hS dL_law_20 ?_
  refine tv (z := 6) rfl ?_
  refine lv_bipush (v := 6) hx hb dL_law_21 (by decide) ?_
  refine lv_isub hx hb dL_law_23 ?_
  refine tv (z := 0) (by decide) ?_
  refine lv_icmp_gt (tgt := 1315) hx hb dL_law_24 (by decide) (fun c_24 => absurd c_24 (by decide)) (fun _ => ?_)
  refine lv_aload_n hx hb dL_law_27 rfl (lv_at hl 3 rfl) ?_
  refine lv_iload_n hx hb dL_law_28 rfl (lv_at hl 0 rfl) ?_
  refine va_sld hx hb hX hbl hbA hS (by unfold vp_in; decide) dL_law_29 ?_
  refine tv (z := xs 0) rfl ?_
  refine lv_bipush (v := 63) hx hb dL_law_30 (by decide) ?_
  refine lv_iand hx hb dL_law_32 ?_
  refine lv_topi (fun z ez => ?_)
  by_cases e33_0 : z = 0
  · subst e33_0
    refine lv_tableIn (off := 147) (tgt := 180) hx hb dL_law_33 (by decide) (by decide) (by decide) (by decide) ?_
    refine lv_aload_n hx hb dL_law_180 rfl (lv_at hl 2 rfl) ?_
    refine lv_aload_n hx hb dL_law_181 rfl (lv_at hl 3 rfl) ?_
    refine lv_iload_n hx hb dL_law_182 rfl (lv_at hl 0 rfl) ?_
    refine lv_iconst (v := 1) hx hb dL_law_183 (by decide) ?_
    refine lv_iadd hx hb dL_law_184 ?_
    refine tv (z := 1) (by decide) ?_
    refine va_sld hx hb hX hbl hbA hS (by unfold vp_in; decide) dL_law_185 ?_
    refine tv (z := xs 1) rfl ?_
    refine lv_aload_n hx hb dL_law_186 rfl (lv_at hl 3 rfl) ?_
    refine lv_iload_n hx hb dL_law_187 rfl (lv_at hl 0 rfl) ?_
    refine lv_iconst (v := 2) hx hb dL_law_188 (by decide) ?_
    refine lv_iadd hx hb dL_law_189 ?_
    refine tv (z := 2) (by decide) ?_
    refine va_sld hx hb hX hbl hbA hS (by unfold vp_in; decide) dL_law_190 ?_
    refine tv (z := xs 2) rfl ?_
    refine cVI (As := [.int (xs 1), .int (xs 2)]) (rest := []) (n := 2) (ci := 9) (q0 := 0) (wr := [(tp_3, .inr (5, [.ref by__4, .int 0])), (by__4, .inl (cI, 260, .inl (fun _ => 0))), (t2_7, .inl (cI, 12, .inl (fun _ => 0))), (nw_10, .inr (4, [.ref u2_11, .ref f2_12, .ref g2_13, .int 0, .int 0, .int 1])), (u2_11, .inl (cI, 12, .inl (fun _ => 0))), (f2_12, .inl (cI, 10, .inl ff2_38)), (g2_13, .inl (cI, 10, .inl fg2_39)), (kp_14, .inr (4, [.ref u3_15, .ref f3_16, .ref g3_17, .int 0, .int 0, .int 1])), (u3_15, .inl (cI, 12, .inl (fun _ => 0))), (f3_16, .inl (cI, 10, .inl ff3_40)), (g3_17, .inl (cI, 10, .inl fg3_41)), (lw_18, .inr (1, [.ref l1_19, .ref l2_20, .ref l3_21, .ref l4_22, .ref l5_23, .ref l6_24, .ref l7_25, .int 0, .int 0])), (l6_24, .inl (cI, 8, .inl (fun _ => 0))), (tl_29, .inr (8, [.ref tw_5, .ref lw_18, .ref st_30, .ref m1_34, .ref c1_35, .ref d1_36, .int 0, .int 0, .int 0, .int 0, .int 0, .int 0, .int 0, .int 0])), (st_30, .inr (4, [.ref u1_31, .ref f1_32, .ref g1_33, .int 0, .int 0, .int 1])), (u1_31, .inl (cI, 12, .inl (fun _ => 0))), (f1_32, .inl (cI, 10, .inl ff_42)), (g1_33, .inl (cI, 10, .inl fg_43)), (m1_34, .inl (cI, 10, .inl (fun _ => 0))), (c1_35, .inl (cI, 10, .inl (fun _ => 0))), (d1_36, .inl (cI, 10, .inl (fun _ => 0))), (q_45, .inr (10, [.ref a_now_47, .ref a_aside_48, .ref a_kept_49, .ref a_keptFrom_50, .ref a_keptTo_51, .ref a_capOf_52, .ref a_leaveFrom_53, .ref a_leaveTo_54, .ref a_amountOf_55, .ref a_doerMany_56, .ref a_doerOf_57, .int 0, .int 0, .int 0, .ref a_tape_58, .int 0, .int 0, .int 0, .int 0, .int 0, .int 0, .int 0, .int 0, .int 0, .int 0, .ref a_said_59, .ref a_waitsAt_60, .ref a_saidLetter_61, .ref a_saidFrom_62, .ref a_saidHalf_63, .ref a_saidTo_64, .ref a_codes_65, .ref a_clauseOf_66, .ref a_codeFrom_67, .ref a_codeHalf_68, .ref a_codeTo_69, .ref a_stack_70, .ref a_facts_71, .ref a_lineChore_72, .ref a_lineMany_73, .ref a_lineDoer_74, .ref a_newFrom_75, .ref a_newTo_76, .int 0, .ref a_goFrom_77, .ref a_goTo_78, .ref a_idleFrom_79, .ref a_idleTo_80, .ref a_moreOf_81, .ref a_firstOf_82, .ref a_leftOf_83, .ref a_didOf_84, .int 0, .int 0, .int 0, .int 0, .ref a_costBy_85, .int 0, .ref a_gainBy_86, .ref a_hiredOf_87, .ref a_hiredBest_88, .ref a_hiredTo_89, .ref a_turnOf_90, .ref a_turnWho_91, .int 0])), (a_now_47, .inl (cI, 15, .inl fw_92)), (a_aside_48, .inl (cI, 15, .inl (fun _ => 0))), (a_kept_49, .inl (cI, 15, .inl (fun _ => 0))), (a_keptFrom_50, .inl (cI, 10, .inl (fun _ => 0))), (a_keptTo_51, .inl (cI, 10, .inl (fun _ => 0))), (a_capOf_52, .inl (cI, 10, .inl (fun _ => 0))), (a_leaveFrom_53, .inl (cI, 10, .inl fl_93)), (a_leaveTo_54, .inl (cI, 10, .inl (fun _ => 0))), (a_amountOf_55, .inl (cI, 12, .inl (fun _ => 0))), (a_tape_58, .inl (cB, 260, .inl (fun _ => 0))), (a_facts_71, .inl (cI, 8, .inl (fun _ => 0))), (a_leftOf_83, .inl (cI, 10, .inl (fun _ => 0))), (a_didOf_84, .inl (cI, 10, .inl (fun _ => 0))), (a_goFrom_77, .inl (cI, 10, .inl (fun _ => 0))), (a_goTo_78, .inl (cI, 10, .inl (fun _ => 0))), (a_idleFrom_79, .inl (cI, 10, .inl (fun _ => 0))), (a_idleTo_80, .inl (cI, 10, .inl (fun _ => 0))), (a_moreOf_81, .inl (cI, 10, .inl (fun _ => 0))), (a_firstOf_82, .inl (cI, 12, .inl fo5_94))]) X hN hK hP hD hS hA (c_X9_person l D cI cB _ q_1 tp_3 tw_5 nw_10 kp_14 lw_18 lr_26 dd_27 vv_28 tl_29 sc_37 t1_6 t2_7 t3_8 t4_9 (fun _ => 0) (xs 1) (xs 2)) (gV k_427 k_428 k_429 k_92 k_430) (by decide +kernel) ⟨Nat.le_of_ble_eq_true rfl, Nat.le_of_ble_eq_true rfl⟩ ⟨rfl, rfl⟩ [0, 3, 4] [1, 2, 5, 6, 7, 8, 9, 10, 11, 12, 13, 14, 15, 16, 17, 18, 19, 20, 21, 22, 23, 24, 25, 26, 27, 28, 29, 30, 31, 32, 33, 34, 35, 36, 37, 38, 39, 40, 41, 42, 43] rfl rfl (by decide) (by decide) rfl rfl rfl rfl rfl hl.1 (Nat.le_of_ble_eq_true rfl) dL_law_191 ⟨Nat.le_of_ble_eq_true rfl, Nat.le_of_ble_eq_true rfl⟩ (fun r_96 u H locs hw_97 hP hD hS => ?_)
    try dsimp only at hw_97
    have hP : va_P D vwCl [(tp_3, .inr (5, [.ref by__4, .int 0])), (by__4, .inl (cI, 260, .inl (fun _ => 0))), (t2_7, .inl (cI, 12, .inl (fun _ => 0))), (nw_10, .inr (4, [.ref u2_11, .ref f2_12, .ref g2_13, .int 0, .int 0, .int 1])), (u2_11, .inl (cI, 12, .inl (fun _ => 0))), (f2_12, .inl (cI, 10, .inl ff2_38)), (g2_13, .inl (cI, 10, .inl fg2_39)), (kp_14, .inr (4, [.ref u3_15, .ref f3_16, .ref g3_17, .int 0, .int 0, .int 1])), (u3_15, .inl (cI, 12, .inl (fun _ => 0))), (f3_16, .inl (cI, 10, .inl ff3_40)), (g3_17, .inl (cI, 10, .inl fg3_41)), (lw_18, .inr (1, [.ref l1_19, .ref l2_20, .ref l3_21, .ref l4_22, .ref l5_23, .ref l6_24, .ref l7_25, .int 0, .int 0])), (l6_24, .inl (cI, 8, .inl (fun _ => 0))), (tl_29, .inr (8, [.ref tw_5, .ref lw_18, .ref st_30, .ref m1_34, .ref c1_35, .ref d1_36, .int 0, .int 0, .int 0, .int 0, .int 0, .int 0, .int 0, .int 0])), (st_30, .inr (4, [.ref u1_31, .ref f1_32, .ref g1_33, .int 0, .int 0, .int 1])), (u1_31, .inl (cI, 12, .inl (fun _ => 0))), (f1_32, .inl (cI, 10, .inl ff_42)), (g1_33, .inl (cI, 10, .inl fg_43)), (m1_34, .inl (cI, 10, .inl (fun _ => 0))), (c1_35, .inl (cI, 10, .inl (fun _ => 0))), (d1_36, .inl (cI, 10, .inl (fun _ => 0))), (q_45, .inr (10, [.ref a_now_47, .ref a_aside_48, .ref a_kept_49, .ref a_keptFrom_50, .ref a_keptTo_51, .ref a_capOf_52, .ref a_leaveFrom_53, .ref a_leaveTo_54, .ref a_amountOf_55, .ref a_doerMany_56, .ref a_doerOf_57, .int 0, .int 0, .int 0, .ref a_tape_58, .int 0, .int 0, .int 0, .int 0, .int 0, .int 0, .int 0, .int 0, .int 0, .int 0, .ref a_said_59, .ref a_waitsAt_60, .ref a_saidLetter_61, .ref a_saidFrom_62, .ref a_saidHalf_63, .ref a_saidTo_64, .ref a_codes_65, .ref a_clauseOf_66, .ref a_codeFrom_67, .ref a_codeHalf_68, .ref a_codeTo_69, .ref a_stack_70, .ref a_facts_71, .ref a_lineChore_72, .ref a_lineMany_73, .ref a_lineDoer_74, .ref a_newFrom_75, .ref a_newTo_76, .int 0, .ref a_goFrom_77, .ref a_goTo_78, .ref a_idleFrom_79, .ref a_idleTo_80, .ref a_moreOf_81, .ref a_firstOf_82, .ref a_leftOf_83, .ref a_didOf_84, .int 0, .int 0, .int 0, .int 0, .ref a_costBy_85, .int 0, .ref a_gainBy_86, .ref a_hiredOf_87, .ref a_hiredBest_88, .ref a_hiredTo_89, .ref a_turnOf_90, .ref a_turnWho_91, .int 0])), (a_now_47, .inl (cI, 15, .inl fw_92)), (a_aside_48, .inl (cI, 15, .inl (fun _ => 0))), (a_kept_49, .inl (cI, 15, .inl (fun _ => 0))), (a_keptFrom_50, .inl (cI, 10, .inl (fun _ => 0))), (a_keptTo_51, .inl (cI, 10, .inl (fun _ => 0))), (a_capOf_52, .inl (cI, 10, .inl (fun _ => 0))), (a_leaveFrom_53, .inl (cI, 10, .inl fl_93)), (a_leaveTo_54, .inl (cI, 10, .inl (fun _ => 0))), (a_amountOf_55, .inl (cI, 12, .inl (fun _ => 0))), (a_tape_58, .inl (cB, 260, .inl (fun _ => 0))), (a_facts_71, .inl (cI, 8, .inl (fun _ => 0))), (a_leftOf_83, .inl (cI, 10, .inl (fun _ => 0))), (a_didOf_84, .inl (cI, 10, .inl (fun _ => 0))), (a_goFrom_77, .inl (cI, 10, .inl (fun _ => 0))), (a_goTo_78, .inl (cI, 10, .inl (fun _ => 0))), (a_idleFrom_79, .inl (cI, 10, .inl (fun _ => 0))), (a_idleTo_80, .inl (cI, 10, .inl (fun _ => 0))), (a_moreOf_81, .inl (cI, 10, .inl (fun _ => 0))), (a_firstOf_82, .inl (cI, 12, .inl fo5_94))] H := hP
    have hD : va_D A [(tp_3, .inr (5, [.ref by__4, .int 0])), (by__4, .inl (cI, 260, .inl (fun _ => 0))), (t2_7, .inl (cI, 12, .inl (fun _ => 0))), (nw_10, .inr (4, [.ref u2_11, .ref f2_12, .ref g2_13, .int 0, .int 0, .int 1])), (u2_11, .inl (cI, 12, .inl (fun _ => 0))), (f2_12, .inl (cI, 10, .inl ff2_38)), (g2_13, .inl (cI, 10, .inl fg2_39)), (kp_14, .inr (4, [.ref u3_15, .ref f3_16, .ref g3_17, .int 0, .int 0, .int 1])), (u3_15, .inl (cI, 12, .inl (fun _ => 0))), (f3_16, .inl (cI, 10, .inl ff3_40)), (g3_17, .inl (cI, 10, .inl fg3_41)), (lw_18, .inr (1, [.ref l1_19, .ref l2_20, .ref l3_21, .ref l4_22, .ref l5_23, .ref l6_24, .ref l7_25, .int 0, .int 0])), (l6_24, .inl (cI, 8, .inl (fun _ => 0))), (tl_29, .inr (8, [.ref tw_5, .ref lw_18, .ref st_30, .ref m1_34, .ref c1_35, .ref d1_36, .int 0, .int 0, .int 0, .int 0, .int 0, .int 0, .int 0, .int 0])), (st_30, .inr (4, [.ref u1_31, .ref f1_32, .ref g1_33, .int 0, .int 0, .int 1])), (u1_31, .inl (cI, 12, .inl (fun _ => 0))), (f1_32, .inl (cI, 10, .inl ff_42)), (g1_33, .inl (cI, 10, .inl fg_43)), (m1_34, .inl (cI, 10, .inl (fun _ => 0))), (c1_35, .inl (cI, 10, .inl (fun _ => 0))), (d1_36, .inl (cI, 10, .inl (fun _ => 0))), (q_45, .inr (10, [.ref a_now_47, .ref a_aside_48, .ref a_kept_49, .ref a_keptFrom_50, .ref a_keptTo_51, .ref a_capOf_52, .ref a_leaveFrom_53, .ref a_leaveTo_54, .ref a_amountOf_55, .ref a_doerMany_56, .ref a_doerOf_57, .int 0, .int 0, .int 0, .ref a_tape_58, .int 0, .int 0, .int 0, .int 0, .int 0, .int 0, .int 0, .int 0, .int 0, .int 0, .ref a_said_59, .ref a_waitsAt_60, .ref a_saidLetter_61, .ref a_saidFrom_62, .ref a_saidHalf_63, .ref a_saidTo_64, .ref a_codes_65, .ref a_clauseOf_66, .ref a_codeFrom_67, .ref a_codeHalf_68, .ref a_codeTo_69, .ref a_stack_70, .ref a_facts_71, .ref a_lineChore_72, .ref a_lineMany_73, .ref a_lineDoer_74, .ref a_newFrom_75, .ref a_newTo_76, .int 0, .ref a_goFrom_77, .ref a_goTo_78, .ref a_idleFrom_79, .ref a_idleTo_80, .ref a_moreOf_81, .ref a_firstOf_82, .ref a_leftOf_83, .ref a_didOf_84, .int 0, .int 0, .int 0, .int 0, .ref a_costBy_85, .int 0, .ref a_gainBy_86, .ref a_hiredOf_87, .ref a_hiredBest_88, .ref a_hiredTo_89, .ref a_turnOf_90, .ref a_turnWho_91, .int 0])), (a_now_47, .inl (cI, 15, .inl fw_92)), (a_aside_48, .inl (cI, 15, .inl (fun _ => 0))), (a_kept_49, .inl (cI, 15, .inl (fun _ => 0))), (a_keptFrom_50, .inl (cI, 10, .inl (fun _ => 0))), (a_keptTo_51, .inl (cI, 10, .inl (fun _ => 0))), (a_capOf_52, .inl (cI, 10, .inl (fun _ => 0))), (a_leaveFrom_53, .inl (cI, 10, .inl fl_93)), (a_leaveTo_54, .inl (cI, 10, .inl (fun _ => 0))), (a_amountOf_55, .inl (cI, 12, .inl (fun _ => 0))), (a_tape_58, .inl (cB, 260, .inl (fun _ => 0))), (a_facts_71, .inl (cI, 8, .inl (fun _ => 0))), (a_leftOf_83, .inl (cI, 10, .inl (fun _ => 0))), (a_didOf_84, .inl (cI, 10, .inl (fun _ => 0))), (a_goFrom_77, .inl (cI, 10, .inl (fun _ => 0))), (a_goTo_78, .inl (cI, 10, .inl (fun _ => 0))), (a_idleFrom_79, .inl (cI, 10, .inl (fun _ => 0))), (a_idleTo_80, .inl (cI, 10, .inl (fun _ => 0))), (a_moreOf_81, .inl (cI, 10, .inl (fun _ => 0))), (a_firstOf_82, .inl (cI, 12, .inl fo5_94))] := hD
    refine lv_aload_n hx hb dL_law_194 rfl (lv_at hl 1 rfl) ?_
    refine lv_aload_n hx hb dL_law_195 rfl (lv_at hl 3 rfl) ?_
    refine lv_iload_n hx hb dL_law_196 rfl (lv_at hl 0 rfl) ?_
    refine lv_iconst (v := 1) hx hb dL_law_197 (by decide) ?_
    refine lv_iadd hx hb dL_law_198 ?_
    refine tv (z := 1) (by decide) ?_
    refine va_sld hx hb hX hbl hbA hS (by unfold vp_in; decide) dL_law_199 ?_
    refine tv (z := xs 1) rfl ?_
    refine lv_aload_n hx hb dL_law_200 rfl (lv_at hl 3 rfl) ?_
    refine lv_iload_n hx hb dL_law_201 rfl (lv_at hl 0 rfl) ?_
    refine lv_iconst (v := 2) hx hb dL_law_202 (by decide) ?_
    refine lv_iadd hx hb dL_law_203 ?_
    refine tv (z := 2) (by decide) ?_
    refine va_sld hx hb hX hbl hbA hS (by unfold vp_in; decide) dL_law_204 ?_
    refine tv (z := xs 2) rfl ?_
    refine cVI (As := [.int (xs 1), .int (xs 2)]) (rest := [.int r_96]) (n := 2) (ci := 10) (q0 := 0) (wr := [(tp_3, .inr (5, [.ref by__4, .int 0])), (by__4, .inl (cI, 260, .inl (fun _ => 0))), (t2_7, .inl (cI, 12, .inl (fun _ => 0))), (nw_10, .inr (4, [.ref u2_11, .ref f2_12, .ref g2_13, .int 0, .int 0, .int 1])), (u2_11, .inl (cI, 12, .inl (fun _ => 0))), (f2_12, .inl (cI, 10, .inl ff2_38)), (g2_13, .inl (cI, 10, .inl fg2_39)), (kp_14, .inr (4, [.ref u3_15, .ref f3_16, .ref g3_17, .int 0, .int 0, .int 1])), (u3_15, .inl (cI, 12, .inl (fun _ => 0))), (f3_16, .inl (cI, 10, .inl ff3_40)), (g3_17, .inl (cI, 10, .inl fg3_41)), (lw_18, .inr (1, [.ref l1_19, .ref l2_20, .ref l3_21, .ref l4_22, .ref l5_23, .ref l6_24, .ref l7_25, .int 0, .int 0])), (l6_24, .inl (cI, 8, .inl (fun _ => 0))), (tl_29, .inr (8, [.ref tw_5, .ref lw_18, .ref st_30, .ref m1_34, .ref c1_35, .ref d1_36, .int 0, .int 0, .int 0, .int 0, .int 0, .int 0, .int 0, .int 0])), (st_30, .inr (4, [.ref u1_31, .ref f1_32, .ref g1_33, .int 0, .int 0, .int 1])), (u1_31, .inl (cI, 12, .inl (fun _ => 0))), (f1_32, .inl (cI, 10, .inl ff_42)), (g1_33, .inl (cI, 10, .inl fg_43)), (m1_34, .inl (cI, 10, .inl (fun _ => 0))), (c1_35, .inl (cI, 10, .inl (fun _ => 0))), (d1_36, .inl (cI, 10, .inl (fun _ => 0))), (a_now_47, .inl (cI, 15, .inl fw_92)), (a_aside_48, .inl (cI, 15, .inl (fun _ => 0))), (a_kept_49, .inl (cI, 15, .inl (fun _ => 0))), (a_keptFrom_50, .inl (cI, 10, .inl (fun _ => 0))), (a_keptTo_51, .inl (cI, 10, .inl (fun _ => 0))), (a_leaveFrom_53, .inl (cI, 10, .inl fl_93)), (a_leaveTo_54, .inl (cI, 10, .inl (fun _ => 0))), (a_amountOf_55, .inl (cI, 12, .inl (fun _ => 0))), (a_tape_58, .inl (cB, 260, .inl (fun _ => 0))), (a_facts_71, .inl (cI, 8, .inl (fun _ => 0))), (a_leftOf_83, .inl (cI, 10, .inl (fun _ => 0))), (a_didOf_84, .inl (cI, 10, .inl (fun _ => 0))), (a_goFrom_77, .inl (cI, 10, .inl (fun _ => 0))), (a_goTo_78, .inl (cI, 10, .inl (fun _ => 0))), (a_idleFrom_79, .inl (cI, 10, .inl (fun _ => 0))), (a_idleTo_80, .inl (cI, 10, .inl (fun _ => 0))), (a_moreOf_81, .inl (cI, 10, .inl (fun _ => 0))), (a_firstOf_82, .inl (cI, 12, .inl fo5_94))]) X hN hK hP hD hS hA (c_X10_person l D cI cB _ q_45 a_now_47 a_aside_48 a_kept_49 a_keptFrom_50 a_keptTo_51 a_capOf_52 a_leaveFrom_53 a_leaveTo_54 a_amountOf_55 a_doerMany_56 a_doerOf_57 a_tape_58 a_said_59 a_waitsAt_60 a_saidLetter_61 a_saidFrom_62 a_saidHalf_63 a_saidTo_64 a_codes_65 a_clauseOf_66 a_codeFrom_67 a_codeHalf_68 a_codeTo_69 a_stack_70 a_facts_71 a_lineChore_72 a_lineMany_73 a_lineDoer_74 a_newFrom_75 a_newTo_76 a_goFrom_77 a_goTo_78 a_idleFrom_79 a_idleTo_80 a_moreOf_81 a_firstOf_82 a_leftOf_83 a_didOf_84 a_costBy_85 a_gainBy_86 a_hiredOf_87 a_hiredBest_88 a_hiredTo_89 a_turnOf_90 a_turnWho_91 0 0 0 0 (fun _ => 0) (xs 1) (xs 2)) (gV k_1264 k_1265 k_1266 k_103 k_1267) (by decide +kernel) ⟨Nat.le_of_ble_eq_true rfl, Nat.le_of_ble_eq_true rfl⟩ ⟨rfl, rfl⟩ [21, 27] [0, 1, 2, 3, 4, 5, 6, 7, 8, 9, 10, 11, 12, 13, 14, 15, 16, 17, 18, 19, 20, 22, 23, 24, 25, 26, 28, 29, 30, 31, 32, 33, 34, 35, 36, 37, 38, 39, 40] rfl rfl (by decide) (by decide) rfl rfl rfl rfl rfl hl.1 (Nat.le_of_ble_eq_true rfl) dL_law_205 ⟨Nat.le_of_ble_eq_true rfl, Nat.le_of_ble_eq_true rfl⟩ (fun r_98 u H locs hw_99 hP hD hS => ?_)
    try dsimp only at hw_99
    have hP : va_P D vwCl [(tp_3, .inr (5, [.ref by__4, .int 0])), (by__4, .inl (cI, 260, .inl (fun _ => 0))), (t2_7, .inl (cI, 12, .inl (fun _ => 0))), (nw_10, .inr (4, [.ref u2_11, .ref f2_12, .ref g2_13, .int 0, .int 0, .int 1])), (u2_11, .inl (cI, 12, .inl (fun _ => 0))), (f2_12, .inl (cI, 10, .inl ff2_38)), (g2_13, .inl (cI, 10, .inl fg2_39)), (kp_14, .inr (4, [.ref u3_15, .ref f3_16, .ref g3_17, .int 0, .int 0, .int 1])), (u3_15, .inl (cI, 12, .inl (fun _ => 0))), (f3_16, .inl (cI, 10, .inl ff3_40)), (g3_17, .inl (cI, 10, .inl fg3_41)), (lw_18, .inr (1, [.ref l1_19, .ref l2_20, .ref l3_21, .ref l4_22, .ref l5_23, .ref l6_24, .ref l7_25, .int 0, .int 0])), (l6_24, .inl (cI, 8, .inl (fun _ => 0))), (tl_29, .inr (8, [.ref tw_5, .ref lw_18, .ref st_30, .ref m1_34, .ref c1_35, .ref d1_36, .int 0, .int 0, .int 0, .int 0, .int 0, .int 0, .int 0, .int 0])), (st_30, .inr (4, [.ref u1_31, .ref f1_32, .ref g1_33, .int 0, .int 0, .int 1])), (u1_31, .inl (cI, 12, .inl (fun _ => 0))), (f1_32, .inl (cI, 10, .inl ff_42)), (g1_33, .inl (cI, 10, .inl fg_43)), (m1_34, .inl (cI, 10, .inl (fun _ => 0))), (c1_35, .inl (cI, 10, .inl (fun _ => 0))), (d1_36, .inl (cI, 10, .inl (fun _ => 0))), (a_now_47, .inl (cI, 15, .inl fw_92)), (a_aside_48, .inl (cI, 15, .inl (fun _ => 0))), (a_kept_49, .inl (cI, 15, .inl (fun _ => 0))), (a_keptFrom_50, .inl (cI, 10, .inl (fun _ => 0))), (a_keptTo_51, .inl (cI, 10, .inl (fun _ => 0))), (a_leaveFrom_53, .inl (cI, 10, .inl fl_93)), (a_leaveTo_54, .inl (cI, 10, .inl (fun _ => 0))), (a_amountOf_55, .inl (cI, 12, .inl (fun _ => 0))), (a_tape_58, .inl (cB, 260, .inl (fun _ => 0))), (a_facts_71, .inl (cI, 8, .inl (fun _ => 0))), (a_leftOf_83, .inl (cI, 10, .inl (fun _ => 0))), (a_didOf_84, .inl (cI, 10, .inl (fun _ => 0))), (a_goFrom_77, .inl (cI, 10, .inl (fun _ => 0))), (a_goTo_78, .inl (cI, 10, .inl (fun _ => 0))), (a_idleFrom_79, .inl (cI, 10, .inl (fun _ => 0))), (a_idleTo_80, .inl (cI, 10, .inl (fun _ => 0))), (a_moreOf_81, .inl (cI, 10, .inl (fun _ => 0))), (a_firstOf_82, .inl (cI, 12, .inl fo5_94))] H := hP
    have hD : va_D A [(tp_3, .inr (5, [.ref by__4, .int 0])), (by__4, .inl (cI, 260, .inl (fun _ => 0))), (t2_7, .inl (cI, 12, .inl (fun _ => 0))), (nw_10, .inr (4, [.ref u2_11, .ref f2_12, .ref g2_13, .int 0, .int 0, .int 1])), (u2_11, .inl (cI, 12, .inl (fun _ => 0))), (f2_12, .inl (cI, 10, .inl ff2_38)), (g2_13, .inl (cI, 10, .inl fg2_39)), (kp_14, .inr (4, [.ref u3_15, .ref f3_16, .ref g3_17, .int 0, .int 0, .int 1])), (u3_15, .inl (cI, 12, .inl (fun _ => 0))), (f3_16, .inl (cI, 10, .inl ff3_40)), (g3_17, .inl (cI, 10, .inl fg3_41)), (lw_18, .inr (1, [.ref l1_19, .ref l2_20, .ref l3_21, .ref l4_22, .ref l5_23, .ref l6_24, .ref l7_25, .int 0, .int 0])), (l6_24, .inl (cI, 8, .inl (fun _ => 0))), (tl_29, .inr (8, [.ref tw_5, .ref lw_18, .ref st_30, .ref m1_34, .ref c1_35, .ref d1_36, .int 0, .int 0, .int 0, .int 0, .int 0, .int 0, .int 0, .int 0])), (st_30, .inr (4, [.ref u1_31, .ref f1_32, .ref g1_33, .int 0, .int 0, .int 1])), (u1_31, .inl (cI, 12, .inl (fun _ => 0))), (f1_32, .inl (cI, 10, .inl ff_42)), (g1_33, .inl (cI, 10, .inl fg_43)), (m1_34, .inl (cI, 10, .inl (fun _ => 0))), (c1_35, .inl (cI, 10, .inl (fun _ => 0))), (d1_36, .inl (cI, 10, .inl (fun _ => 0))), (a_now_47, .inl (cI, 15, .inl fw_92)), (a_aside_48, .inl (cI, 15, .inl (fun _ => 0))), (a_kept_49, .inl (cI, 15, .inl (fun _ => 0))), (a_keptFrom_50, .inl (cI, 10, .inl (fun _ => 0))), (a_keptTo_51, .inl (cI, 10, .inl (fun _ => 0))), (a_leaveFrom_53, .inl (cI, 10, .inl fl_93)), (a_leaveTo_54, .inl (cI, 10, .inl (fun _ => 0))), (a_amountOf_55, .inl (cI, 12, .inl (fun _ => 0))), (a_tape_58, .inl (cB, 260, .inl (fun _ => 0))), (a_facts_71, .inl (cI, 8, .inl (fun _ => 0))), (a_leftOf_83, .inl (cI, 10, .inl (fun _ => 0))), (a_didOf_84, .inl (cI, 10, .inl (fun _ => 0))), (a_goFrom_77, .inl (cI, 10, .inl (fun _ => 0))), (a_goTo_78, .inl (cI, 10, .inl (fun _ => 0))), (a_idleFrom_79, .inl (cI, 10, .inl (fun _ => 0))), (a_idleTo_80, .inl (cI, 10, .inl (fun _ => 0))), (a_moreOf_81, .inl (cI, 10, .inl (fun _ => 0))), (a_firstOf_82, .inl (cI, 12, .inl fo5_94))] := hD
    refine lv_icmp_eq (tgt := 1309) hx hb dL_law_208 (by decide) (fun _ => ?_) (fun c_208 => absurd (hw_97.trans hw_99.symm) c_208)
    refine lv_iinc (v := 6) (lv' := [(3, .int 6), (2, .ref q_45), (1, .ref q_1), (0, .ref b)]) hx hb dL_law_1309 hl (k := 0) rfl (by decide) (by decide) rfl (fun ls hl => ?_)
    refine lv_goto (tgt := 18) hx hb dL_law_1312 (by decide) ?_
    refine lv_iload_n hx hb dL_law_18 rfl (lv_at hl 0 rfl) ?_
    refine lv_aload_n hx hb dL_law_19 rfl (lv_at hl 3 rfl) ?_
    refine va_slen hx hb hX hbl hbA hS dL_law_20 ?_
    refine tv (z := 6) rfl ?_
    refine lv_bipush (v := 6) hx hb dL_law_21 (by decide) ?_
    refine lv_isub hx hb dL_law_23 ?_
    refine tv (z := 0) (by decide) ?_
    refine lv_icmp_gt (tgt := 1315) hx hb dL_law_24 (by decide) (fun _ => ?_) (fun c_24 => absurd (by decide) c_24)
    refine lv_iconst (v := 1) hx hb dL_law_1315 (by decide) ?_
    refine va_forget (fun q hq => hAq _ (hS.2.2 q hq)) ?_
    refine W.widen (k := 600000) (n := 7302250) (Nat.le_of_ble_eq_true rfl) (Nat.le_of_ble_eq_true rfl) ?_
    exact lw_ret hx hb hr hlocks dL_law_1316
  by_cases e33_1 : z = 1
  · subst e33_1
    refine lv_tableIn (off := 180) (tgt := 213) hx hb dL_law_33 (by decide) (by decide) (by decide) (by decide) ?_
    refine lv_aload_n hx hb dL_law_213 rfl (lv_at hl 2 rfl) ?_
    refine lv_aload_n hx hb dL_law_214 rfl (lv_at hl 3 rfl) ?_
    refine lv_iload_n hx hb dL_law_215 rfl (lv_at hl 0 rfl) ?_
    refine lv_iconst (v := 1) hx hb dL_law_216 (by decide) ?_
    refine lv_iadd hx hb dL_law_217 ?_
    refine tv (z := 1) (by decide) ?_
    refine va_sld hx hb hX hbl hbA hS (by unfold vp_in; decide) dL_law_218 ?_
    refine tv (z := xs 1) rfl ?_
    refine lv_aload_n hx hb dL_law_219 rfl (lv_at hl 3 rfl) ?_
    refine lv_iload_n hx hb dL_law_220 rfl (lv_at hl 0 rfl) ?_
    refine lv_iconst (v := 2) hx hb dL_law_221 (by decide) ?_
    refine lv_iadd hx hb dL_law_222 ?_
    refine tv (z := 2) (by decide) ?_
    refine va_sld hx hb hX hbl hbA hS (by unfold vp_in; decide) dL_law_223 ?_
    refine tv (z := xs 2) rfl ?_
    refine cVI (As := [.int (xs 1), .int (xs 2)]) (rest := []) (n := 2) (ci := 9) (q0 := 0) (wr := [(tp_3, .inr (5, [.ref by__4, .int 0])), (by__4, .inl (cI, 260, .inl (fun _ => 0))), (t1_6, .inl (cI, 10, .inl (fun _ => 0))), (f2_12, .inl (cI, 10, .inl ff2_38)), (g2_13, .inl (cI, 10, .inl fg2_39)), (kp_14, .inr (4, [.ref u3_15, .ref f3_16, .ref g3_17, .int 0, .int 0, .int 1])), (u3_15, .inl (cI, 12, .inl (fun _ => 0))), (f3_16, .inl (cI, 10, .inl ff3_40)), (g3_17, .inl (cI, 10, .inl fg3_41)), (lw_18, .inr (1, [.ref l1_19, .ref l2_20, .ref l3_21, .ref l4_22, .ref l5_23, .ref l6_24, .ref l7_25, .int 0, .int 0])), (l6_24, .inl (cI, 8, .inl (fun _ => 0))), (tl_29, .inr (8, [.ref tw_5, .ref lw_18, .ref st_30, .ref m1_34, .ref c1_35, .ref d1_36, .int 0, .int 0, .int 0, .int 0, .int 0, .int 0, .int 0, .int 0])), (st_30, .inr (4, [.ref u1_31, .ref f1_32, .ref g1_33, .int 0, .int 0, .int 1])), (u1_31, .inl (cI, 12, .inl (fun _ => 0))), (f1_32, .inl (cI, 10, .inl ff_42)), (g1_33, .inl (cI, 10, .inl fg_43)), (m1_34, .inl (cI, 10, .inl (fun _ => 0))), (c1_35, .inl (cI, 10, .inl (fun _ => 0))), (d1_36, .inl (cI, 10, .inl (fun _ => 0))), (q_45, .inr (10, [.ref a_now_47, .ref a_aside_48, .ref a_kept_49, .ref a_keptFrom_50, .ref a_keptTo_51, .ref a_capOf_52, .ref a_leaveFrom_53, .ref a_leaveTo_54, .ref a_amountOf_55, .ref a_doerMany_56, .ref a_doerOf_57, .int 0, .int 0, .int 0, .ref a_tape_58, .int 0, .int 0, .int 0, .int 0, .int 0, .int 0, .int 0, .int 0, .int 0, .int 0, .ref a_said_59, .ref a_waitsAt_60, .ref a_saidLetter_61, .ref a_saidFrom_62, .ref a_saidHalf_63, .ref a_saidTo_64, .ref a_codes_65, .ref a_clauseOf_66, .ref a_codeFrom_67, .ref a_codeHalf_68, .ref a_codeTo_69, .ref a_stack_70, .ref a_facts_71, .ref a_lineChore_72, .ref a_lineMany_73, .ref a_lineDoer_74, .ref a_newFrom_75, .ref a_newTo_76, .int 0, .ref a_goFrom_77, .ref a_goTo_78, .ref a_idleFrom_79, .ref a_idleTo_80, .ref a_moreOf_81, .ref a_firstOf_82, .ref a_leftOf_83, .ref a_didOf_84, .int 0, .int 0, .int 0, .int 0, .ref a_costBy_85, .int 0, .ref a_gainBy_86, .ref a_hiredOf_87, .ref a_hiredBest_88, .ref a_hiredTo_89, .ref a_turnOf_90, .ref a_turnWho_91, .int 0])), (a_now_47, .inl (cI, 15, .inl fw_92)), (a_aside_48, .inl (cI, 15, .inl (fun _ => 0))), (a_kept_49, .inl (cI, 15, .inl (fun _ => 0))), (a_keptFrom_50, .inl (cI, 10, .inl (fun _ => 0))), (a_keptTo_51, .inl (cI, 10, .inl (fun _ => 0))), (a_capOf_52, .inl (cI, 10, .inl (fun _ => 0))), (a_leaveFrom_53, .inl (cI, 10, .inl fl_93)), (a_leaveTo_54, .inl (cI, 10, .inl (fun _ => 0))), (a_amountOf_55, .inl (cI, 12, .inl (fun _ => 0))), (a_tape_58, .inl (cB, 260, .inl (fun _ => 0))), (a_facts_71, .inl (cI, 8, .inl (fun _ => 0))), (a_leftOf_83, .inl (cI, 10, .inl (fun _ => 0))), (a_didOf_84, .inl (cI, 10, .inl (fun _ => 0))), (a_goFrom_77, .inl (cI, 10, .inl (fun _ => 0))), (a_goTo_78, .inl (cI, 10, .inl (fun _ => 0))), (a_idleFrom_79, .inl (cI, 10, .inl (fun _ => 0))), (a_idleTo_80, .inl (cI, 10, .inl (fun _ => 0))), (a_moreOf_81, .inl (cI, 10, .inl (fun _ => 0))), (a_firstOf_82, .inl (cI, 12, .inl fo5_94))]) X hN hK hP hD hS hA (c_X9_chore l D cI cB _ q_1 tp_3 tw_5 nw_10 kp_14 lw_18 lr_26 dd_27 vv_28 tl_29 sc_37 t1_6 t2_7 t3_8 t4_9 u2_11 f2_12 g2_13 (fun _ => 0) (fun _ => 0) (xs 1) (xs 2)) (gV k_434 k_435 k_436 k_92 k_437) (by decide +kernel) ⟨Nat.le_of_ble_eq_true rfl, Nat.le_of_ble_eq_true rfl⟩ ⟨rfl, rfl⟩ [0, 3, 5, 6, 7] [1, 2, 4, 8, 9, 10, 11, 12, 13, 14, 15, 16, 17, 18, 19, 20, 21, 22, 23, 24, 25, 26, 27, 28, 29, 30, 31, 32, 33, 34, 35, 36, 37, 38, 39, 40, 41, 42, 43] rfl rfl (by decide) (by decide) rfl rfl rfl rfl rfl hl.1 (Nat.le_of_ble_eq_true rfl) dL_law_224 ⟨Nat.le_of_ble_eq_true rfl, Nat.le_of_ble_eq_true rfl⟩ (fun r_100 u H locs hw_101 hP hD hS => ?_)
    try dsimp only at hw_101
    have hP : va_P D vwCl [(tp_3, .inr (5, [.ref by__4, .int 0])), (by__4, .inl (cI, 260, .inl (fun _ => 0))), (t1_6, .inl (cI, 10, .inl (fun _ => 0))), (f2_12, .inl (cI, 10, .inl ff2_38)), (g2_13, .inl (cI, 10, .inl fg2_39)), (kp_14, .inr (4, [.ref u3_15, .ref f3_16, .ref g3_17, .int 0, .int 0, .int 1])), (u3_15, .inl (cI, 12, .inl (fun _ => 0))), (f3_16, .inl (cI, 10, .inl ff3_40)), (g3_17, .inl (cI, 10, .inl fg3_41)), (lw_18, .inr (1, [.ref l1_19, .ref l2_20, .ref l3_21, .ref l4_22, .ref l5_23, .ref l6_24, .ref l7_25, .int 0, .int 0])), (l6_24, .inl (cI, 8, .inl (fun _ => 0))), (tl_29, .inr (8, [.ref tw_5, .ref lw_18, .ref st_30, .ref m1_34, .ref c1_35, .ref d1_36, .int 0, .int 0, .int 0, .int 0, .int 0, .int 0, .int 0, .int 0])), (st_30, .inr (4, [.ref u1_31, .ref f1_32, .ref g1_33, .int 0, .int 0, .int 1])), (u1_31, .inl (cI, 12, .inl (fun _ => 0))), (f1_32, .inl (cI, 10, .inl ff_42)), (g1_33, .inl (cI, 10, .inl fg_43)), (m1_34, .inl (cI, 10, .inl (fun _ => 0))), (c1_35, .inl (cI, 10, .inl (fun _ => 0))), (d1_36, .inl (cI, 10, .inl (fun _ => 0))), (q_45, .inr (10, [.ref a_now_47, .ref a_aside_48, .ref a_kept_49, .ref a_keptFrom_50, .ref a_keptTo_51, .ref a_capOf_52, .ref a_leaveFrom_53, .ref a_leaveTo_54, .ref a_amountOf_55, .ref a_doerMany_56, .ref a_doerOf_57, .int 0, .int 0, .int 0, .ref a_tape_58, .int 0, .int 0, .int 0, .int 0, .int 0, .int 0, .int 0, .int 0, .int 0, .int 0, .ref a_said_59, .ref a_waitsAt_60, .ref a_saidLetter_61, .ref a_saidFrom_62, .ref a_saidHalf_63, .ref a_saidTo_64, .ref a_codes_65, .ref a_clauseOf_66, .ref a_codeFrom_67, .ref a_codeHalf_68, .ref a_codeTo_69, .ref a_stack_70, .ref a_facts_71, .ref a_lineChore_72, .ref a_lineMany_73, .ref a_lineDoer_74, .ref a_newFrom_75, .ref a_newTo_76, .int 0, .ref a_goFrom_77, .ref a_goTo_78, .ref a_idleFrom_79, .ref a_idleTo_80, .ref a_moreOf_81, .ref a_firstOf_82, .ref a_leftOf_83, .ref a_didOf_84, .int 0, .int 0, .int 0, .int 0, .ref a_costBy_85, .int 0, .ref a_gainBy_86, .ref a_hiredOf_87, .ref a_hiredBest_88, .ref a_hiredTo_89, .ref a_turnOf_90, .ref a_turnWho_91, .int 0])), (a_now_47, .inl (cI, 15, .inl fw_92)), (a_aside_48, .inl (cI, 15, .inl (fun _ => 0))), (a_kept_49, .inl (cI, 15, .inl (fun _ => 0))), (a_keptFrom_50, .inl (cI, 10, .inl (fun _ => 0))), (a_keptTo_51, .inl (cI, 10, .inl (fun _ => 0))), (a_capOf_52, .inl (cI, 10, .inl (fun _ => 0))), (a_leaveFrom_53, .inl (cI, 10, .inl fl_93)), (a_leaveTo_54, .inl (cI, 10, .inl (fun _ => 0))), (a_amountOf_55, .inl (cI, 12, .inl (fun _ => 0))), (a_tape_58, .inl (cB, 260, .inl (fun _ => 0))), (a_facts_71, .inl (cI, 8, .inl (fun _ => 0))), (a_leftOf_83, .inl (cI, 10, .inl (fun _ => 0))), (a_didOf_84, .inl (cI, 10, .inl (fun _ => 0))), (a_goFrom_77, .inl (cI, 10, .inl (fun _ => 0))), (a_goTo_78, .inl (cI, 10, .inl (fun _ => 0))), (a_idleFrom_79, .inl (cI, 10, .inl (fun _ => 0))), (a_idleTo_80, .inl (cI, 10, .inl (fun _ => 0))), (a_moreOf_81, .inl (cI, 10, .inl (fun _ => 0))), (a_firstOf_82, .inl (cI, 12, .inl fo5_94))] H := hP
    have hD : va_D A [(tp_3, .inr (5, [.ref by__4, .int 0])), (by__4, .inl (cI, 260, .inl (fun _ => 0))), (t1_6, .inl (cI, 10, .inl (fun _ => 0))), (f2_12, .inl (cI, 10, .inl ff2_38)), (g2_13, .inl (cI, 10, .inl fg2_39)), (kp_14, .inr (4, [.ref u3_15, .ref f3_16, .ref g3_17, .int 0, .int 0, .int 1])), (u3_15, .inl (cI, 12, .inl (fun _ => 0))), (f3_16, .inl (cI, 10, .inl ff3_40)), (g3_17, .inl (cI, 10, .inl fg3_41)), (lw_18, .inr (1, [.ref l1_19, .ref l2_20, .ref l3_21, .ref l4_22, .ref l5_23, .ref l6_24, .ref l7_25, .int 0, .int 0])), (l6_24, .inl (cI, 8, .inl (fun _ => 0))), (tl_29, .inr (8, [.ref tw_5, .ref lw_18, .ref st_30, .ref m1_34, .ref c1_35, .ref d1_36, .int 0, .int 0, .int 0, .int 0, .int 0, .int 0, .int 0, .int 0])), (st_30, .inr (4, [.ref u1_31, .ref f1_32, .ref g1_33, .int 0, .int 0, .int 1])), (u1_31, .inl (cI, 12, .inl (fun _ => 0))), (f1_32, .inl (cI, 10, .inl ff_42)), (g1_33, .inl (cI, 10, .inl fg_43)), (m1_34, .inl (cI, 10, .inl (fun _ => 0))), (c1_35, .inl (cI, 10, .inl (fun _ => 0))), (d1_36, .inl (cI, 10, .inl (fun _ => 0))), (q_45, .inr (10, [.ref a_now_47, .ref a_aside_48, .ref a_kept_49, .ref a_keptFrom_50, .ref a_keptTo_51, .ref a_capOf_52, .ref a_leaveFrom_53, .ref a_leaveTo_54, .ref a_amountOf_55, .ref a_doerMany_56, .ref a_doerOf_57, .int 0, .int 0, .int 0, .ref a_tape_58, .int 0, .int 0, .int 0, .int 0, .int 0, .int 0, .int 0, .int 0, .int 0, .int 0, .ref a_said_59, .ref a_waitsAt_60, .ref a_saidLetter_61, .ref a_saidFrom_62, .ref a_saidHalf_63, .ref a_saidTo_64, .ref a_codes_65, .ref a_clauseOf_66, .ref a_codeFrom_67, .ref a_codeHalf_68, .ref a_codeTo_69, .ref a_stack_70, .ref a_facts_71, .ref a_lineChore_72, .ref a_lineMany_73, .ref a_lineDoer_74, .ref a_newFrom_75, .ref a_newTo_76, .int 0, .ref a_goFrom_77, .ref a_goTo_78, .ref a_idleFrom_79, .ref a_idleTo_80, .ref a_moreOf_81, .ref a_firstOf_82, .ref a_leftOf_83, .ref a_didOf_84, .int 0, .int 0, .int 0, .int 0, .ref a_costBy_85, .int 0, .ref a_gainBy_86, .ref a_hiredOf_87, .ref a_hiredBest_88, .ref a_hiredTo_89, .ref a_turnOf_90, .ref a_turnWho_91, .int 0])), (a_now_47, .inl (cI, 15, .inl fw_92)), (a_aside_48, .inl (cI, 15, .inl (fun _ => 0))), (a_kept_49, .inl (cI, 15, .inl (fun _ => 0))), (a_keptFrom_50, .inl (cI, 10, .inl (fun _ => 0))), (a_keptTo_51, .inl (cI, 10, .inl (fun _ => 0))), (a_capOf_52, .inl (cI, 10, .inl (fun _ => 0))), (a_leaveFrom_53, .inl (cI, 10, .inl fl_93)), (a_leaveTo_54, .inl (cI, 10, .inl (fun _ => 0))), (a_amountOf_55, .inl (cI, 12, .inl (fun _ => 0))), (a_tape_58, .inl (cB, 260, .inl (fun _ => 0))), (a_facts_71, .inl (cI, 8, .inl (fun _ => 0))), (a_leftOf_83, .inl (cI, 10, .inl (fun _ => 0))), (a_didOf_84, .inl (cI, 10, .inl (fun _ => 0))), (a_goFrom_77, .inl (cI, 10, .inl (fun _ => 0))), (a_goTo_78, .inl (cI, 10, .inl (fun _ => 0))), (a_idleFrom_79, .inl (cI, 10, .inl (fun _ => 0))), (a_idleTo_80, .inl (cI, 10, .inl (fun _ => 0))), (a_moreOf_81, .inl (cI, 10, .inl (fun _ => 0))), (a_firstOf_82, .inl (cI, 12, .inl fo5_94))] := hD
    refine lv_aload_n hx hb dL_law_227 rfl (lv_at hl 1 rfl) ?_
    refine lv_aload_n hx hb dL_law_228 rfl (lv_at hl 3 rfl) ?_
    refine lv_iload_n hx hb dL_law_229 rfl (lv_at hl 0 rfl) ?_
    refine lv_iconst (v := 1) hx hb dL_law_230 (by decide) ?_
    refine lv_iadd hx hb dL_law_231 ?_
    refine tv (z := 1) (by decide) ?_
    refine va_sld hx hb hX hbl hbA hS (by unfold vp_in; decide) dL_law_232 ?_
    refine tv (z := xs 1) rfl ?_
    refine lv_aload_n hx hb dL_law_233 rfl (lv_at hl 3 rfl) ?_
    refine lv_iload_n hx hb dL_law_234 rfl (lv_at hl 0 rfl) ?_
    refine lv_iconst (v := 2) hx hb dL_law_235 (by decide) ?_
    refine lv_iadd hx hb dL_law_236 ?_
    refine tv (z := 2) (by decide) ?_
    refine va_sld hx hb hX hbl hbA hS (by unfold vp_in; decide) dL_law_237 ?_
    refine tv (z := xs 2) rfl ?_
    refine cVI (As := [.int (xs 1), .int (xs 2)]) (rest := [.int r_100]) (n := 2) (ci := 10) (q0 := 0) (wr := [(tp_3, .inr (5, [.ref by__4, .int 0])), (by__4, .inl (cI, 260, .inl (fun _ => 0))), (t1_6, .inl (cI, 10, .inl (fun _ => 0))), (f2_12, .inl (cI, 10, .inl ff2_38)), (g2_13, .inl (cI, 10, .inl fg2_39)), (kp_14, .inr (4, [.ref u3_15, .ref f3_16, .ref g3_17, .int 0, .int 0, .int 1])), (u3_15, .inl (cI, 12, .inl (fun _ => 0))), (f3_16, .inl (cI, 10, .inl ff3_40)), (g3_17, .inl (cI, 10, .inl fg3_41)), (lw_18, .inr (1, [.ref l1_19, .ref l2_20, .ref l3_21, .ref l4_22, .ref l5_23, .ref l6_24, .ref l7_25, .int 0, .int 0])), (l6_24, .inl (cI, 8, .inl (fun _ => 0))), (tl_29, .inr (8, [.ref tw_5, .ref lw_18, .ref st_30, .ref m1_34, .ref c1_35, .ref d1_36, .int 0, .int 0, .int 0, .int 0, .int 0, .int 0, .int 0, .int 0])), (st_30, .inr (4, [.ref u1_31, .ref f1_32, .ref g1_33, .int 0, .int 0, .int 1])), (u1_31, .inl (cI, 12, .inl (fun _ => 0))), (f1_32, .inl (cI, 10, .inl ff_42)), (g1_33, .inl (cI, 10, .inl fg_43)), (m1_34, .inl (cI, 10, .inl (fun _ => 0))), (c1_35, .inl (cI, 10, .inl (fun _ => 0))), (d1_36, .inl (cI, 10, .inl (fun _ => 0))), (a_aside_48, .inl (cI, 15, .inl (fun _ => 0))), (a_kept_49, .inl (cI, 15, .inl (fun _ => 0))), (a_keptFrom_50, .inl (cI, 10, .inl (fun _ => 0))), (a_keptTo_51, .inl (cI, 10, .inl (fun _ => 0))), (a_capOf_52, .inl (cI, 10, .inl (fun _ => 0))), (a_leaveFrom_53, .inl (cI, 10, .inl fl_93)), (a_leaveTo_54, .inl (cI, 10, .inl (fun _ => 0))), (a_tape_58, .inl (cB, 260, .inl (fun _ => 0))), (a_facts_71, .inl (cI, 8, .inl (fun _ => 0))), (a_leftOf_83, .inl (cI, 10, .inl (fun _ => 0))), (a_didOf_84, .inl (cI, 10, .inl (fun _ => 0))), (a_goFrom_77, .inl (cI, 10, .inl (fun _ => 0))), (a_goTo_78, .inl (cI, 10, .inl (fun _ => 0))), (a_idleFrom_79, .inl (cI, 10, .inl (fun _ => 0))), (a_idleTo_80, .inl (cI, 10, .inl (fun _ => 0))), (a_moreOf_81, .inl (cI, 10, .inl (fun _ => 0))), (a_firstOf_82, .inl (cI, 12, .inl fo5_94))]) X hN hK hP hD hS hA (c_X10_chore l D cI cB _ q_45 a_now_47 a_aside_48 a_kept_49 a_keptFrom_50 a_keptTo_51 a_capOf_52 a_leaveFrom_53 a_leaveTo_54 a_amountOf_55 a_doerMany_56 a_doerOf_57 a_tape_58 a_said_59 a_waitsAt_60 a_saidLetter_61 a_saidFrom_62 a_saidHalf_63 a_saidTo_64 a_codes_65 a_clauseOf_66 a_codeFrom_67 a_codeHalf_68 a_codeTo_69 a_stack_70 a_facts_71 a_lineChore_72 a_lineMany_73 a_lineDoer_74 a_newFrom_75 a_newTo_76 a_goFrom_77 a_goTo_78 a_idleFrom_79 a_idleTo_80 a_moreOf_81 a_firstOf_82 a_leftOf_83 a_didOf_84 a_costBy_85 a_gainBy_86 a_hiredOf_87 a_hiredBest_88 a_hiredTo_89 a_turnOf_90 a_turnWho_91 0 0 0 0 (fun _ => 0) fw_92 (xs 1) (xs 2)) (gV k_1271 k_1272 k_1273 k_103 k_1274) (by decide +kernel) ⟨Nat.le_of_ble_eq_true rfl, Nat.le_of_ble_eq_true rfl⟩ ⟨rfl, rfl⟩ [19, 28, 20] [0, 1, 2, 3, 4, 5, 6, 7, 8, 9, 10, 11, 12, 13, 14, 15, 16, 17, 18, 21, 22, 23, 24, 25, 26, 27, 29, 30, 31, 32, 33, 34, 35, 36, 37, 38] rfl rfl (by decide) (by decide) rfl rfl rfl rfl rfl hl.1 (Nat.le_of_ble_eq_true rfl) dL_law_238 ⟨Nat.le_of_ble_eq_true rfl, Nat.le_of_ble_eq_true rfl⟩ (fun r_102 u H locs hw_103 hP hD hS => ?_)
    try dsimp only at hw_103
    have hP : va_P D vwCl [(tp_3, .inr (5, [.ref by__4, .int 0])), (by__4, .inl (cI, 260, .inl (fun _ => 0))), (t1_6, .inl (cI, 10, .inl (fun _ => 0))), (f2_12, .inl (cI, 10, .inl ff2_38)), (g2_13, .inl (cI, 10, .inl fg2_39)), (kp_14, .inr (4, [.ref u3_15, .ref f3_16, .ref g3_17, .int 0, .int 0, .int 1])), (u3_15, .inl (cI, 12, .inl (fun _ => 0))), (f3_16, .inl (cI, 10, .inl ff3_40)), (g3_17, .inl (cI, 10, .inl fg3_41)), (lw_18, .inr (1, [.ref l1_19, .ref l2_20, .ref l3_21, .ref l4_22, .ref l5_23, .ref l6_24, .ref l7_25, .int 0, .int 0])), (l6_24, .inl (cI, 8, .inl (fun _ => 0))), (tl_29, .inr (8, [.ref tw_5, .ref lw_18, .ref st_30, .ref m1_34, .ref c1_35, .ref d1_36, .int 0, .int 0, .int 0, .int 0, .int 0, .int 0, .int 0, .int 0])), (st_30, .inr (4, [.ref u1_31, .ref f1_32, .ref g1_33, .int 0, .int 0, .int 1])), (u1_31, .inl (cI, 12, .inl (fun _ => 0))), (f1_32, .inl (cI, 10, .inl ff_42)), (g1_33, .inl (cI, 10, .inl fg_43)), (m1_34, .inl (cI, 10, .inl (fun _ => 0))), (c1_35, .inl (cI, 10, .inl (fun _ => 0))), (d1_36, .inl (cI, 10, .inl (fun _ => 0))), (a_aside_48, .inl (cI, 15, .inl (fun _ => 0))), (a_kept_49, .inl (cI, 15, .inl (fun _ => 0))), (a_keptFrom_50, .inl (cI, 10, .inl (fun _ => 0))), (a_keptTo_51, .inl (cI, 10, .inl (fun _ => 0))), (a_capOf_52, .inl (cI, 10, .inl (fun _ => 0))), (a_leaveFrom_53, .inl (cI, 10, .inl fl_93)), (a_leaveTo_54, .inl (cI, 10, .inl (fun _ => 0))), (a_tape_58, .inl (cB, 260, .inl (fun _ => 0))), (a_facts_71, .inl (cI, 8, .inl (fun _ => 0))), (a_leftOf_83, .inl (cI, 10, .inl (fun _ => 0))), (a_didOf_84, .inl (cI, 10, .inl (fun _ => 0))), (a_goFrom_77, .inl (cI, 10, .inl (fun _ => 0))), (a_goTo_78, .inl (cI, 10, .inl (fun _ => 0))), (a_idleFrom_79, .inl (cI, 10, .inl (fun _ => 0))), (a_idleTo_80, .inl (cI, 10, .inl (fun _ => 0))), (a_moreOf_81, .inl (cI, 10, .inl (fun _ => 0))), (a_firstOf_82, .inl (cI, 12, .inl fo5_94))] H := hP
    have hD : va_D A [(tp_3, .inr (5, [.ref by__4, .int 0])), (by__4, .inl (cI, 260, .inl (fun _ => 0))), (t1_6, .inl (cI, 10, .inl (fun _ => 0))), (f2_12, .inl (cI, 10, .inl ff2_38)), (g2_13, .inl (cI, 10, .inl fg2_39)), (kp_14, .inr (4, [.ref u3_15, .ref f3_16, .ref g3_17, .int 0, .int 0, .int 1])), (u3_15, .inl (cI, 12, .inl (fun _ => 0))), (f3_16, .inl (cI, 10, .inl ff3_40)), (g3_17, .inl (cI, 10, .inl fg3_41)), (lw_18, .inr (1, [.ref l1_19, .ref l2_20, .ref l3_21, .ref l4_22, .ref l5_23, .ref l6_24, .ref l7_25, .int 0, .int 0])), (l6_24, .inl (cI, 8, .inl (fun _ => 0))), (tl_29, .inr (8, [.ref tw_5, .ref lw_18, .ref st_30, .ref m1_34, .ref c1_35, .ref d1_36, .int 0, .int 0, .int 0, .int 0, .int 0, .int 0, .int 0, .int 0])), (st_30, .inr (4, [.ref u1_31, .ref f1_32, .ref g1_33, .int 0, .int 0, .int 1])), (u1_31, .inl (cI, 12, .inl (fun _ => 0))), (f1_32, .inl (cI, 10, .inl ff_42)), (g1_33, .inl (cI, 10, .inl fg_43)), (m1_34, .inl (cI, 10, .inl (fun _ => 0))), (c1_35, .inl (cI, 10, .inl (fun _ => 0))), (d1_36, .inl (cI, 10, .inl (fun _ => 0))), (a_aside_48, .inl (cI, 15, .inl (fun _ => 0))), (a_kept_49, .inl (cI, 15, .inl (fun _ => 0))), (a_keptFrom_50, .inl (cI, 10, .inl (fun _ => 0))), (a_keptTo_51, .inl (cI, 10, .inl (fun _ => 0))), (a_capOf_52, .inl (cI, 10, .inl (fun _ => 0))), (a_leaveFrom_53, .inl (cI, 10, .inl fl_93)), (a_leaveTo_54, .inl (cI, 10, .inl (fun _ => 0))), (a_tape_58, .inl (cB, 260, .inl (fun _ => 0))), (a_facts_71, .inl (cI, 8, .inl (fun _ => 0))), (a_leftOf_83, .inl (cI, 10, .inl (fun _ => 0))), (a_didOf_84, .inl (cI, 10, .inl (fun _ => 0))), (a_goFrom_77, .inl (cI, 10, .inl (fun _ => 0))), (a_goTo_78, .inl (cI, 10, .inl (fun _ => 0))), (a_idleFrom_79, .inl (cI, 10, .inl (fun _ => 0))), (a_idleTo_80, .inl (cI, 10, .inl (fun _ => 0))), (a_moreOf_81, .inl (cI, 10, .inl (fun _ => 0))), (a_firstOf_82, .inl (cI, 12, .inl fo5_94))] := hD
    refine lv_icmp_eq (tgt := 1309) hx hb dL_law_241 (by decide) (fun _ => ?_) (fun c_241 => absurd (hw_101.trans hw_103.symm) c_241)
    refine lv_iinc (v := 6) (lv' := [(3, .int 6), (2, .ref q_45), (1, .ref q_1), (0, .ref b)]) hx hb dL_law_1309 hl (k := 0) rfl (by decide) (by decide) rfl (fun ls hl => ?_)
    refine lv_goto (tgt := 18) hx hb dL_law_1312 (by decide) ?_
    refine lv_iload_n hx hb dL_law_18 rfl (lv_at hl 0 rfl) ?_
    refine lv_aload_n hx hb dL_law_19 rfl (lv_at hl 3 rfl) ?_
    refine va_slen hx hb hX hbl hbA hS dL_law_20 ?_
    refine tv (z := 6) rfl ?_
    refine lv_bipush (v := 6) hx hb dL_law_21 (by decide) ?_
    refine lv_isub hx hb dL_law_23 ?_
    refine tv (z := 0) (by decide) ?_
    refine lv_icmp_gt (tgt := 1315) hx hb dL_law_24 (by decide) (fun _ => ?_) (fun c_24 => absurd (by decide) c_24)
    refine lv_iconst (v := 1) hx hb dL_law_1315 (by decide) ?_
    refine va_forget (fun q hq => hAq _ (hS.2.2 q hq)) ?_
    refine W.widen (k := 600000) (n := 7302250) (Nat.le_of_ble_eq_true rfl) (Nat.le_of_ble_eq_true rfl) ?_
    exact lw_ret hx hb hr hlocks dL_law_1316
  by_cases e33_2 : z = 2
  · subst e33_2
    refine lv_tableIn (off := 213) (tgt := 246) hx hb dL_law_33 (by decide) (by decide) (by decide) (by decide) ?_
    refine lv_aload_n hx hb dL_law_246 rfl (lv_at hl 2 rfl) ?_
    refine lv_aload_n hx hb dL_law_247 rfl (lv_at hl 3 rfl) ?_
    refine lv_iload_n hx hb dL_law_248 rfl (lv_at hl 0 rfl) ?_
    refine lv_iconst (v := 1) hx hb dL_law_249 (by decide) ?_
    refine lv_iadd hx hb dL_law_250 ?_
    refine tv (z := 1) (by decide) ?_
    refine va_sld hx hb hX hbl hbA hS (by unfold vp_in; decide) dL_law_251 ?_
    refine tv (z := xs 1) rfl ?_
    refine cVI (As := [.int (xs 1)]) (rest := []) (n := 1) (ci := 9) (q0 := 0) (wr := [(tp_3, .inr (5, [.ref by__4, .int 0])), (by__4, .inl (cI, 260, .inl (fun _ => 0))), (t1_6, .inl (cI, 10, .inl (fun _ => 0))), (t2_7, .inl (cI, 12, .inl (fun _ => 0))), (nw_10, .inr (4, [.ref u2_11, .ref f2_12, .ref g2_13, .int 0, .int 0, .int 1])), (u2_11, .inl (cI, 12, .inl (fun _ => 0))), (f2_12, .inl (cI, 10, .inl ff2_38)), (g2_13, .inl (cI, 10, .inl fg2_39)), (kp_14, .inr (4, [.ref u3_15, .ref f3_16, .ref g3_17, .int 0, .int 0, .int 1])), (u3_15, .inl (cI, 12, .inl (fun _ => 0))), (f3_16, .inl (cI, 10, .inl ff3_40)), (g3_17, .inl (cI, 10, .inl fg3_41)), (lw_18, .inr (1, [.ref l1_19, .ref l2_20, .ref l3_21, .ref l4_22, .ref l5_23, .ref l6_24, .ref l7_25, .int 0, .int 0])), (l6_24, .inl (cI, 8, .inl (fun _ => 0))), (tl_29, .inr (8, [.ref tw_5, .ref lw_18, .ref st_30, .ref m1_34, .ref c1_35, .ref d1_36, .int 0, .int 0, .int 0, .int 0, .int 0, .int 0, .int 0, .int 0])), (st_30, .inr (4, [.ref u1_31, .ref f1_32, .ref g1_33, .int 0, .int 0, .int 1])), (u1_31, .inl (cI, 12, .inl (fun _ => 0))), (f1_32, .inl (cI, 10, .inl ff_42)), (g1_33, .inl (cI, 10, .inl fg_43)), (m1_34, .inl (cI, 10, .inl (fun _ => 0))), (c1_35, .inl (cI, 10, .inl (fun _ => 0))), (d1_36, .inl (cI, 10, .inl (fun _ => 0))), (q_45, .inr (10, [.ref a_now_47, .ref a_aside_48, .ref a_kept_49, .ref a_keptFrom_50, .ref a_keptTo_51, .ref a_capOf_52, .ref a_leaveFrom_53, .ref a_leaveTo_54, .ref a_amountOf_55, .ref a_doerMany_56, .ref a_doerOf_57, .int 0, .int 0, .int 0, .ref a_tape_58, .int 0, .int 0, .int 0, .int 0, .int 0, .int 0, .int 0, .int 0, .int 0, .int 0, .ref a_said_59, .ref a_waitsAt_60, .ref a_saidLetter_61, .ref a_saidFrom_62, .ref a_saidHalf_63, .ref a_saidTo_64, .ref a_codes_65, .ref a_clauseOf_66, .ref a_codeFrom_67, .ref a_codeHalf_68, .ref a_codeTo_69, .ref a_stack_70, .ref a_facts_71, .ref a_lineChore_72, .ref a_lineMany_73, .ref a_lineDoer_74, .ref a_newFrom_75, .ref a_newTo_76, .int 0, .ref a_goFrom_77, .ref a_goTo_78, .ref a_idleFrom_79, .ref a_idleTo_80, .ref a_moreOf_81, .ref a_firstOf_82, .ref a_leftOf_83, .ref a_didOf_84, .int 0, .int 0, .int 0, .int 0, .ref a_costBy_85, .int 0, .ref a_gainBy_86, .ref a_hiredOf_87, .ref a_hiredBest_88, .ref a_hiredTo_89, .ref a_turnOf_90, .ref a_turnWho_91, .int 0])), (a_now_47, .inl (cI, 15, .inl fw_92)), (a_aside_48, .inl (cI, 15, .inl (fun _ => 0))), (a_kept_49, .inl (cI, 15, .inl (fun _ => 0))), (a_keptFrom_50, .inl (cI, 10, .inl (fun _ => 0))), (a_keptTo_51, .inl (cI, 10, .inl (fun _ => 0))), (a_capOf_52, .inl (cI, 10, .inl (fun _ => 0))), (a_leaveFrom_53, .inl (cI, 10, .inl fl_93)), (a_leaveTo_54, .inl (cI, 10, .inl (fun _ => 0))), (a_amountOf_55, .inl (cI, 12, .inl (fun _ => 0))), (a_tape_58, .inl (cB, 260, .inl (fun _ => 0))), (a_facts_71, .inl (cI, 8, .inl (fun _ => 0))), (a_leftOf_83, .inl (cI, 10, .inl (fun _ => 0))), (a_didOf_84, .inl (cI, 10, .inl (fun _ => 0))), (a_goFrom_77, .inl (cI, 10, .inl (fun _ => 0))), (a_goTo_78, .inl (cI, 10, .inl (fun _ => 0))), (a_idleFrom_79, .inl (cI, 10, .inl (fun _ => 0))), (a_idleTo_80, .inl (cI, 10, .inl (fun _ => 0))), (a_moreOf_81, .inl (cI, 10, .inl (fun _ => 0))), (a_firstOf_82, .inl (cI, 12, .inl fo5_94))]) X hN hK hP hD hS hA (c_X9_rain l D cI cB _ q_1 tp_3 tw_5 nw_10 kp_14 lw_18 lr_26 dd_27 vv_28 tl_29 sc_37 t1_6 t2_7 t3_8 t4_9 (xs 1)) (gV k_438 k_439 k_440 k_92 k_441) (by decide +kernel) ⟨Nat.le_of_ble_eq_true rfl, Nat.le_of_ble_eq_true rfl⟩ ⟨rfl, rfl⟩ [0, 3] [1, 2, 4, 5, 6, 7, 8, 9, 10, 11, 12, 13, 14, 15, 16, 17, 18, 19, 20, 21, 22, 23, 24, 25, 26, 27, 28, 29, 30, 31, 32, 33, 34, 35, 36, 37, 38, 39, 40, 41, 42, 43] rfl rfl (by decide) (by decide) rfl rfl rfl rfl rfl hl.1 (Nat.le_of_ble_eq_true rfl) dL_law_252 ⟨Nat.le_of_ble_eq_true rfl, Nat.le_of_ble_eq_true rfl⟩ (fun r_104 u H locs hw_105 hP hD hS => ?_)
    try dsimp only at hw_105
    have hP : va_P D vwCl [(tp_3, .inr (5, [.ref by__4, .int 0])), (by__4, .inl (cI, 260, .inl (fun _ => 0))), (t1_6, .inl (cI, 10, .inl (fun _ => 0))), (t2_7, .inl (cI, 12, .inl (fun _ => 0))), (nw_10, .inr (4, [.ref u2_11, .ref f2_12, .ref g2_13, .int 0, .int 0, .int 1])), (u2_11, .inl (cI, 12, .inl (fun _ => 0))), (f2_12, .inl (cI, 10, .inl ff2_38)), (g2_13, .inl (cI, 10, .inl fg2_39)), (kp_14, .inr (4, [.ref u3_15, .ref f3_16, .ref g3_17, .int 0, .int 0, .int 1])), (u3_15, .inl (cI, 12, .inl (fun _ => 0))), (f3_16, .inl (cI, 10, .inl ff3_40)), (g3_17, .inl (cI, 10, .inl fg3_41)), (lw_18, .inr (1, [.ref l1_19, .ref l2_20, .ref l3_21, .ref l4_22, .ref l5_23, .ref l6_24, .ref l7_25, .int 0, .int 0])), (l6_24, .inl (cI, 8, .inl (fun _ => 0))), (tl_29, .inr (8, [.ref tw_5, .ref lw_18, .ref st_30, .ref m1_34, .ref c1_35, .ref d1_36, .int 0, .int 0, .int 0, .int 0, .int 0, .int 0, .int 0, .int 0])), (st_30, .inr (4, [.ref u1_31, .ref f1_32, .ref g1_33, .int 0, .int 0, .int 1])), (u1_31, .inl (cI, 12, .inl (fun _ => 0))), (f1_32, .inl (cI, 10, .inl ff_42)), (g1_33, .inl (cI, 10, .inl fg_43)), (m1_34, .inl (cI, 10, .inl (fun _ => 0))), (c1_35, .inl (cI, 10, .inl (fun _ => 0))), (d1_36, .inl (cI, 10, .inl (fun _ => 0))), (q_45, .inr (10, [.ref a_now_47, .ref a_aside_48, .ref a_kept_49, .ref a_keptFrom_50, .ref a_keptTo_51, .ref a_capOf_52, .ref a_leaveFrom_53, .ref a_leaveTo_54, .ref a_amountOf_55, .ref a_doerMany_56, .ref a_doerOf_57, .int 0, .int 0, .int 0, .ref a_tape_58, .int 0, .int 0, .int 0, .int 0, .int 0, .int 0, .int 0, .int 0, .int 0, .int 0, .ref a_said_59, .ref a_waitsAt_60, .ref a_saidLetter_61, .ref a_saidFrom_62, .ref a_saidHalf_63, .ref a_saidTo_64, .ref a_codes_65, .ref a_clauseOf_66, .ref a_codeFrom_67, .ref a_codeHalf_68, .ref a_codeTo_69, .ref a_stack_70, .ref a_facts_71, .ref a_lineChore_72, .ref a_lineMany_73, .ref a_lineDoer_74, .ref a_newFrom_75, .ref a_newTo_76, .int 0, .ref a_goFrom_77, .ref a_goTo_78, .ref a_idleFrom_79, .ref a_idleTo_80, .ref a_moreOf_81, .ref a_firstOf_82, .ref a_leftOf_83, .ref a_didOf_84, .int 0, .int 0, .int 0, .int 0, .ref a_costBy_85, .int 0, .ref a_gainBy_86, .ref a_hiredOf_87, .ref a_hiredBest_88, .ref a_hiredTo_89, .ref a_turnOf_90, .ref a_turnWho_91, .int 0])), (a_now_47, .inl (cI, 15, .inl fw_92)), (a_aside_48, .inl (cI, 15, .inl (fun _ => 0))), (a_kept_49, .inl (cI, 15, .inl (fun _ => 0))), (a_keptFrom_50, .inl (cI, 10, .inl (fun _ => 0))), (a_keptTo_51, .inl (cI, 10, .inl (fun _ => 0))), (a_capOf_52, .inl (cI, 10, .inl (fun _ => 0))), (a_leaveFrom_53, .inl (cI, 10, .inl fl_93)), (a_leaveTo_54, .inl (cI, 10, .inl (fun _ => 0))), (a_amountOf_55, .inl (cI, 12, .inl (fun _ => 0))), (a_tape_58, .inl (cB, 260, .inl (fun _ => 0))), (a_facts_71, .inl (cI, 8, .inl (fun _ => 0))), (a_leftOf_83, .inl (cI, 10, .inl (fun _ => 0))), (a_didOf_84, .inl (cI, 10, .inl (fun _ => 0))), (a_goFrom_77, .inl (cI, 10, .inl (fun _ => 0))), (a_goTo_78, .inl (cI, 10, .inl (fun _ => 0))), (a_idleFrom_79, .inl (cI, 10, .inl (fun _ => 0))), (a_idleTo_80, .inl (cI, 10, .inl (fun _ => 0))), (a_moreOf_81, .inl (cI, 10, .inl (fun _ => 0))), (a_firstOf_82, .inl (cI, 12, .inl fo5_94))] H := hP
    have hD : va_D A [(tp_3, .inr (5, [.ref by__4, .int 0])), (by__4, .inl (cI, 260, .inl (fun _ => 0))), (t1_6, .inl (cI, 10, .inl (fun _ => 0))), (t2_7, .inl (cI, 12, .inl (fun _ => 0))), (nw_10, .inr (4, [.ref u2_11, .ref f2_12, .ref g2_13, .int 0, .int 0, .int 1])), (u2_11, .inl (cI, 12, .inl (fun _ => 0))), (f2_12, .inl (cI, 10, .inl ff2_38)), (g2_13, .inl (cI, 10, .inl fg2_39)), (kp_14, .inr (4, [.ref u3_15, .ref f3_16, .ref g3_17, .int 0, .int 0, .int 1])), (u3_15, .inl (cI, 12, .inl (fun _ => 0))), (f3_16, .inl (cI, 10, .inl ff3_40)), (g3_17, .inl (cI, 10, .inl fg3_41)), (lw_18, .inr (1, [.ref l1_19, .ref l2_20, .ref l3_21, .ref l4_22, .ref l5_23, .ref l6_24, .ref l7_25, .int 0, .int 0])), (l6_24, .inl (cI, 8, .inl (fun _ => 0))), (tl_29, .inr (8, [.ref tw_5, .ref lw_18, .ref st_30, .ref m1_34, .ref c1_35, .ref d1_36, .int 0, .int 0, .int 0, .int 0, .int 0, .int 0, .int 0, .int 0])), (st_30, .inr (4, [.ref u1_31, .ref f1_32, .ref g1_33, .int 0, .int 0, .int 1])), (u1_31, .inl (cI, 12, .inl (fun _ => 0))), (f1_32, .inl (cI, 10, .inl ff_42)), (g1_33, .inl (cI, 10, .inl fg_43)), (m1_34, .inl (cI, 10, .inl (fun _ => 0))), (c1_35, .inl (cI, 10, .inl (fun _ => 0))), (d1_36, .inl (cI, 10, .inl (fun _ => 0))), (q_45, .inr (10, [.ref a_now_47, .ref a_aside_48, .ref a_kept_49, .ref a_keptFrom_50, .ref a_keptTo_51, .ref a_capOf_52, .ref a_leaveFrom_53, .ref a_leaveTo_54, .ref a_amountOf_55, .ref a_doerMany_56, .ref a_doerOf_57, .int 0, .int 0, .int 0, .ref a_tape_58, .int 0, .int 0, .int 0, .int 0, .int 0, .int 0, .int 0, .int 0, .int 0, .int 0, .ref a_said_59, .ref a_waitsAt_60, .ref a_saidLetter_61, .ref a_saidFrom_62, .ref a_saidHalf_63, .ref a_saidTo_64, .ref a_codes_65, .ref a_clauseOf_66, .ref a_codeFrom_67, .ref a_codeHalf_68, .ref a_codeTo_69, .ref a_stack_70, .ref a_facts_71, .ref a_lineChore_72, .ref a_lineMany_73, .ref a_lineDoer_74, .ref a_newFrom_75, .ref a_newTo_76, .int 0, .ref a_goFrom_77, .ref a_goTo_78, .ref a_idleFrom_79, .ref a_idleTo_80, .ref a_moreOf_81, .ref a_firstOf_82, .ref a_leftOf_83, .ref a_didOf_84, .int 0, .int 0, .int 0, .int 0, .ref a_costBy_85, .int 0, .ref a_gainBy_86, .ref a_hiredOf_87, .ref a_hiredBest_88, .ref a_hiredTo_89, .ref a_turnOf_90, .ref a_turnWho_91, .int 0])), (a_now_47, .inl (cI, 15, .inl fw_92)), (a_aside_48, .inl (cI, 15, .inl (fun _ => 0))), (a_kept_49, .inl (cI, 15, .inl (fun _ => 0))), (a_keptFrom_50, .inl (cI, 10, .inl (fun _ => 0))), (a_keptTo_51, .inl (cI, 10, .inl (fun _ => 0))), (a_capOf_52, .inl (cI, 10, .inl (fun _ => 0))), (a_leaveFrom_53, .inl (cI, 10, .inl fl_93)), (a_leaveTo_54, .inl (cI, 10, .inl (fun _ => 0))), (a_amountOf_55, .inl (cI, 12, .inl (fun _ => 0))), (a_tape_58, .inl (cB, 260, .inl (fun _ => 0))), (a_facts_71, .inl (cI, 8, .inl (fun _ => 0))), (a_leftOf_83, .inl (cI, 10, .inl (fun _ => 0))), (a_didOf_84, .inl (cI, 10, .inl (fun _ => 0))), (a_goFrom_77, .inl (cI, 10, .inl (fun _ => 0))), (a_goTo_78, .inl (cI, 10, .inl (fun _ => 0))), (a_idleFrom_79, .inl (cI, 10, .inl (fun _ => 0))), (a_idleTo_80, .inl (cI, 10, .inl (fun _ => 0))), (a_moreOf_81, .inl (cI, 10, .inl (fun _ => 0))), (a_firstOf_82, .inl (cI, 12, .inl fo5_94))] := hD
    refine lv_aload_n hx hb dL_law_255 rfl (lv_at hl 1 rfl) ?_
    refine lv_aload_n hx hb dL_law_256 rfl (lv_at hl 3 rfl) ?_
    refine lv_iload_n hx hb dL_law_257 rfl (lv_at hl 0 rfl) ?_
    refine lv_iconst (v := 1) hx hb dL_law_258 (by decide) ?_
    refine lv_iadd hx hb dL_law_259 ?_
    refine tv (z := 1) (by decide) ?_
    refine va_sld hx hb hX hbl hbA hS (by unfold vp_in; decide) dL_law_260 ?_
    refine tv (z := xs 1) rfl ?_
    refine cVI (As := [.int (xs 1)]) (rest := [.int r_104]) (n := 1) (ci := 10) (q0 := 0) (wr := [(tp_3, .inr (5, [.ref by__4, .int 0])), (by__4, .inl (cI, 260, .inl (fun _ => 0))), (t1_6, .inl (cI, 10, .inl (fun _ => 0))), (t2_7, .inl (cI, 12, .inl (fun _ => 0))), (nw_10, .inr (4, [.ref u2_11, .ref f2_12, .ref g2_13, .int 0, .int 0, .int 1])), (u2_11, .inl (cI, 12, .inl (fun _ => 0))), (f2_12, .inl (cI, 10, .inl ff2_38)), (g2_13, .inl (cI, 10, .inl fg2_39)), (kp_14, .inr (4, [.ref u3_15, .ref f3_16, .ref g3_17, .int 0, .int 0, .int 1])), (u3_15, .inl (cI, 12, .inl (fun _ => 0))), (f3_16, .inl (cI, 10, .inl ff3_40)), (g3_17, .inl (cI, 10, .inl fg3_41)), (lw_18, .inr (1, [.ref l1_19, .ref l2_20, .ref l3_21, .ref l4_22, .ref l5_23, .ref l6_24, .ref l7_25, .int 0, .int 0])), (l6_24, .inl (cI, 8, .inl (fun _ => 0))), (tl_29, .inr (8, [.ref tw_5, .ref lw_18, .ref st_30, .ref m1_34, .ref c1_35, .ref d1_36, .int 0, .int 0, .int 0, .int 0, .int 0, .int 0, .int 0, .int 0])), (st_30, .inr (4, [.ref u1_31, .ref f1_32, .ref g1_33, .int 0, .int 0, .int 1])), (u1_31, .inl (cI, 12, .inl (fun _ => 0))), (f1_32, .inl (cI, 10, .inl ff_42)), (g1_33, .inl (cI, 10, .inl fg_43)), (m1_34, .inl (cI, 10, .inl (fun _ => 0))), (c1_35, .inl (cI, 10, .inl (fun _ => 0))), (d1_36, .inl (cI, 10, .inl (fun _ => 0))), (a_now_47, .inl (cI, 15, .inl fw_92)), (a_aside_48, .inl (cI, 15, .inl (fun _ => 0))), (a_kept_49, .inl (cI, 15, .inl (fun _ => 0))), (a_keptFrom_50, .inl (cI, 10, .inl (fun _ => 0))), (a_keptTo_51, .inl (cI, 10, .inl (fun _ => 0))), (a_capOf_52, .inl (cI, 10, .inl (fun _ => 0))), (a_leaveFrom_53, .inl (cI, 10, .inl fl_93)), (a_leaveTo_54, .inl (cI, 10, .inl (fun _ => 0))), (a_amountOf_55, .inl (cI, 12, .inl (fun _ => 0))), (a_tape_58, .inl (cB, 260, .inl (fun _ => 0))), (a_facts_71, .inl (cI, 8, .inl (fun _ => 0))), (a_leftOf_83, .inl (cI, 10, .inl (fun _ => 0))), (a_didOf_84, .inl (cI, 10, .inl (fun _ => 0))), (a_goFrom_77, .inl (cI, 10, .inl (fun _ => 0))), (a_goTo_78, .inl (cI, 10, .inl (fun _ => 0))), (a_idleFrom_79, .inl (cI, 10, .inl (fun _ => 0))), (a_idleTo_80, .inl (cI, 10, .inl (fun _ => 0))), (a_moreOf_81, .inl (cI, 10, .inl (fun _ => 0))), (a_firstOf_82, .inl (cI, 12, .inl fo5_94))]) X hN hK hP hD hS hA (c_X10_rain l D cI cB _ q_45 a_now_47 a_aside_48 a_kept_49 a_keptFrom_50 a_keptTo_51 a_capOf_52 a_leaveFrom_53 a_leaveTo_54 a_amountOf_55 a_doerMany_56 a_doerOf_57 a_tape_58 a_said_59 a_waitsAt_60 a_saidLetter_61 a_saidFrom_62 a_saidHalf_63 a_saidTo_64 a_codes_65 a_clauseOf_66 a_codeFrom_67 a_codeHalf_68 a_codeTo_69 a_stack_70 a_facts_71 a_lineChore_72 a_lineMany_73 a_lineDoer_74 a_newFrom_75 a_newTo_76 a_goFrom_77 a_goTo_78 a_idleFrom_79 a_idleTo_80 a_moreOf_81 a_firstOf_82 a_leftOf_83 a_didOf_84 a_costBy_85 a_gainBy_86 a_hiredOf_87 a_hiredBest_88 a_hiredTo_89 a_turnOf_90 a_turnWho_91 0 0 0 0 (xs 1)) (gV k_1275 k_1276 k_1277 k_103 k_1278) (by decide +kernel) ⟨Nat.le_of_ble_eq_true rfl, Nat.le_of_ble_eq_true rfl⟩ ⟨rfl, rfl⟩ [22] [0, 1, 2, 3, 4, 5, 6, 7, 8, 9, 10, 11, 12, 13, 14, 15, 16, 17, 18, 19, 20, 21, 23, 24, 25, 26, 27, 28, 29, 30, 31, 32, 33, 34, 35, 36, 37, 38, 39, 40, 41] rfl rfl (by decide) (by decide) rfl rfl rfl rfl rfl hl.1 (Nat.le_of_ble_eq_true rfl) dL_law_261 ⟨Nat.le_of_ble_eq_true rfl, Nat.le_of_ble_eq_true rfl⟩ (fun r_106 u H locs hw_107 hP hD hS => ?_)
    try dsimp only at hw_107
    have hP : va_P D vwCl [(tp_3, .inr (5, [.ref by__4, .int 0])), (by__4, .inl (cI, 260, .inl (fun _ => 0))), (t1_6, .inl (cI, 10, .inl (fun _ => 0))), (t2_7, .inl (cI, 12, .inl (fun _ => 0))), (nw_10, .inr (4, [.ref u2_11, .ref f2_12, .ref g2_13, .int 0, .int 0, .int 1])), (u2_11, .inl (cI, 12, .inl (fun _ => 0))), (f2_12, .inl (cI, 10, .inl ff2_38)), (g2_13, .inl (cI, 10, .inl fg2_39)), (kp_14, .inr (4, [.ref u3_15, .ref f3_16, .ref g3_17, .int 0, .int 0, .int 1])), (u3_15, .inl (cI, 12, .inl (fun _ => 0))), (f3_16, .inl (cI, 10, .inl ff3_40)), (g3_17, .inl (cI, 10, .inl fg3_41)), (lw_18, .inr (1, [.ref l1_19, .ref l2_20, .ref l3_21, .ref l4_22, .ref l5_23, .ref l6_24, .ref l7_25, .int 0, .int 0])), (l6_24, .inl (cI, 8, .inl (fun _ => 0))), (tl_29, .inr (8, [.ref tw_5, .ref lw_18, .ref st_30, .ref m1_34, .ref c1_35, .ref d1_36, .int 0, .int 0, .int 0, .int 0, .int 0, .int 0, .int 0, .int 0])), (st_30, .inr (4, [.ref u1_31, .ref f1_32, .ref g1_33, .int 0, .int 0, .int 1])), (u1_31, .inl (cI, 12, .inl (fun _ => 0))), (f1_32, .inl (cI, 10, .inl ff_42)), (g1_33, .inl (cI, 10, .inl fg_43)), (m1_34, .inl (cI, 10, .inl (fun _ => 0))), (c1_35, .inl (cI, 10, .inl (fun _ => 0))), (d1_36, .inl (cI, 10, .inl (fun _ => 0))), (a_now_47, .inl (cI, 15, .inl fw_92)), (a_aside_48, .inl (cI, 15, .inl (fun _ => 0))), (a_kept_49, .inl (cI, 15, .inl (fun _ => 0))), (a_keptFrom_50, .inl (cI, 10, .inl (fun _ => 0))), (a_keptTo_51, .inl (cI, 10, .inl (fun _ => 0))), (a_capOf_52, .inl (cI, 10, .inl (fun _ => 0))), (a_leaveFrom_53, .inl (cI, 10, .inl fl_93)), (a_leaveTo_54, .inl (cI, 10, .inl (fun _ => 0))), (a_amountOf_55, .inl (cI, 12, .inl (fun _ => 0))), (a_tape_58, .inl (cB, 260, .inl (fun _ => 0))), (a_facts_71, .inl (cI, 8, .inl (fun _ => 0))), (a_leftOf_83, .inl (cI, 10, .inl (fun _ => 0))), (a_didOf_84, .inl (cI, 10, .inl (fun _ => 0))), (a_goFrom_77, .inl (cI, 10, .inl (fun _ => 0))), (a_goTo_78, .inl (cI, 10, .inl (fun _ => 0))), (a_idleFrom_79, .inl (cI, 10, .inl (fun _ => 0))), (a_idleTo_80, .inl (cI, 10, .inl (fun _ => 0))), (a_moreOf_81, .inl (cI, 10, .inl (fun _ => 0))), (a_firstOf_82, .inl (cI, 12, .inl fo5_94))] H := hP
    have hD : va_D A [(tp_3, .inr (5, [.ref by__4, .int 0])), (by__4, .inl (cI, 260, .inl (fun _ => 0))), (t1_6, .inl (cI, 10, .inl (fun _ => 0))), (t2_7, .inl (cI, 12, .inl (fun _ => 0))), (nw_10, .inr (4, [.ref u2_11, .ref f2_12, .ref g2_13, .int 0, .int 0, .int 1])), (u2_11, .inl (cI, 12, .inl (fun _ => 0))), (f2_12, .inl (cI, 10, .inl ff2_38)), (g2_13, .inl (cI, 10, .inl fg2_39)), (kp_14, .inr (4, [.ref u3_15, .ref f3_16, .ref g3_17, .int 0, .int 0, .int 1])), (u3_15, .inl (cI, 12, .inl (fun _ => 0))), (f3_16, .inl (cI, 10, .inl ff3_40)), (g3_17, .inl (cI, 10, .inl fg3_41)), (lw_18, .inr (1, [.ref l1_19, .ref l2_20, .ref l3_21, .ref l4_22, .ref l5_23, .ref l6_24, .ref l7_25, .int 0, .int 0])), (l6_24, .inl (cI, 8, .inl (fun _ => 0))), (tl_29, .inr (8, [.ref tw_5, .ref lw_18, .ref st_30, .ref m1_34, .ref c1_35, .ref d1_36, .int 0, .int 0, .int 0, .int 0, .int 0, .int 0, .int 0, .int 0])), (st_30, .inr (4, [.ref u1_31, .ref f1_32, .ref g1_33, .int 0, .int 0, .int 1])), (u1_31, .inl (cI, 12, .inl (fun _ => 0))), (f1_32, .inl (cI, 10, .inl ff_42)), (g1_33, .inl (cI, 10, .inl fg_43)), (m1_34, .inl (cI, 10, .inl (fun _ => 0))), (c1_35, .inl (cI, 10, .inl (fun _ => 0))), (d1_36, .inl (cI, 10, .inl (fun _ => 0))), (a_now_47, .inl (cI, 15, .inl fw_92)), (a_aside_48, .inl (cI, 15, .inl (fun _ => 0))), (a_kept_49, .inl (cI, 15, .inl (fun _ => 0))), (a_keptFrom_50, .inl (cI, 10, .inl (fun _ => 0))), (a_keptTo_51, .inl (cI, 10, .inl (fun _ => 0))), (a_capOf_52, .inl (cI, 10, .inl (fun _ => 0))), (a_leaveFrom_53, .inl (cI, 10, .inl fl_93)), (a_leaveTo_54, .inl (cI, 10, .inl (fun _ => 0))), (a_amountOf_55, .inl (cI, 12, .inl (fun _ => 0))), (a_tape_58, .inl (cB, 260, .inl (fun _ => 0))), (a_facts_71, .inl (cI, 8, .inl (fun _ => 0))), (a_leftOf_83, .inl (cI, 10, .inl (fun _ => 0))), (a_didOf_84, .inl (cI, 10, .inl (fun _ => 0))), (a_goFrom_77, .inl (cI, 10, .inl (fun _ => 0))), (a_goTo_78, .inl (cI, 10, .inl (fun _ => 0))), (a_idleFrom_79, .inl (cI, 10, .inl (fun _ => 0))), (a_idleTo_80, .inl (cI, 10, .inl (fun _ => 0))), (a_moreOf_81, .inl (cI, 10, .inl (fun _ => 0))), (a_firstOf_82, .inl (cI, 12, .inl fo5_94))] := hD
    refine lv_icmp_eq (tgt := 1309) hx hb dL_law_264 (by decide) (fun _ => ?_) (fun c_264 => absurd (hw_105.trans hw_107.symm) c_264)
    refine lv_iinc (v := 6) (lv' := [(3, .int 6), (2, .ref q_45), (1, .ref q_1), (0, .ref b)]) hx hb dL_law_1309 hl (k := 0) rfl (by decide) (by decide) rfl (fun ls hl => ?_)
    refine lv_goto (tgt := 18) hx hb dL_law_1312 (by decide) ?_
    refine lv_iload_n hx hb dL_law_18 rfl (lv_at hl 0 rfl) ?_
    refine lv_aload_n hx hb dL_law_19 rfl (lv_at hl 3 rfl) ?_
    refine va_slen hx hb hX hbl hbA hS dL_law_20 ?_
    refine tv (z := 6) rfl ?_
    refine lv_bipush (v := 6) hx hb dL_law_21 (by decide) ?_
    refine lv_isub hx hb dL_law_23 ?_
    refine tv (z := 0) (by decide) ?_
    refine lv_icmp_gt (tgt := 1315) hx hb dL_law_24 (by decide) (fun _ => ?_) (fun c_24 => absurd (by decide) c_24)
    refine lv_iconst (v := 1) hx hb dL_law_1315 (by decide) ?_
    refine va_forget (fun q hq => hAq _ (hS.2.2 q hq)) ?_
    refine W.widen (k := 600000) (n := 7302250) (Nat.le_of_ble_eq_true rfl) (Nat.le_of_ble_eq_true rfl) ?_
    exact lw_ret hx hb hr hlocks dL_law_1316
  by_cases e33_3 : z = 3
  · subst e33_3
    refine lv_tableIn (off := 236) (tgt := 269) hx hb dL_law_33 (by decide) (by decide) (by decide) (by decide) ?_
    refine lv_aload_n hx hb dL_law_269 rfl (lv_at hl 2 rfl) ?_
    refine lv_aload_n hx hb dL_law_270 rfl (lv_at hl 3 rfl) ?_
    refine lv_iload_n hx hb dL_law_271 rfl (lv_at hl 0 rfl) ?_
    refine lv_iconst (v := 1) hx hb dL_law_272 (by decide) ?_
    refine lv_iadd hx hb dL_law_273 ?_
    refine tv (z := 1) (by decide) ?_
    refine va_sld hx hb hX hbl hbA hS (by unfold vp_in; decide) dL_law_274 ?_
    refine tv (z := xs 1) rfl ?_
    refine lv_aload_n hx hb dL_law_275 rfl (lv_at hl 3 rfl) ?_
    refine lv_iload_n hx hb dL_law_276 rfl (lv_at hl 0 rfl) ?_
    refine lv_iconst (v := 2) hx hb dL_law_277 (by decide) ?_
    refine lv_iadd hx hb dL_law_278 ?_
    refine tv (z := 2) (by decide) ?_
    refine va_sld hx hb hX hbl hbA hS (by unfold vp_in; decide) dL_law_279 ?_
    refine tv (z := xs 2) rfl ?_
    refine lv_aload_n hx hb dL_law_280 rfl (lv_at hl 3 rfl) ?_
    refine lv_iload_n hx hb dL_law_281 rfl (lv_at hl 0 rfl) ?_
    refine lv_iconst (v := 3) hx hb dL_law_282 (by decide) ?_
    refine lv_iadd hx hb dL_law_283 ?_
    refine tv (z := 3) (by decide) ?_
    refine va_sld hx hb hX hbl hbA hS (by unfold vp_in; decide) dL_law_284 ?_
    refine tv (z := xs 3) rfl ?_
    refine lv_aload_n hx hb dL_law_285 rfl (lv_at hl 3 rfl) ?_
    refine lv_iload_n hx hb dL_law_286 rfl (lv_at hl 0 rfl) ?_
    refine lv_iconst (v := 4) hx hb dL_law_287 (by decide) ?_
    refine lv_iadd hx hb dL_law_288 ?_
    refine tv (z := 4) (by decide) ?_
    refine va_sld hx hb hX hbl hbA hS (by unfold vp_in; decide) dL_law_289 ?_
    refine tv (z := xs 4) rfl ?_
    refine lv_aload_n hx hb dL_law_290 rfl (lv_at hl 3 rfl) ?_
    refine lv_iload_n hx hb dL_law_291 rfl (lv_at hl 0 rfl) ?_
    refine lv_iconst (v := 5) hx hb dL_law_292 (by decide) ?_
    refine lv_iadd hx hb dL_law_293 ?_
    refine tv (z := 5) (by decide) ?_
    refine va_sld hx hb hX hbl hbA hS (by unfold vp_in; decide) dL_law_294 ?_
    refine tv (z := xs 5) rfl ?_
    refine cVI (As := [.int (xs 1), .int (xs 2), .int (xs 3), .int (xs 4), .int (xs 5)]) (rest := []) (n := 5) (ci := 9) (q0 := 0) (wr := [(tw_5, .inr (7, [.int 0, .int 0, .int 0, .ref t1_6, .ref t2_7, .ref t3_8, .ref t4_9])), (t1_6, .inl (cI, 10, .inl (fun _ => 0))), (t2_7, .inl (cI, 12, .inl (fun _ => 0))), (nw_10, .inr (4, [.ref u2_11, .ref f2_12, .ref g2_13, .int 0, .int 0, .int 1])), (u2_11, .inl (cI, 12, .inl (fun _ => 0))), (f2_12, .inl (cI, 10, .inl ff2_38)), (g2_13, .inl (cI, 10, .inl fg2_39)), (kp_14, .inr (4, [.ref u3_15, .ref f3_16, .ref g3_17, .int 0, .int 0, .int 1])), (u3_15, .inl (cI, 12, .inl (fun _ => 0))), (f3_16, .inl (cI, 10, .inl ff3_40)), (g3_17, .inl (cI, 10, .inl fg3_41)), (lw_18, .inr (1, [.ref l1_19, .ref l2_20, .ref l3_21, .ref l4_22, .ref l5_23, .ref l6_24, .ref l7_25, .int 0, .int 0])), (l6_24, .inl (cI, 8, .inl (fun _ => 0))), (tl_29, .inr (8, [.ref tw_5, .ref lw_18, .ref st_30, .ref m1_34, .ref c1_35, .ref d1_36, .int 0, .int 0, .int 0, .int 0, .int 0, .int 0, .int 0, .int 0])), (st_30, .inr (4, [.ref u1_31, .ref f1_32, .ref g1_33, .int 0, .int 0, .int 1])), (u1_31, .inl (cI, 12, .inl (fun _ => 0))), (f1_32, .inl (cI, 10, .inl ff_42)), (g1_33, .inl (cI, 10, .inl fg_43)), (m1_34, .inl (cI, 10, .inl (fun _ => 0))), (c1_35, .inl (cI, 10, .inl (fun _ => 0))), (d1_36, .inl (cI, 10, .inl (fun _ => 0))), (q_45, .inr (10, [.ref a_now_47, .ref a_aside_48, .ref a_kept_49, .ref a_keptFrom_50, .ref a_keptTo_51, .ref a_capOf_52, .ref a_leaveFrom_53, .ref a_leaveTo_54, .ref a_amountOf_55, .ref a_doerMany_56, .ref a_doerOf_57, .int 0, .int 0, .int 0, .ref a_tape_58, .int 0, .int 0, .int 0, .int 0, .int 0, .int 0, .int 0, .int 0, .int 0, .int 0, .ref a_said_59, .ref a_waitsAt_60, .ref a_saidLetter_61, .ref a_saidFrom_62, .ref a_saidHalf_63, .ref a_saidTo_64, .ref a_codes_65, .ref a_clauseOf_66, .ref a_codeFrom_67, .ref a_codeHalf_68, .ref a_codeTo_69, .ref a_stack_70, .ref a_facts_71, .ref a_lineChore_72, .ref a_lineMany_73, .ref a_lineDoer_74, .ref a_newFrom_75, .ref a_newTo_76, .int 0, .ref a_goFrom_77, .ref a_goTo_78, .ref a_idleFrom_79, .ref a_idleTo_80, .ref a_moreOf_81, .ref a_firstOf_82, .ref a_leftOf_83, .ref a_didOf_84, .int 0, .int 0, .int 0, .int 0, .ref a_costBy_85, .int 0, .ref a_gainBy_86, .ref a_hiredOf_87, .ref a_hiredBest_88, .ref a_hiredTo_89, .ref a_turnOf_90, .ref a_turnWho_91, .int 0])), (a_now_47, .inl (cI, 15, .inl fw_92)), (a_aside_48, .inl (cI, 15, .inl (fun _ => 0))), (a_kept_49, .inl (cI, 15, .inl (fun _ => 0))), (a_keptFrom_50, .inl (cI, 10, .inl (fun _ => 0))), (a_keptTo_51, .inl (cI, 10, .inl (fun _ => 0))), (a_capOf_52, .inl (cI, 10, .inl (fun _ => 0))), (a_leaveFrom_53, .inl (cI, 10, .inl fl_93)), (a_leaveTo_54, .inl (cI, 10, .inl (fun _ => 0))), (a_amountOf_55, .inl (cI, 12, .inl (fun _ => 0))), (a_tape_58, .inl (cB, 260, .inl (fun _ => 0))), (a_facts_71, .inl (cI, 8, .inl (fun _ => 0))), (a_leftOf_83, .inl (cI, 10, .inl (fun _ => 0))), (a_didOf_84, .inl (cI, 10, .inl (fun _ => 0))), (a_goFrom_77, .inl (cI, 10, .inl (fun _ => 0))), (a_goTo_78, .inl (cI, 10, .inl (fun _ => 0))), (a_idleFrom_79, .inl (cI, 10, .inl (fun _ => 0))), (a_idleTo_80, .inl (cI, 10, .inl (fun _ => 0))), (a_moreOf_81, .inl (cI, 10, .inl (fun _ => 0))), (a_firstOf_82, .inl (cI, 12, .inl fo5_94))]) X hN hK hP hD hS hA (c_X9_feed l D cI cB _ q_1 tp_3 tw_5 nw_10 kp_14 lw_18 lr_26 dd_27 vv_28 tl_29 sc_37 by__4 (fun _ => 0) (xs 1) (xs 2) (xs 3) (xs 4) (xs 5)) (gV k_442 k_443 k_444 k_92 k_445) (by decide +kernel) ⟨Nat.le_of_ble_eq_true rfl, Nat.le_of_ble_eq_true rfl⟩ ⟨rfl, rfl⟩ [0, 1, 2] [3, 4, 5, 6, 7, 8, 9, 10, 11, 12, 13, 14, 15, 16, 17, 18, 19, 20, 21, 22, 23, 24, 25, 26, 27, 28, 29, 30, 31, 32, 33, 34, 35, 36, 37, 38, 39, 40, 41, 42, 43] rfl rfl (by decide) (by decide) rfl rfl rfl rfl rfl hl.1 (Nat.le_of_ble_eq_true rfl) dL_law_295 ⟨Nat.le_of_ble_eq_true rfl, Nat.le_of_ble_eq_true rfl⟩ (fun r_108 u H locs hw_109 hP hD hS => ?_)
    try dsimp only at hw_109
    have hP : va_P D vwCl [(tw_5, .inr (7, [.int 0, .int 0, .int 0, .ref t1_6, .ref t2_7, .ref t3_8, .ref t4_9])), (t1_6, .inl (cI, 10, .inl (fun _ => 0))), (t2_7, .inl (cI, 12, .inl (fun _ => 0))), (nw_10, .inr (4, [.ref u2_11, .ref f2_12, .ref g2_13, .int 0, .int 0, .int 1])), (u2_11, .inl (cI, 12, .inl (fun _ => 0))), (f2_12, .inl (cI, 10, .inl ff2_38)), (g2_13, .inl (cI, 10, .inl fg2_39)), (kp_14, .inr (4, [.ref u3_15, .ref f3_16, .ref g3_17, .int 0, .int 0, .int 1])), (u3_15, .inl (cI, 12, .inl (fun _ => 0))), (f3_16, .inl (cI, 10, .inl ff3_40)), (g3_17, .inl (cI, 10, .inl fg3_41)), (lw_18, .inr (1, [.ref l1_19, .ref l2_20, .ref l3_21, .ref l4_22, .ref l5_23, .ref l6_24, .ref l7_25, .int 0, .int 0])), (l6_24, .inl (cI, 8, .inl (fun _ => 0))), (tl_29, .inr (8, [.ref tw_5, .ref lw_18, .ref st_30, .ref m1_34, .ref c1_35, .ref d1_36, .int 0, .int 0, .int 0, .int 0, .int 0, .int 0, .int 0, .int 0])), (st_30, .inr (4, [.ref u1_31, .ref f1_32, .ref g1_33, .int 0, .int 0, .int 1])), (u1_31, .inl (cI, 12, .inl (fun _ => 0))), (f1_32, .inl (cI, 10, .inl ff_42)), (g1_33, .inl (cI, 10, .inl fg_43)), (m1_34, .inl (cI, 10, .inl (fun _ => 0))), (c1_35, .inl (cI, 10, .inl (fun _ => 0))), (d1_36, .inl (cI, 10, .inl (fun _ => 0))), (q_45, .inr (10, [.ref a_now_47, .ref a_aside_48, .ref a_kept_49, .ref a_keptFrom_50, .ref a_keptTo_51, .ref a_capOf_52, .ref a_leaveFrom_53, .ref a_leaveTo_54, .ref a_amountOf_55, .ref a_doerMany_56, .ref a_doerOf_57, .int 0, .int 0, .int 0, .ref a_tape_58, .int 0, .int 0, .int 0, .int 0, .int 0, .int 0, .int 0, .int 0, .int 0, .int 0, .ref a_said_59, .ref a_waitsAt_60, .ref a_saidLetter_61, .ref a_saidFrom_62, .ref a_saidHalf_63, .ref a_saidTo_64, .ref a_codes_65, .ref a_clauseOf_66, .ref a_codeFrom_67, .ref a_codeHalf_68, .ref a_codeTo_69, .ref a_stack_70, .ref a_facts_71, .ref a_lineChore_72, .ref a_lineMany_73, .ref a_lineDoer_74, .ref a_newFrom_75, .ref a_newTo_76, .int 0, .ref a_goFrom_77, .ref a_goTo_78, .ref a_idleFrom_79, .ref a_idleTo_80, .ref a_moreOf_81, .ref a_firstOf_82, .ref a_leftOf_83, .ref a_didOf_84, .int 0, .int 0, .int 0, .int 0, .ref a_costBy_85, .int 0, .ref a_gainBy_86, .ref a_hiredOf_87, .ref a_hiredBest_88, .ref a_hiredTo_89, .ref a_turnOf_90, .ref a_turnWho_91, .int 0])), (a_now_47, .inl (cI, 15, .inl fw_92)), (a_aside_48, .inl (cI, 15, .inl (fun _ => 0))), (a_kept_49, .inl (cI, 15, .inl (fun _ => 0))), (a_keptFrom_50, .inl (cI, 10, .inl (fun _ => 0))), (a_keptTo_51, .inl (cI, 10, .inl (fun _ => 0))), (a_capOf_52, .inl (cI, 10, .inl (fun _ => 0))), (a_leaveFrom_53, .inl (cI, 10, .inl fl_93)), (a_leaveTo_54, .inl (cI, 10, .inl (fun _ => 0))), (a_amountOf_55, .inl (cI, 12, .inl (fun _ => 0))), (a_tape_58, .inl (cB, 260, .inl (fun _ => 0))), (a_facts_71, .inl (cI, 8, .inl (fun _ => 0))), (a_leftOf_83, .inl (cI, 10, .inl (fun _ => 0))), (a_didOf_84, .inl (cI, 10, .inl (fun _ => 0))), (a_goFrom_77, .inl (cI, 10, .inl (fun _ => 0))), (a_goTo_78, .inl (cI, 10, .inl (fun _ => 0))), (a_idleFrom_79, .inl (cI, 10, .inl (fun _ => 0))), (a_idleTo_80, .inl (cI, 10, .inl (fun _ => 0))), (a_moreOf_81, .inl (cI, 10, .inl (fun _ => 0))), (a_firstOf_82, .inl (cI, 12, .inl fo5_94))] H := hP
    have hD : va_D A [(tw_5, .inr (7, [.int 0, .int 0, .int 0, .ref t1_6, .ref t2_7, .ref t3_8, .ref t4_9])), (t1_6, .inl (cI, 10, .inl (fun _ => 0))), (t2_7, .inl (cI, 12, .inl (fun _ => 0))), (nw_10, .inr (4, [.ref u2_11, .ref f2_12, .ref g2_13, .int 0, .int 0, .int 1])), (u2_11, .inl (cI, 12, .inl (fun _ => 0))), (f2_12, .inl (cI, 10, .inl ff2_38)), (g2_13, .inl (cI, 10, .inl fg2_39)), (kp_14, .inr (4, [.ref u3_15, .ref f3_16, .ref g3_17, .int 0, .int 0, .int 1])), (u3_15, .inl (cI, 12, .inl (fun _ => 0))), (f3_16, .inl (cI, 10, .inl ff3_40)), (g3_17, .inl (cI, 10, .inl fg3_41)), (lw_18, .inr (1, [.ref l1_19, .ref l2_20, .ref l3_21, .ref l4_22, .ref l5_23, .ref l6_24, .ref l7_25, .int 0, .int 0])), (l6_24, .inl (cI, 8, .inl (fun _ => 0))), (tl_29, .inr (8, [.ref tw_5, .ref lw_18, .ref st_30, .ref m1_34, .ref c1_35, .ref d1_36, .int 0, .int 0, .int 0, .int 0, .int 0, .int 0, .int 0, .int 0])), (st_30, .inr (4, [.ref u1_31, .ref f1_32, .ref g1_33, .int 0, .int 0, .int 1])), (u1_31, .inl (cI, 12, .inl (fun _ => 0))), (f1_32, .inl (cI, 10, .inl ff_42)), (g1_33, .inl (cI, 10, .inl fg_43)), (m1_34, .inl (cI, 10, .inl (fun _ => 0))), (c1_35, .inl (cI, 10, .inl (fun _ => 0))), (d1_36, .inl (cI, 10, .inl (fun _ => 0))), (q_45, .inr (10, [.ref a_now_47, .ref a_aside_48, .ref a_kept_49, .ref a_keptFrom_50, .ref a_keptTo_51, .ref a_capOf_52, .ref a_leaveFrom_53, .ref a_leaveTo_54, .ref a_amountOf_55, .ref a_doerMany_56, .ref a_doerOf_57, .int 0, .int 0, .int 0, .ref a_tape_58, .int 0, .int 0, .int 0, .int 0, .int 0, .int 0, .int 0, .int 0, .int 0, .int 0, .ref a_said_59, .ref a_waitsAt_60, .ref a_saidLetter_61, .ref a_saidFrom_62, .ref a_saidHalf_63, .ref a_saidTo_64, .ref a_codes_65, .ref a_clauseOf_66, .ref a_codeFrom_67, .ref a_codeHalf_68, .ref a_codeTo_69, .ref a_stack_70, .ref a_facts_71, .ref a_lineChore_72, .ref a_lineMany_73, .ref a_lineDoer_74, .ref a_newFrom_75, .ref a_newTo_76, .int 0, .ref a_goFrom_77, .ref a_goTo_78, .ref a_idleFrom_79, .ref a_idleTo_80, .ref a_moreOf_81, .ref a_firstOf_82, .ref a_leftOf_83, .ref a_didOf_84, .int 0, .int 0, .int 0, .int 0, .ref a_costBy_85, .int 0, .ref a_gainBy_86, .ref a_hiredOf_87, .ref a_hiredBest_88, .ref a_hiredTo_89, .ref a_turnOf_90, .ref a_turnWho_91, .int 0])), (a_now_47, .inl (cI, 15, .inl fw_92)), (a_aside_48, .inl (cI, 15, .inl (fun _ => 0))), (a_kept_49, .inl (cI, 15, .inl (fun _ => 0))), (a_keptFrom_50, .inl (cI, 10, .inl (fun _ => 0))), (a_keptTo_51, .inl (cI, 10, .inl (fun _ => 0))), (a_capOf_52, .inl (cI, 10, .inl (fun _ => 0))), (a_leaveFrom_53, .inl (cI, 10, .inl fl_93)), (a_leaveTo_54, .inl (cI, 10, .inl (fun _ => 0))), (a_amountOf_55, .inl (cI, 12, .inl (fun _ => 0))), (a_tape_58, .inl (cB, 260, .inl (fun _ => 0))), (a_facts_71, .inl (cI, 8, .inl (fun _ => 0))), (a_leftOf_83, .inl (cI, 10, .inl (fun _ => 0))), (a_didOf_84, .inl (cI, 10, .inl (fun _ => 0))), (a_goFrom_77, .inl (cI, 10, .inl (fun _ => 0))), (a_goTo_78, .inl (cI, 10, .inl (fun _ => 0))), (a_idleFrom_79, .inl (cI, 10, .inl (fun _ => 0))), (a_idleTo_80, .inl (cI, 10, .inl (fun _ => 0))), (a_moreOf_81, .inl (cI, 10, .inl (fun _ => 0))), (a_firstOf_82, .inl (cI, 12, .inl fo5_94))] := hD
    refine lv_aload_n hx hb dL_law_298 rfl (lv_at hl 1 rfl) ?_
    refine lv_aload_n hx hb dL_law_299 rfl (lv_at hl 3 rfl) ?_
    refine lv_iload_n hx hb dL_law_300 rfl (lv_at hl 0 rfl) ?_
    refine lv_iconst (v := 1) hx hb dL_law_301 (by decide) ?_
    refine lv_iadd hx hb dL_law_302 ?_
    refine tv (z := 1) (by decide) ?_
    refine va_sld hx hb hX hbl hbA hS (by unfold vp_in; decide) dL_law_303 ?_
    refine tv (z := xs 1) rfl ?_
    refine lv_aload_n hx hb dL_law_304 rfl (lv_at hl 3 rfl) ?_
    refine lv_iload_n hx hb dL_law_305 rfl (lv_at hl 0 rfl) ?_
    refine lv_iconst (v := 2) hx hb dL_law_306 (by decide) ?_
    refine lv_iadd hx hb dL_law_307 ?_
    refine tv (z := 2) (by decide) ?_
    refine va_sld hx hb hX hbl hbA hS (by unfold vp_in; decide) dL_law_308 ?_
    refine tv (z := xs 2) rfl ?_
    refine lv_aload_n hx hb dL_law_309 rfl (lv_at hl 3 rfl) ?_
    refine lv_iload_n hx hb dL_law_310 rfl (lv_at hl 0 rfl) ?_
    refine lv_iconst (v := 3) hx hb dL_law_311 (by decide) ?_
    refine lv_iadd hx hb dL_law_312 ?_
    refine tv (z := 3) (by decide) ?_
    refine va_sld hx hb hX hbl hbA hS (by unfold vp_in; decide) dL_law_313 ?_
    refine tv (z := xs 3) rfl ?_
    refine lv_aload_n hx hb dL_law_314 rfl (lv_at hl 3 rfl) ?_
    refine lv_iload_n hx hb dL_law_315 rfl (lv_at hl 0 rfl) ?_
    refine lv_iconst (v := 4) hx hb dL_law_316 (by decide) ?_
    refine lv_iadd hx hb dL_law_317 ?_
    refine tv (z := 4) (by decide) ?_
    refine va_sld hx hb hX hbl hbA hS (by unfold vp_in; decide) dL_law_318 ?_
    refine tv (z := xs 4) rfl ?_
    refine lv_aload_n hx hb dL_law_319 rfl (lv_at hl 3 rfl) ?_
    refine lv_iload_n hx hb dL_law_320 rfl (lv_at hl 0 rfl) ?_
    refine lv_iconst (v := 5) hx hb dL_law_321 (by decide) ?_
    refine lv_iadd hx hb dL_law_322 ?_
    refine tv (z := 5) (by decide) ?_
    refine va_sld hx hb hX hbl hbA hS (by unfold vp_in; decide) dL_law_323 ?_
    refine tv (z := xs 5) rfl ?_
    refine cVI (As := [.int (xs 1), .int (xs 2), .int (xs 3), .int (xs 4), .int (xs 5)]) (rest := [.int r_108]) (n := 5) (ci := 10) (q0 := 0) (wr := [(tw_5, .inr (7, [.int 0, .int 0, .int 0, .ref t1_6, .ref t2_7, .ref t3_8, .ref t4_9])), (t1_6, .inl (cI, 10, .inl (fun _ => 0))), (t2_7, .inl (cI, 12, .inl (fun _ => 0))), (nw_10, .inr (4, [.ref u2_11, .ref f2_12, .ref g2_13, .int 0, .int 0, .int 1])), (u2_11, .inl (cI, 12, .inl (fun _ => 0))), (f2_12, .inl (cI, 10, .inl ff2_38)), (g2_13, .inl (cI, 10, .inl fg2_39)), (kp_14, .inr (4, [.ref u3_15, .ref f3_16, .ref g3_17, .int 0, .int 0, .int 1])), (u3_15, .inl (cI, 12, .inl (fun _ => 0))), (f3_16, .inl (cI, 10, .inl ff3_40)), (g3_17, .inl (cI, 10, .inl fg3_41)), (lw_18, .inr (1, [.ref l1_19, .ref l2_20, .ref l3_21, .ref l4_22, .ref l5_23, .ref l6_24, .ref l7_25, .int 0, .int 0])), (l6_24, .inl (cI, 8, .inl (fun _ => 0))), (tl_29, .inr (8, [.ref tw_5, .ref lw_18, .ref st_30, .ref m1_34, .ref c1_35, .ref d1_36, .int 0, .int 0, .int 0, .int 0, .int 0, .int 0, .int 0, .int 0])), (st_30, .inr (4, [.ref u1_31, .ref f1_32, .ref g1_33, .int 0, .int 0, .int 1])), (u1_31, .inl (cI, 12, .inl (fun _ => 0))), (f1_32, .inl (cI, 10, .inl ff_42)), (g1_33, .inl (cI, 10, .inl fg_43)), (m1_34, .inl (cI, 10, .inl (fun _ => 0))), (c1_35, .inl (cI, 10, .inl (fun _ => 0))), (d1_36, .inl (cI, 10, .inl (fun _ => 0))), (a_now_47, .inl (cI, 15, .inl fw_92)), (a_aside_48, .inl (cI, 15, .inl (fun _ => 0))), (a_kept_49, .inl (cI, 15, .inl (fun _ => 0))), (a_keptFrom_50, .inl (cI, 10, .inl (fun _ => 0))), (a_keptTo_51, .inl (cI, 10, .inl (fun _ => 0))), (a_capOf_52, .inl (cI, 10, .inl (fun _ => 0))), (a_leaveFrom_53, .inl (cI, 10, .inl fl_93)), (a_leaveTo_54, .inl (cI, 10, .inl (fun _ => 0))), (a_amountOf_55, .inl (cI, 12, .inl (fun _ => 0))), (a_facts_71, .inl (cI, 8, .inl (fun _ => 0))), (a_leftOf_83, .inl (cI, 10, .inl (fun _ => 0))), (a_didOf_84, .inl (cI, 10, .inl (fun _ => 0))), (a_goFrom_77, .inl (cI, 10, .inl (fun _ => 0))), (a_goTo_78, .inl (cI, 10, .inl (fun _ => 0))), (a_idleFrom_79, .inl (cI, 10, .inl (fun _ => 0))), (a_idleTo_80, .inl (cI, 10, .inl (fun _ => 0))), (a_moreOf_81, .inl (cI, 10, .inl (fun _ => 0))), (a_firstOf_82, .inl (cI, 12, .inl fo5_94))]) X hN hK hP hD hS hA (c_X10_feed l D cI cB _ q_45 a_now_47 a_aside_48 a_kept_49 a_keptFrom_50 a_keptTo_51 a_capOf_52 a_leaveFrom_53 a_leaveTo_54 a_amountOf_55 a_doerMany_56 a_doerOf_57 a_tape_58 a_said_59 a_waitsAt_60 a_saidLetter_61 a_saidFrom_62 a_saidHalf_63 a_saidTo_64 a_codes_65 a_clauseOf_66 a_codeFrom_67 a_codeHalf_68 a_codeTo_69 a_stack_70 a_facts_71 a_lineChore_72 a_lineMany_73 a_lineDoer_74 a_newFrom_75 a_newTo_76 a_goFrom_77 a_goTo_78 a_idleFrom_79 a_idleTo_80 a_moreOf_81 a_firstOf_82 a_leftOf_83 a_didOf_84 a_costBy_85 a_gainBy_86 a_hiredOf_87 a_hiredBest_88 a_hiredTo_89 a_turnOf_90 a_turnWho_91 0 0 0 0 (fun _ => 0) (xs 1) (xs 2) (xs 3) (xs 4) (xs 5)) (gV k_1279 k_1280 k_1281 k_103 k_1282) (by decide +kernel) ⟨Nat.le_of_ble_eq_true rfl, Nat.le_of_ble_eq_true rfl⟩ ⟨rfl, rfl⟩ [21, 31] [0, 1, 2, 3, 4, 5, 6, 7, 8, 9, 10, 11, 12, 13, 14, 15, 16, 17, 18, 19, 20, 22, 23, 24, 25, 26, 27, 28, 29, 30, 32, 33, 34, 35, 36, 37, 38, 39, 40] rfl rfl (by decide) (by decide) rfl rfl rfl rfl rfl hl.1 (Nat.le_of_ble_eq_true rfl) dL_law_324 ⟨Nat.le_of_ble_eq_true rfl, Nat.le_of_ble_eq_true rfl⟩ (fun r_110 u H locs hw_111 hP hD hS => ?_)
    try dsimp only at hw_111
    have hP : va_P D vwCl [(tw_5, .inr (7, [.int 0, .int 0, .int 0, .ref t1_6, .ref t2_7, .ref t3_8, .ref t4_9])), (t1_6, .inl (cI, 10, .inl (fun _ => 0))), (t2_7, .inl (cI, 12, .inl (fun _ => 0))), (nw_10, .inr (4, [.ref u2_11, .ref f2_12, .ref g2_13, .int 0, .int 0, .int 1])), (u2_11, .inl (cI, 12, .inl (fun _ => 0))), (f2_12, .inl (cI, 10, .inl ff2_38)), (g2_13, .inl (cI, 10, .inl fg2_39)), (kp_14, .inr (4, [.ref u3_15, .ref f3_16, .ref g3_17, .int 0, .int 0, .int 1])), (u3_15, .inl (cI, 12, .inl (fun _ => 0))), (f3_16, .inl (cI, 10, .inl ff3_40)), (g3_17, .inl (cI, 10, .inl fg3_41)), (lw_18, .inr (1, [.ref l1_19, .ref l2_20, .ref l3_21, .ref l4_22, .ref l5_23, .ref l6_24, .ref l7_25, .int 0, .int 0])), (l6_24, .inl (cI, 8, .inl (fun _ => 0))), (tl_29, .inr (8, [.ref tw_5, .ref lw_18, .ref st_30, .ref m1_34, .ref c1_35, .ref d1_36, .int 0, .int 0, .int 0, .int 0, .int 0, .int 0, .int 0, .int 0])), (st_30, .inr (4, [.ref u1_31, .ref f1_32, .ref g1_33, .int 0, .int 0, .int 1])), (u1_31, .inl (cI, 12, .inl (fun _ => 0))), (f1_32, .inl (cI, 10, .inl ff_42)), (g1_33, .inl (cI, 10, .inl fg_43)), (m1_34, .inl (cI, 10, .inl (fun _ => 0))), (c1_35, .inl (cI, 10, .inl (fun _ => 0))), (d1_36, .inl (cI, 10, .inl (fun _ => 0))), (a_now_47, .inl (cI, 15, .inl fw_92)), (a_aside_48, .inl (cI, 15, .inl (fun _ => 0))), (a_kept_49, .inl (cI, 15, .inl (fun _ => 0))), (a_keptFrom_50, .inl (cI, 10, .inl (fun _ => 0))), (a_keptTo_51, .inl (cI, 10, .inl (fun _ => 0))), (a_capOf_52, .inl (cI, 10, .inl (fun _ => 0))), (a_leaveFrom_53, .inl (cI, 10, .inl fl_93)), (a_leaveTo_54, .inl (cI, 10, .inl (fun _ => 0))), (a_amountOf_55, .inl (cI, 12, .inl (fun _ => 0))), (a_facts_71, .inl (cI, 8, .inl (fun _ => 0))), (a_leftOf_83, .inl (cI, 10, .inl (fun _ => 0))), (a_didOf_84, .inl (cI, 10, .inl (fun _ => 0))), (a_goFrom_77, .inl (cI, 10, .inl (fun _ => 0))), (a_goTo_78, .inl (cI, 10, .inl (fun _ => 0))), (a_idleFrom_79, .inl (cI, 10, .inl (fun _ => 0))), (a_idleTo_80, .inl (cI, 10, .inl (fun _ => 0))), (a_moreOf_81, .inl (cI, 10, .inl (fun _ => 0))), (a_firstOf_82, .inl (cI, 12, .inl fo5_94))] H := hP
    have hD : va_D A [(tw_5, .inr (7, [.int 0, .int 0, .int 0, .ref t1_6, .ref t2_7, .ref t3_8, .ref t4_9])), (t1_6, .inl (cI, 10, .inl (fun _ => 0))), (t2_7, .inl (cI, 12, .inl (fun _ => 0))), (nw_10, .inr (4, [.ref u2_11, .ref f2_12, .ref g2_13, .int 0, .int 0, .int 1])), (u2_11, .inl (cI, 12, .inl (fun _ => 0))), (f2_12, .inl (cI, 10, .inl ff2_38)), (g2_13, .inl (cI, 10, .inl fg2_39)), (kp_14, .inr (4, [.ref u3_15, .ref f3_16, .ref g3_17, .int 0, .int 0, .int 1])), (u3_15, .inl (cI, 12, .inl (fun _ => 0))), (f3_16, .inl (cI, 10, .inl ff3_40)), (g3_17, .inl (cI, 10, .inl fg3_41)), (lw_18, .inr (1, [.ref l1_19, .ref l2_20, .ref l3_21, .ref l4_22, .ref l5_23, .ref l6_24, .ref l7_25, .int 0, .int 0])), (l6_24, .inl (cI, 8, .inl (fun _ => 0))), (tl_29, .inr (8, [.ref tw_5, .ref lw_18, .ref st_30, .ref m1_34, .ref c1_35, .ref d1_36, .int 0, .int 0, .int 0, .int 0, .int 0, .int 0, .int 0, .int 0])), (st_30, .inr (4, [.ref u1_31, .ref f1_32, .ref g1_33, .int 0, .int 0, .int 1])), (u1_31, .inl (cI, 12, .inl (fun _ => 0))), (f1_32, .inl (cI, 10, .inl ff_42)), (g1_33, .inl (cI, 10, .inl fg_43)), (m1_34, .inl (cI, 10, .inl (fun _ => 0))), (c1_35, .inl (cI, 10, .inl (fun _ => 0))), (d1_36, .inl (cI, 10, .inl (fun _ => 0))), (a_now_47, .inl (cI, 15, .inl fw_92)), (a_aside_48, .inl (cI, 15, .inl (fun _ => 0))), (a_kept_49, .inl (cI, 15, .inl (fun _ => 0))), (a_keptFrom_50, .inl (cI, 10, .inl (fun _ => 0))), (a_keptTo_51, .inl (cI, 10, .inl (fun _ => 0))), (a_capOf_52, .inl (cI, 10, .inl (fun _ => 0))), (a_leaveFrom_53, .inl (cI, 10, .inl fl_93)), (a_leaveTo_54, .inl (cI, 10, .inl (fun _ => 0))), (a_amountOf_55, .inl (cI, 12, .inl (fun _ => 0))), (a_facts_71, .inl (cI, 8, .inl (fun _ => 0))), (a_leftOf_83, .inl (cI, 10, .inl (fun _ => 0))), (a_didOf_84, .inl (cI, 10, .inl (fun _ => 0))), (a_goFrom_77, .inl (cI, 10, .inl (fun _ => 0))), (a_goTo_78, .inl (cI, 10, .inl (fun _ => 0))), (a_idleFrom_79, .inl (cI, 10, .inl (fun _ => 0))), (a_idleTo_80, .inl (cI, 10, .inl (fun _ => 0))), (a_moreOf_81, .inl (cI, 10, .inl (fun _ => 0))), (a_firstOf_82, .inl (cI, 12, .inl fo5_94))] := hD
    refine lv_icmp_eq (tgt := 1309) hx hb dL_law_327 (by decide) (fun _ => ?_) (fun c_327 => absurd (hw_109.trans hw_111.symm) c_327)
    refine lv_iinc (v := 6) (lv' := [(3, .int 6), (2, .ref q_45), (1, .ref q_1), (0, .ref b)]) hx hb dL_law_1309 hl (k := 0) rfl (by decide) (by decide) rfl (fun ls hl => ?_)
    refine lv_goto (tgt := 18) hx hb dL_law_1312 (by decide) ?_
    refine lv_iload_n hx hb dL_law_18 rfl (lv_at hl 0 rfl) ?_
    refine lv_aload_n hx hb dL_law_19 rfl (lv_at hl 3 rfl) ?_
    refine va_slen hx hb hX hbl hbA hS dL_law_20 ?_
    refine tv (z := 6) rfl ?_
    refine lv_bipush (v := 6) hx hb dL_law_21 (by decide) ?_
    refine lv_isub hx hb dL_law_23 ?_
    refine tv (z := 0) (by decide) ?_
    refine lv_icmp_gt (tgt := 1315) hx hb dL_law_24 (by decide) (fun _ => ?_) (fun c_24 => absurd (by decide) c_24)
    refine lv_iconst (v := 1) hx hb dL_law_1315 (by decide) ?_
    refine va_forget (fun q hq => hAq _ (hS.2.2 q hq)) ?_
    refine W.widen (k := 600000) (n := 7302250) (Nat.le_of_ble_eq_true rfl) (Nat.le_of_ble_eq_true rfl) ?_
    exact lw_ret hx hb hr hlocks dL_law_1316
  by_cases e33_4 : z = 4
  · subst e33_4
    refine lv_tableIn (off := 299) (tgt := 332) hx hb dL_law_33 (by decide) (by decide) (by decide) (by decide) ?_
    refine lv_aload_n hx hb dL_law_332 rfl (lv_at hl 2 rfl) ?_
    refine lv_aload_n hx hb dL_law_333 rfl (lv_at hl 3 rfl) ?_
    refine lv_iload_n hx hb dL_law_334 rfl (lv_at hl 0 rfl) ?_
    refine lv_iconst (v := 1) hx hb dL_law_335 (by decide) ?_
    refine lv_iadd hx hb dL_law_336 ?_
    refine tv (z := 1) (by decide) ?_
    refine va_sld hx hb hX hbl hbA hS (by unfold vp_in; decide) dL_law_337 ?_
    refine tv (z := xs 1) rfl ?_
    refine cVR (As := [.int (xs 1)]) (rest := []) (n := 1) (ci := 9) (q0 := 0) X hN hK hP (c_X9_law l D cI cB q_1 tp_3 tw_5 nw_10 kp_14 lw_18 lr_26 dd_27 vv_28 tl_29 sc_37 by__4 (xs 1)) (gV k_454 k_455 k_456 k_92 k_457) (by decide +kernel) ⟨Nat.le_of_ble_eq_true rfl, Nat.le_of_ble_eq_true rfl⟩ ⟨rfl, rfl⟩ [0, 1] rfl rfl rfl rfl rfl rfl hl.1 (Nat.le_of_ble_eq_true rfl) dL_law_338 ⟨Nat.le_of_ble_eq_true rfl, Nat.le_of_ble_eq_true rfl⟩ (fun r_112 hr_112 => ?_)
    subst hr_112
    refine lv_aload_n hx hb dL_law_341 rfl (lv_at hl 1 rfl) ?_
    refine lv_aload_n hx hb dL_law_342 rfl (lv_at hl 3 rfl) ?_
    refine lv_iload_n hx hb dL_law_343 rfl (lv_at hl 0 rfl) ?_
    refine lv_iconst (v := 1) hx hb dL_law_344 (by decide) ?_
    refine lv_iadd hx hb dL_law_345 ?_
    refine tv (z := 1) (by decide) ?_
    refine va_sld hx hb hX hbl hbA hS (by unfold vp_in; decide) dL_law_346 ?_
    refine tv (z := xs 1) rfl ?_
    refine cVR (As := [.int (xs 1)]) (rest := [.int (-1)]) (n := 1) (ci := 10) (q0 := 0) X hN hK hP (c_X10_law l D cI cB q_45 a_now_47 a_aside_48 a_kept_49 a_keptFrom_50 a_keptTo_51 a_capOf_52 a_leaveFrom_53 a_leaveTo_54 a_amountOf_55 a_doerMany_56 a_doerOf_57 a_tape_58 a_said_59 a_waitsAt_60 a_saidLetter_61 a_saidFrom_62 a_saidHalf_63 a_saidTo_64 a_codes_65 a_clauseOf_66 a_codeFrom_67 a_codeHalf_68 a_codeTo_69 a_stack_70 a_facts_71 a_lineChore_72 a_lineMany_73 a_lineDoer_74 a_newFrom_75 a_newTo_76 a_goFrom_77 a_goTo_78 a_idleFrom_79 a_idleTo_80 a_moreOf_81 a_firstOf_82 a_leftOf_83 a_didOf_84 a_costBy_85 a_gainBy_86 a_hiredOf_87 a_hiredBest_88 a_hiredTo_89 a_turnOf_90 a_turnWho_91 0 0 0 0 (xs 1)) (gV k_1287 k_1288 k_1289 k_103 k_1290) (by decide +kernel) ⟨Nat.le_of_ble_eq_true rfl, Nat.le_of_ble_eq_true rfl⟩ ⟨rfl, rfl⟩ [24] rfl rfl rfl rfl rfl rfl hl.1 (Nat.le_of_ble_eq_true rfl) dL_law_347 ⟨Nat.le_of_ble_eq_true rfl, Nat.le_of_ble_eq_true rfl⟩ (fun r_113 hr_113 => ?_)
    subst hr_113
    refine lv_icmp_eq (tgt := 1309) hx hb dL_law_350 (by decide) (fun _ => ?_) (fun c_350 => absurd (rfl) c_350)
    refine lv_iinc (v := 6) (lv' := [(3, .int 6), (2, .ref q_45), (1, .ref q_1), (0, .ref b)]) hx hb dL_law_1309 hl (k := 0) rfl (by decide) (by decide) rfl (fun ls hl => ?_)
    refine lv_goto (tgt := 18) hx hb dL_law_1312 (by decide) ?_
    refine lv_iload_n hx hb dL_law_18 rfl (lv_at hl 0 rfl) ?_
    refine lv_aload_n hx hb dL_law_19 rfl (lv_at hl 3 rfl) ?_
    refine va_slen hx hb hX hbl hbA hS dL_law_20 ?_
    refine tv (z := 6) rfl ?_
    refine lv_bipush (v := 6) hx hb dL_law_21 (by decide) ?_
    refine lv_isub hx hb dL_law_23 ?_
    refine tv (z := 0) (by decide) ?_
    refine lv_icmp_gt (tgt := 1315) hx hb dL_law_24 (by decide) (fun _ => ?_) (fun c_24 => absurd (by decide) c_24)
    refine lv_iconst (v := 1) hx hb dL_law_1315 (by decide) ?_
    refine va_forget (fun q hq => hAq _ (hS.2.2 q hq)) ?_
    refine W.widen (k := 600000) (n := 7302250) (Nat.le_of_ble_eq_true rfl) (Nat.le_of_ble_eq_true rfl) ?_
    exact lw_ret hx hb hr hlocks dL_law_1316
  by_cases e33_5 : z = 5
  · subst e33_5
    refine lv_tableIn (off := 322) (tgt := 355) hx hb dL_law_33 (by decide) (by decide) (by decide) (by decide) ?_
    refine lv_aload_n hx hb dL_law_355 rfl (lv_at hl 2 rfl) ?_
    refine lv_aload_n hx hb dL_law_356 rfl (lv_at hl 3 rfl) ?_
    refine lv_iload_n hx hb dL_law_357 rfl (lv_at hl 0 rfl) ?_
    refine lv_iconst (v := 1) hx hb dL_law_358 (by decide) ?_
    refine lv_iadd hx hb dL_law_359 ?_
    refine tv (z := 1) (by decide) ?_
    refine va_sld hx hb hX hbl hbA hS (by unfold vp_in; decide) dL_law_360 ?_
    refine tv (z := xs 1) rfl ?_
    refine cVR (As := [.int (xs 1)]) (rest := []) (n := 1) (ci := 9) (q0 := 0) X hN hK hP (c_X9_doers l D cI cB q_1 tp_3 tw_5 nw_10 kp_14 lw_18 lr_26 dd_27 vv_28 tl_29 sc_37 by__4 (xs 1)) (gV k_669 k_670 k_671 k_92 k_672) (by decide +kernel) ⟨Nat.le_of_ble_eq_true rfl, Nat.le_of_ble_eq_true rfl⟩ ⟨rfl, rfl⟩ [0, 1] rfl rfl rfl rfl rfl rfl hl.1 (Nat.le_of_ble_eq_true rfl) dL_law_361 ⟨Nat.le_of_ble_eq_true rfl, Nat.le_of_ble_eq_true rfl⟩ (fun r_114 hr_114 => ?_)
    subst hr_114
    refine lv_aload_n hx hb dL_law_364 rfl (lv_at hl 1 rfl) ?_
    refine lv_aload_n hx hb dL_law_365 rfl (lv_at hl 3 rfl) ?_
    refine lv_iload_n hx hb dL_law_366 rfl (lv_at hl 0 rfl) ?_
    refine lv_iconst (v := 1) hx hb dL_law_367 (by decide) ?_
    refine lv_iadd hx hb dL_law_368 ?_
    refine tv (z := 1) (by decide) ?_
    refine va_sld hx hb hX hbl hbA hS (by unfold vp_in; decide) dL_law_369 ?_
    refine tv (z := xs 1) rfl ?_
    refine cVR (As := [.int (xs 1)]) (rest := [.int (-1)]) (n := 1) (ci := 10) (q0 := 0) X hN hK hP (c_X10_doers l D cI cB q_45 a_now_47 a_aside_48 a_kept_49 a_keptFrom_50 a_keptTo_51 a_capOf_52 a_leaveFrom_53 a_leaveTo_54 a_amountOf_55 a_doerMany_56 a_doerOf_57 a_tape_58 a_said_59 a_waitsAt_60 a_saidLetter_61 a_saidFrom_62 a_saidHalf_63 a_saidTo_64 a_codes_65 a_clauseOf_66 a_codeFrom_67 a_codeHalf_68 a_codeTo_69 a_stack_70 a_facts_71 a_lineChore_72 a_lineMany_73 a_lineDoer_74 a_newFrom_75 a_newTo_76 a_goFrom_77 a_goTo_78 a_idleFrom_79 a_idleTo_80 a_moreOf_81 a_firstOf_82 a_leftOf_83 a_didOf_84 a_costBy_85 a_gainBy_86 a_hiredOf_87 a_hiredBest_88 a_hiredTo_89 a_turnOf_90 a_turnWho_91 0 0 0 0 (xs 1)) (gV k_1373 k_1374 k_1375 k_103 k_1376) (by decide +kernel) ⟨Nat.le_of_ble_eq_true rfl, Nat.le_of_ble_eq_true rfl⟩ ⟨rfl, rfl⟩ [24] rfl rfl rfl rfl rfl rfl hl.1 (Nat.le_of_ble_eq_true rfl) dL_law_370 ⟨Nat.le_of_ble_eq_true rfl, Nat.le_of_ble_eq_true rfl⟩ (fun r_115 hr_115 => ?_)
    subst hr_115
    refine lv_icmp_eq (tgt := 1309) hx hb dL_law_373 (by decide) (fun _ => ?_) (fun c_373 => absurd (rfl) c_373)
    refine lv_iinc (v := 6) (lv' := [(3, .int 6), (2, .ref q_45), (1, .ref q_1), (0, .ref b)]) hx hb dL_law_1309 hl (k := 0) rfl (by decide) (by decide) rfl (fun ls hl => ?_)
    refine lv_goto (tgt := 18) hx hb dL_law_1312 (by decide) ?_
    refine lv_iload_n hx hb dL_law_18 rfl (lv_at hl 0 rfl) ?_
    refine lv_aload_n hx hb dL_law_19 rfl (lv_at hl 3 rfl) ?_
    refine va_slen hx hb hX hbl hbA hS dL_law_20 ?_
    refine tv (z := 6) rfl ?_
    refine lv_bipush (v := 6) hx hb dL_law_21 (by decide) ?_
    refine lv_isub hx hb dL_law_23 ?_
    refine tv (z := 0) (by decide) ?_
    refine lv_icmp_gt (tgt := 1315) hx hb dL_law_24 (by decide) (fun _ => ?_) (fun c_24 => absurd (by decide) c_24)
    refine lv_iconst (v := 1) hx hb dL_law_1315 (by decide) ?_
    refine va_forget (fun q hq => hAq _ (hS.2.2 q hq)) ?_
    refine W.widen (k := 600000) (n := 7302250) (Nat.le_of_ble_eq_true rfl) (Nat.le_of_ble_eq_true rfl) ?_
    exact lw_ret hx hb hr hlocks dL_law_1316
  by_cases e33_6 : z = 6
  · subst e33_6
    refine lv_tableIn (off := 345) (tgt := 378) hx hb dL_law_33 (by decide) (by decide) (by decide) (by decide) ?_
    refine lv_aload_n hx hb dL_law_378 rfl (lv_at hl 2 rfl) ?_
    refine lv_aload_n hx hb dL_law_379 rfl (lv_at hl 3 rfl) ?_
    refine lv_iload_n hx hb dL_law_380 rfl (lv_at hl 0 rfl) ?_
    refine lv_iconst (v := 1) hx hb dL_law_381 (by decide) ?_
    refine lv_iadd hx hb dL_law_382 ?_
    refine tv (z := 1) (by decide) ?_
    refine va_sld hx hb hX hbl hbA hS (by unfold vp_in; decide) dL_law_383 ?_
    refine tv (z := xs 1) rfl ?_
    refine cVR (As := [.int (xs 1)]) (rest := []) (n := 1) (ci := 9) (q0 := 0) X hN hK hP (c_X9_leaves l D cI cB q_1 tp_3 tw_5 nw_10 kp_14 lw_18 lr_26 dd_27 vv_28 tl_29 sc_37 by__4 (xs 1)) (gV k_705 k_706 k_707 k_92 k_708) (by decide +kernel) ⟨Nat.le_of_ble_eq_true rfl, Nat.le_of_ble_eq_true rfl⟩ ⟨rfl, rfl⟩ [0, 1] rfl rfl rfl rfl rfl rfl hl.1 (Nat.le_of_ble_eq_true rfl) dL_law_384 ⟨Nat.le_of_ble_eq_true rfl, Nat.le_of_ble_eq_true rfl⟩ (fun r_116 hr_116 => ?_)
    subst hr_116
    refine lv_aload_n hx hb dL_law_387 rfl (lv_at hl 1 rfl) ?_
    refine lv_aload_n hx hb dL_law_388 rfl (lv_at hl 3 rfl) ?_
    refine lv_iload_n hx hb dL_law_389 rfl (lv_at hl 0 rfl) ?_
    refine lv_iconst (v := 1) hx hb dL_law_390 (by decide) ?_
    refine lv_iadd hx hb dL_law_391 ?_
    refine tv (z := 1) (by decide) ?_
    refine va_sld hx hb hX hbl hbA hS (by unfold vp_in; decide) dL_law_392 ?_
    refine tv (z := xs 1) rfl ?_
    refine cVR (As := [.int (xs 1)]) (rest := [.int (-1)]) (n := 1) (ci := 10) (q0 := 0) X hN hK hP (c_X10_leaves l D cI cB q_45 a_now_47 a_aside_48 a_kept_49 a_keptFrom_50 a_keptTo_51 a_capOf_52 a_leaveFrom_53 a_leaveTo_54 a_amountOf_55 a_doerMany_56 a_doerOf_57 a_tape_58 a_said_59 a_waitsAt_60 a_saidLetter_61 a_saidFrom_62 a_saidHalf_63 a_saidTo_64 a_codes_65 a_clauseOf_66 a_codeFrom_67 a_codeHalf_68 a_codeTo_69 a_stack_70 a_facts_71 a_lineChore_72 a_lineMany_73 a_lineDoer_74 a_newFrom_75 a_newTo_76 a_goFrom_77 a_goTo_78 a_idleFrom_79 a_idleTo_80 a_moreOf_81 a_firstOf_82 a_leftOf_83 a_didOf_84 a_costBy_85 a_gainBy_86 a_hiredOf_87 a_hiredBest_88 a_hiredTo_89 a_turnOf_90 a_turnWho_91 0 0 0 0 (xs 1)) (gV k_1388 k_1389 k_1390 k_103 k_1391) (by decide +kernel) ⟨Nat.le_of_ble_eq_true rfl, Nat.le_of_ble_eq_true rfl⟩ ⟨rfl, rfl⟩ [24] rfl rfl rfl rfl rfl rfl hl.1 (Nat.le_of_ble_eq_true rfl) dL_law_393 ⟨Nat.le_of_ble_eq_true rfl, Nat.le_of_ble_eq_true rfl⟩ (fun r_117 hr_117 => ?_)
    subst hr_117
    refine lv_icmp_eq (tgt := 1309) hx hb dL_law_396 (by decide) (fun _ => ?_) (fun c_396 => absurd (rfl) c_396)
    refine lv_iinc (v := 6) (lv' := [(3, .int 6), (2, .ref q_45), (1, .ref q_1), (0, .ref b)]) hx hb dL_law_1309 hl (k := 0) rfl (by decide) (by decide) rfl (fun ls hl => ?_)
    refine lv_goto (tgt := 18) hx hb dL_law_1312 (by decide) ?_
    refine lv_iload_n hx hb dL_law_18 rfl (lv_at hl 0 rfl) ?_
    refine lv_aload_n hx hb dL_law_19 rfl (lv_at hl 3 rfl) ?_
    refine va_slen hx hb hX hbl hbA hS dL_law_20 ?_
    refine tv (z := 6) rfl ?_
    refine lv_bipush (v := 6) hx hb dL_law_21 (by decide) ?_
    refine lv_isub hx hb dL_law_23 ?_
    refine tv (z := 0) (by decide) ?_
    refine lv_icmp_gt (tgt := 1315) hx hb dL_law_24 (by decide) (fun _ => ?_) (fun c_24 => absurd (by decide) c_24)
    refine lv_iconst (v := 1) hx hb dL_law_1315 (by decide) ?_
    refine va_forget (fun q hq => hAq _ (hS.2.2 q hq)) ?_
    refine W.widen (k := 600000) (n := 7302250) (Nat.le_of_ble_eq_true rfl) (Nat.le_of_ble_eq_true rfl) ?_
    exact lw_ret hx hb hr hlocks dL_law_1316
  by_cases e33_7 : z = 7
  · subst e33_7
    refine lv_tableIn (off := 368) (tgt := 401) hx hb dL_law_33 (by decide) (by decide) (by decide) (by decide) ?_
    refine lv_aload_n hx hb dL_law_401 rfl (lv_at hl 2 rfl) ?_
    refine cVI (As := []) (rest := []) (n := 0) (ci := 9) (q0 := 0) (wr := [(tp_3, .inr (5, [.ref by__4, .int 0])), (by__4, .inl (cI, 260, .inl (fun _ => 0))), (tw_5, .inr (7, [.int 0, .int 0, .int 0, .ref t1_6, .ref t2_7, .ref t3_8, .ref t4_9])), (t1_6, .inl (cI, 10, .inl (fun _ => 0))), (t2_7, .inl (cI, 12, .inl (fun _ => 0))), (u2_11, .inl (cI, 12, .inl (fun _ => 0))), (kp_14, .inr (4, [.ref u3_15, .ref f3_16, .ref g3_17, .int 0, .int 0, .int 1])), (u3_15, .inl (cI, 12, .inl (fun _ => 0))), (f3_16, .inl (cI, 10, .inl ff3_40)), (g3_17, .inl (cI, 10, .inl fg3_41)), (lw_18, .inr (1, [.ref l1_19, .ref l2_20, .ref l3_21, .ref l4_22, .ref l5_23, .ref l6_24, .ref l7_25, .int 0, .int 0])), (l6_24, .inl (cI, 8, .inl (fun _ => 0))), (tl_29, .inr (8, [.ref tw_5, .ref lw_18, .ref st_30, .ref m1_34, .ref c1_35, .ref d1_36, .int 0, .int 0, .int 0, .int 0, .int 0, .int 0, .int 0, .int 0])), (st_30, .inr (4, [.ref u1_31, .ref f1_32, .ref g1_33, .int 0, .int 0, .int 1])), (u1_31, .inl (cI, 12, .inl (fun _ => 0))), (f1_32, .inl (cI, 10, .inl ff_42)), (g1_33, .inl (cI, 10, .inl fg_43)), (m1_34, .inl (cI, 10, .inl (fun _ => 0))), (c1_35, .inl (cI, 10, .inl (fun _ => 0))), (d1_36, .inl (cI, 10, .inl (fun _ => 0))), (q_45, .inr (10, [.ref a_now_47, .ref a_aside_48, .ref a_kept_49, .ref a_keptFrom_50, .ref a_keptTo_51, .ref a_capOf_52, .ref a_leaveFrom_53, .ref a_leaveTo_54, .ref a_amountOf_55, .ref a_doerMany_56, .ref a_doerOf_57, .int 0, .int 0, .int 0, .ref a_tape_58, .int 0, .int 0, .int 0, .int 0, .int 0, .int 0, .int 0, .int 0, .int 0, .int 0, .ref a_said_59, .ref a_waitsAt_60, .ref a_saidLetter_61, .ref a_saidFrom_62, .ref a_saidHalf_63, .ref a_saidTo_64, .ref a_codes_65, .ref a_clauseOf_66, .ref a_codeFrom_67, .ref a_codeHalf_68, .ref a_codeTo_69, .ref a_stack_70, .ref a_facts_71, .ref a_lineChore_72, .ref a_lineMany_73, .ref a_lineDoer_74, .ref a_newFrom_75, .ref a_newTo_76, .int 0, .ref a_goFrom_77, .ref a_goTo_78, .ref a_idleFrom_79, .ref a_idleTo_80, .ref a_moreOf_81, .ref a_firstOf_82, .ref a_leftOf_83, .ref a_didOf_84, .int 0, .int 0, .int 0, .int 0, .ref a_costBy_85, .int 0, .ref a_gainBy_86, .ref a_hiredOf_87, .ref a_hiredBest_88, .ref a_hiredTo_89, .ref a_turnOf_90, .ref a_turnWho_91, .int 0])), (a_now_47, .inl (cI, 15, .inl fw_92)), (a_aside_48, .inl (cI, 15, .inl (fun _ => 0))), (a_kept_49, .inl (cI, 15, .inl (fun _ => 0))), (a_keptFrom_50, .inl (cI, 10, .inl (fun _ => 0))), (a_keptTo_51, .inl (cI, 10, .inl (fun _ => 0))), (a_capOf_52, .inl (cI, 10, .inl (fun _ => 0))), (a_leaveFrom_53, .inl (cI, 10, .inl fl_93)), (a_leaveTo_54, .inl (cI, 10, .inl (fun _ => 0))), (a_amountOf_55, .inl (cI, 12, .inl (fun _ => 0))), (a_tape_58, .inl (cB, 260, .inl (fun _ => 0))), (a_facts_71, .inl (cI, 8, .inl (fun _ => 0))), (a_leftOf_83, .inl (cI, 10, .inl (fun _ => 0))), (a_didOf_84, .inl (cI, 10, .inl (fun _ => 0))), (a_goFrom_77, .inl (cI, 10, .inl (fun _ => 0))), (a_goTo_78, .inl (cI, 10, .inl (fun _ => 0))), (a_idleFrom_79, .inl (cI, 10, .inl (fun _ => 0))), (a_idleTo_80, .inl (cI, 10, .inl (fun _ => 0))), (a_moreOf_81, .inl (cI, 10, .inl (fun _ => 0))), (a_firstOf_82, .inl (cI, 12, .inl fo5_94))]) X hN hK hP hD hS hA (c_X9_home l D cI cB _ q_1 tp_3 tw_5 nw_10 kp_14 lw_18 lr_26 dd_27 vv_28 tl_29 sc_37 u2_11 f2_12 g2_13 ff2_38 fg2_39 hw_44.1 hw_44.2.1) (gV k_742 k_743 k_744 k_92 k_745) (by decide +kernel) ⟨Nat.le_of_ble_eq_true rfl, Nat.le_of_ble_eq_true rfl⟩ ⟨rfl, rfl⟩ [0, 6, 8, 9] [1, 2, 3, 4, 5, 7, 10, 11, 12, 13, 14, 15, 16, 17, 18, 19, 20, 21, 22, 23, 24, 25, 26, 27, 28, 29, 30, 31, 32, 33, 34, 35, 36, 37, 38, 39, 40, 41, 42, 43] rfl rfl (by decide) (by decide) rfl rfl rfl rfl rfl hl.1 (Nat.le_of_ble_eq_true rfl) dL_law_402 ⟨Nat.le_of_ble_eq_true rfl, Nat.le_of_ble_eq_true rfl⟩ (fun r_118 u H locs hw_119 hP hD hS => ?_)
    try dsimp only at hw_119
    have hP : va_P D vwCl [(tp_3, .inr (5, [.ref by__4, .int 0])), (by__4, .inl (cI, 260, .inl (fun _ => 0))), (tw_5, .inr (7, [.int 0, .int 0, .int 0, .ref t1_6, .ref t2_7, .ref t3_8, .ref t4_9])), (t1_6, .inl (cI, 10, .inl (fun _ => 0))), (t2_7, .inl (cI, 12, .inl (fun _ => 0))), (u2_11, .inl (cI, 12, .inl (fun _ => 0))), (kp_14, .inr (4, [.ref u3_15, .ref f3_16, .ref g3_17, .int 0, .int 0, .int 1])), (u3_15, .inl (cI, 12, .inl (fun _ => 0))), (f3_16, .inl (cI, 10, .inl ff3_40)), (g3_17, .inl (cI, 10, .inl fg3_41)), (lw_18, .inr (1, [.ref l1_19, .ref l2_20, .ref l3_21, .ref l4_22, .ref l5_23, .ref l6_24, .ref l7_25, .int 0, .int 0])), (l6_24, .inl (cI, 8, .inl (fun _ => 0))), (tl_29, .inr (8, [.ref tw_5, .ref lw_18, .ref st_30, .ref m1_34, .ref c1_35, .ref d1_36, .int 0, .int 0, .int 0, .int 0, .int 0, .int 0, .int 0, .int 0])), (st_30, .inr (4, [.ref u1_31, .ref f1_32, .ref g1_33, .int 0, .int 0, .int 1])), (u1_31, .inl (cI, 12, .inl (fun _ => 0))), (f1_32, .inl (cI, 10, .inl ff_42)), (g1_33, .inl (cI, 10, .inl fg_43)), (m1_34, .inl (cI, 10, .inl (fun _ => 0))), (c1_35, .inl (cI, 10, .inl (fun _ => 0))), (d1_36, .inl (cI, 10, .inl (fun _ => 0))), (q_45, .inr (10, [.ref a_now_47, .ref a_aside_48, .ref a_kept_49, .ref a_keptFrom_50, .ref a_keptTo_51, .ref a_capOf_52, .ref a_leaveFrom_53, .ref a_leaveTo_54, .ref a_amountOf_55, .ref a_doerMany_56, .ref a_doerOf_57, .int 0, .int 0, .int 0, .ref a_tape_58, .int 0, .int 0, .int 0, .int 0, .int 0, .int 0, .int 0, .int 0, .int 0, .int 0, .ref a_said_59, .ref a_waitsAt_60, .ref a_saidLetter_61, .ref a_saidFrom_62, .ref a_saidHalf_63, .ref a_saidTo_64, .ref a_codes_65, .ref a_clauseOf_66, .ref a_codeFrom_67, .ref a_codeHalf_68, .ref a_codeTo_69, .ref a_stack_70, .ref a_facts_71, .ref a_lineChore_72, .ref a_lineMany_73, .ref a_lineDoer_74, .ref a_newFrom_75, .ref a_newTo_76, .int 0, .ref a_goFrom_77, .ref a_goTo_78, .ref a_idleFrom_79, .ref a_idleTo_80, .ref a_moreOf_81, .ref a_firstOf_82, .ref a_leftOf_83, .ref a_didOf_84, .int 0, .int 0, .int 0, .int 0, .ref a_costBy_85, .int 0, .ref a_gainBy_86, .ref a_hiredOf_87, .ref a_hiredBest_88, .ref a_hiredTo_89, .ref a_turnOf_90, .ref a_turnWho_91, .int 0])), (a_now_47, .inl (cI, 15, .inl fw_92)), (a_aside_48, .inl (cI, 15, .inl (fun _ => 0))), (a_kept_49, .inl (cI, 15, .inl (fun _ => 0))), (a_keptFrom_50, .inl (cI, 10, .inl (fun _ => 0))), (a_keptTo_51, .inl (cI, 10, .inl (fun _ => 0))), (a_capOf_52, .inl (cI, 10, .inl (fun _ => 0))), (a_leaveFrom_53, .inl (cI, 10, .inl fl_93)), (a_leaveTo_54, .inl (cI, 10, .inl (fun _ => 0))), (a_amountOf_55, .inl (cI, 12, .inl (fun _ => 0))), (a_tape_58, .inl (cB, 260, .inl (fun _ => 0))), (a_facts_71, .inl (cI, 8, .inl (fun _ => 0))), (a_leftOf_83, .inl (cI, 10, .inl (fun _ => 0))), (a_didOf_84, .inl (cI, 10, .inl (fun _ => 0))), (a_goFrom_77, .inl (cI, 10, .inl (fun _ => 0))), (a_goTo_78, .inl (cI, 10, .inl (fun _ => 0))), (a_idleFrom_79, .inl (cI, 10, .inl (fun _ => 0))), (a_idleTo_80, .inl (cI, 10, .inl (fun _ => 0))), (a_moreOf_81, .inl (cI, 10, .inl (fun _ => 0))), (a_firstOf_82, .inl (cI, 12, .inl fo5_94))] H := hP
    have hD : va_D A [(tp_3, .inr (5, [.ref by__4, .int 0])), (by__4, .inl (cI, 260, .inl (fun _ => 0))), (tw_5, .inr (7, [.int 0, .int 0, .int 0, .ref t1_6, .ref t2_7, .ref t3_8, .ref t4_9])), (t1_6, .inl (cI, 10, .inl (fun _ => 0))), (t2_7, .inl (cI, 12, .inl (fun _ => 0))), (u2_11, .inl (cI, 12, .inl (fun _ => 0))), (kp_14, .inr (4, [.ref u3_15, .ref f3_16, .ref g3_17, .int 0, .int 0, .int 1])), (u3_15, .inl (cI, 12, .inl (fun _ => 0))), (f3_16, .inl (cI, 10, .inl ff3_40)), (g3_17, .inl (cI, 10, .inl fg3_41)), (lw_18, .inr (1, [.ref l1_19, .ref l2_20, .ref l3_21, .ref l4_22, .ref l5_23, .ref l6_24, .ref l7_25, .int 0, .int 0])), (l6_24, .inl (cI, 8, .inl (fun _ => 0))), (tl_29, .inr (8, [.ref tw_5, .ref lw_18, .ref st_30, .ref m1_34, .ref c1_35, .ref d1_36, .int 0, .int 0, .int 0, .int 0, .int 0, .int 0, .int 0, .int 0])), (st_30, .inr (4, [.ref u1_31, .ref f1_32, .ref g1_33, .int 0, .int 0, .int 1])), (u1_31, .inl (cI, 12, .inl (fun _ => 0))), (f1_32, .inl (cI, 10, .inl ff_42)), (g1_33, .inl (cI, 10, .inl fg_43)), (m1_34, .inl (cI, 10, .inl (fun _ => 0))), (c1_35, .inl (cI, 10, .inl (fun _ => 0))), (d1_36, .inl (cI, 10, .inl (fun _ => 0))), (q_45, .inr (10, [.ref a_now_47, .ref a_aside_48, .ref a_kept_49, .ref a_keptFrom_50, .ref a_keptTo_51, .ref a_capOf_52, .ref a_leaveFrom_53, .ref a_leaveTo_54, .ref a_amountOf_55, .ref a_doerMany_56, .ref a_doerOf_57, .int 0, .int 0, .int 0, .ref a_tape_58, .int 0, .int 0, .int 0, .int 0, .int 0, .int 0, .int 0, .int 0, .int 0, .int 0, .ref a_said_59, .ref a_waitsAt_60, .ref a_saidLetter_61, .ref a_saidFrom_62, .ref a_saidHalf_63, .ref a_saidTo_64, .ref a_codes_65, .ref a_clauseOf_66, .ref a_codeFrom_67, .ref a_codeHalf_68, .ref a_codeTo_69, .ref a_stack_70, .ref a_facts_71, .ref a_lineChore_72, .ref a_lineMany_73, .ref a_lineDoer_74, .ref a_newFrom_75, .ref a_newTo_76, .int 0, .ref a_goFrom_77, .ref a_goTo_78, .ref a_idleFrom_79, .ref a_idleTo_80, .ref a_moreOf_81, .ref a_firstOf_82, .ref a_leftOf_83, .ref a_didOf_84, .int 0, .int 0, .int 0, .int 0, .ref a_costBy_85, .int 0, .ref a_gainBy_86, .ref a_hiredOf_87, .ref a_hiredBest_88, .ref a_hiredTo_89, .ref a_turnOf_90, .ref a_turnWho_91, .int 0])), (a_now_47, .inl (cI, 15, .inl fw_92)), (a_aside_48, .inl (cI, 15, .inl (fun _ => 0))), (a_kept_49, .inl (cI, 15, .inl (fun _ => 0))), (a_keptFrom_50, .inl (cI, 10, .inl (fun _ => 0))), (a_keptTo_51, .inl (cI, 10, .inl (fun _ => 0))), (a_capOf_52, .inl (cI, 10, .inl (fun _ => 0))), (a_leaveFrom_53, .inl (cI, 10, .inl fl_93)), (a_leaveTo_54, .inl (cI, 10, .inl (fun _ => 0))), (a_amountOf_55, .inl (cI, 12, .inl (fun _ => 0))), (a_tape_58, .inl (cB, 260, .inl (fun _ => 0))), (a_facts_71, .inl (cI, 8, .inl (fun _ => 0))), (a_leftOf_83, .inl (cI, 10, .inl (fun _ => 0))), (a_didOf_84, .inl (cI, 10, .inl (fun _ => 0))), (a_goFrom_77, .inl (cI, 10, .inl (fun _ => 0))), (a_goTo_78, .inl (cI, 10, .inl (fun _ => 0))), (a_idleFrom_79, .inl (cI, 10, .inl (fun _ => 0))), (a_idleTo_80, .inl (cI, 10, .inl (fun _ => 0))), (a_moreOf_81, .inl (cI, 10, .inl (fun _ => 0))), (a_firstOf_82, .inl (cI, 12, .inl fo5_94))] := hD
    refine lv_aload_n hx hb dL_law_405 rfl (lv_at hl 1 rfl) ?_
    refine cVI (As := []) (rest := [.int r_118]) (n := 0) (ci := 10) (q0 := 0) (wr := [(tp_3, .inr (5, [.ref by__4, .int 0])), (by__4, .inl (cI, 260, .inl (fun _ => 0))), (tw_5, .inr (7, [.int 0, .int 0, .int 0, .ref t1_6, .ref t2_7, .ref t3_8, .ref t4_9])), (t1_6, .inl (cI, 10, .inl (fun _ => 0))), (t2_7, .inl (cI, 12, .inl (fun _ => 0))), (u2_11, .inl (cI, 12, .inl (fun _ => 0))), (kp_14, .inr (4, [.ref u3_15, .ref f3_16, .ref g3_17, .int 0, .int 0, .int 1])), (u3_15, .inl (cI, 12, .inl (fun _ => 0))), (f3_16, .inl (cI, 10, .inl ff3_40)), (g3_17, .inl (cI, 10, .inl fg3_41)), (lw_18, .inr (1, [.ref l1_19, .ref l2_20, .ref l3_21, .ref l4_22, .ref l5_23, .ref l6_24, .ref l7_25, .int 0, .int 0])), (l6_24, .inl (cI, 8, .inl (fun _ => 0))), (tl_29, .inr (8, [.ref tw_5, .ref lw_18, .ref st_30, .ref m1_34, .ref c1_35, .ref d1_36, .int 0, .int 0, .int 0, .int 0, .int 0, .int 0, .int 0, .int 0])), (st_30, .inr (4, [.ref u1_31, .ref f1_32, .ref g1_33, .int 0, .int 0, .int 1])), (u1_31, .inl (cI, 12, .inl (fun _ => 0))), (f1_32, .inl (cI, 10, .inl ff_42)), (g1_33, .inl (cI, 10, .inl fg_43)), (m1_34, .inl (cI, 10, .inl (fun _ => 0))), (c1_35, .inl (cI, 10, .inl (fun _ => 0))), (d1_36, .inl (cI, 10, .inl (fun _ => 0))), (a_now_47, .inl (cI, 15, .inl fw_92)), (a_aside_48, .inl (cI, 15, .inl (fun _ => 0))), (a_kept_49, .inl (cI, 15, .inl (fun _ => 0))), (a_keptFrom_50, .inl (cI, 10, .inl (fun _ => 0))), (a_keptTo_51, .inl (cI, 10, .inl (fun _ => 0))), (a_capOf_52, .inl (cI, 10, .inl (fun _ => 0))), (a_leaveTo_54, .inl (cI, 10, .inl (fun _ => 0))), (a_amountOf_55, .inl (cI, 12, .inl (fun _ => 0))), (a_tape_58, .inl (cB, 260, .inl (fun _ => 0))), (a_facts_71, .inl (cI, 8, .inl (fun _ => 0))), (a_leftOf_83, .inl (cI, 10, .inl (fun _ => 0))), (a_didOf_84, .inl (cI, 10, .inl (fun _ => 0))), (a_goFrom_77, .inl (cI, 10, .inl (fun _ => 0))), (a_goTo_78, .inl (cI, 10, .inl (fun _ => 0))), (a_idleFrom_79, .inl (cI, 10, .inl (fun _ => 0))), (a_idleTo_80, .inl (cI, 10, .inl (fun _ => 0))), (a_moreOf_81, .inl (cI, 10, .inl (fun _ => 0))), (a_firstOf_82, .inl (cI, 12, .inl fo5_94))]) X hN hK hP hD hS hA (c_X10_home l D cI cB _ q_45 a_now_47 a_aside_48 a_kept_49 a_keptFrom_50 a_keptTo_51 a_capOf_52 a_leaveFrom_53 a_leaveTo_54 a_amountOf_55 a_doerMany_56 a_doerOf_57 a_tape_58 a_said_59 a_waitsAt_60 a_saidLetter_61 a_saidFrom_62 a_saidHalf_63 a_saidTo_64 a_codes_65 a_clauseOf_66 a_codeFrom_67 a_codeHalf_68 a_codeTo_69 a_stack_70 a_facts_71 a_lineChore_72 a_lineMany_73 a_lineDoer_74 a_newFrom_75 a_newTo_76 a_goFrom_77 a_goTo_78 a_idleFrom_79 a_idleTo_80 a_moreOf_81 a_firstOf_82 a_leftOf_83 a_didOf_84 a_costBy_85 a_gainBy_86 a_hiredOf_87 a_hiredBest_88 a_hiredTo_89 a_turnOf_90 a_turnWho_91 0 0 0 0 fl_93 hw_95.2) (gV k_1400 k_1401 k_1402 k_103 k_1403) (by decide +kernel) ⟨Nat.le_of_ble_eq_true rfl, Nat.le_of_ble_eq_true rfl⟩ ⟨rfl, rfl⟩ [20, 27] [0, 1, 2, 3, 4, 5, 6, 7, 8, 9, 10, 11, 12, 13, 14, 15, 16, 17, 18, 19, 21, 22, 23, 24, 25, 26, 28, 29, 30, 31, 32, 33, 34, 35, 36, 37, 38, 39] rfl rfl (by decide) (by decide) rfl rfl rfl rfl rfl hl.1 (Nat.le_of_ble_eq_true rfl) dL_law_406 ⟨Nat.le_of_ble_eq_true rfl, Nat.le_of_ble_eq_true rfl⟩ (fun r_120 u H locs hw_121 hP hD hS => ?_)
    try dsimp only at hw_121
    have hP : va_P D vwCl [(tp_3, .inr (5, [.ref by__4, .int 0])), (by__4, .inl (cI, 260, .inl (fun _ => 0))), (tw_5, .inr (7, [.int 0, .int 0, .int 0, .ref t1_6, .ref t2_7, .ref t3_8, .ref t4_9])), (t1_6, .inl (cI, 10, .inl (fun _ => 0))), (t2_7, .inl (cI, 12, .inl (fun _ => 0))), (u2_11, .inl (cI, 12, .inl (fun _ => 0))), (kp_14, .inr (4, [.ref u3_15, .ref f3_16, .ref g3_17, .int 0, .int 0, .int 1])), (u3_15, .inl (cI, 12, .inl (fun _ => 0))), (f3_16, .inl (cI, 10, .inl ff3_40)), (g3_17, .inl (cI, 10, .inl fg3_41)), (lw_18, .inr (1, [.ref l1_19, .ref l2_20, .ref l3_21, .ref l4_22, .ref l5_23, .ref l6_24, .ref l7_25, .int 0, .int 0])), (l6_24, .inl (cI, 8, .inl (fun _ => 0))), (tl_29, .inr (8, [.ref tw_5, .ref lw_18, .ref st_30, .ref m1_34, .ref c1_35, .ref d1_36, .int 0, .int 0, .int 0, .int 0, .int 0, .int 0, .int 0, .int 0])), (st_30, .inr (4, [.ref u1_31, .ref f1_32, .ref g1_33, .int 0, .int 0, .int 1])), (u1_31, .inl (cI, 12, .inl (fun _ => 0))), (f1_32, .inl (cI, 10, .inl ff_42)), (g1_33, .inl (cI, 10, .inl fg_43)), (m1_34, .inl (cI, 10, .inl (fun _ => 0))), (c1_35, .inl (cI, 10, .inl (fun _ => 0))), (d1_36, .inl (cI, 10, .inl (fun _ => 0))), (a_now_47, .inl (cI, 15, .inl fw_92)), (a_aside_48, .inl (cI, 15, .inl (fun _ => 0))), (a_kept_49, .inl (cI, 15, .inl (fun _ => 0))), (a_keptFrom_50, .inl (cI, 10, .inl (fun _ => 0))), (a_keptTo_51, .inl (cI, 10, .inl (fun _ => 0))), (a_capOf_52, .inl (cI, 10, .inl (fun _ => 0))), (a_leaveTo_54, .inl (cI, 10, .inl (fun _ => 0))), (a_amountOf_55, .inl (cI, 12, .inl (fun _ => 0))), (a_tape_58, .inl (cB, 260, .inl (fun _ => 0))), (a_facts_71, .inl (cI, 8, .inl (fun _ => 0))), (a_leftOf_83, .inl (cI, 10, .inl (fun _ => 0))), (a_didOf_84, .inl (cI, 10, .inl (fun _ => 0))), (a_goFrom_77, .inl (cI, 10, .inl (fun _ => 0))), (a_goTo_78, .inl (cI, 10, .inl (fun _ => 0))), (a_idleFrom_79, .inl (cI, 10, .inl (fun _ => 0))), (a_idleTo_80, .inl (cI, 10, .inl (fun _ => 0))), (a_moreOf_81, .inl (cI, 10, .inl (fun _ => 0))), (a_firstOf_82, .inl (cI, 12, .inl fo5_94))] H := hP
    have hD : va_D A [(tp_3, .inr (5, [.ref by__4, .int 0])), (by__4, .inl (cI, 260, .inl (fun _ => 0))), (tw_5, .inr (7, [.int 0, .int 0, .int 0, .ref t1_6, .ref t2_7, .ref t3_8, .ref t4_9])), (t1_6, .inl (cI, 10, .inl (fun _ => 0))), (t2_7, .inl (cI, 12, .inl (fun _ => 0))), (u2_11, .inl (cI, 12, .inl (fun _ => 0))), (kp_14, .inr (4, [.ref u3_15, .ref f3_16, .ref g3_17, .int 0, .int 0, .int 1])), (u3_15, .inl (cI, 12, .inl (fun _ => 0))), (f3_16, .inl (cI, 10, .inl ff3_40)), (g3_17, .inl (cI, 10, .inl fg3_41)), (lw_18, .inr (1, [.ref l1_19, .ref l2_20, .ref l3_21, .ref l4_22, .ref l5_23, .ref l6_24, .ref l7_25, .int 0, .int 0])), (l6_24, .inl (cI, 8, .inl (fun _ => 0))), (tl_29, .inr (8, [.ref tw_5, .ref lw_18, .ref st_30, .ref m1_34, .ref c1_35, .ref d1_36, .int 0, .int 0, .int 0, .int 0, .int 0, .int 0, .int 0, .int 0])), (st_30, .inr (4, [.ref u1_31, .ref f1_32, .ref g1_33, .int 0, .int 0, .int 1])), (u1_31, .inl (cI, 12, .inl (fun _ => 0))), (f1_32, .inl (cI, 10, .inl ff_42)), (g1_33, .inl (cI, 10, .inl fg_43)), (m1_34, .inl (cI, 10, .inl (fun _ => 0))), (c1_35, .inl (cI, 10, .inl (fun _ => 0))), (d1_36, .inl (cI, 10, .inl (fun _ => 0))), (a_now_47, .inl (cI, 15, .inl fw_92)), (a_aside_48, .inl (cI, 15, .inl (fun _ => 0))), (a_kept_49, .inl (cI, 15, .inl (fun _ => 0))), (a_keptFrom_50, .inl (cI, 10, .inl (fun _ => 0))), (a_keptTo_51, .inl (cI, 10, .inl (fun _ => 0))), (a_capOf_52, .inl (cI, 10, .inl (fun _ => 0))), (a_leaveTo_54, .inl (cI, 10, .inl (fun _ => 0))), (a_amountOf_55, .inl (cI, 12, .inl (fun _ => 0))), (a_tape_58, .inl (cB, 260, .inl (fun _ => 0))), (a_facts_71, .inl (cI, 8, .inl (fun _ => 0))), (a_leftOf_83, .inl (cI, 10, .inl (fun _ => 0))), (a_didOf_84, .inl (cI, 10, .inl (fun _ => 0))), (a_goFrom_77, .inl (cI, 10, .inl (fun _ => 0))), (a_goTo_78, .inl (cI, 10, .inl (fun _ => 0))), (a_idleFrom_79, .inl (cI, 10, .inl (fun _ => 0))), (a_idleTo_80, .inl (cI, 10, .inl (fun _ => 0))), (a_moreOf_81, .inl (cI, 10, .inl (fun _ => 0))), (a_firstOf_82, .inl (cI, 12, .inl fo5_94))] := hD
    refine lv_icmp_eq (tgt := 1309) hx hb dL_law_409 (by decide) (fun _ => ?_) (fun c_409 => absurd (hw_119.trans hw_121.symm) c_409)
    refine lv_iinc (v := 6) (lv' := [(3, .int 6), (2, .ref q_45), (1, .ref q_1), (0, .ref b)]) hx hb dL_law_1309 hl (k := 0) rfl (by decide) (by decide) rfl (fun ls hl => ?_)
    refine lv_goto (tgt := 18) hx hb dL_law_1312 (by decide) ?_
    refine lv_iload_n hx hb dL_law_18 rfl (lv_at hl 0 rfl) ?_
    refine lv_aload_n hx hb dL_law_19 rfl (lv_at hl 3 rfl) ?_
    refine va_slen hx hb hX hbl hbA hS dL_law_20 ?_
    refine tv (z := 6) rfl ?_
    refine lv_bipush (v := 6) hx hb dL_law_21 (by decide) ?_
    refine lv_isub hx hb dL_law_23 ?_
    refine tv (z := 0) (by decide) ?_
    refine lv_icmp_gt (tgt := 1315) hx hb dL_law_24 (by decide) (fun _ => ?_) (fun c_24 => absurd (by decide) c_24)
    refine lv_iconst (v := 1) hx hb dL_law_1315 (by decide) ?_
    refine va_forget (fun q hq => hAq _ (hS.2.2 q hq)) ?_
    refine W.widen (k := 600000) (n := 7302250) (Nat.le_of_ble_eq_true rfl) (Nat.le_of_ble_eq_true rfl) ?_
    exact lw_ret hx hb hr hlocks dL_law_1316
  by_cases e33_8 : z = 8
  · subst e33_8
    refine lv_tableIn (off := 381) (tgt := 414) hx hb dL_law_33 (by decide) (by decide) (by decide) (by decide) ?_
    refine lv_aload_n hx hb dL_law_414 rfl (lv_at hl 2 rfl) ?_
    refine lv_aload_n hx hb dL_law_415 rfl (lv_at hl 3 rfl) ?_
    refine lv_iload_n hx hb dL_law_416 rfl (lv_at hl 0 rfl) ?_
    refine lv_iconst (v := 1) hx hb dL_law_417 (by decide) ?_
    refine lv_iadd hx hb dL_law_418 ?_
    refine tv (z := 1) (by decide) ?_
    refine va_sld hx hb hX hbl hbA hS (by unfold vp_in; decide) dL_law_419 ?_
    refine tv (z := xs 1) rfl ?_
    refine cVI (As := [.int (xs 1)]) (rest := []) (n := 1) (ci := 9) (q0 := 0) (wr := [(tp_3, .inr (5, [.ref by__4, .int 0])), (by__4, .inl (cI, 260, .inl (fun _ => 0))), (t1_6, .inl (cI, 10, .inl (fun _ => 0))), (t2_7, .inl (cI, 12, .inl (fun _ => 0))), (kp_14, .inr (4, [.ref u3_15, .ref f3_16, .ref g3_17, .int 0, .int 0, .int 1])), (u3_15, .inl (cI, 12, .inl (fun _ => 0))), (f3_16, .inl (cI, 10, .inl ff3_40)), (g3_17, .inl (cI, 10, .inl fg3_41)), (q_45, .inr (10, [.ref a_now_47, .ref a_aside_48, .ref a_kept_49, .ref a_keptFrom_50, .ref a_keptTo_51, .ref a_capOf_52, .ref a_leaveFrom_53, .ref a_leaveTo_54, .ref a_amountOf_55, .ref a_doerMany_56, .ref a_doerOf_57, .int 0, .int 0, .int 0, .ref a_tape_58, .int 0, .int 0, .int 0, .int 0, .int 0, .int 0, .int 0, .int 0, .int 0, .int 0, .ref a_said_59, .ref a_waitsAt_60, .ref a_saidLetter_61, .ref a_saidFrom_62, .ref a_saidHalf_63, .ref a_saidTo_64, .ref a_codes_65, .ref a_clauseOf_66, .ref a_codeFrom_67, .ref a_codeHalf_68, .ref a_codeTo_69, .ref a_stack_70, .ref a_facts_71, .ref a_lineChore_72, .ref a_lineMany_73, .ref a_lineDoer_74, .ref a_newFrom_75, .ref a_newTo_76, .int 0, .ref a_goFrom_77, .ref a_goTo_78, .ref a_idleFrom_79, .ref a_idleTo_80, .ref a_moreOf_81, .ref a_firstOf_82, .ref a_leftOf_83, .ref a_didOf_84, .int 0, .int 0, .int 0, .int 0, .ref a_costBy_85, .int 0, .ref a_gainBy_86, .ref a_hiredOf_87, .ref a_hiredBest_88, .ref a_hiredTo_89, .ref a_turnOf_90, .ref a_turnWho_91, .int 0])), (a_now_47, .inl (cI, 15, .inl fw_92)), (a_aside_48, .inl (cI, 15, .inl (fun _ => 0))), (a_kept_49, .inl (cI, 15, .inl (fun _ => 0))), (a_keptFrom_50, .inl (cI, 10, .inl (fun _ => 0))), (a_keptTo_51, .inl (cI, 10, .inl (fun _ => 0))), (a_capOf_52, .inl (cI, 10, .inl (fun _ => 0))), (a_leaveFrom_53, .inl (cI, 10, .inl fl_93)), (a_leaveTo_54, .inl (cI, 10, .inl (fun _ => 0))), (a_amountOf_55, .inl (cI, 12, .inl (fun _ => 0))), (a_tape_58, .inl (cB, 260, .inl (fun _ => 0))), (a_facts_71, .inl (cI, 8, .inl (fun _ => 0))), (a_leftOf_83, .inl (cI, 10, .inl (fun _ => 0))), (a_didOf_84, .inl (cI, 10, .inl (fun _ => 0))), (a_goFrom_77, .inl (cI, 10, .inl (fun _ => 0))), (a_goTo_78, .inl (cI, 10, .inl (fun _ => 0))), (a_idleFrom_79, .inl (cI, 10, .inl (fun _ => 0))), (a_idleTo_80, .inl (cI, 10, .inl (fun _ => 0))), (a_moreOf_81, .inl (cI, 10, .inl (fun _ => 0))), (a_firstOf_82, .inl (cI, 12, .inl fo5_94))]) X hN hK hP hD hS hA (c_X9_days l D cI cB _ q_1 tp_3 tw_5 nw_10 kp_14 lw_18 lr_26 dd_27 vv_28 tl_29 sc_37 t1_6 t2_7 t3_8 t4_9 u2_11 f2_12 g2_13 (fun _ => 0) ff2_38 fg2_39 l1_19 l2_20 l3_21 l4_22 l5_23 l6_24 l7_25 0 0 (fun _ => 0) st_30 m1_34 c1_35 d1_36 0 0 0 0 0 0 0 0 u1_31 f1_32 g1_33 0 0 1 (fun _ => 0) ff_42 fg_43 (fun _ => 0) (fun _ => 0) (fun _ => 0) (xs 1) (fun _ _ => rfl) hw_44.1 hw_44.2.1) (gV k_766 k_767 k_768 k_92 k_769) (by decide +kernel) ⟨Nat.le_of_ble_eq_true rfl, Nat.le_of_ble_eq_true rfl⟩ ⟨rfl, rfl⟩ [0, 3, 6, 7, 8, 9, 14, 15, 16, 17, 18, 19, 20, 21, 22, 23] [1, 2, 4, 5, 10, 11, 12, 13, 24, 25, 26, 27, 28, 29, 30, 31, 32, 33, 34, 35, 36, 37, 38, 39, 40, 41, 42, 43] rfl rfl (by decide) (by decide) rfl rfl rfl rfl rfl hl.1 (Nat.le_of_ble_eq_true rfl) dL_law_420 ⟨Nat.le_of_ble_eq_true rfl, Nat.le_of_ble_eq_true rfl⟩ (fun r_122 u H locs hw_123 hP hD hS => ?_)
    try dsimp only at hw_123
    have hP : va_P D vwCl [(tp_3, .inr (5, [.ref by__4, .int 0])), (by__4, .inl (cI, 260, .inl (fun _ => 0))), (t1_6, .inl (cI, 10, .inl (fun _ => 0))), (t2_7, .inl (cI, 12, .inl (fun _ => 0))), (kp_14, .inr (4, [.ref u3_15, .ref f3_16, .ref g3_17, .int 0, .int 0, .int 1])), (u3_15, .inl (cI, 12, .inl (fun _ => 0))), (f3_16, .inl (cI, 10, .inl ff3_40)), (g3_17, .inl (cI, 10, .inl fg3_41)), (q_45, .inr (10, [.ref a_now_47, .ref a_aside_48, .ref a_kept_49, .ref a_keptFrom_50, .ref a_keptTo_51, .ref a_capOf_52, .ref a_leaveFrom_53, .ref a_leaveTo_54, .ref a_amountOf_55, .ref a_doerMany_56, .ref a_doerOf_57, .int 0, .int 0, .int 0, .ref a_tape_58, .int 0, .int 0, .int 0, .int 0, .int 0, .int 0, .int 0, .int 0, .int 0, .int 0, .ref a_said_59, .ref a_waitsAt_60, .ref a_saidLetter_61, .ref a_saidFrom_62, .ref a_saidHalf_63, .ref a_saidTo_64, .ref a_codes_65, .ref a_clauseOf_66, .ref a_codeFrom_67, .ref a_codeHalf_68, .ref a_codeTo_69, .ref a_stack_70, .ref a_facts_71, .ref a_lineChore_72, .ref a_lineMany_73, .ref a_lineDoer_74, .ref a_newFrom_75, .ref a_newTo_76, .int 0, .ref a_goFrom_77, .ref a_goTo_78, .ref a_idleFrom_79, .ref a_idleTo_80, .ref a_moreOf_81, .ref a_firstOf_82, .ref a_leftOf_83, .ref a_didOf_84, .int 0, .int 0, .int 0, .int 0, .ref a_costBy_85, .int 0, .ref a_gainBy_86, .ref a_hiredOf_87, .ref a_hiredBest_88, .ref a_hiredTo_89, .ref a_turnOf_90, .ref a_turnWho_91, .int 0])), (a_now_47, .inl (cI, 15, .inl fw_92)), (a_aside_48, .inl (cI, 15, .inl (fun _ => 0))), (a_kept_49, .inl (cI, 15, .inl (fun _ => 0))), (a_keptFrom_50, .inl (cI, 10, .inl (fun _ => 0))), (a_keptTo_51, .inl (cI, 10, .inl (fun _ => 0))), (a_capOf_52, .inl (cI, 10, .inl (fun _ => 0))), (a_leaveFrom_53, .inl (cI, 10, .inl fl_93)), (a_leaveTo_54, .inl (cI, 10, .inl (fun _ => 0))), (a_amountOf_55, .inl (cI, 12, .inl (fun _ => 0))), (a_tape_58, .inl (cB, 260, .inl (fun _ => 0))), (a_facts_71, .inl (cI, 8, .inl (fun _ => 0))), (a_leftOf_83, .inl (cI, 10, .inl (fun _ => 0))), (a_didOf_84, .inl (cI, 10, .inl (fun _ => 0))), (a_goFrom_77, .inl (cI, 10, .inl (fun _ => 0))), (a_goTo_78, .inl (cI, 10, .inl (fun _ => 0))), (a_idleFrom_79, .inl (cI, 10, .inl (fun _ => 0))), (a_idleTo_80, .inl (cI, 10, .inl (fun _ => 0))), (a_moreOf_81, .inl (cI, 10, .inl (fun _ => 0))), (a_firstOf_82, .inl (cI, 12, .inl fo5_94))] H := hP
    have hD : va_D A [(tp_3, .inr (5, [.ref by__4, .int 0])), (by__4, .inl (cI, 260, .inl (fun _ => 0))), (t1_6, .inl (cI, 10, .inl (fun _ => 0))), (t2_7, .inl (cI, 12, .inl (fun _ => 0))), (kp_14, .inr (4, [.ref u3_15, .ref f3_16, .ref g3_17, .int 0, .int 0, .int 1])), (u3_15, .inl (cI, 12, .inl (fun _ => 0))), (f3_16, .inl (cI, 10, .inl ff3_40)), (g3_17, .inl (cI, 10, .inl fg3_41)), (q_45, .inr (10, [.ref a_now_47, .ref a_aside_48, .ref a_kept_49, .ref a_keptFrom_50, .ref a_keptTo_51, .ref a_capOf_52, .ref a_leaveFrom_53, .ref a_leaveTo_54, .ref a_amountOf_55, .ref a_doerMany_56, .ref a_doerOf_57, .int 0, .int 0, .int 0, .ref a_tape_58, .int 0, .int 0, .int 0, .int 0, .int 0, .int 0, .int 0, .int 0, .int 0, .int 0, .ref a_said_59, .ref a_waitsAt_60, .ref a_saidLetter_61, .ref a_saidFrom_62, .ref a_saidHalf_63, .ref a_saidTo_64, .ref a_codes_65, .ref a_clauseOf_66, .ref a_codeFrom_67, .ref a_codeHalf_68, .ref a_codeTo_69, .ref a_stack_70, .ref a_facts_71, .ref a_lineChore_72, .ref a_lineMany_73, .ref a_lineDoer_74, .ref a_newFrom_75, .ref a_newTo_76, .int 0, .ref a_goFrom_77, .ref a_goTo_78, .ref a_idleFrom_79, .ref a_idleTo_80, .ref a_moreOf_81, .ref a_firstOf_82, .ref a_leftOf_83, .ref a_didOf_84, .int 0, .int 0, .int 0, .int 0, .ref a_costBy_85, .int 0, .ref a_gainBy_86, .ref a_hiredOf_87, .ref a_hiredBest_88, .ref a_hiredTo_89, .ref a_turnOf_90, .ref a_turnWho_91, .int 0])), (a_now_47, .inl (cI, 15, .inl fw_92)), (a_aside_48, .inl (cI, 15, .inl (fun _ => 0))), (a_kept_49, .inl (cI, 15, .inl (fun _ => 0))), (a_keptFrom_50, .inl (cI, 10, .inl (fun _ => 0))), (a_keptTo_51, .inl (cI, 10, .inl (fun _ => 0))), (a_capOf_52, .inl (cI, 10, .inl (fun _ => 0))), (a_leaveFrom_53, .inl (cI, 10, .inl fl_93)), (a_leaveTo_54, .inl (cI, 10, .inl (fun _ => 0))), (a_amountOf_55, .inl (cI, 12, .inl (fun _ => 0))), (a_tape_58, .inl (cB, 260, .inl (fun _ => 0))), (a_facts_71, .inl (cI, 8, .inl (fun _ => 0))), (a_leftOf_83, .inl (cI, 10, .inl (fun _ => 0))), (a_didOf_84, .inl (cI, 10, .inl (fun _ => 0))), (a_goFrom_77, .inl (cI, 10, .inl (fun _ => 0))), (a_goTo_78, .inl (cI, 10, .inl (fun _ => 0))), (a_idleFrom_79, .inl (cI, 10, .inl (fun _ => 0))), (a_idleTo_80, .inl (cI, 10, .inl (fun _ => 0))), (a_moreOf_81, .inl (cI, 10, .inl (fun _ => 0))), (a_firstOf_82, .inl (cI, 12, .inl fo5_94))] := hD
    refine lv_aload_n hx hb dL_law_423 rfl (lv_at hl 1 rfl) ?_
    refine lv_aload_n hx hb dL_law_424 rfl (lv_at hl 3 rfl) ?_
    refine lv_iload_n hx hb dL_law_425 rfl (lv_at hl 0 rfl) ?_
    refine lv_iconst (v := 1) hx hb dL_law_426 (by decide) ?_
    refine lv_iadd hx hb dL_law_427 ?_
    refine tv (z := 1) (by decide) ?_
    refine va_sld hx hb hX hbl hbA hS (by unfold vp_in; decide) dL_law_428 ?_
    refine tv (z := xs 1) rfl ?_
    refine cVI (As := [.int (xs 1)]) (rest := [.int r_122]) (n := 1) (ci := 10) (q0 := 0) (wr := [(tp_3, .inr (5, [.ref by__4, .int 0])), (by__4, .inl (cI, 260, .inl (fun _ => 0))), (t1_6, .inl (cI, 10, .inl (fun _ => 0))), (t2_7, .inl (cI, 12, .inl (fun _ => 0))), (kp_14, .inr (4, [.ref u3_15, .ref f3_16, .ref g3_17, .int 0, .int 0, .int 1])), (u3_15, .inl (cI, 12, .inl (fun _ => 0))), (f3_16, .inl (cI, 10, .inl ff3_40)), (g3_17, .inl (cI, 10, .inl fg3_41)), (a_kept_49, .inl (cI, 15, .inl (fun _ => 0))), (a_keptFrom_50, .inl (cI, 10, .inl (fun _ => 0))), (a_keptTo_51, .inl (cI, 10, .inl (fun _ => 0))), (a_capOf_52, .inl (cI, 10, .inl (fun _ => 0))), (a_leaveTo_54, .inl (cI, 10, .inl (fun _ => 0))), (a_amountOf_55, .inl (cI, 12, .inl (fun _ => 0))), (a_tape_58, .inl (cB, 260, .inl (fun _ => 0)))]) X hN hK hP hD hS hA (c_X10_days l D cI cB _ q_45 a_now_47 a_aside_48 a_kept_49 a_keptFrom_50 a_keptTo_51 a_capOf_52 a_leaveFrom_53 a_leaveTo_54 a_amountOf_55 a_doerMany_56 a_doerOf_57 a_tape_58 a_said_59 a_waitsAt_60 a_saidLetter_61 a_saidFrom_62 a_saidHalf_63 a_saidTo_64 a_codes_65 a_clauseOf_66 a_codeFrom_67 a_codeHalf_68 a_codeTo_69 a_stack_70 a_facts_71 a_lineChore_72 a_lineMany_73 a_lineDoer_74 a_newFrom_75 a_newTo_76 a_goFrom_77 a_goTo_78 a_idleFrom_79 a_idleTo_80 a_moreOf_81 a_firstOf_82 a_leftOf_83 a_didOf_84 a_costBy_85 a_gainBy_86 a_hiredOf_87 a_hiredBest_88 a_hiredTo_89 a_turnOf_90 a_turnWho_91 0 0 0 0 fw_92 (fun _ => 0) (fun _ => 0) (fun _ => 0) (fun _ => 0) (fun _ => 0) (fun _ => 0) (fun _ => 0) (fun _ => 0) (fun _ => 0) fo5_94 fl_93 (xs 1) hw_95.1.1 hw_95.1.2.1 hw_95.1.2.2 hw_95.2) (gV k_1415 k_1416 k_1417 k_103 k_1418) (by decide +kernel) ⟨Nat.le_of_ble_eq_true rfl, Nat.le_of_ble_eq_true rfl⟩ ⟨rfl, rfl⟩ [8, 9, 10, 19, 20, 21, 22, 23, 24, 25, 26, 27, 15] [0, 1, 2, 3, 4, 5, 6, 7, 11, 12, 13, 14, 16, 17, 18] rfl rfl (by decide) (by decide) rfl rfl rfl rfl rfl hl.1 (Nat.le_of_ble_eq_true rfl) dL_law_429 ⟨Nat.le_of_ble_eq_true rfl, Nat.le_of_ble_eq_true rfl⟩ (fun r_124 u H locs hw_125 hP hD hS => ?_)
    try dsimp only at hw_125
    have hP : va_P D vwCl [(tp_3, .inr (5, [.ref by__4, .int 0])), (by__4, .inl (cI, 260, .inl (fun _ => 0))), (t1_6, .inl (cI, 10, .inl (fun _ => 0))), (t2_7, .inl (cI, 12, .inl (fun _ => 0))), (kp_14, .inr (4, [.ref u3_15, .ref f3_16, .ref g3_17, .int 0, .int 0, .int 1])), (u3_15, .inl (cI, 12, .inl (fun _ => 0))), (f3_16, .inl (cI, 10, .inl ff3_40)), (g3_17, .inl (cI, 10, .inl fg3_41)), (a_kept_49, .inl (cI, 15, .inl (fun _ => 0))), (a_keptFrom_50, .inl (cI, 10, .inl (fun _ => 0))), (a_keptTo_51, .inl (cI, 10, .inl (fun _ => 0))), (a_capOf_52, .inl (cI, 10, .inl (fun _ => 0))), (a_leaveTo_54, .inl (cI, 10, .inl (fun _ => 0))), (a_amountOf_55, .inl (cI, 12, .inl (fun _ => 0))), (a_tape_58, .inl (cB, 260, .inl (fun _ => 0)))] H := hP
    have hD : va_D A [(tp_3, .inr (5, [.ref by__4, .int 0])), (by__4, .inl (cI, 260, .inl (fun _ => 0))), (t1_6, .inl (cI, 10, .inl (fun _ => 0))), (t2_7, .inl (cI, 12, .inl (fun _ => 0))), (kp_14, .inr (4, [.ref u3_15, .ref f3_16, .ref g3_17, .int 0, .int 0, .int 1])), (u3_15, .inl (cI, 12, .inl (fun _ => 0))), (f3_16, .inl (cI, 10, .inl ff3_40)), (g3_17, .inl (cI, 10, .inl fg3_41)), (a_kept_49, .inl (cI, 15, .inl (fun _ => 0))), (a_keptFrom_50, .inl (cI, 10, .inl (fun _ => 0))), (a_keptTo_51, .inl (cI, 10, .inl (fun _ => 0))), (a_capOf_52, .inl (cI, 10, .inl (fun _ => 0))), (a_leaveTo_54, .inl (cI, 10, .inl (fun _ => 0))), (a_amountOf_55, .inl (cI, 12, .inl (fun _ => 0))), (a_tape_58, .inl (cB, 260, .inl (fun _ => 0)))] := hD
    refine lv_icmp_eq (tgt := 1309) hx hb dL_law_432 (by decide) (fun _ => ?_) (fun c_432 => absurd (hw_123.trans hw_125.symm) c_432)
    refine lv_iinc (v := 6) (lv' := [(3, .int 6), (2, .ref q_45), (1, .ref q_1), (0, .ref b)]) hx hb dL_law_1309 hl (k := 0) rfl (by decide) (by decide) rfl (fun ls hl => ?_)
    refine lv_goto (tgt := 18) hx hb dL_law_1312 (by decide) ?_
    refine lv_iload_n hx hb dL_law_18 rfl (lv_at hl 0 rfl) ?_
    refine lv_aload_n hx hb dL_law_19 rfl (lv_at hl 3 rfl) ?_
    refine va_slen hx hb hX hbl hbA hS dL_law_20 ?_
    refine tv (z := 6) rfl ?_
    refine lv_bipush (v := 6) hx hb dL_law_21 (by decide) ?_
    refine lv_isub hx hb dL_law_23 ?_
    refine tv (z := 0) (by decide) ?_
    refine lv_icmp_gt (tgt := 1315) hx hb dL_law_24 (by decide) (fun _ => ?_) (fun c_24 => absurd (by decide) c_24)
    refine lv_iconst (v := 1) hx hb dL_law_1315 (by decide) ?_
    refine va_forget (fun q hq => hAq _ (hS.2.2 q hq)) ?_
    refine W.widen (k := 600000) (n := 7302250) (Nat.le_of_ble_eq_true rfl) (Nat.le_of_ble_eq_true rfl) ?_
    exact lw_ret hx hb hr hlocks dL_law_1316
  by_cases e33_9 : z = 9
  · subst e33_9
    refine lv_tableIn (off := 404) (tgt := 437) hx hb dL_law_33 (by decide) (by decide) (by decide) (by decide) ?_
    refine lv_aload_n hx hb dL_law_437 rfl (lv_at hl 2 rfl) ?_
    refine lv_aload_n hx hb dL_law_438 rfl (lv_at hl 3 rfl) ?_
    refine lv_iload_n hx hb dL_law_439 rfl (lv_at hl 0 rfl) ?_
    refine lv_iconst (v := 1) hx hb dL_law_440 (by decide) ?_
    refine lv_iadd hx hb dL_law_441 ?_
    refine tv (z := 1) (by decide) ?_
    refine va_sld hx hb hX hbl hbA hS (by unfold vp_in; decide) dL_law_442 ?_
    refine tv (z := xs 1) rfl ?_
    refine lv_aload_n hx hb dL_law_443 rfl (lv_at hl 3 rfl) ?_
    refine lv_iload_n hx hb dL_law_444 rfl (lv_at hl 0 rfl) ?_
    refine lv_iconst (v := 2) hx hb dL_law_445 (by decide) ?_
    refine lv_iadd hx hb dL_law_446 ?_
    refine tv (z := 2) (by decide) ?_
    refine va_sld hx hb hX hbl hbA hS (by unfold vp_in; decide) dL_law_447 ?_
    refine tv (z := xs 2) rfl ?_
    refine cVI (As := [.int (xs 1), .int (xs 2)]) (rest := []) (n := 2) (ci := 9) (q0 := 0) (wr := [(tp_3, .inr (5, [.ref by__4, .int 0])), (by__4, .inl (cI, 260, .inl (fun _ => 0))), (t1_6, .inl (cI, 10, .inl (fun _ => 0))), (t2_7, .inl (cI, 12, .inl (fun _ => 0))), (kp_14, .inr (4, [.ref u3_15, .ref f3_16, .ref g3_17, .int 0, .int 0, .int 1])), (u3_15, .inl (cI, 12, .inl (fun _ => 0))), (f3_16, .inl (cI, 10, .inl ff3_40)), (g3_17, .inl (cI, 10, .inl fg3_41)), (q_45, .inr (10, [.ref a_now_47, .ref a_aside_48, .ref a_kept_49, .ref a_keptFrom_50, .ref a_keptTo_51, .ref a_capOf_52, .ref a_leaveFrom_53, .ref a_leaveTo_54, .ref a_amountOf_55, .ref a_doerMany_56, .ref a_doerOf_57, .int 0, .int 0, .int 0, .ref a_tape_58, .int 0, .int 0, .int 0, .int 0, .int 0, .int 0, .int 0, .int 0, .int 0, .int 0, .ref a_said_59, .ref a_waitsAt_60, .ref a_saidLetter_61, .ref a_saidFrom_62, .ref a_saidHalf_63, .ref a_saidTo_64, .ref a_codes_65, .ref a_clauseOf_66, .ref a_codeFrom_67, .ref a_codeHalf_68, .ref a_codeTo_69, .ref a_stack_70, .ref a_facts_71, .ref a_lineChore_72, .ref a_lineMany_73, .ref a_lineDoer_74, .ref a_newFrom_75, .ref a_newTo_76, .int 0, .ref a_goFrom_77, .ref a_goTo_78, .ref a_idleFrom_79, .ref a_idleTo_80, .ref a_moreOf_81, .ref a_firstOf_82, .ref a_leftOf_83, .ref a_didOf_84, .int 0, .int 0, .int 0, .int 0, .ref a_costBy_85, .int 0, .ref a_gainBy_86, .ref a_hiredOf_87, .ref a_hiredBest_88, .ref a_hiredTo_89, .ref a_turnOf_90, .ref a_turnWho_91, .int 0])), (a_now_47, .inl (cI, 15, .inl fw_92)), (a_aside_48, .inl (cI, 15, .inl (fun _ => 0))), (a_kept_49, .inl (cI, 15, .inl (fun _ => 0))), (a_keptFrom_50, .inl (cI, 10, .inl (fun _ => 0))), (a_keptTo_51, .inl (cI, 10, .inl (fun _ => 0))), (a_capOf_52, .inl (cI, 10, .inl (fun _ => 0))), (a_leaveFrom_53, .inl (cI, 10, .inl fl_93)), (a_leaveTo_54, .inl (cI, 10, .inl (fun _ => 0))), (a_amountOf_55, .inl (cI, 12, .inl (fun _ => 0))), (a_tape_58, .inl (cB, 260, .inl (fun _ => 0))), (a_facts_71, .inl (cI, 8, .inl (fun _ => 0))), (a_leftOf_83, .inl (cI, 10, .inl (fun _ => 0))), (a_didOf_84, .inl (cI, 10, .inl (fun _ => 0))), (a_goFrom_77, .inl (cI, 10, .inl (fun _ => 0))), (a_goTo_78, .inl (cI, 10, .inl (fun _ => 0))), (a_idleFrom_79, .inl (cI, 10, .inl (fun _ => 0))), (a_idleTo_80, .inl (cI, 10, .inl (fun _ => 0))), (a_moreOf_81, .inl (cI, 10, .inl (fun _ => 0))), (a_firstOf_82, .inl (cI, 12, .inl fo5_94))]) X hN hK hP hD hS hA (c_X9_tried l D cI cB _ q_1 tp_3 tw_5 nw_10 kp_14 lw_18 lr_26 dd_27 vv_28 tl_29 sc_37 t1_6 t2_7 t3_8 t4_9 u2_11 f2_12 g2_13 (fun _ => 0) ff2_38 fg2_39 l1_19 l2_20 l3_21 l4_22 l5_23 l6_24 l7_25 0 0 (fun _ => 0) st_30 m1_34 c1_35 d1_36 0 0 0 0 0 0 0 0 u1_31 f1_32 g1_33 0 0 1 (fun _ => 0) ff_42 fg_43 (fun _ => 0) (fun _ => 0) (fun _ => 0) (xs 1) (xs 2) (fun _ _ => rfl) hw_44.1 hw_44.2.1) (gV k_850 k_851 k_852 k_92 k_853) (by decide +kernel) ⟨Nat.le_of_ble_eq_true rfl, Nat.le_of_ble_eq_true rfl⟩ ⟨rfl, rfl⟩ [0, 3, 6, 7, 8, 9, 14, 15, 16, 17, 18, 19, 20, 21, 22, 23] [1, 2, 4, 5, 10, 11, 12, 13, 24, 25, 26, 27, 28, 29, 30, 31, 32, 33, 34, 35, 36, 37, 38, 39, 40, 41, 42, 43] rfl rfl (by decide) (by decide) rfl rfl rfl rfl rfl hl.1 (Nat.le_of_ble_eq_true rfl) dL_law_448 ⟨Nat.le_of_ble_eq_true rfl, Nat.le_of_ble_eq_true rfl⟩ (fun r_126 u H locs hw_127 hP hD hS => ?_)
    try dsimp only at hw_127
    have hP : va_P D vwCl [(tp_3, .inr (5, [.ref by__4, .int 0])), (by__4, .inl (cI, 260, .inl (fun _ => 0))), (t1_6, .inl (cI, 10, .inl (fun _ => 0))), (t2_7, .inl (cI, 12, .inl (fun _ => 0))), (kp_14, .inr (4, [.ref u3_15, .ref f3_16, .ref g3_17, .int 0, .int 0, .int 1])), (u3_15, .inl (cI, 12, .inl (fun _ => 0))), (f3_16, .inl (cI, 10, .inl ff3_40)), (g3_17, .inl (cI, 10, .inl fg3_41)), (q_45, .inr (10, [.ref a_now_47, .ref a_aside_48, .ref a_kept_49, .ref a_keptFrom_50, .ref a_keptTo_51, .ref a_capOf_52, .ref a_leaveFrom_53, .ref a_leaveTo_54, .ref a_amountOf_55, .ref a_doerMany_56, .ref a_doerOf_57, .int 0, .int 0, .int 0, .ref a_tape_58, .int 0, .int 0, .int 0, .int 0, .int 0, .int 0, .int 0, .int 0, .int 0, .int 0, .ref a_said_59, .ref a_waitsAt_60, .ref a_saidLetter_61, .ref a_saidFrom_62, .ref a_saidHalf_63, .ref a_saidTo_64, .ref a_codes_65, .ref a_clauseOf_66, .ref a_codeFrom_67, .ref a_codeHalf_68, .ref a_codeTo_69, .ref a_stack_70, .ref a_facts_71, .ref a_lineChore_72, .ref a_lineMany_73, .ref a_lineDoer_74, .ref a_newFrom_75, .ref a_newTo_76, .int 0, .ref a_goFrom_77, .ref a_goTo_78, .ref a_idleFrom_79, .ref a_idleTo_80, .ref a_moreOf_81, .ref a_firstOf_82, .ref a_leftOf_83, .ref a_didOf_84, .int 0, .int 0, .int 0, .int 0, .ref a_costBy_85, .int 0, .ref a_gainBy_86, .ref a_hiredOf_87, .ref a_hiredBest_88, .ref a_hiredTo_89, .ref a_turnOf_90, .ref a_turnWho_91, .int 0])), (a_now_47, .inl (cI, 15, .inl fw_92)), (a_aside_48, .inl (cI, 15, .inl (fun _ => 0))), (a_kept_49, .inl (cI, 15, .inl (fun _ => 0))), (a_keptFrom_50, .inl (cI, 10, .inl (fun _ => 0))), (a_keptTo_51, .inl (cI, 10, .inl (fun _ => 0))), (a_capOf_52, .inl (cI, 10, .inl (fun _ => 0))), (a_leaveFrom_53, .inl (cI, 10, .inl fl_93)), (a_leaveTo_54, .inl (cI, 10, .inl (fun _ => 0))), (a_amountOf_55, .inl (cI, 12, .inl (fun _ => 0))), (a_tape_58, .inl (cB, 260, .inl (fun _ => 0))), (a_facts_71, .inl (cI, 8, .inl (fun _ => 0))), (a_leftOf_83, .inl (cI, 10, .inl (fun _ => 0))), (a_didOf_84, .inl (cI, 10, .inl (fun _ => 0))), (a_goFrom_77, .inl (cI, 10, .inl (fun _ => 0))), (a_goTo_78, .inl (cI, 10, .inl (fun _ => 0))), (a_idleFrom_79, .inl (cI, 10, .inl (fun _ => 0))), (a_idleTo_80, .inl (cI, 10, .inl (fun _ => 0))), (a_moreOf_81, .inl (cI, 10, .inl (fun _ => 0))), (a_firstOf_82, .inl (cI, 12, .inl fo5_94))] H := hP
    have hD : va_D A [(tp_3, .inr (5, [.ref by__4, .int 0])), (by__4, .inl (cI, 260, .inl (fun _ => 0))), (t1_6, .inl (cI, 10, .inl (fun _ => 0))), (t2_7, .inl (cI, 12, .inl (fun _ => 0))), (kp_14, .inr (4, [.ref u3_15, .ref f3_16, .ref g3_17, .int 0, .int 0, .int 1])), (u3_15, .inl (cI, 12, .inl (fun _ => 0))), (f3_16, .inl (cI, 10, .inl ff3_40)), (g3_17, .inl (cI, 10, .inl fg3_41)), (q_45, .inr (10, [.ref a_now_47, .ref a_aside_48, .ref a_kept_49, .ref a_keptFrom_50, .ref a_keptTo_51, .ref a_capOf_52, .ref a_leaveFrom_53, .ref a_leaveTo_54, .ref a_amountOf_55, .ref a_doerMany_56, .ref a_doerOf_57, .int 0, .int 0, .int 0, .ref a_tape_58, .int 0, .int 0, .int 0, .int 0, .int 0, .int 0, .int 0, .int 0, .int 0, .int 0, .ref a_said_59, .ref a_waitsAt_60, .ref a_saidLetter_61, .ref a_saidFrom_62, .ref a_saidHalf_63, .ref a_saidTo_64, .ref a_codes_65, .ref a_clauseOf_66, .ref a_codeFrom_67, .ref a_codeHalf_68, .ref a_codeTo_69, .ref a_stack_70, .ref a_facts_71, .ref a_lineChore_72, .ref a_lineMany_73, .ref a_lineDoer_74, .ref a_newFrom_75, .ref a_newTo_76, .int 0, .ref a_goFrom_77, .ref a_goTo_78, .ref a_idleFrom_79, .ref a_idleTo_80, .ref a_moreOf_81, .ref a_firstOf_82, .ref a_leftOf_83, .ref a_didOf_84, .int 0, .int 0, .int 0, .int 0, .ref a_costBy_85, .int 0, .ref a_gainBy_86, .ref a_hiredOf_87, .ref a_hiredBest_88, .ref a_hiredTo_89, .ref a_turnOf_90, .ref a_turnWho_91, .int 0])), (a_now_47, .inl (cI, 15, .inl fw_92)), (a_aside_48, .inl (cI, 15, .inl (fun _ => 0))), (a_kept_49, .inl (cI, 15, .inl (fun _ => 0))), (a_keptFrom_50, .inl (cI, 10, .inl (fun _ => 0))), (a_keptTo_51, .inl (cI, 10, .inl (fun _ => 0))), (a_capOf_52, .inl (cI, 10, .inl (fun _ => 0))), (a_leaveFrom_53, .inl (cI, 10, .inl fl_93)), (a_leaveTo_54, .inl (cI, 10, .inl (fun _ => 0))), (a_amountOf_55, .inl (cI, 12, .inl (fun _ => 0))), (a_tape_58, .inl (cB, 260, .inl (fun _ => 0))), (a_facts_71, .inl (cI, 8, .inl (fun _ => 0))), (a_leftOf_83, .inl (cI, 10, .inl (fun _ => 0))), (a_didOf_84, .inl (cI, 10, .inl (fun _ => 0))), (a_goFrom_77, .inl (cI, 10, .inl (fun _ => 0))), (a_goTo_78, .inl (cI, 10, .inl (fun _ => 0))), (a_idleFrom_79, .inl (cI, 10, .inl (fun _ => 0))), (a_idleTo_80, .inl (cI, 10, .inl (fun _ => 0))), (a_moreOf_81, .inl (cI, 10, .inl (fun _ => 0))), (a_firstOf_82, .inl (cI, 12, .inl fo5_94))] := hD
    refine lv_aload_n hx hb dL_law_451 rfl (lv_at hl 1 rfl) ?_
    refine lv_aload_n hx hb dL_law_452 rfl (lv_at hl 3 rfl) ?_
    refine lv_iload_n hx hb dL_law_453 rfl (lv_at hl 0 rfl) ?_
    refine lv_iconst (v := 1) hx hb dL_law_454 (by decide) ?_
    refine lv_iadd hx hb dL_law_455 ?_
    refine tv (z := 1) (by decide) ?_
    refine va_sld hx hb hX hbl hbA hS (by unfold vp_in; decide) dL_law_456 ?_
    refine tv (z := xs 1) rfl ?_
    refine lv_aload_n hx hb dL_law_457 rfl (lv_at hl 3 rfl) ?_
    refine lv_iload_n hx hb dL_law_458 rfl (lv_at hl 0 rfl) ?_
    refine lv_iconst (v := 2) hx hb dL_law_459 (by decide) ?_
    refine lv_iadd hx hb dL_law_460 ?_
    refine tv (z := 2) (by decide) ?_
    refine va_sld hx hb hX hbl hbA hS (by unfold vp_in; decide) dL_law_461 ?_
    refine tv (z := xs 2) rfl ?_
    refine cVI (As := [.int (xs 1), .int (xs 2)]) (rest := [.int r_126]) (n := 2) (ci := 10) (q0 := 0) (wr := [(tp_3, .inr (5, [.ref by__4, .int 0])), (by__4, .inl (cI, 260, .inl (fun _ => 0))), (t1_6, .inl (cI, 10, .inl (fun _ => 0))), (t2_7, .inl (cI, 12, .inl (fun _ => 0))), (kp_14, .inr (4, [.ref u3_15, .ref f3_16, .ref g3_17, .int 0, .int 0, .int 1])), (u3_15, .inl (cI, 12, .inl (fun _ => 0))), (f3_16, .inl (cI, 10, .inl ff3_40)), (g3_17, .inl (cI, 10, .inl fg3_41)), (a_kept_49, .inl (cI, 15, .inl (fun _ => 0))), (a_keptFrom_50, .inl (cI, 10, .inl (fun _ => 0))), (a_keptTo_51, .inl (cI, 10, .inl (fun _ => 0))), (a_capOf_52, .inl (cI, 10, .inl (fun _ => 0))), (a_leaveTo_54, .inl (cI, 10, .inl (fun _ => 0))), (a_amountOf_55, .inl (cI, 12, .inl (fun _ => 0))), (a_tape_58, .inl (cB, 260, .inl (fun _ => 0)))]) X hN hK hP hD hS hA (c_X10_tried l D cI cB _ q_45 a_now_47 a_aside_48 a_kept_49 a_keptFrom_50 a_keptTo_51 a_capOf_52 a_leaveFrom_53 a_leaveTo_54 a_amountOf_55 a_doerMany_56 a_doerOf_57 a_tape_58 a_said_59 a_waitsAt_60 a_saidLetter_61 a_saidFrom_62 a_saidHalf_63 a_saidTo_64 a_codes_65 a_clauseOf_66 a_codeFrom_67 a_codeHalf_68 a_codeTo_69 a_stack_70 a_facts_71 a_lineChore_72 a_lineMany_73 a_lineDoer_74 a_newFrom_75 a_newTo_76 a_goFrom_77 a_goTo_78 a_idleFrom_79 a_idleTo_80 a_moreOf_81 a_firstOf_82 a_leftOf_83 a_didOf_84 a_costBy_85 a_gainBy_86 a_hiredOf_87 a_hiredBest_88 a_hiredTo_89 a_turnOf_90 a_turnWho_91 0 0 0 0 fw_92 (fun _ => 0) (fun _ => 0) (fun _ => 0) (fun _ => 0) (fun _ => 0) (fun _ => 0) (fun _ => 0) (fun _ => 0) (fun _ => 0) fo5_94 fl_93 (xs 1) (xs 2) hw_95.1.1 hw_95.1.2.1 hw_95.1.2.2 hw_95.2) (gV k_1497 k_1498 k_1499 k_103 k_1500) (by decide +kernel) ⟨Nat.le_of_ble_eq_true rfl, Nat.le_of_ble_eq_true rfl⟩ ⟨rfl, rfl⟩ [8, 9, 10, 19, 20, 21, 22, 23, 24, 25, 26, 27, 15] [0, 1, 2, 3, 4, 5, 6, 7, 11, 12, 13, 14, 16, 17, 18] rfl rfl (by decide) (by decide) rfl rfl rfl rfl rfl hl.1 (Nat.le_of_ble_eq_true rfl) dL_law_462 ⟨Nat.le_of_ble_eq_true rfl, Nat.le_of_ble_eq_true rfl⟩ (fun r_128 u H locs hw_129 hP hD hS => ?_)
    try dsimp only at hw_129
    have hP : va_P D vwCl [(tp_3, .inr (5, [.ref by__4, .int 0])), (by__4, .inl (cI, 260, .inl (fun _ => 0))), (t1_6, .inl (cI, 10, .inl (fun _ => 0))), (t2_7, .inl (cI, 12, .inl (fun _ => 0))), (kp_14, .inr (4, [.ref u3_15, .ref f3_16, .ref g3_17, .int 0, .int 0, .int 1])), (u3_15, .inl (cI, 12, .inl (fun _ => 0))), (f3_16, .inl (cI, 10, .inl ff3_40)), (g3_17, .inl (cI, 10, .inl fg3_41)), (a_kept_49, .inl (cI, 15, .inl (fun _ => 0))), (a_keptFrom_50, .inl (cI, 10, .inl (fun _ => 0))), (a_keptTo_51, .inl (cI, 10, .inl (fun _ => 0))), (a_capOf_52, .inl (cI, 10, .inl (fun _ => 0))), (a_leaveTo_54, .inl (cI, 10, .inl (fun _ => 0))), (a_amountOf_55, .inl (cI, 12, .inl (fun _ => 0))), (a_tape_58, .inl (cB, 260, .inl (fun _ => 0)))] H := hP
    have hD : va_D A [(tp_3, .inr (5, [.ref by__4, .int 0])), (by__4, .inl (cI, 260, .inl (fun _ => 0))), (t1_6, .inl (cI, 10, .inl (fun _ => 0))), (t2_7, .inl (cI, 12, .inl (fun _ => 0))), (kp_14, .inr (4, [.ref u3_15, .ref f3_16, .ref g3_17, .int 0, .int 0, .int 1])), (u3_15, .inl (cI, 12, .inl (fun _ => 0))), (f3_16, .inl (cI, 10, .inl ff3_40)), (g3_17, .inl (cI, 10, .inl fg3_41)), (a_kept_49, .inl (cI, 15, .inl (fun _ => 0))), (a_keptFrom_50, .inl (cI, 10, .inl (fun _ => 0))), (a_keptTo_51, .inl (cI, 10, .inl (fun _ => 0))), (a_capOf_52, .inl (cI, 10, .inl (fun _ => 0))), (a_leaveTo_54, .inl (cI, 10, .inl (fun _ => 0))), (a_amountOf_55, .inl (cI, 12, .inl (fun _ => 0))), (a_tape_58, .inl (cB, 260, .inl (fun _ => 0)))] := hD
    refine lv_icmp_eq (tgt := 1309) hx hb dL_law_465 (by decide) (fun _ => ?_) (fun c_465 => absurd (hw_127.trans hw_129.symm) c_465)
    refine lv_iinc (v := 6) (lv' := [(3, .int 6), (2, .ref q_45), (1, .ref q_1), (0, .ref b)]) hx hb dL_law_1309 hl (k := 0) rfl (by decide) (by decide) rfl (fun ls hl => ?_)
    refine lv_goto (tgt := 18) hx hb dL_law_1312 (by decide) ?_
    refine lv_iload_n hx hb dL_law_18 rfl (lv_at hl 0 rfl) ?_
    refine lv_aload_n hx hb dL_law_19 rfl (lv_at hl 3 rfl) ?_
    refine va_slen hx hb hX hbl hbA hS dL_law_20 ?_
    refine tv (z := 6) rfl ?_
    refine lv_bipush (v := 6) hx hb dL_law_21 (by decide) ?_
    refine lv_isub hx hb dL_law_23 ?_
    refine tv (z := 0) (by decide) ?_
    refine lv_icmp_gt (tgt := 1315) hx hb dL_law_24 (by decide) (fun _ => ?_) (fun c_24 => absurd (by decide) c_24)
    refine lv_iconst (v := 1) hx hb dL_law_1315 (by decide) ?_
    refine va_forget (fun q hq => hAq _ (hS.2.2 q hq)) ?_
    refine W.widen (k := 600000) (n := 7302250) (Nat.le_of_ble_eq_true rfl) (Nat.le_of_ble_eq_true rfl) ?_
    exact lw_ret hx hb hr hlocks dL_law_1316
  by_cases e33_10 : z = 10
  · subst e33_10
    refine lv_tableIn (off := 437) (tgt := 470) hx hb dL_law_33 (by decide) (by decide) (by decide) (by decide) ?_
    refine lv_aload_n hx hb dL_law_470 rfl (lv_at hl 2 rfl) ?_
    refine lv_aload_n hx hb dL_law_471 rfl (lv_at hl 3 rfl) ?_
    refine lv_iload_n hx hb dL_law_472 rfl (lv_at hl 0 rfl) ?_
    refine lv_iconst (v := 1) hx hb dL_law_473 (by decide) ?_
    refine lv_iadd hx hb dL_law_474 ?_
    refine tv (z := 1) (by decide) ?_
    refine va_sld hx hb hX hbl hbA hS (by unfold vp_in; decide) dL_law_475 ?_
    refine tv (z := xs 1) rfl ?_
    refine lv_aload_n hx hb dL_law_476 rfl (lv_at hl 3 rfl) ?_
    refine lv_iload_n hx hb dL_law_477 rfl (lv_at hl 0 rfl) ?_
    refine lv_iconst (v := 2) hx hb dL_law_478 (by decide) ?_
    refine lv_iadd hx hb dL_law_479 ?_
    refine tv (z := 2) (by decide) ?_
    refine va_sld hx hb hX hbl hbA hS (by unfold vp_in; decide) dL_law_480 ?_
    refine tv (z := xs 2) rfl ?_
    refine cVR (As := [.int (xs 1), .int (xs 2)]) (rest := []) (n := 2) (ci := 9) (q0 := 0) X hN hK hP (c_X9_personIs l D cI cB q_1 tp_3 tw_5 nw_10 kp_14 lw_18 lr_26 dd_27 vv_28 tl_29 sc_37 t1_6 t2_7 t3_8 t4_9 (xs 1) (xs 2)) (gV k_871 k_872 k_873 k_92 k_874) (by decide +kernel) ⟨Nat.le_of_ble_eq_true rfl, Nat.le_of_ble_eq_true rfl⟩ ⟨rfl, rfl⟩ [0, 3] rfl rfl rfl rfl rfl rfl hl.1 (Nat.le_of_ble_eq_true rfl) dL_law_481 ⟨Nat.le_of_ble_eq_true rfl, Nat.le_of_ble_eq_true rfl⟩ (fun r_130 hr_130 => ?_)
    subst hr_130
    refine lv_aload_n hx hb dL_law_484 rfl (lv_at hl 1 rfl) ?_
    refine lv_aload_n hx hb dL_law_485 rfl (lv_at hl 3 rfl) ?_
    refine lv_iload_n hx hb dL_law_486 rfl (lv_at hl 0 rfl) ?_
    refine lv_iconst (v := 1) hx hb dL_law_487 (by decide) ?_
    refine lv_iadd hx hb dL_law_488 ?_
    refine tv (z := 1) (by decide) ?_
    refine va_sld hx hb hX hbl hbA hS (by unfold vp_in; decide) dL_law_489 ?_
    refine tv (z := xs 1) rfl ?_
    refine lv_aload_n hx hb dL_law_490 rfl (lv_at hl 3 rfl) ?_
    refine lv_iload_n hx hb dL_law_491 rfl (lv_at hl 0 rfl) ?_
    refine lv_iconst (v := 2) hx hb dL_law_492 (by decide) ?_
    refine lv_iadd hx hb dL_law_493 ?_
    refine tv (z := 2) (by decide) ?_
    refine va_sld hx hb hX hbl hbA hS (by unfold vp_in; decide) dL_law_494 ?_
    refine tv (z := xs 2) rfl ?_
    refine cVR (As := [.int (xs 1), .int (xs 2)]) (rest := [.int (-1)]) (n := 2) (ci := 10) (q0 := 0) X hN hK hP (c_X10_personIs l D cI cB q_45 a_now_47 a_aside_48 a_kept_49 a_keptFrom_50 a_keptTo_51 a_capOf_52 a_leaveFrom_53 a_leaveTo_54 a_amountOf_55 a_doerMany_56 a_doerOf_57 a_tape_58 a_said_59 a_waitsAt_60 a_saidLetter_61 a_saidFrom_62 a_saidHalf_63 a_saidTo_64 a_codes_65 a_clauseOf_66 a_codeFrom_67 a_codeHalf_68 a_codeTo_69 a_stack_70 a_facts_71 a_lineChore_72 a_lineMany_73 a_lineDoer_74 a_newFrom_75 a_newTo_76 a_goFrom_77 a_goTo_78 a_idleFrom_79 a_idleTo_80 a_moreOf_81 a_firstOf_82 a_leftOf_83 a_didOf_84 a_costBy_85 a_gainBy_86 a_hiredOf_87 a_hiredBest_88 a_hiredTo_89 a_turnOf_90 a_turnWho_91 0 0 0 0 (xs 1) (xs 2)) (gV k_1504 k_1505 k_1506 k_103 k_1507) (by decide +kernel) ⟨Nat.le_of_ble_eq_true rfl, Nat.le_of_ble_eq_true rfl⟩ ⟨rfl, rfl⟩ [24] rfl rfl rfl rfl rfl rfl hl.1 (Nat.le_of_ble_eq_true rfl) dL_law_495 ⟨Nat.le_of_ble_eq_true rfl, Nat.le_of_ble_eq_true rfl⟩ (fun r_131 hr_131 => ?_)
    subst hr_131
    refine lv_icmp_eq (tgt := 1309) hx hb dL_law_498 (by decide) (fun _ => ?_) (fun c_498 => absurd (rfl) c_498)
    refine lv_iinc (v := 6) (lv' := [(3, .int 6), (2, .ref q_45), (1, .ref q_1), (0, .ref b)]) hx hb dL_law_1309 hl (k := 0) rfl (by decide) (by decide) rfl (fun ls hl => ?_)
    refine lv_goto (tgt := 18) hx hb dL_law_1312 (by decide) ?_
    refine lv_iload_n hx hb dL_law_18 rfl (lv_at hl 0 rfl) ?_
    refine lv_aload_n hx hb dL_law_19 rfl (lv_at hl 3 rfl) ?_
    refine va_slen hx hb hX hbl hbA hS dL_law_20 ?_
    refine tv (z := 6) rfl ?_
    refine lv_bipush (v := 6) hx hb dL_law_21 (by decide) ?_
    refine lv_isub hx hb dL_law_23 ?_
    refine tv (z := 0) (by decide) ?_
    refine lv_icmp_gt (tgt := 1315) hx hb dL_law_24 (by decide) (fun _ => ?_) (fun c_24 => absurd (by decide) c_24)
    refine lv_iconst (v := 1) hx hb dL_law_1315 (by decide) ?_
    refine va_forget (fun q hq => hAq _ (hS.2.2 q hq)) ?_
    refine W.widen (k := 600000) (n := 7302250) (Nat.le_of_ble_eq_true rfl) (Nat.le_of_ble_eq_true rfl) ?_
    exact lw_ret hx hb hr hlocks dL_law_1316
  by_cases e33_11 : z = 11
  · subst e33_11
    refine lv_tableIn (off := 470) (tgt := 503) hx hb dL_law_33 (by decide) (by decide) (by decide) (by decide) ?_
    refine lv_aload_n hx hb dL_law_503 rfl (lv_at hl 2 rfl) ?_
    refine lv_aload_n hx hb dL_law_504 rfl (lv_at hl 3 rfl) ?_
    refine lv_iload_n hx hb dL_law_505 rfl (lv_at hl 0 rfl) ?_
    refine lv_iconst (v := 1) hx hb dL_law_506 (by decide) ?_
    refine lv_iadd hx hb dL_law_507 ?_
    refine tv (z := 1) (by decide) ?_
    refine va_sld hx hb hX hbl hbA hS (by unfold vp_in; decide) dL_law_508 ?_
    refine tv (z := xs 1) rfl ?_
    refine lv_aload_n hx hb dL_law_509 rfl (lv_at hl 3 rfl) ?_
    refine lv_iload_n hx hb dL_law_510 rfl (lv_at hl 0 rfl) ?_
    refine lv_iconst (v := 2) hx hb dL_law_511 (by decide) ?_
    refine lv_iadd hx hb dL_law_512 ?_
    refine tv (z := 2) (by decide) ?_
    refine va_sld hx hb hX hbl hbA hS (by unfold vp_in; decide) dL_law_513 ?_
    refine tv (z := xs 2) rfl ?_
    refine cVR (As := [.int (xs 1), .int (xs 2)]) (rest := []) (n := 2) (ci := 9) (q0 := 0) X hN hK hP (c_X9_choreIs l D cI cB q_1 tp_3 tw_5 nw_10 kp_14 lw_18 lr_26 dd_27 vv_28 tl_29 sc_37 t1_6 t2_7 t3_8 t4_9 (xs 1) (xs 2)) (gV k_880 k_881 k_882 k_92 k_883) (by decide +kernel) ⟨Nat.le_of_ble_eq_true rfl, Nat.le_of_ble_eq_true rfl⟩ ⟨rfl, rfl⟩ [0, 3] rfl rfl rfl rfl rfl rfl hl.1 (Nat.le_of_ble_eq_true rfl) dL_law_514 ⟨Nat.le_of_ble_eq_true rfl, Nat.le_of_ble_eq_true rfl⟩ (fun r_132 hr_132 => ?_)
    subst hr_132
    refine lv_aload_n hx hb dL_law_517 rfl (lv_at hl 1 rfl) ?_
    refine lv_aload_n hx hb dL_law_518 rfl (lv_at hl 3 rfl) ?_
    refine lv_iload_n hx hb dL_law_519 rfl (lv_at hl 0 rfl) ?_
    refine lv_iconst (v := 1) hx hb dL_law_520 (by decide) ?_
    refine lv_iadd hx hb dL_law_521 ?_
    refine tv (z := 1) (by decide) ?_
    refine va_sld hx hb hX hbl hbA hS (by unfold vp_in; decide) dL_law_522 ?_
    refine tv (z := xs 1) rfl ?_
    refine lv_aload_n hx hb dL_law_523 rfl (lv_at hl 3 rfl) ?_
    refine lv_iload_n hx hb dL_law_524 rfl (lv_at hl 0 rfl) ?_
    refine lv_iconst (v := 2) hx hb dL_law_525 (by decide) ?_
    refine lv_iadd hx hb dL_law_526 ?_
    refine tv (z := 2) (by decide) ?_
    refine va_sld hx hb hX hbl hbA hS (by unfold vp_in; decide) dL_law_527 ?_
    refine tv (z := xs 2) rfl ?_
    refine cVR (As := [.int (xs 1), .int (xs 2)]) (rest := [.int (-1)]) (n := 2) (ci := 10) (q0 := 0) X hN hK hP (c_X10_choreIs l D cI cB q_45 a_now_47 a_aside_48 a_kept_49 a_keptFrom_50 a_keptTo_51 a_capOf_52 a_leaveFrom_53 a_leaveTo_54 a_amountOf_55 a_doerMany_56 a_doerOf_57 a_tape_58 a_said_59 a_waitsAt_60 a_saidLetter_61 a_saidFrom_62 a_saidHalf_63 a_saidTo_64 a_codes_65 a_clauseOf_66 a_codeFrom_67 a_codeHalf_68 a_codeTo_69 a_stack_70 a_facts_71 a_lineChore_72 a_lineMany_73 a_lineDoer_74 a_newFrom_75 a_newTo_76 a_goFrom_77 a_goTo_78 a_idleFrom_79 a_idleTo_80 a_moreOf_81 a_firstOf_82 a_leftOf_83 a_didOf_84 a_costBy_85 a_gainBy_86 a_hiredOf_87 a_hiredBest_88 a_hiredTo_89 a_turnOf_90 a_turnWho_91 0 0 0 0 (xs 1) (xs 2)) (gV k_1512 k_1513 k_1514 k_103 k_1515) (by decide +kernel) ⟨Nat.le_of_ble_eq_true rfl, Nat.le_of_ble_eq_true rfl⟩ ⟨rfl, rfl⟩ [24] rfl rfl rfl rfl rfl rfl hl.1 (Nat.le_of_ble_eq_true rfl) dL_law_528 ⟨Nat.le_of_ble_eq_true rfl, Nat.le_of_ble_eq_true rfl⟩ (fun r_133 hr_133 => ?_)
    subst hr_133
    refine lv_icmp_eq (tgt := 1309) hx hb dL_law_531 (by decide) (fun _ => ?_) (fun c_531 => absurd (rfl) c_531)
    refine lv_iinc (v := 6) (lv' := [(3, .int 6), (2, .ref q_45), (1, .ref q_1), (0, .ref b)]) hx hb dL_law_1309 hl (k := 0) rfl (by decide) (by decide) rfl (fun ls hl => ?_)
    refine lv_goto (tgt := 18) hx hb dL_law_1312 (by decide) ?_
    refine lv_iload_n hx hb dL_law_18 rfl (lv_at hl 0 rfl) ?_
    refine lv_aload_n hx hb dL_law_19 rfl (lv_at hl 3 rfl) ?_
    refine va_slen hx hb hX hbl hbA hS dL_law_20 ?_
    refine tv (z := 6) rfl ?_
    refine lv_bipush (v := 6) hx hb dL_law_21 (by decide) ?_
    refine lv_isub hx hb dL_law_23 ?_
    refine tv (z := 0) (by decide) ?_
    refine lv_icmp_gt (tgt := 1315) hx hb dL_law_24 (by decide) (fun _ => ?_) (fun c_24 => absurd (by decide) c_24)
    refine lv_iconst (v := 1) hx hb dL_law_1315 (by decide) ?_
    refine va_forget (fun q hq => hAq _ (hS.2.2 q hq)) ?_
    refine W.widen (k := 600000) (n := 7302250) (Nat.le_of_ble_eq_true rfl) (Nat.le_of_ble_eq_true rfl) ?_
    exact lw_ret hx hb hr hlocks dL_law_1316
  by_cases e33_12 : z = 12
  · subst e33_12
    refine lv_tableIn (off := 503) (tgt := 536) hx hb dL_law_33 (by decide) (by decide) (by decide) (by decide) ?_
    refine lv_aload_n hx hb dL_law_536 rfl (lv_at hl 2 rfl) ?_
    refine lv_aload_n hx hb dL_law_537 rfl (lv_at hl 3 rfl) ?_
    refine lv_iload_n hx hb dL_law_538 rfl (lv_at hl 0 rfl) ?_
    refine lv_iconst (v := 1) hx hb dL_law_539 (by decide) ?_
    refine lv_iadd hx hb dL_law_540 ?_
    refine tv (z := 1) (by decide) ?_
    refine va_sld hx hb hX hbl hbA hS (by unfold vp_in; decide) dL_law_541 ?_
    refine tv (z := xs 1) rfl ?_
    refine lv_aload_n hx hb dL_law_542 rfl (lv_at hl 3 rfl) ?_
    refine lv_iload_n hx hb dL_law_543 rfl (lv_at hl 0 rfl) ?_
    refine lv_iconst (v := 2) hx hb dL_law_544 (by decide) ?_
    refine lv_iadd hx hb dL_law_545 ?_
    refine tv (z := 2) (by decide) ?_
    refine va_sld hx hb hX hbl hbA hS (by unfold vp_in; decide) dL_law_546 ?_
    refine tv (z := xs 2) rfl ?_
    refine cVI (As := [.int (xs 1), .int (xs 2)]) (rest := []) (n := 2) (ci := 9) (q0 := 0) (wr := [(tp_3, .inr (5, [.ref by__4, .int 0])), (by__4, .inl (cI, 260, .inl (fun _ => 0))), (t1_6, .inl (cI, 10, .inl (fun _ => 0))), (t2_7, .inl (cI, 12, .inl (fun _ => 0))), (kp_14, .inr (4, [.ref u3_15, .ref f3_16, .ref g3_17, .int 0, .int 0, .int 1])), (u3_15, .inl (cI, 12, .inl (fun _ => 0))), (f3_16, .inl (cI, 10, .inl ff3_40)), (g3_17, .inl (cI, 10, .inl fg3_41)), (q_45, .inr (10, [.ref a_now_47, .ref a_aside_48, .ref a_kept_49, .ref a_keptFrom_50, .ref a_keptTo_51, .ref a_capOf_52, .ref a_leaveFrom_53, .ref a_leaveTo_54, .ref a_amountOf_55, .ref a_doerMany_56, .ref a_doerOf_57, .int 0, .int 0, .int 0, .ref a_tape_58, .int 0, .int 0, .int 0, .int 0, .int 0, .int 0, .int 0, .int 0, .int 0, .int 0, .ref a_said_59, .ref a_waitsAt_60, .ref a_saidLetter_61, .ref a_saidFrom_62, .ref a_saidHalf_63, .ref a_saidTo_64, .ref a_codes_65, .ref a_clauseOf_66, .ref a_codeFrom_67, .ref a_codeHalf_68, .ref a_codeTo_69, .ref a_stack_70, .ref a_facts_71, .ref a_lineChore_72, .ref a_lineMany_73, .ref a_lineDoer_74, .ref a_newFrom_75, .ref a_newTo_76, .int 0, .ref a_goFrom_77, .ref a_goTo_78, .ref a_idleFrom_79, .ref a_idleTo_80, .ref a_moreOf_81, .ref a_firstOf_82, .ref a_leftOf_83, .ref a_didOf_84, .int 0, .int 0, .int 0, .int 0, .ref a_costBy_85, .int 0, .ref a_gainBy_86, .ref a_hiredOf_87, .ref a_hiredBest_88, .ref a_hiredTo_89, .ref a_turnOf_90, .ref a_turnWho_91, .int 0])), (a_now_47, .inl (cI, 15, .inl fw_92)), (a_aside_48, .inl (cI, 15, .inl (fun _ => 0))), (a_kept_49, .inl (cI, 15, .inl (fun _ => 0))), (a_keptFrom_50, .inl (cI, 10, .inl (fun _ => 0))), (a_keptTo_51, .inl (cI, 10, .inl (fun _ => 0))), (a_capOf_52, .inl (cI, 10, .inl (fun _ => 0))), (a_leaveFrom_53, .inl (cI, 10, .inl fl_93)), (a_leaveTo_54, .inl (cI, 10, .inl (fun _ => 0))), (a_amountOf_55, .inl (cI, 12, .inl (fun _ => 0))), (a_tape_58, .inl (cB, 260, .inl (fun _ => 0))), (a_facts_71, .inl (cI, 8, .inl (fun _ => 0))), (a_leftOf_83, .inl (cI, 10, .inl (fun _ => 0))), (a_didOf_84, .inl (cI, 10, .inl (fun _ => 0))), (a_goFrom_77, .inl (cI, 10, .inl (fun _ => 0))), (a_goTo_78, .inl (cI, 10, .inl (fun _ => 0))), (a_idleFrom_79, .inl (cI, 10, .inl (fun _ => 0))), (a_idleTo_80, .inl (cI, 10, .inl (fun _ => 0))), (a_moreOf_81, .inl (cI, 10, .inl (fun _ => 0))), (a_firstOf_82, .inl (cI, 12, .inl fo5_94))]) X hN hK hP hD hS hA (c_X9_cost l D cI cB _ q_1 tp_3 tw_5 nw_10 kp_14 lw_18 lr_26 dd_27 vv_28 tl_29 sc_37 t1_6 t2_7 t3_8 t4_9 u2_11 f2_12 g2_13 (fun _ => 0) ff2_38 fg2_39 l1_19 l2_20 l3_21 l4_22 l5_23 l6_24 l7_25 0 0 (fun _ => 0) st_30 m1_34 c1_35 d1_36 0 0 0 0 0 0 0 0 u1_31 f1_32 g1_33 0 0 1 (fun _ => 0) ff_42 fg_43 (fun _ => 0) (fun _ => 0) (fun _ => 0) (xs 1) (xs 2) (fun _ _ => rfl) hw_44.1 hw_44.2.1) (gV k_889 k_890 k_891 k_92 k_892) (by decide +kernel) ⟨Nat.le_of_ble_eq_true rfl, Nat.le_of_ble_eq_true rfl⟩ ⟨rfl, rfl⟩ [0, 3, 6, 7, 8, 9, 14, 15, 16, 17, 18, 19, 20, 21, 22, 23] [1, 2, 4, 5, 10, 11, 12, 13, 24, 25, 26, 27, 28, 29, 30, 31, 32, 33, 34, 35, 36, 37, 38, 39, 40, 41, 42, 43] rfl rfl (by decide) (by decide) rfl rfl rfl rfl rfl hl.1 (Nat.le_of_ble_eq_true rfl) dL_law_547 ⟨Nat.le_of_ble_eq_true rfl, Nat.le_of_ble_eq_true rfl⟩ (fun r_134 u H locs hw_135 hP hD hS => ?_)
    try dsimp only at hw_135
    have hP : va_P D vwCl [(tp_3, .inr (5, [.ref by__4, .int 0])), (by__4, .inl (cI, 260, .inl (fun _ => 0))), (t1_6, .inl (cI, 10, .inl (fun _ => 0))), (t2_7, .inl (cI, 12, .inl (fun _ => 0))), (kp_14, .inr (4, [.ref u3_15, .ref f3_16, .ref g3_17, .int 0, .int 0, .int 1])), (u3_15, .inl (cI, 12, .inl (fun _ => 0))), (f3_16, .inl (cI, 10, .inl ff3_40)), (g3_17, .inl (cI, 10, .inl fg3_41)), (q_45, .inr (10, [.ref a_now_47, .ref a_aside_48, .ref a_kept_49, .ref a_keptFrom_50, .ref a_keptTo_51, .ref a_capOf_52, .ref a_leaveFrom_53, .ref a_leaveTo_54, .ref a_amountOf_55, .ref a_doerMany_56, .ref a_doerOf_57, .int 0, .int 0, .int 0, .ref a_tape_58, .int 0, .int 0, .int 0, .int 0, .int 0, .int 0, .int 0, .int 0, .int 0, .int 0, .ref a_said_59, .ref a_waitsAt_60, .ref a_saidLetter_61, .ref a_saidFrom_62, .ref a_saidHalf_63, .ref a_saidTo_64, .ref a_codes_65, .ref a_clauseOf_66, .ref a_codeFrom_67, .ref a_codeHalf_68, .ref a_codeTo_69, .ref a_stack_70, .ref a_facts_71, .ref a_lineChore_72, .ref a_lineMany_73, .ref a_lineDoer_74, .ref a_newFrom_75, .ref a_newTo_76, .int 0, .ref a_goFrom_77, .ref a_goTo_78, .ref a_idleFrom_79, .ref a_idleTo_80, .ref a_moreOf_81, .ref a_firstOf_82, .ref a_leftOf_83, .ref a_didOf_84, .int 0, .int 0, .int 0, .int 0, .ref a_costBy_85, .int 0, .ref a_gainBy_86, .ref a_hiredOf_87, .ref a_hiredBest_88, .ref a_hiredTo_89, .ref a_turnOf_90, .ref a_turnWho_91, .int 0])), (a_now_47, .inl (cI, 15, .inl fw_92)), (a_aside_48, .inl (cI, 15, .inl (fun _ => 0))), (a_kept_49, .inl (cI, 15, .inl (fun _ => 0))), (a_keptFrom_50, .inl (cI, 10, .inl (fun _ => 0))), (a_keptTo_51, .inl (cI, 10, .inl (fun _ => 0))), (a_capOf_52, .inl (cI, 10, .inl (fun _ => 0))), (a_leaveFrom_53, .inl (cI, 10, .inl fl_93)), (a_leaveTo_54, .inl (cI, 10, .inl (fun _ => 0))), (a_amountOf_55, .inl (cI, 12, .inl (fun _ => 0))), (a_tape_58, .inl (cB, 260, .inl (fun _ => 0))), (a_facts_71, .inl (cI, 8, .inl (fun _ => 0))), (a_leftOf_83, .inl (cI, 10, .inl (fun _ => 0))), (a_didOf_84, .inl (cI, 10, .inl (fun _ => 0))), (a_goFrom_77, .inl (cI, 10, .inl (fun _ => 0))), (a_goTo_78, .inl (cI, 10, .inl (fun _ => 0))), (a_idleFrom_79, .inl (cI, 10, .inl (fun _ => 0))), (a_idleTo_80, .inl (cI, 10, .inl (fun _ => 0))), (a_moreOf_81, .inl (cI, 10, .inl (fun _ => 0))), (a_firstOf_82, .inl (cI, 12, .inl fo5_94))] H := hP
    have hD : va_D A [(tp_3, .inr (5, [.ref by__4, .int 0])), (by__4, .inl (cI, 260, .inl (fun _ => 0))), (t1_6, .inl (cI, 10, .inl (fun _ => 0))), (t2_7, .inl (cI, 12, .inl (fun _ => 0))), (kp_14, .inr (4, [.ref u3_15, .ref f3_16, .ref g3_17, .int 0, .int 0, .int 1])), (u3_15, .inl (cI, 12, .inl (fun _ => 0))), (f3_16, .inl (cI, 10, .inl ff3_40)), (g3_17, .inl (cI, 10, .inl fg3_41)), (q_45, .inr (10, [.ref a_now_47, .ref a_aside_48, .ref a_kept_49, .ref a_keptFrom_50, .ref a_keptTo_51, .ref a_capOf_52, .ref a_leaveFrom_53, .ref a_leaveTo_54, .ref a_amountOf_55, .ref a_doerMany_56, .ref a_doerOf_57, .int 0, .int 0, .int 0, .ref a_tape_58, .int 0, .int 0, .int 0, .int 0, .int 0, .int 0, .int 0, .int 0, .int 0, .int 0, .ref a_said_59, .ref a_waitsAt_60, .ref a_saidLetter_61, .ref a_saidFrom_62, .ref a_saidHalf_63, .ref a_saidTo_64, .ref a_codes_65, .ref a_clauseOf_66, .ref a_codeFrom_67, .ref a_codeHalf_68, .ref a_codeTo_69, .ref a_stack_70, .ref a_facts_71, .ref a_lineChore_72, .ref a_lineMany_73, .ref a_lineDoer_74, .ref a_newFrom_75, .ref a_newTo_76, .int 0, .ref a_goFrom_77, .ref a_goTo_78, .ref a_idleFrom_79, .ref a_idleTo_80, .ref a_moreOf_81, .ref a_firstOf_82, .ref a_leftOf_83, .ref a_didOf_84, .int 0, .int 0, .int 0, .int 0, .ref a_costBy_85, .int 0, .ref a_gainBy_86, .ref a_hiredOf_87, .ref a_hiredBest_88, .ref a_hiredTo_89, .ref a_turnOf_90, .ref a_turnWho_91, .int 0])), (a_now_47, .inl (cI, 15, .inl fw_92)), (a_aside_48, .inl (cI, 15, .inl (fun _ => 0))), (a_kept_49, .inl (cI, 15, .inl (fun _ => 0))), (a_keptFrom_50, .inl (cI, 10, .inl (fun _ => 0))), (a_keptTo_51, .inl (cI, 10, .inl (fun _ => 0))), (a_capOf_52, .inl (cI, 10, .inl (fun _ => 0))), (a_leaveFrom_53, .inl (cI, 10, .inl fl_93)), (a_leaveTo_54, .inl (cI, 10, .inl (fun _ => 0))), (a_amountOf_55, .inl (cI, 12, .inl (fun _ => 0))), (a_tape_58, .inl (cB, 260, .inl (fun _ => 0))), (a_facts_71, .inl (cI, 8, .inl (fun _ => 0))), (a_leftOf_83, .inl (cI, 10, .inl (fun _ => 0))), (a_didOf_84, .inl (cI, 10, .inl (fun _ => 0))), (a_goFrom_77, .inl (cI, 10, .inl (fun _ => 0))), (a_goTo_78, .inl (cI, 10, .inl (fun _ => 0))), (a_idleFrom_79, .inl (cI, 10, .inl (fun _ => 0))), (a_idleTo_80, .inl (cI, 10, .inl (fun _ => 0))), (a_moreOf_81, .inl (cI, 10, .inl (fun _ => 0))), (a_firstOf_82, .inl (cI, 12, .inl fo5_94))] := hD
    refine lv_aload_n hx hb dL_law_550 rfl (lv_at hl 1 rfl) ?_
    refine lv_aload_n hx hb dL_law_551 rfl (lv_at hl 3 rfl) ?_
    refine lv_iload_n hx hb dL_law_552 rfl (lv_at hl 0 rfl) ?_
    refine lv_iconst (v := 1) hx hb dL_law_553 (by decide) ?_
    refine lv_iadd hx hb dL_law_554 ?_
    refine tv (z := 1) (by decide) ?_
    refine va_sld hx hb hX hbl hbA hS (by unfold vp_in; decide) dL_law_555 ?_
    refine tv (z := xs 1) rfl ?_
    refine lv_aload_n hx hb dL_law_556 rfl (lv_at hl 3 rfl) ?_
    refine lv_iload_n hx hb dL_law_557 rfl (lv_at hl 0 rfl) ?_
    refine lv_iconst (v := 2) hx hb dL_law_558 (by decide) ?_
    refine lv_iadd hx hb dL_law_559 ?_
    refine tv (z := 2) (by decide) ?_
    refine va_sld hx hb hX hbl hbA hS (by unfold vp_in; decide) dL_law_560 ?_
    refine tv (z := xs 2) rfl ?_
    refine cVI (As := [.int (xs 1), .int (xs 2)]) (rest := [.int r_134]) (n := 2) (ci := 10) (q0 := 0) (wr := [(tp_3, .inr (5, [.ref by__4, .int 0])), (by__4, .inl (cI, 260, .inl (fun _ => 0))), (t1_6, .inl (cI, 10, .inl (fun _ => 0))), (t2_7, .inl (cI, 12, .inl (fun _ => 0))), (kp_14, .inr (4, [.ref u3_15, .ref f3_16, .ref g3_17, .int 0, .int 0, .int 1])), (u3_15, .inl (cI, 12, .inl (fun _ => 0))), (f3_16, .inl (cI, 10, .inl ff3_40)), (g3_17, .inl (cI, 10, .inl fg3_41)), (a_kept_49, .inl (cI, 15, .inl (fun _ => 0))), (a_keptFrom_50, .inl (cI, 10, .inl (fun _ => 0))), (a_keptTo_51, .inl (cI, 10, .inl (fun _ => 0))), (a_capOf_52, .inl (cI, 10, .inl (fun _ => 0))), (a_leaveTo_54, .inl (cI, 10, .inl (fun _ => 0))), (a_amountOf_55, .inl (cI, 12, .inl (fun _ => 0))), (a_tape_58, .inl (cB, 260, .inl (fun _ => 0)))]) X hN hK hP hD hS hA (c_X10_cost l D cI cB _ q_45 a_now_47 a_aside_48 a_kept_49 a_keptFrom_50 a_keptTo_51 a_capOf_52 a_leaveFrom_53 a_leaveTo_54 a_amountOf_55 a_doerMany_56 a_doerOf_57 a_tape_58 a_said_59 a_waitsAt_60 a_saidLetter_61 a_saidFrom_62 a_saidHalf_63 a_saidTo_64 a_codes_65 a_clauseOf_66 a_codeFrom_67 a_codeHalf_68 a_codeTo_69 a_stack_70 a_facts_71 a_lineChore_72 a_lineMany_73 a_lineDoer_74 a_newFrom_75 a_newTo_76 a_goFrom_77 a_goTo_78 a_idleFrom_79 a_idleTo_80 a_moreOf_81 a_firstOf_82 a_leftOf_83 a_didOf_84 a_costBy_85 a_gainBy_86 a_hiredOf_87 a_hiredBest_88 a_hiredTo_89 a_turnOf_90 a_turnWho_91 0 0 0 0 fw_92 (fun _ => 0) (fun _ => 0) (fun _ => 0) (fun _ => 0) (fun _ => 0) (fun _ => 0) (fun _ => 0) (fun _ => 0) (fun _ => 0) fo5_94 fl_93 (xs 1) (xs 2) hw_95.1.1 hw_95.1.2.1 hw_95.1.2.2 hw_95.2) (gV k_1516 k_1517 k_1518 k_103 k_1519) (by decide +kernel) ⟨Nat.le_of_ble_eq_true rfl, Nat.le_of_ble_eq_true rfl⟩ ⟨rfl, rfl⟩ [8, 9, 10, 19, 20, 21, 22, 23, 24, 25, 26, 27, 15] [0, 1, 2, 3, 4, 5, 6, 7, 11, 12, 13, 14, 16, 17, 18] rfl rfl (by decide) (by decide) rfl rfl rfl rfl rfl hl.1 (Nat.le_of_ble_eq_true rfl) dL_law_561 ⟨Nat.le_of_ble_eq_true rfl, Nat.le_of_ble_eq_true rfl⟩ (fun r_136 u H locs hw_137 hP hD hS => ?_)
    try dsimp only at hw_137
    have hP : va_P D vwCl [(tp_3, .inr (5, [.ref by__4, .int 0])), (by__4, .inl (cI, 260, .inl (fun _ => 0))), (t1_6, .inl (cI, 10, .inl (fun _ => 0))), (t2_7, .inl (cI, 12, .inl (fun _ => 0))), (kp_14, .inr (4, [.ref u3_15, .ref f3_16, .ref g3_17, .int 0, .int 0, .int 1])), (u3_15, .inl (cI, 12, .inl (fun _ => 0))), (f3_16, .inl (cI, 10, .inl ff3_40)), (g3_17, .inl (cI, 10, .inl fg3_41)), (a_kept_49, .inl (cI, 15, .inl (fun _ => 0))), (a_keptFrom_50, .inl (cI, 10, .inl (fun _ => 0))), (a_keptTo_51, .inl (cI, 10, .inl (fun _ => 0))), (a_capOf_52, .inl (cI, 10, .inl (fun _ => 0))), (a_leaveTo_54, .inl (cI, 10, .inl (fun _ => 0))), (a_amountOf_55, .inl (cI, 12, .inl (fun _ => 0))), (a_tape_58, .inl (cB, 260, .inl (fun _ => 0)))] H := hP
    have hD : va_D A [(tp_3, .inr (5, [.ref by__4, .int 0])), (by__4, .inl (cI, 260, .inl (fun _ => 0))), (t1_6, .inl (cI, 10, .inl (fun _ => 0))), (t2_7, .inl (cI, 12, .inl (fun _ => 0))), (kp_14, .inr (4, [.ref u3_15, .ref f3_16, .ref g3_17, .int 0, .int 0, .int 1])), (u3_15, .inl (cI, 12, .inl (fun _ => 0))), (f3_16, .inl (cI, 10, .inl ff3_40)), (g3_17, .inl (cI, 10, .inl fg3_41)), (a_kept_49, .inl (cI, 15, .inl (fun _ => 0))), (a_keptFrom_50, .inl (cI, 10, .inl (fun _ => 0))), (a_keptTo_51, .inl (cI, 10, .inl (fun _ => 0))), (a_capOf_52, .inl (cI, 10, .inl (fun _ => 0))), (a_leaveTo_54, .inl (cI, 10, .inl (fun _ => 0))), (a_amountOf_55, .inl (cI, 12, .inl (fun _ => 0))), (a_tape_58, .inl (cB, 260, .inl (fun _ => 0)))] := hD
    refine lv_icmp_eq (tgt := 1309) hx hb dL_law_564 (by decide) (fun _ => ?_) (fun c_564 => absurd (hw_135.trans hw_137.symm) c_564)
    refine lv_iinc (v := 6) (lv' := [(3, .int 6), (2, .ref q_45), (1, .ref q_1), (0, .ref b)]) hx hb dL_law_1309 hl (k := 0) rfl (by decide) (by decide) rfl (fun ls hl => ?_)
    refine lv_goto (tgt := 18) hx hb dL_law_1312 (by decide) ?_
    refine lv_iload_n hx hb dL_law_18 rfl (lv_at hl 0 rfl) ?_
    refine lv_aload_n hx hb dL_law_19 rfl (lv_at hl 3 rfl) ?_
    refine va_slen hx hb hX hbl hbA hS dL_law_20 ?_
    refine tv (z := 6) rfl ?_
    refine lv_bipush (v := 6) hx hb dL_law_21 (by decide) ?_
    refine lv_isub hx hb dL_law_23 ?_
    refine tv (z := 0) (by decide) ?_
    refine lv_icmp_gt (tgt := 1315) hx hb dL_law_24 (by decide) (fun _ => ?_) (fun c_24 => absurd (by decide) c_24)
    refine lv_iconst (v := 1) hx hb dL_law_1315 (by decide) ?_
    refine va_forget (fun q hq => hAq _ (hS.2.2 q hq)) ?_
    refine W.widen (k := 600000) (n := 7302250) (Nat.le_of_ble_eq_true rfl) (Nat.le_of_ble_eq_true rfl) ?_
    exact lw_ret hx hb hr hlocks dL_law_1316
  by_cases e33_13 : z = 13
  · subst e33_13
    refine lv_tableIn (off := 536) (tgt := 569) hx hb dL_law_33 (by decide) (by decide) (by decide) (by decide) ?_
    refine lv_aload_n hx hb dL_law_569 rfl (lv_at hl 2 rfl) ?_
    refine lv_aload_n hx hb dL_law_570 rfl (lv_at hl 3 rfl) ?_
    refine lv_iload_n hx hb dL_law_571 rfl (lv_at hl 0 rfl) ?_
    refine lv_iconst (v := 1) hx hb dL_law_572 (by decide) ?_
    refine lv_iadd hx hb dL_law_573 ?_
    refine tv (z := 1) (by decide) ?_
    refine va_sld hx hb hX hbl hbA hS (by unfold vp_in; decide) dL_law_574 ?_
    refine tv (z := xs 1) rfl ?_
    refine lv_aload_n hx hb dL_law_575 rfl (lv_at hl 3 rfl) ?_
    refine lv_iload_n hx hb dL_law_576 rfl (lv_at hl 0 rfl) ?_
    refine lv_iconst (v := 2) hx hb dL_law_577 (by decide) ?_
    refine lv_iadd hx hb dL_law_578 ?_
    refine tv (z := 2) (by decide) ?_
    refine va_sld hx hb hX hbl hbA hS (by unfold vp_in; decide) dL_law_579 ?_
    refine tv (z := xs 2) rfl ?_
    refine cVR (As := [.int (xs 1), .int (xs 2)]) (rest := []) (n := 2) (ci := 9) (q0 := 0) X hN hK hP (c_X9_missed l D cI cB q_1 tp_3 tw_5 nw_10 kp_14 lw_18 lr_26 dd_27 vv_28 tl_29 sc_37 t1_6 t2_7 t3_8 t4_9 (xs 1) (xs 2)) (gV k_909 k_910 k_911 k_92 k_912) (by decide +kernel) ⟨Nat.le_of_ble_eq_true rfl, Nat.le_of_ble_eq_true rfl⟩ ⟨rfl, rfl⟩ [0, 3] rfl rfl rfl rfl rfl rfl hl.1 (Nat.le_of_ble_eq_true rfl) dL_law_580 ⟨Nat.le_of_ble_eq_true rfl, Nat.le_of_ble_eq_true rfl⟩ (fun r_138 hr_138 => ?_)
    subst hr_138
    refine lv_aload_n hx hb dL_law_583 rfl (lv_at hl 1 rfl) ?_
    refine lv_aload_n hx hb dL_law_584 rfl (lv_at hl 3 rfl) ?_
    refine lv_iload_n hx hb dL_law_585 rfl (lv_at hl 0 rfl) ?_
    refine lv_iconst (v := 1) hx hb dL_law_586 (by decide) ?_
    refine lv_iadd hx hb dL_law_587 ?_
    refine tv (z := 1) (by decide) ?_
    refine va_sld hx hb hX hbl hbA hS (by unfold vp_in; decide) dL_law_588 ?_
    refine tv (z := xs 1) rfl ?_
    refine lv_aload_n hx hb dL_law_589 rfl (lv_at hl 3 rfl) ?_
    refine lv_iload_n hx hb dL_law_590 rfl (lv_at hl 0 rfl) ?_
    refine lv_iconst (v := 2) hx hb dL_law_591 (by decide) ?_
    refine lv_iadd hx hb dL_law_592 ?_
    refine tv (z := 2) (by decide) ?_
    refine va_sld hx hb hX hbl hbA hS (by unfold vp_in; decide) dL_law_593 ?_
    refine tv (z := xs 2) rfl ?_
    refine cVR (As := [.int (xs 1), .int (xs 2)]) (rest := [.int (-1000000000)]) (n := 2) (ci := 10) (q0 := 0) X hN hK hP (c_X10_missed l D cI cB q_45 a_now_47 a_aside_48 a_kept_49 a_keptFrom_50 a_keptTo_51 a_capOf_52 a_leaveFrom_53 a_leaveTo_54 a_amountOf_55 a_doerMany_56 a_doerOf_57 a_tape_58 a_said_59 a_waitsAt_60 a_saidLetter_61 a_saidFrom_62 a_saidHalf_63 a_saidTo_64 a_codes_65 a_clauseOf_66 a_codeFrom_67 a_codeHalf_68 a_codeTo_69 a_stack_70 a_facts_71 a_lineChore_72 a_lineMany_73 a_lineDoer_74 a_newFrom_75 a_newTo_76 a_goFrom_77 a_goTo_78 a_idleFrom_79 a_idleTo_80 a_moreOf_81 a_firstOf_82 a_leftOf_83 a_didOf_84 a_costBy_85 a_gainBy_86 a_hiredOf_87 a_hiredBest_88 a_hiredTo_89 a_turnOf_90 a_turnWho_91 0 0 0 0 (xs 1) (xs 2)) (gV k_1528 k_1529 k_1530 k_103 k_1531) (by decide +kernel) ⟨Nat.le_of_ble_eq_true rfl, Nat.le_of_ble_eq_true rfl⟩ ⟨rfl, rfl⟩ [24] rfl rfl rfl rfl rfl rfl hl.1 (Nat.le_of_ble_eq_true rfl) dL_law_594 ⟨Nat.le_of_ble_eq_true rfl, Nat.le_of_ble_eq_true rfl⟩ (fun r_139 hr_139 => ?_)
    subst hr_139
    refine lv_icmp_eq (tgt := 1309) hx hb dL_law_597 (by decide) (fun _ => ?_) (fun c_597 => absurd (rfl) c_597)
    refine lv_iinc (v := 6) (lv' := [(3, .int 6), (2, .ref q_45), (1, .ref q_1), (0, .ref b)]) hx hb dL_law_1309 hl (k := 0) rfl (by decide) (by decide) rfl (fun ls hl => ?_)
    refine lv_goto (tgt := 18) hx hb dL_law_1312 (by decide) ?_
    refine lv_iload_n hx hb dL_law_18 rfl (lv_at hl 0 rfl) ?_
    refine lv_aload_n hx hb dL_law_19 rfl (lv_at hl 3 rfl) ?_
    refine va_slen hx hb hX hbl hbA hS dL_law_20 ?_
    refine tv (z := 6) rfl ?_
    refine lv_bipush (v := 6) hx hb dL_law_21 (by decide) ?_
    refine lv_isub hx hb dL_law_23 ?_
    refine tv (z := 0) (by decide) ?_
    refine lv_icmp_gt (tgt := 1315) hx hb dL_law_24 (by decide) (fun _ => ?_) (fun c_24 => absurd (by decide) c_24)
    refine lv_iconst (v := 1) hx hb dL_law_1315 (by decide) ?_
    refine va_forget (fun q hq => hAq _ (hS.2.2 q hq)) ?_
    refine W.widen (k := 600000) (n := 7302250) (Nat.le_of_ble_eq_true rfl) (Nat.le_of_ble_eq_true rfl) ?_
    exact lw_ret hx hb hr hlocks dL_law_1316
  by_cases e33_14 : z = 14
  · subst e33_14
    refine lv_tableIn (off := 569) (tgt := 602) hx hb dL_law_33 (by decide) (by decide) (by decide) (by decide) ?_
    refine lv_aload_n hx hb dL_law_602 rfl (lv_at hl 2 rfl) ?_
    refine lv_aload_n hx hb dL_law_603 rfl (lv_at hl 3 rfl) ?_
    refine lv_iload_n hx hb dL_law_604 rfl (lv_at hl 0 rfl) ?_
    refine lv_iconst (v := 1) hx hb dL_law_605 (by decide) ?_
    refine lv_iadd hx hb dL_law_606 ?_
    refine tv (z := 1) (by decide) ?_
    refine va_sld hx hb hX hbl hbA hS (by unfold vp_in; decide) dL_law_607 ?_
    refine tv (z := xs 1) rfl ?_
    refine lv_aload_n hx hb dL_law_608 rfl (lv_at hl 3 rfl) ?_
    refine lv_iload_n hx hb dL_law_609 rfl (lv_at hl 0 rfl) ?_
    refine lv_iconst (v := 2) hx hb dL_law_610 (by decide) ?_
    refine lv_iadd hx hb dL_law_611 ?_
    refine tv (z := 2) (by decide) ?_
    refine va_sld hx hb hX hbl hbA hS (by unfold vp_in; decide) dL_law_612 ?_
    refine tv (z := xs 2) rfl ?_
    refine lv_aload_n hx hb dL_law_613 rfl (lv_at hl 3 rfl) ?_
    refine lv_iload_n hx hb dL_law_614 rfl (lv_at hl 0 rfl) ?_
    refine lv_iconst (v := 3) hx hb dL_law_615 (by decide) ?_
    refine lv_iadd hx hb dL_law_616 ?_
    refine tv (z := 3) (by decide) ?_
    refine va_sld hx hb hX hbl hbA hS (by unfold vp_in; decide) dL_law_617 ?_
    refine tv (z := xs 3) rfl ?_
    refine cVR (As := [.int (xs 1), .int (xs 2), .int (xs 3)]) (rest := []) (n := 3) (ci := 9) (q0 := 0) X hN hK hP (c_X9_together l D cI cB q_1 tp_3 tw_5 nw_10 kp_14 lw_18 lr_26 dd_27 vv_28 tl_29 sc_37 t1_6 t2_7 t3_8 t4_9 (xs 1) (xs 2) (xs 3)) (gV k_919 k_920 k_921 k_92 k_922) (by decide +kernel) ⟨Nat.le_of_ble_eq_true rfl, Nat.le_of_ble_eq_true rfl⟩ ⟨rfl, rfl⟩ [0, 3] rfl rfl rfl rfl rfl rfl hl.1 (Nat.le_of_ble_eq_true rfl) dL_law_618 ⟨Nat.le_of_ble_eq_true rfl, Nat.le_of_ble_eq_true rfl⟩ (fun r_140 hr_140 => ?_)
    subst hr_140
    refine lv_aload_n hx hb dL_law_621 rfl (lv_at hl 1 rfl) ?_
    refine lv_aload_n hx hb dL_law_622 rfl (lv_at hl 3 rfl) ?_
    refine lv_iload_n hx hb dL_law_623 rfl (lv_at hl 0 rfl) ?_
    refine lv_iconst (v := 1) hx hb dL_law_624 (by decide) ?_
    refine lv_iadd hx hb dL_law_625 ?_
    refine tv (z := 1) (by decide) ?_
    refine va_sld hx hb hX hbl hbA hS (by unfold vp_in; decide) dL_law_626 ?_
    refine tv (z := xs 1) rfl ?_
    refine lv_aload_n hx hb dL_law_627 rfl (lv_at hl 3 rfl) ?_
    refine lv_iload_n hx hb dL_law_628 rfl (lv_at hl 0 rfl) ?_
    refine lv_iconst (v := 2) hx hb dL_law_629 (by decide) ?_
    refine lv_iadd hx hb dL_law_630 ?_
    refine tv (z := 2) (by decide) ?_
    refine va_sld hx hb hX hbl hbA hS (by unfold vp_in; decide) dL_law_631 ?_
    refine tv (z := xs 2) rfl ?_
    refine lv_aload_n hx hb dL_law_632 rfl (lv_at hl 3 rfl) ?_
    refine lv_iload_n hx hb dL_law_633 rfl (lv_at hl 0 rfl) ?_
    refine lv_iconst (v := 3) hx hb dL_law_634 (by decide) ?_
    refine lv_iadd hx hb dL_law_635 ?_
    refine tv (z := 3) (by decide) ?_
    refine va_sld hx hb hX hbl hbA hS (by unfold vp_in; decide) dL_law_636 ?_
    refine tv (z := xs 3) rfl ?_
    refine cVR (As := [.int (xs 1), .int (xs 2), .int (xs 3)]) (rest := [.int (-1000000000)]) (n := 3) (ci := 10) (q0 := 0) X hN hK hP (c_X10_together l D cI cB q_45 a_now_47 a_aside_48 a_kept_49 a_keptFrom_50 a_keptTo_51 a_capOf_52 a_leaveFrom_53 a_leaveTo_54 a_amountOf_55 a_doerMany_56 a_doerOf_57 a_tape_58 a_said_59 a_waitsAt_60 a_saidLetter_61 a_saidFrom_62 a_saidHalf_63 a_saidTo_64 a_codes_65 a_clauseOf_66 a_codeFrom_67 a_codeHalf_68 a_codeTo_69 a_stack_70 a_facts_71 a_lineChore_72 a_lineMany_73 a_lineDoer_74 a_newFrom_75 a_newTo_76 a_goFrom_77 a_goTo_78 a_idleFrom_79 a_idleTo_80 a_moreOf_81 a_firstOf_82 a_leftOf_83 a_didOf_84 a_costBy_85 a_gainBy_86 a_hiredOf_87 a_hiredBest_88 a_hiredTo_89 a_turnOf_90 a_turnWho_91 0 0 0 0 (xs 1) (xs 2) (xs 3)) (gV k_1537 k_1538 k_1539 k_103 k_1540) (by decide +kernel) ⟨Nat.le_of_ble_eq_true rfl, Nat.le_of_ble_eq_true rfl⟩ ⟨rfl, rfl⟩ [24] rfl rfl rfl rfl rfl rfl hl.1 (Nat.le_of_ble_eq_true rfl) dL_law_637 ⟨Nat.le_of_ble_eq_true rfl, Nat.le_of_ble_eq_true rfl⟩ (fun r_141 hr_141 => ?_)
    subst hr_141
    refine lv_icmp_eq (tgt := 1309) hx hb dL_law_640 (by decide) (fun _ => ?_) (fun c_640 => absurd (rfl) c_640)
    refine lv_iinc (v := 6) (lv' := [(3, .int 6), (2, .ref q_45), (1, .ref q_1), (0, .ref b)]) hx hb dL_law_1309 hl (k := 0) rfl (by decide) (by decide) rfl (fun ls hl => ?_)
    refine lv_goto (tgt := 18) hx hb dL_law_1312 (by decide) ?_
    refine lv_iload_n hx hb dL_law_18 rfl (lv_at hl 0 rfl) ?_
    refine lv_aload_n hx hb dL_law_19 rfl (lv_at hl 3 rfl) ?_
    refine va_slen hx hb hX hbl hbA hS dL_law_20 ?_
    refine tv (z := 6) rfl ?_
    refine lv_bipush (v := 6) hx hb dL_law_21 (by decide) ?_
    refine lv_isub hx hb dL_law_23 ?_
    refine tv (z := 0) (by decide) ?_
    refine lv_icmp_gt (tgt := 1315) hx hb dL_law_24 (by decide) (fun _ => ?_) (fun c_24 => absurd (by decide) c_24)
    refine lv_iconst (v := 1) hx hb dL_law_1315 (by decide) ?_
    refine va_forget (fun q hq => hAq _ (hS.2.2 q hq)) ?_
    refine W.widen (k := 600000) (n := 7302250) (Nat.le_of_ble_eq_true rfl) (Nat.le_of_ble_eq_true rfl) ?_
    exact lw_ret hx hb hr hlocks dL_law_1316
  by_cases e33_15 : z = 15
  · subst e33_15
    refine lv_tableIn (off := 612) (tgt := 645) hx hb dL_law_33 (by decide) (by decide) (by decide) (by decide) ?_
    refine lv_aload_n hx hb dL_law_645 rfl (lv_at hl 2 rfl) ?_
    refine lv_aload_n hx hb dL_law_646 rfl (lv_at hl 3 rfl) ?_
    refine lv_iload_n hx hb dL_law_647 rfl (lv_at hl 0 rfl) ?_
    refine lv_iconst (v := 1) hx hb dL_law_648 (by decide) ?_
    refine lv_iadd hx hb dL_law_649 ?_
    refine tv (z := 1) (by decide) ?_
    refine va_sld hx hb hX hbl hbA hS (by unfold vp_in; decide) dL_law_650 ?_
    refine tv (z := xs 1) rfl ?_
    refine lv_aload_n hx hb dL_law_651 rfl (lv_at hl 3 rfl) ?_
    refine lv_iload_n hx hb dL_law_652 rfl (lv_at hl 0 rfl) ?_
    refine lv_iconst (v := 2) hx hb dL_law_653 (by decide) ?_
    refine lv_iadd hx hb dL_law_654 ?_
    refine tv (z := 2) (by decide) ?_
    refine va_sld hx hb hX hbl hbA hS (by unfold vp_in; decide) dL_law_655 ?_
    refine tv (z := xs 2) rfl ?_
    refine lv_aload_n hx hb dL_law_656 rfl (lv_at hl 3 rfl) ?_
    refine lv_iload_n hx hb dL_law_657 rfl (lv_at hl 0 rfl) ?_
    refine lv_iconst (v := 3) hx hb dL_law_658 (by decide) ?_
    refine lv_iadd hx hb dL_law_659 ?_
    refine tv (z := 3) (by decide) ?_
    refine va_sld hx hb hX hbl hbA hS (by unfold vp_in; decide) dL_law_660 ?_
    refine tv (z := xs 3) rfl ?_
    refine lv_aload_n hx hb dL_law_661 rfl (lv_at hl 3 rfl) ?_
    refine lv_iload_n hx hb dL_law_662 rfl (lv_at hl 0 rfl) ?_
    refine lv_iconst (v := 4) hx hb dL_law_663 (by decide) ?_
    refine lv_iadd hx hb dL_law_664 ?_
    refine tv (z := 4) (by decide) ?_
    refine va_sld hx hb hX hbl hbA hS (by unfold vp_in; decide) dL_law_665 ?_
    refine tv (z := xs 4) rfl ?_
    refine cVR (As := [.int (xs 1), .int (xs 2), .int (xs 3), .int (xs 4)]) (rest := []) (n := 4) (ci := 9) (q0 := 0) X hN hK hP (c_X9_share l D cI cB q_1 tp_3 tw_5 nw_10 kp_14 lw_18 lr_26 dd_27 vv_28 tl_29 sc_37 t1_6 t2_7 t3_8 t4_9 u2_11 f2_12 g2_13 ff2_38 (xs 1) (xs 2) (xs 3) (xs 4) hw_44.1) (gV k_923 k_924 k_925 k_92 k_926) (by decide +kernel) ⟨Nat.le_of_ble_eq_true rfl, Nat.le_of_ble_eq_true rfl⟩ ⟨rfl, rfl⟩ [0, 3, 6, 8] rfl rfl rfl rfl rfl rfl hl.1 (Nat.le_of_ble_eq_true rfl) dL_law_666 ⟨Nat.le_of_ble_eq_true rfl, Nat.le_of_ble_eq_true rfl⟩ (fun r_142 hr_142 => ?_)
    subst hr_142
    refine lv_aload_n hx hb dL_law_669 rfl (lv_at hl 1 rfl) ?_
    refine lv_aload_n hx hb dL_law_670 rfl (lv_at hl 3 rfl) ?_
    refine lv_iload_n hx hb dL_law_671 rfl (lv_at hl 0 rfl) ?_
    refine lv_iconst (v := 1) hx hb dL_law_672 (by decide) ?_
    refine lv_iadd hx hb dL_law_673 ?_
    refine tv (z := 1) (by decide) ?_
    refine va_sld hx hb hX hbl hbA hS (by unfold vp_in; decide) dL_law_674 ?_
    refine tv (z := xs 1) rfl ?_
    refine lv_aload_n hx hb dL_law_675 rfl (lv_at hl 3 rfl) ?_
    refine lv_iload_n hx hb dL_law_676 rfl (lv_at hl 0 rfl) ?_
    refine lv_iconst (v := 2) hx hb dL_law_677 (by decide) ?_
    refine lv_iadd hx hb dL_law_678 ?_
    refine tv (z := 2) (by decide) ?_
    refine va_sld hx hb hX hbl hbA hS (by unfold vp_in; decide) dL_law_679 ?_
    refine tv (z := xs 2) rfl ?_
    refine lv_aload_n hx hb dL_law_680 rfl (lv_at hl 3 rfl) ?_
    refine lv_iload_n hx hb dL_law_681 rfl (lv_at hl 0 rfl) ?_
    refine lv_iconst (v := 3) hx hb dL_law_682 (by decide) ?_
    refine lv_iadd hx hb dL_law_683 ?_
    refine tv (z := 3) (by decide) ?_
    refine va_sld hx hb hX hbl hbA hS (by unfold vp_in; decide) dL_law_684 ?_
    refine tv (z := xs 3) rfl ?_
    refine lv_aload_n hx hb dL_law_685 rfl (lv_at hl 3 rfl) ?_
    refine lv_iload_n hx hb dL_law_686 rfl (lv_at hl 0 rfl) ?_
    refine lv_iconst (v := 4) hx hb dL_law_687 (by decide) ?_
    refine lv_iadd hx hb dL_law_688 ?_
    refine tv (z := 4) (by decide) ?_
    refine va_sld hx hb hX hbl hbA hS (by unfold vp_in; decide) dL_law_689 ?_
    refine tv (z := xs 4) rfl ?_
    refine cVR (As := [.int (xs 1), .int (xs 2), .int (xs 3), .int (xs 4)]) (rest := [.int (-1000000000)]) (n := 4) (ci := 10) (q0 := 0) X hN hK hP (c_X10_share l D cI cB q_45 a_now_47 a_aside_48 a_kept_49 a_keptFrom_50 a_keptTo_51 a_capOf_52 a_leaveFrom_53 a_leaveTo_54 a_amountOf_55 a_doerMany_56 a_doerOf_57 a_tape_58 a_said_59 a_waitsAt_60 a_saidLetter_61 a_saidFrom_62 a_saidHalf_63 a_saidTo_64 a_codes_65 a_clauseOf_66 a_codeFrom_67 a_codeHalf_68 a_codeTo_69 a_stack_70 a_facts_71 a_lineChore_72 a_lineMany_73 a_lineDoer_74 a_newFrom_75 a_newTo_76 a_goFrom_77 a_goTo_78 a_idleFrom_79 a_idleTo_80 a_moreOf_81 a_firstOf_82 a_leftOf_83 a_didOf_84 a_costBy_85 a_gainBy_86 a_hiredOf_87 a_hiredBest_88 a_hiredTo_89 a_turnOf_90 a_turnWho_91 0 0 0 0 (xs 1) (xs 2) (xs 3) (xs 4)) (gV k_1541 k_1542 k_1543 k_103 k_1544) (by decide +kernel) ⟨Nat.le_of_ble_eq_true rfl, Nat.le_of_ble_eq_true rfl⟩ ⟨rfl, rfl⟩ [24] rfl rfl rfl rfl rfl rfl hl.1 (Nat.le_of_ble_eq_true rfl) dL_law_690 ⟨Nat.le_of_ble_eq_true rfl, Nat.le_of_ble_eq_true rfl⟩ (fun r_143 hr_143 => ?_)
    subst hr_143
    refine lv_icmp_eq (tgt := 1309) hx hb dL_law_693 (by decide) (fun _ => ?_) (fun c_693 => absurd (rfl) c_693)
    refine lv_iinc (v := 6) (lv' := [(3, .int 6), (2, .ref q_45), (1, .ref q_1), (0, .ref b)]) hx hb dL_law_1309 hl (k := 0) rfl (by decide) (by decide) rfl (fun ls hl => ?_)
    refine lv_goto (tgt := 18) hx hb dL_law_1312 (by decide) ?_
    refine lv_iload_n hx hb dL_law_18 rfl (lv_at hl 0 rfl) ?_
    refine lv_aload_n hx hb dL_law_19 rfl (lv_at hl 3 rfl) ?_
    refine va_slen hx hb hX hbl hbA hS dL_law_20 ?_
    refine tv (z := 6) rfl ?_
    refine lv_bipush (v := 6) hx hb dL_law_21 (by decide) ?_
    refine lv_isub hx hb dL_law_23 ?_
    refine tv (z := 0) (by decide) ?_
    refine lv_icmp_gt (tgt := 1315) hx hb dL_law_24 (by decide) (fun _ => ?_) (fun c_24 => absurd (by decide) c_24)
    refine lv_iconst (v := 1) hx hb dL_law_1315 (by decide) ?_
    refine va_forget (fun q hq => hAq _ (hS.2.2 q hq)) ?_
    refine W.widen (k := 600000) (n := 7302250) (Nat.le_of_ble_eq_true rfl) (Nat.le_of_ble_eq_true rfl) ?_
    exact lw_ret hx hb hr hlocks dL_law_1316
  by_cases e33_16 : z = 16
  · subst e33_16
    refine lv_tableIn (off := 665) (tgt := 698) hx hb dL_law_33 (by decide) (by decide) (by decide) (by decide) ?_
    refine lv_aload_n hx hb dL_law_698 rfl (lv_at hl 2 rfl) ?_
    refine lv_aload_n hx hb dL_law_699 rfl (lv_at hl 3 rfl) ?_
    refine lv_iload_n hx hb dL_law_700 rfl (lv_at hl 0 rfl) ?_
    refine lv_iconst (v := 1) hx hb dL_law_701 (by decide) ?_
    refine lv_iadd hx hb dL_law_702 ?_
    refine tv (z := 1) (by decide) ?_
    refine va_sld hx hb hX hbl hbA hS (by unfold vp_in; decide) dL_law_703 ?_
    refine tv (z := xs 1) rfl ?_
    refine lv_aload_n hx hb dL_law_704 rfl (lv_at hl 3 rfl) ?_
    refine lv_iload_n hx hb dL_law_705 rfl (lv_at hl 0 rfl) ?_
    refine lv_iconst (v := 2) hx hb dL_law_706 (by decide) ?_
    refine lv_iadd hx hb dL_law_707 ?_
    refine tv (z := 2) (by decide) ?_
    refine va_sld hx hb hX hbl hbA hS (by unfold vp_in; decide) dL_law_708 ?_
    refine tv (z := xs 2) rfl ?_
    refine lv_aload_n hx hb dL_law_709 rfl (lv_at hl 3 rfl) ?_
    refine lv_iload_n hx hb dL_law_710 rfl (lv_at hl 0 rfl) ?_
    refine lv_iconst (v := 3) hx hb dL_law_711 (by decide) ?_
    refine lv_iadd hx hb dL_law_712 ?_
    refine tv (z := 3) (by decide) ?_
    refine va_sld hx hb hX hbl hbA hS (by unfold vp_in; decide) dL_law_713 ?_
    refine tv (z := xs 3) rfl ?_
    refine cVR (As := [.int (xs 1), .int (xs 2), .int (xs 3)]) (rest := []) (n := 3) (ci := 9) (q0 := 0) X hN hK hP (c_X9_spoilt l D cI cB q_1 tp_3 tw_5 nw_10 kp_14 lw_18 lr_26 dd_27 vv_28 tl_29 sc_37 t1_6 t2_7 t3_8 t4_9 (xs 1) (xs 2) (xs 3)) (gV k_951 k_952 k_953 k_92 k_954) (by decide +kernel) ⟨Nat.le_of_ble_eq_true rfl, Nat.le_of_ble_eq_true rfl⟩ ⟨rfl, rfl⟩ [0, 3] rfl rfl rfl rfl rfl rfl hl.1 (Nat.le_of_ble_eq_true rfl) dL_law_714 ⟨Nat.le_of_ble_eq_true rfl, Nat.le_of_ble_eq_true rfl⟩ (fun r_144 hr_144 => ?_)
    subst hr_144
    refine lv_aload_n hx hb dL_law_717 rfl (lv_at hl 1 rfl) ?_
    refine lv_aload_n hx hb dL_law_718 rfl (lv_at hl 3 rfl) ?_
    refine lv_iload_n hx hb dL_law_719 rfl (lv_at hl 0 rfl) ?_
    refine lv_iconst (v := 1) hx hb dL_law_720 (by decide) ?_
    refine lv_iadd hx hb dL_law_721 ?_
    refine tv (z := 1) (by decide) ?_
    refine va_sld hx hb hX hbl hbA hS (by unfold vp_in; decide) dL_law_722 ?_
    refine tv (z := xs 1) rfl ?_
    refine lv_aload_n hx hb dL_law_723 rfl (lv_at hl 3 rfl) ?_
    refine lv_iload_n hx hb dL_law_724 rfl (lv_at hl 0 rfl) ?_
    refine lv_iconst (v := 2) hx hb dL_law_725 (by decide) ?_
    refine lv_iadd hx hb dL_law_726 ?_
    refine tv (z := 2) (by decide) ?_
    refine va_sld hx hb hX hbl hbA hS (by unfold vp_in; decide) dL_law_727 ?_
    refine tv (z := xs 2) rfl ?_
    refine lv_aload_n hx hb dL_law_728 rfl (lv_at hl 3 rfl) ?_
    refine lv_iload_n hx hb dL_law_729 rfl (lv_at hl 0 rfl) ?_
    refine lv_iconst (v := 3) hx hb dL_law_730 (by decide) ?_
    refine lv_iadd hx hb dL_law_731 ?_
    refine tv (z := 3) (by decide) ?_
    refine va_sld hx hb hX hbl hbA hS (by unfold vp_in; decide) dL_law_732 ?_
    refine tv (z := xs 3) rfl ?_
    refine cVR (As := [.int (xs 1), .int (xs 2), .int (xs 3)]) (rest := [.int (-1000000000)]) (n := 3) (ci := 10) (q0 := 0) X hN hK hP (c_X10_spoilt l D cI cB q_45 a_now_47 a_aside_48 a_kept_49 a_keptFrom_50 a_keptTo_51 a_capOf_52 a_leaveFrom_53 a_leaveTo_54 a_amountOf_55 a_doerMany_56 a_doerOf_57 a_tape_58 a_said_59 a_waitsAt_60 a_saidLetter_61 a_saidFrom_62 a_saidHalf_63 a_saidTo_64 a_codes_65 a_clauseOf_66 a_codeFrom_67 a_codeHalf_68 a_codeTo_69 a_stack_70 a_facts_71 a_lineChore_72 a_lineMany_73 a_lineDoer_74 a_newFrom_75 a_newTo_76 a_goFrom_77 a_goTo_78 a_idleFrom_79 a_idleTo_80 a_moreOf_81 a_firstOf_82 a_leftOf_83 a_didOf_84 a_costBy_85 a_gainBy_86 a_hiredOf_87 a_hiredBest_88 a_hiredTo_89 a_turnOf_90 a_turnWho_91 0 0 0 0 (xs 1) (xs 2) (xs 3)) (gV k_1563 k_1564 k_1565 k_103 k_1566) (by decide +kernel) ⟨Nat.le_of_ble_eq_true rfl, Nat.le_of_ble_eq_true rfl⟩ ⟨rfl, rfl⟩ [24] rfl rfl rfl rfl rfl rfl hl.1 (Nat.le_of_ble_eq_true rfl) dL_law_733 ⟨Nat.le_of_ble_eq_true rfl, Nat.le_of_ble_eq_true rfl⟩ (fun r_145 hr_145 => ?_)
    subst hr_145
    refine lv_icmp_eq (tgt := 1309) hx hb dL_law_736 (by decide) (fun _ => ?_) (fun c_736 => absurd (rfl) c_736)
    refine lv_iinc (v := 6) (lv' := [(3, .int 6), (2, .ref q_45), (1, .ref q_1), (0, .ref b)]) hx hb dL_law_1309 hl (k := 0) rfl (by decide) (by decide) rfl (fun ls hl => ?_)
    refine lv_goto (tgt := 18) hx hb dL_law_1312 (by decide) ?_
    refine lv_iload_n hx hb dL_law_18 rfl (lv_at hl 0 rfl) ?_
    refine lv_aload_n hx hb dL_law_19 rfl (lv_at hl 3 rfl) ?_
    refine va_slen hx hb hX hbl hbA hS dL_law_20 ?_
    refine tv (z := 6) rfl ?_
    refine lv_bipush (v := 6) hx hb dL_law_21 (by decide) ?_
    refine lv_isub hx hb dL_law_23 ?_
    refine tv (z := 0) (by decide) ?_
    refine lv_icmp_gt (tgt := 1315) hx hb dL_law_24 (by decide) (fun _ => ?_) (fun c_24 => absurd (by decide) c_24)
    refine lv_iconst (v := 1) hx hb dL_law_1315 (by decide) ?_
    refine va_forget (fun q hq => hAq _ (hS.2.2 q hq)) ?_
    refine W.widen (k := 600000) (n := 7302250) (Nat.le_of_ble_eq_true rfl) (Nat.le_of_ble_eq_true rfl) ?_
    exact lw_ret hx hb hr hlocks dL_law_1316
  by_cases e33_17 : z = 17
  · subst e33_17
    refine lv_tableIn (off := 708) (tgt := 741) hx hb dL_law_33 (by decide) (by decide) (by decide) (by decide) ?_
    refine lv_aload_n hx hb dL_law_741 rfl (lv_at hl 2 rfl) ?_
    refine lv_aload_n hx hb dL_law_742 rfl (lv_at hl 3 rfl) ?_
    refine lv_iload_n hx hb dL_law_743 rfl (lv_at hl 0 rfl) ?_
    refine lv_iconst (v := 1) hx hb dL_law_744 (by decide) ?_
    refine lv_iadd hx hb dL_law_745 ?_
    refine tv (z := 1) (by decide) ?_
    refine va_sld hx hb hX hbl hbA hS (by unfold vp_in; decide) dL_law_746 ?_
    refine tv (z := xs 1) rfl ?_
    refine lv_aload_n hx hb dL_law_747 rfl (lv_at hl 3 rfl) ?_
    refine lv_iload_n hx hb dL_law_748 rfl (lv_at hl 0 rfl) ?_
    refine lv_iconst (v := 2) hx hb dL_law_749 (by decide) ?_
    refine lv_iadd hx hb dL_law_750 ?_
    refine tv (z := 2) (by decide) ?_
    refine va_sld hx hb hX hbl hbA hS (by unfold vp_in; decide) dL_law_751 ?_
    refine tv (z := xs 2) rfl ?_
    refine lv_aload_n hx hb dL_law_752 rfl (lv_at hl 3 rfl) ?_
    refine lv_iload_n hx hb dL_law_753 rfl (lv_at hl 0 rfl) ?_
    refine lv_iconst (v := 3) hx hb dL_law_754 (by decide) ?_
    refine lv_iadd hx hb dL_law_755 ?_
    refine tv (z := 3) (by decide) ?_
    refine va_sld hx hb hX hbl hbA hS (by unfold vp_in; decide) dL_law_756 ?_
    refine tv (z := xs 3) rfl ?_
    refine lv_aload_n hx hb dL_law_757 rfl (lv_at hl 3 rfl) ?_
    refine lv_iload_n hx hb dL_law_758 rfl (lv_at hl 0 rfl) ?_
    refine lv_iconst (v := 4) hx hb dL_law_759 (by decide) ?_
    refine lv_iadd hx hb dL_law_760 ?_
    refine tv (z := 4) (by decide) ?_
    refine va_sld hx hb hX hbl hbA hS (by unfold vp_in; decide) dL_law_761 ?_
    refine tv (z := xs 4) rfl ?_
    refine cVR (As := [.int (xs 1), .int (xs 2), .int (xs 3), .int (xs 4)]) (rest := []) (n := 4) (ci := 9) (q0 := 0) X hN hK hP (c_X9_when l D cI cB q_1 tp_3 tw_5 nw_10 kp_14 lw_18 lr_26 dd_27 vv_28 tl_29 sc_37 t1_6 t2_7 t3_8 t4_9 (xs 1) (xs 2) (xs 3) (xs 4)) (gV k_955 k_956 k_957 k_92 k_958) (by decide +kernel) ⟨Nat.le_of_ble_eq_true rfl, Nat.le_of_ble_eq_true rfl⟩ ⟨rfl, rfl⟩ [0, 3] rfl rfl rfl rfl rfl rfl hl.1 (Nat.le_of_ble_eq_true rfl) dL_law_762 ⟨Nat.le_of_ble_eq_true rfl, Nat.le_of_ble_eq_true rfl⟩ (fun r_146 hr_146 => ?_)
    subst hr_146
    refine lv_aload_n hx hb dL_law_765 rfl (lv_at hl 1 rfl) ?_
    refine lv_aload_n hx hb dL_law_766 rfl (lv_at hl 3 rfl) ?_
    refine lv_iload_n hx hb dL_law_767 rfl (lv_at hl 0 rfl) ?_
    refine lv_iconst (v := 1) hx hb dL_law_768 (by decide) ?_
    refine lv_iadd hx hb dL_law_769 ?_
    refine tv (z := 1) (by decide) ?_
    refine va_sld hx hb hX hbl hbA hS (by unfold vp_in; decide) dL_law_770 ?_
    refine tv (z := xs 1) rfl ?_
    refine lv_aload_n hx hb dL_law_771 rfl (lv_at hl 3 rfl) ?_
    refine lv_iload_n hx hb dL_law_772 rfl (lv_at hl 0 rfl) ?_
    refine lv_iconst (v := 2) hx hb dL_law_773 (by decide) ?_
    refine lv_iadd hx hb dL_law_774 ?_
    refine tv (z := 2) (by decide) ?_
    refine va_sld hx hb hX hbl hbA hS (by unfold vp_in; decide) dL_law_775 ?_
    refine tv (z := xs 2) rfl ?_
    refine lv_aload_n hx hb dL_law_776 rfl (lv_at hl 3 rfl) ?_
    refine lv_iload_n hx hb dL_law_777 rfl (lv_at hl 0 rfl) ?_
    refine lv_iconst (v := 3) hx hb dL_law_778 (by decide) ?_
    refine lv_iadd hx hb dL_law_779 ?_
    refine tv (z := 3) (by decide) ?_
    refine va_sld hx hb hX hbl hbA hS (by unfold vp_in; decide) dL_law_780 ?_
    refine tv (z := xs 3) rfl ?_
    refine lv_aload_n hx hb dL_law_781 rfl (lv_at hl 3 rfl) ?_
    refine lv_iload_n hx hb dL_law_782 rfl (lv_at hl 0 rfl) ?_
    refine lv_iconst (v := 4) hx hb dL_law_783 (by decide) ?_
    refine lv_iadd hx hb dL_law_784 ?_
    refine tv (z := 4) (by decide) ?_
    refine va_sld hx hb hX hbl hbA hS (by unfold vp_in; decide) dL_law_785 ?_
    refine tv (z := xs 4) rfl ?_
    refine cVR (As := [.int (xs 1), .int (xs 2), .int (xs 3), .int (xs 4)]) (rest := [.int (-1000000000)]) (n := 4) (ci := 10) (q0 := 0) X hN hK hP (c_X10_when l D cI cB q_45 a_now_47 a_aside_48 a_kept_49 a_keptFrom_50 a_keptTo_51 a_capOf_52 a_leaveFrom_53 a_leaveTo_54 a_amountOf_55 a_doerMany_56 a_doerOf_57 a_tape_58 a_said_59 a_waitsAt_60 a_saidLetter_61 a_saidFrom_62 a_saidHalf_63 a_saidTo_64 a_codes_65 a_clauseOf_66 a_codeFrom_67 a_codeHalf_68 a_codeTo_69 a_stack_70 a_facts_71 a_lineChore_72 a_lineMany_73 a_lineDoer_74 a_newFrom_75 a_newTo_76 a_goFrom_77 a_goTo_78 a_idleFrom_79 a_idleTo_80 a_moreOf_81 a_firstOf_82 a_leftOf_83 a_didOf_84 a_costBy_85 a_gainBy_86 a_hiredOf_87 a_hiredBest_88 a_hiredTo_89 a_turnOf_90 a_turnWho_91 0 0 0 0 (xs 1) (xs 2) (xs 3) (xs 4)) (gV k_1572 k_1573 k_1574 k_103 k_1575) (by decide +kernel) ⟨Nat.le_of_ble_eq_true rfl, Nat.le_of_ble_eq_true rfl⟩ ⟨rfl, rfl⟩ [24] rfl rfl rfl rfl rfl rfl hl.1 (Nat.le_of_ble_eq_true rfl) dL_law_786 ⟨Nat.le_of_ble_eq_true rfl, Nat.le_of_ble_eq_true rfl⟩ (fun r_147 hr_147 => ?_)
    subst hr_147
    refine lv_icmp_eq (tgt := 1309) hx hb dL_law_789 (by decide) (fun _ => ?_) (fun c_789 => absurd (rfl) c_789)
    refine lv_iinc (v := 6) (lv' := [(3, .int 6), (2, .ref q_45), (1, .ref q_1), (0, .ref b)]) hx hb dL_law_1309 hl (k := 0) rfl (by decide) (by decide) rfl (fun ls hl => ?_)
    refine lv_goto (tgt := 18) hx hb dL_law_1312 (by decide) ?_
    refine lv_iload_n hx hb dL_law_18 rfl (lv_at hl 0 rfl) ?_
    refine lv_aload_n hx hb dL_law_19 rfl (lv_at hl 3 rfl) ?_
    refine va_slen hx hb hX hbl hbA hS dL_law_20 ?_
    refine tv (z := 6) rfl ?_
    refine lv_bipush (v := 6) hx hb dL_law_21 (by decide) ?_
    refine lv_isub hx hb dL_law_23 ?_
    refine tv (z := 0) (by decide) ?_
    refine lv_icmp_gt (tgt := 1315) hx hb dL_law_24 (by decide) (fun _ => ?_) (fun c_24 => absurd (by decide) c_24)
    refine lv_iconst (v := 1) hx hb dL_law_1315 (by decide) ?_
    refine va_forget (fun q hq => hAq _ (hS.2.2 q hq)) ?_
    refine W.widen (k := 600000) (n := 7302250) (Nat.le_of_ble_eq_true rfl) (Nat.le_of_ble_eq_true rfl) ?_
    exact lw_ret hx hb hr hlocks dL_law_1316
  by_cases e33_18 : z = 18
  · subst e33_18
    refine lv_tableIn (off := 761) (tgt := 794) hx hb dL_law_33 (by decide) (by decide) (by decide) (by decide) ?_
    refine lv_aload_n hx hb dL_law_794 rfl (lv_at hl 2 rfl) ?_
    refine lv_aload_n hx hb dL_law_795 rfl (lv_at hl 3 rfl) ?_
    refine lv_iload_n hx hb dL_law_796 rfl (lv_at hl 0 rfl) ?_
    refine lv_iconst (v := 1) hx hb dL_law_797 (by decide) ?_
    refine lv_iadd hx hb dL_law_798 ?_
    refine tv (z := 1) (by decide) ?_
    refine va_sld hx hb hX hbl hbA hS (by unfold vp_in; decide) dL_law_799 ?_
    refine tv (z := xs 1) rfl ?_
    refine lv_aload_n hx hb dL_law_800 rfl (lv_at hl 3 rfl) ?_
    refine lv_iload_n hx hb dL_law_801 rfl (lv_at hl 0 rfl) ?_
    refine lv_iconst (v := 2) hx hb dL_law_802 (by decide) ?_
    refine lv_iadd hx hb dL_law_803 ?_
    refine tv (z := 2) (by decide) ?_
    refine va_sld hx hb hX hbl hbA hS (by unfold vp_in; decide) dL_law_804 ?_
    refine tv (z := xs 2) rfl ?_
    refine lv_aload_n hx hb dL_law_805 rfl (lv_at hl 3 rfl) ?_
    refine lv_iload_n hx hb dL_law_806 rfl (lv_at hl 0 rfl) ?_
    refine lv_iconst (v := 3) hx hb dL_law_807 (by decide) ?_
    refine lv_iadd hx hb dL_law_808 ?_
    refine tv (z := 3) (by decide) ?_
    refine va_sld hx hb hX hbl hbA hS (by unfold vp_in; decide) dL_law_809 ?_
    refine tv (z := xs 3) rfl ?_
    refine lv_aload_n hx hb dL_law_810 rfl (lv_at hl 3 rfl) ?_
    refine lv_iload_n hx hb dL_law_811 rfl (lv_at hl 0 rfl) ?_
    refine lv_iconst (v := 4) hx hb dL_law_812 (by decide) ?_
    refine lv_iadd hx hb dL_law_813 ?_
    refine tv (z := 4) (by decide) ?_
    refine va_sld hx hb hX hbl hbA hS (by unfold vp_in; decide) dL_law_814 ?_
    refine tv (z := xs 4) rfl ?_
    refine lv_aload_n hx hb dL_law_815 rfl (lv_at hl 3 rfl) ?_
    refine lv_iload_n hx hb dL_law_816 rfl (lv_at hl 0 rfl) ?_
    refine lv_iconst (v := 5) hx hb dL_law_817 (by decide) ?_
    refine lv_iadd hx hb dL_law_818 ?_
    refine tv (z := 5) (by decide) ?_
    refine va_sld hx hb hX hbl hbA hS (by unfold vp_in; decide) dL_law_819 ?_
    refine tv (z := xs 5) rfl ?_
    refine cVR (As := [.int (xs 1), .int (xs 2), .int (xs 3), .int (xs 4), .int (xs 5)]) (rest := []) (n := 5) (ci := 9) (q0 := 0) X hN hK hP (c_X9_against l D cI cB q_1 tp_3 tw_5 nw_10 kp_14 lw_18 lr_26 dd_27 vv_28 tl_29 sc_37 t1_6 t2_7 t3_8 t4_9 (xs 1) (xs 2) (xs 3) (xs 4) (xs 5)) (gV k_964 k_965 k_966 k_92 k_967) (by decide +kernel) ⟨Nat.le_of_ble_eq_true rfl, Nat.le_of_ble_eq_true rfl⟩ ⟨rfl, rfl⟩ [0, 3] rfl rfl rfl rfl rfl rfl hl.1 (Nat.le_of_ble_eq_true rfl) dL_law_820 ⟨Nat.le_of_ble_eq_true rfl, Nat.le_of_ble_eq_true rfl⟩ (fun r_148 hr_148 => ?_)
    subst hr_148
    refine lv_aload_n hx hb dL_law_823 rfl (lv_at hl 1 rfl) ?_
    refine lv_aload_n hx hb dL_law_824 rfl (lv_at hl 3 rfl) ?_
    refine lv_iload_n hx hb dL_law_825 rfl (lv_at hl 0 rfl) ?_
    refine lv_iconst (v := 1) hx hb dL_law_826 (by decide) ?_
    refine lv_iadd hx hb dL_law_827 ?_
    refine tv (z := 1) (by decide) ?_
    refine va_sld hx hb hX hbl hbA hS (by unfold vp_in; decide) dL_law_828 ?_
    refine tv (z := xs 1) rfl ?_
    refine lv_aload_n hx hb dL_law_829 rfl (lv_at hl 3 rfl) ?_
    refine lv_iload_n hx hb dL_law_830 rfl (lv_at hl 0 rfl) ?_
    refine lv_iconst (v := 2) hx hb dL_law_831 (by decide) ?_
    refine lv_iadd hx hb dL_law_832 ?_
    refine tv (z := 2) (by decide) ?_
    refine va_sld hx hb hX hbl hbA hS (by unfold vp_in; decide) dL_law_833 ?_
    refine tv (z := xs 2) rfl ?_
    refine lv_aload_n hx hb dL_law_834 rfl (lv_at hl 3 rfl) ?_
    refine lv_iload_n hx hb dL_law_835 rfl (lv_at hl 0 rfl) ?_
    refine lv_iconst (v := 3) hx hb dL_law_836 (by decide) ?_
    refine lv_iadd hx hb dL_law_837 ?_
    refine tv (z := 3) (by decide) ?_
    refine va_sld hx hb hX hbl hbA hS (by unfold vp_in; decide) dL_law_838 ?_
    refine tv (z := xs 3) rfl ?_
    refine lv_aload_n hx hb dL_law_839 rfl (lv_at hl 3 rfl) ?_
    refine lv_iload_n hx hb dL_law_840 rfl (lv_at hl 0 rfl) ?_
    refine lv_iconst (v := 4) hx hb dL_law_841 (by decide) ?_
    refine lv_iadd hx hb dL_law_842 ?_
    refine tv (z := 4) (by decide) ?_
    refine va_sld hx hb hX hbl hbA hS (by unfold vp_in; decide) dL_law_843 ?_
    refine tv (z := xs 4) rfl ?_
    refine lv_aload_n hx hb dL_law_844 rfl (lv_at hl 3 rfl) ?_
    refine lv_iload_n hx hb dL_law_845 rfl (lv_at hl 0 rfl) ?_
    refine lv_iconst (v := 5) hx hb dL_law_846 (by decide) ?_
    refine lv_iadd hx hb dL_law_847 ?_
    refine tv (z := 5) (by decide) ?_
    refine va_sld hx hb hX hbl hbA hS (by unfold vp_in; decide) dL_law_848 ?_
    refine tv (z := xs 5) rfl ?_
    refine cVR (As := [.int (xs 1), .int (xs 2), .int (xs 3), .int (xs 4), .int (xs 5)]) (rest := [.int (-1000000000)]) (n := 5) (ci := 10) (q0 := 0) X hN hK hP (c_X10_against l D cI cB q_45 a_now_47 a_aside_48 a_kept_49 a_keptFrom_50 a_keptTo_51 a_capOf_52 a_leaveFrom_53 a_leaveTo_54 a_amountOf_55 a_doerMany_56 a_doerOf_57 a_tape_58 a_said_59 a_waitsAt_60 a_saidLetter_61 a_saidFrom_62 a_saidHalf_63 a_saidTo_64 a_codes_65 a_clauseOf_66 a_codeFrom_67 a_codeHalf_68 a_codeTo_69 a_stack_70 a_facts_71 a_lineChore_72 a_lineMany_73 a_lineDoer_74 a_newFrom_75 a_newTo_76 a_goFrom_77 a_goTo_78 a_idleFrom_79 a_idleTo_80 a_moreOf_81 a_firstOf_82 a_leftOf_83 a_didOf_84 a_costBy_85 a_gainBy_86 a_hiredOf_87 a_hiredBest_88 a_hiredTo_89 a_turnOf_90 a_turnWho_91 0 0 0 0 (xs 1) (xs 2) (xs 3) (xs 4) (xs 5)) (gV k_1576 k_1577 k_1578 k_103 k_1579) (by decide +kernel) ⟨Nat.le_of_ble_eq_true rfl, Nat.le_of_ble_eq_true rfl⟩ ⟨rfl, rfl⟩ [24] rfl rfl rfl rfl rfl rfl hl.1 (Nat.le_of_ble_eq_true rfl) dL_law_849 ⟨Nat.le_of_ble_eq_true rfl, Nat.le_of_ble_eq_true rfl⟩ (fun r_149 hr_149 => ?_)
    subst hr_149
    refine lv_icmp_eq (tgt := 1309) hx hb dL_law_852 (by decide) (fun _ => ?_) (fun c_852 => absurd (rfl) c_852)
    refine lv_iinc (v := 6) (lv' := [(3, .int 6), (2, .ref q_45), (1, .ref q_1), (0, .ref b)]) hx hb dL_law_1309 hl (k := 0) rfl (by decide) (by decide) rfl (fun ls hl => ?_)
    refine lv_goto (tgt := 18) hx hb dL_law_1312 (by decide) ?_
    refine lv_iload_n hx hb dL_law_18 rfl (lv_at hl 0 rfl) ?_
    refine lv_aload_n hx hb dL_law_19 rfl (lv_at hl 3 rfl) ?_
    refine va_slen hx hb hX hbl hbA hS dL_law_20 ?_
    refine tv (z := 6) rfl ?_
    refine lv_bipush (v := 6) hx hb dL_law_21 (by decide) ?_
    refine lv_isub hx hb dL_law_23 ?_
    refine tv (z := 0) (by decide) ?_
    refine lv_icmp_gt (tgt := 1315) hx hb dL_law_24 (by decide) (fun _ => ?_) (fun c_24 => absurd (by decide) c_24)
    refine lv_iconst (v := 1) hx hb dL_law_1315 (by decide) ?_
    refine va_forget (fun q hq => hAq _ (hS.2.2 q hq)) ?_
    refine W.widen (k := 600000) (n := 7302250) (Nat.le_of_ble_eq_true rfl) (Nat.le_of_ble_eq_true rfl) ?_
    exact lw_ret hx hb hr hlocks dL_law_1316
  by_cases e33_19 : z = 19
  · subst e33_19
    refine lv_tableIn (off := 824) (tgt := 857) hx hb dL_law_33 (by decide) (by decide) (by decide) (by decide) ?_
    refine lv_aload_n hx hb dL_law_857 rfl (lv_at hl 2 rfl) ?_
    refine lv_aload_n hx hb dL_law_858 rfl (lv_at hl 3 rfl) ?_
    refine lv_iload_n hx hb dL_law_859 rfl (lv_at hl 0 rfl) ?_
    refine lv_iconst (v := 1) hx hb dL_law_860 (by decide) ?_
    refine lv_iadd hx hb dL_law_861 ?_
    refine tv (z := 1) (by decide) ?_
    refine va_sld hx hb hX hbl hbA hS (by unfold vp_in; decide) dL_law_862 ?_
    refine tv (z := xs 1) rfl ?_
    refine cVR (As := [.int (xs 1)]) (rest := []) (n := 1) (ci := 9) (q0 := 0) X hN hK hP (c_X9_stopped l D cI cB q_1 tp_3 tw_5 nw_10 kp_14 lw_18 lr_26 dd_27 vv_28 tl_29 sc_37 by__4 (xs 1)) (gV k_972 k_973 k_974 k_92 k_975) (by decide +kernel) ⟨Nat.le_of_ble_eq_true rfl, Nat.le_of_ble_eq_true rfl⟩ ⟨rfl, rfl⟩ [0, 1] rfl rfl rfl rfl rfl rfl hl.1 (Nat.le_of_ble_eq_true rfl) dL_law_863 ⟨Nat.le_of_ble_eq_true rfl, Nat.le_of_ble_eq_true rfl⟩ (fun r_150 hr_150 => ?_)
    subst hr_150
    refine lv_aload_n hx hb dL_law_866 rfl (lv_at hl 1 rfl) ?_
    refine lv_aload_n hx hb dL_law_867 rfl (lv_at hl 3 rfl) ?_
    refine lv_iload_n hx hb dL_law_868 rfl (lv_at hl 0 rfl) ?_
    refine lv_iconst (v := 1) hx hb dL_law_869 (by decide) ?_
    refine lv_iadd hx hb dL_law_870 ?_
    refine tv (z := 1) (by decide) ?_
    refine va_sld hx hb hX hbl hbA hS (by unfold vp_in; decide) dL_law_871 ?_
    refine tv (z := xs 1) rfl ?_
    refine cVR (As := [.int (xs 1)]) (rest := [.int (-1)]) (n := 1) (ci := 10) (q0 := 0) X hN hK hP (c_X10_stopped l D cI cB q_45 a_now_47 a_aside_48 a_kept_49 a_keptFrom_50 a_keptTo_51 a_capOf_52 a_leaveFrom_53 a_leaveTo_54 a_amountOf_55 a_doerMany_56 a_doerOf_57 a_tape_58 a_said_59 a_waitsAt_60 a_saidLetter_61 a_saidFrom_62 a_saidHalf_63 a_saidTo_64 a_codes_65 a_clauseOf_66 a_codeFrom_67 a_codeHalf_68 a_codeTo_69 a_stack_70 a_facts_71 a_lineChore_72 a_lineMany_73 a_lineDoer_74 a_newFrom_75 a_newTo_76 a_goFrom_77 a_goTo_78 a_idleFrom_79 a_idleTo_80 a_moreOf_81 a_firstOf_82 a_leftOf_83 a_didOf_84 a_costBy_85 a_gainBy_86 a_hiredOf_87 a_hiredBest_88 a_hiredTo_89 a_turnOf_90 a_turnWho_91 0 0 0 0 (xs 1)) (gV k_1588 k_1589 k_1590 k_103 k_1591) (by decide +kernel) ⟨Nat.le_of_ble_eq_true rfl, Nat.le_of_ble_eq_true rfl⟩ ⟨rfl, rfl⟩ [24] rfl rfl rfl rfl rfl rfl hl.1 (Nat.le_of_ble_eq_true rfl) dL_law_872 ⟨Nat.le_of_ble_eq_true rfl, Nat.le_of_ble_eq_true rfl⟩ (fun r_151 hr_151 => ?_)
    subst hr_151
    refine lv_icmp_eq (tgt := 1309) hx hb dL_law_875 (by decide) (fun _ => ?_) (fun c_875 => absurd (rfl) c_875)
    refine lv_iinc (v := 6) (lv' := [(3, .int 6), (2, .ref q_45), (1, .ref q_1), (0, .ref b)]) hx hb dL_law_1309 hl (k := 0) rfl (by decide) (by decide) rfl (fun ls hl => ?_)
    refine lv_goto (tgt := 18) hx hb dL_law_1312 (by decide) ?_
    refine lv_iload_n hx hb dL_law_18 rfl (lv_at hl 0 rfl) ?_
    refine lv_aload_n hx hb dL_law_19 rfl (lv_at hl 3 rfl) ?_
    refine va_slen hx hb hX hbl hbA hS dL_law_20 ?_
    refine tv (z := 6) rfl ?_
    refine lv_bipush (v := 6) hx hb dL_law_21 (by decide) ?_
    refine lv_isub hx hb dL_law_23 ?_
    refine tv (z := 0) (by decide) ?_
    refine lv_icmp_gt (tgt := 1315) hx hb dL_law_24 (by decide) (fun _ => ?_) (fun c_24 => absurd (by decide) c_24)
    refine lv_iconst (v := 1) hx hb dL_law_1315 (by decide) ?_
    refine va_forget (fun q hq => hAq _ (hS.2.2 q hq)) ?_
    refine W.widen (k := 600000) (n := 7302250) (Nat.le_of_ble_eq_true rfl) (Nat.le_of_ble_eq_true rfl) ?_
    exact lw_ret hx hb hr hlocks dL_law_1316
  by_cases e33_20 : z = 20
  · subst e33_20
    refine lv_tableIn (off := 847) (tgt := 880) hx hb dL_law_33 (by decide) (by decide) (by decide) (by decide) ?_
    refine lv_aload_n hx hb dL_law_880 rfl (lv_at hl 2 rfl) ?_
    refine lv_aload_n hx hb dL_law_881 rfl (lv_at hl 3 rfl) ?_
    refine lv_iload_n hx hb dL_law_882 rfl (lv_at hl 0 rfl) ?_
    refine lv_iconst (v := 1) hx hb dL_law_883 (by decide) ?_
    refine lv_iadd hx hb dL_law_884 ?_
    refine tv (z := 1) (by decide) ?_
    refine va_sld hx hb hX hbl hbA hS (by unfold vp_in; decide) dL_law_885 ?_
    refine tv (z := xs 1) rfl ?_
    refine lv_aload_n hx hb dL_law_886 rfl (lv_at hl 3 rfl) ?_
    refine lv_iload_n hx hb dL_law_887 rfl (lv_at hl 0 rfl) ?_
    refine lv_iconst (v := 2) hx hb dL_law_888 (by decide) ?_
    refine lv_iadd hx hb dL_law_889 ?_
    refine tv (z := 2) (by decide) ?_
    refine va_sld hx hb hX hbl hbA hS (by unfold vp_in; decide) dL_law_890 ?_
    refine tv (z := xs 2) rfl ?_
    refine lv_aload_n hx hb dL_law_891 rfl (lv_at hl 3 rfl) ?_
    refine lv_iload_n hx hb dL_law_892 rfl (lv_at hl 0 rfl) ?_
    refine lv_iconst (v := 3) hx hb dL_law_893 (by decide) ?_
    refine lv_iadd hx hb dL_law_894 ?_
    refine tv (z := 3) (by decide) ?_
    refine va_sld hx hb hX hbl hbA hS (by unfold vp_in; decide) dL_law_895 ?_
    refine tv (z := xs 3) rfl ?_
    refine cVI (As := [.int (xs 1), .int (xs 2), .int (xs 3)]) (rest := []) (n := 3) (ci := 9) (q0 := 0) (wr := [(tp_3, .inr (5, [.ref by__4, .int 0])), (by__4, .inl (cI, 260, .inl (fun _ => 0))), (t1_6, .inl (cI, 10, .inl (fun _ => 0))), (t2_7, .inl (cI, 12, .inl (fun _ => 0))), (kp_14, .inr (4, [.ref u3_15, .ref f3_16, .ref g3_17, .int 0, .int 0, .int 1])), (u3_15, .inl (cI, 12, .inl (fun _ => 0))), (f3_16, .inl (cI, 10, .inl ff3_40)), (g3_17, .inl (cI, 10, .inl fg3_41)), (q_45, .inr (10, [.ref a_now_47, .ref a_aside_48, .ref a_kept_49, .ref a_keptFrom_50, .ref a_keptTo_51, .ref a_capOf_52, .ref a_leaveFrom_53, .ref a_leaveTo_54, .ref a_amountOf_55, .ref a_doerMany_56, .ref a_doerOf_57, .int 0, .int 0, .int 0, .ref a_tape_58, .int 0, .int 0, .int 0, .int 0, .int 0, .int 0, .int 0, .int 0, .int 0, .int 0, .ref a_said_59, .ref a_waitsAt_60, .ref a_saidLetter_61, .ref a_saidFrom_62, .ref a_saidHalf_63, .ref a_saidTo_64, .ref a_codes_65, .ref a_clauseOf_66, .ref a_codeFrom_67, .ref a_codeHalf_68, .ref a_codeTo_69, .ref a_stack_70, .ref a_facts_71, .ref a_lineChore_72, .ref a_lineMany_73, .ref a_lineDoer_74, .ref a_newFrom_75, .ref a_newTo_76, .int 0, .ref a_goFrom_77, .ref a_goTo_78, .ref a_idleFrom_79, .ref a_idleTo_80, .ref a_moreOf_81, .ref a_firstOf_82, .ref a_leftOf_83, .ref a_didOf_84, .int 0, .int 0, .int 0, .int 0, .ref a_costBy_85, .int 0, .ref a_gainBy_86, .ref a_hiredOf_87, .ref a_hiredBest_88, .ref a_hiredTo_89, .ref a_turnOf_90, .ref a_turnWho_91, .int 0])), (a_now_47, .inl (cI, 15, .inl fw_92)), (a_aside_48, .inl (cI, 15, .inl (fun _ => 0))), (a_kept_49, .inl (cI, 15, .inl (fun _ => 0))), (a_keptFrom_50, .inl (cI, 10, .inl (fun _ => 0))), (a_keptTo_51, .inl (cI, 10, .inl (fun _ => 0))), (a_capOf_52, .inl (cI, 10, .inl (fun _ => 0))), (a_leaveFrom_53, .inl (cI, 10, .inl fl_93)), (a_leaveTo_54, .inl (cI, 10, .inl (fun _ => 0))), (a_amountOf_55, .inl (cI, 12, .inl (fun _ => 0))), (a_tape_58, .inl (cB, 260, .inl (fun _ => 0))), (a_facts_71, .inl (cI, 8, .inl (fun _ => 0))), (a_leftOf_83, .inl (cI, 10, .inl (fun _ => 0))), (a_didOf_84, .inl (cI, 10, .inl (fun _ => 0))), (a_goFrom_77, .inl (cI, 10, .inl (fun _ => 0))), (a_goTo_78, .inl (cI, 10, .inl (fun _ => 0))), (a_idleFrom_79, .inl (cI, 10, .inl (fun _ => 0))), (a_idleTo_80, .inl (cI, 10, .inl (fun _ => 0))), (a_moreOf_81, .inl (cI, 10, .inl (fun _ => 0))), (a_firstOf_82, .inl (cI, 12, .inl fo5_94))]) X hN hK hP hD hS hA (c_X9_holds l D cI cB _ q_1 tp_3 tw_5 nw_10 kp_14 lw_18 lr_26 dd_27 vv_28 tl_29 sc_37 t1_6 t2_7 t3_8 t4_9 u2_11 f2_12 g2_13 (fun _ => 0) ff2_38 fg2_39 l1_19 l2_20 l3_21 l4_22 l5_23 l6_24 l7_25 0 0 (fun _ => 0) st_30 m1_34 c1_35 d1_36 0 0 0 0 0 0 0 0 u1_31 f1_32 g1_33 0 0 1 (fun _ => 0) ff_42 fg_43 (fun _ => 0) (fun _ => 0) (fun _ => 0) (xs 1) (xs 2) (xs 3) (fun _ _ => rfl) hw_44.1 hw_44.2.1) (gV k_988 k_989 k_990 k_92 k_991) (by decide +kernel) ⟨Nat.le_of_ble_eq_true rfl, Nat.le_of_ble_eq_true rfl⟩ ⟨rfl, rfl⟩ [0, 3, 6, 7, 8, 9, 14, 15, 16, 17, 18, 19, 20, 21, 22, 23] [1, 2, 4, 5, 10, 11, 12, 13, 24, 25, 26, 27, 28, 29, 30, 31, 32, 33, 34, 35, 36, 37, 38, 39, 40, 41, 42, 43] rfl rfl (by decide) (by decide) rfl rfl rfl rfl rfl hl.1 (Nat.le_of_ble_eq_true rfl) dL_law_896 ⟨Nat.le_of_ble_eq_true rfl, Nat.le_of_ble_eq_true rfl⟩ (fun r_152 u H locs hw_153 hP hD hS => ?_)
    try dsimp only at hw_153
    have hP : va_P D vwCl [(tp_3, .inr (5, [.ref by__4, .int 0])), (by__4, .inl (cI, 260, .inl (fun _ => 0))), (t1_6, .inl (cI, 10, .inl (fun _ => 0))), (t2_7, .inl (cI, 12, .inl (fun _ => 0))), (kp_14, .inr (4, [.ref u3_15, .ref f3_16, .ref g3_17, .int 0, .int 0, .int 1])), (u3_15, .inl (cI, 12, .inl (fun _ => 0))), (f3_16, .inl (cI, 10, .inl ff3_40)), (g3_17, .inl (cI, 10, .inl fg3_41)), (q_45, .inr (10, [.ref a_now_47, .ref a_aside_48, .ref a_kept_49, .ref a_keptFrom_50, .ref a_keptTo_51, .ref a_capOf_52, .ref a_leaveFrom_53, .ref a_leaveTo_54, .ref a_amountOf_55, .ref a_doerMany_56, .ref a_doerOf_57, .int 0, .int 0, .int 0, .ref a_tape_58, .int 0, .int 0, .int 0, .int 0, .int 0, .int 0, .int 0, .int 0, .int 0, .int 0, .ref a_said_59, .ref a_waitsAt_60, .ref a_saidLetter_61, .ref a_saidFrom_62, .ref a_saidHalf_63, .ref a_saidTo_64, .ref a_codes_65, .ref a_clauseOf_66, .ref a_codeFrom_67, .ref a_codeHalf_68, .ref a_codeTo_69, .ref a_stack_70, .ref a_facts_71, .ref a_lineChore_72, .ref a_lineMany_73, .ref a_lineDoer_74, .ref a_newFrom_75, .ref a_newTo_76, .int 0, .ref a_goFrom_77, .ref a_goTo_78, .ref a_idleFrom_79, .ref a_idleTo_80, .ref a_moreOf_81, .ref a_firstOf_82, .ref a_leftOf_83, .ref a_didOf_84, .int 0, .int 0, .int 0, .int 0, .ref a_costBy_85, .int 0, .ref a_gainBy_86, .ref a_hiredOf_87, .ref a_hiredBest_88, .ref a_hiredTo_89, .ref a_turnOf_90, .ref a_turnWho_91, .int 0])), (a_now_47, .inl (cI, 15, .inl fw_92)), (a_aside_48, .inl (cI, 15, .inl (fun _ => 0))), (a_kept_49, .inl (cI, 15, .inl (fun _ => 0))), (a_keptFrom_50, .inl (cI, 10, .inl (fun _ => 0))), (a_keptTo_51, .inl (cI, 10, .inl (fun _ => 0))), (a_capOf_52, .inl (cI, 10, .inl (fun _ => 0))), (a_leaveFrom_53, .inl (cI, 10, .inl fl_93)), (a_leaveTo_54, .inl (cI, 10, .inl (fun _ => 0))), (a_amountOf_55, .inl (cI, 12, .inl (fun _ => 0))), (a_tape_58, .inl (cB, 260, .inl (fun _ => 0))), (a_facts_71, .inl (cI, 8, .inl (fun _ => 0))), (a_leftOf_83, .inl (cI, 10, .inl (fun _ => 0))), (a_didOf_84, .inl (cI, 10, .inl (fun _ => 0))), (a_goFrom_77, .inl (cI, 10, .inl (fun _ => 0))), (a_goTo_78, .inl (cI, 10, .inl (fun _ => 0))), (a_idleFrom_79, .inl (cI, 10, .inl (fun _ => 0))), (a_idleTo_80, .inl (cI, 10, .inl (fun _ => 0))), (a_moreOf_81, .inl (cI, 10, .inl (fun _ => 0))), (a_firstOf_82, .inl (cI, 12, .inl fo5_94))] H := hP
    have hD : va_D A [(tp_3, .inr (5, [.ref by__4, .int 0])), (by__4, .inl (cI, 260, .inl (fun _ => 0))), (t1_6, .inl (cI, 10, .inl (fun _ => 0))), (t2_7, .inl (cI, 12, .inl (fun _ => 0))), (kp_14, .inr (4, [.ref u3_15, .ref f3_16, .ref g3_17, .int 0, .int 0, .int 1])), (u3_15, .inl (cI, 12, .inl (fun _ => 0))), (f3_16, .inl (cI, 10, .inl ff3_40)), (g3_17, .inl (cI, 10, .inl fg3_41)), (q_45, .inr (10, [.ref a_now_47, .ref a_aside_48, .ref a_kept_49, .ref a_keptFrom_50, .ref a_keptTo_51, .ref a_capOf_52, .ref a_leaveFrom_53, .ref a_leaveTo_54, .ref a_amountOf_55, .ref a_doerMany_56, .ref a_doerOf_57, .int 0, .int 0, .int 0, .ref a_tape_58, .int 0, .int 0, .int 0, .int 0, .int 0, .int 0, .int 0, .int 0, .int 0, .int 0, .ref a_said_59, .ref a_waitsAt_60, .ref a_saidLetter_61, .ref a_saidFrom_62, .ref a_saidHalf_63, .ref a_saidTo_64, .ref a_codes_65, .ref a_clauseOf_66, .ref a_codeFrom_67, .ref a_codeHalf_68, .ref a_codeTo_69, .ref a_stack_70, .ref a_facts_71, .ref a_lineChore_72, .ref a_lineMany_73, .ref a_lineDoer_74, .ref a_newFrom_75, .ref a_newTo_76, .int 0, .ref a_goFrom_77, .ref a_goTo_78, .ref a_idleFrom_79, .ref a_idleTo_80, .ref a_moreOf_81, .ref a_firstOf_82, .ref a_leftOf_83, .ref a_didOf_84, .int 0, .int 0, .int 0, .int 0, .ref a_costBy_85, .int 0, .ref a_gainBy_86, .ref a_hiredOf_87, .ref a_hiredBest_88, .ref a_hiredTo_89, .ref a_turnOf_90, .ref a_turnWho_91, .int 0])), (a_now_47, .inl (cI, 15, .inl fw_92)), (a_aside_48, .inl (cI, 15, .inl (fun _ => 0))), (a_kept_49, .inl (cI, 15, .inl (fun _ => 0))), (a_keptFrom_50, .inl (cI, 10, .inl (fun _ => 0))), (a_keptTo_51, .inl (cI, 10, .inl (fun _ => 0))), (a_capOf_52, .inl (cI, 10, .inl (fun _ => 0))), (a_leaveFrom_53, .inl (cI, 10, .inl fl_93)), (a_leaveTo_54, .inl (cI, 10, .inl (fun _ => 0))), (a_amountOf_55, .inl (cI, 12, .inl (fun _ => 0))), (a_tape_58, .inl (cB, 260, .inl (fun _ => 0))), (a_facts_71, .inl (cI, 8, .inl (fun _ => 0))), (a_leftOf_83, .inl (cI, 10, .inl (fun _ => 0))), (a_didOf_84, .inl (cI, 10, .inl (fun _ => 0))), (a_goFrom_77, .inl (cI, 10, .inl (fun _ => 0))), (a_goTo_78, .inl (cI, 10, .inl (fun _ => 0))), (a_idleFrom_79, .inl (cI, 10, .inl (fun _ => 0))), (a_idleTo_80, .inl (cI, 10, .inl (fun _ => 0))), (a_moreOf_81, .inl (cI, 10, .inl (fun _ => 0))), (a_firstOf_82, .inl (cI, 12, .inl fo5_94))] := hD
    refine lv_aload_n hx hb dL_law_899 rfl (lv_at hl 1 rfl) ?_
    refine lv_aload_n hx hb dL_law_900 rfl (lv_at hl 3 rfl) ?_
    refine lv_iload_n hx hb dL_law_901 rfl (lv_at hl 0 rfl) ?_
    refine lv_iconst (v := 1) hx hb dL_law_902 (by decide) ?_
    refine lv_iadd hx hb dL_law_903 ?_
    refine tv (z := 1) (by decide) ?_
    refine va_sld hx hb hX hbl hbA hS (by unfold vp_in; decide) dL_law_904 ?_
    refine tv (z := xs 1) rfl ?_
    refine lv_aload_n hx hb dL_law_905 rfl (lv_at hl 3 rfl) ?_
    refine lv_iload_n hx hb dL_law_906 rfl (lv_at hl 0 rfl) ?_
    refine lv_iconst (v := 2) hx hb dL_law_907 (by decide) ?_
    refine lv_iadd hx hb dL_law_908 ?_
    refine tv (z := 2) (by decide) ?_
    refine va_sld hx hb hX hbl hbA hS (by unfold vp_in; decide) dL_law_909 ?_
    refine tv (z := xs 2) rfl ?_
    refine lv_aload_n hx hb dL_law_910 rfl (lv_at hl 3 rfl) ?_
    refine lv_iload_n hx hb dL_law_911 rfl (lv_at hl 0 rfl) ?_
    refine lv_iconst (v := 3) hx hb dL_law_912 (by decide) ?_
    refine lv_iadd hx hb dL_law_913 ?_
    refine tv (z := 3) (by decide) ?_
    refine va_sld hx hb hX hbl hbA hS (by unfold vp_in; decide) dL_law_914 ?_
    refine tv (z := xs 3) rfl ?_
    refine cVI (As := [.int (xs 1), .int (xs 2), .int (xs 3)]) (rest := [.int r_152]) (n := 3) (ci := 10) (q0 := 0) (wr := [(tp_3, .inr (5, [.ref by__4, .int 0])), (by__4, .inl (cI, 260, .inl (fun _ => 0))), (t1_6, .inl (cI, 10, .inl (fun _ => 0))), (t2_7, .inl (cI, 12, .inl (fun _ => 0))), (kp_14, .inr (4, [.ref u3_15, .ref f3_16, .ref g3_17, .int 0, .int 0, .int 1])), (u3_15, .inl (cI, 12, .inl (fun _ => 0))), (f3_16, .inl (cI, 10, .inl ff3_40)), (g3_17, .inl (cI, 10, .inl fg3_41)), (a_kept_49, .inl (cI, 15, .inl (fun _ => 0))), (a_keptFrom_50, .inl (cI, 10, .inl (fun _ => 0))), (a_keptTo_51, .inl (cI, 10, .inl (fun _ => 0))), (a_capOf_52, .inl (cI, 10, .inl (fun _ => 0))), (a_leaveTo_54, .inl (cI, 10, .inl (fun _ => 0))), (a_amountOf_55, .inl (cI, 12, .inl (fun _ => 0))), (a_tape_58, .inl (cB, 260, .inl (fun _ => 0)))]) X hN hK hP hD hS hA (c_X10_holds l D cI cB _ q_45 a_now_47 a_aside_48 a_kept_49 a_keptFrom_50 a_keptTo_51 a_capOf_52 a_leaveFrom_53 a_leaveTo_54 a_amountOf_55 a_doerMany_56 a_doerOf_57 a_tape_58 a_said_59 a_waitsAt_60 a_saidLetter_61 a_saidFrom_62 a_saidHalf_63 a_saidTo_64 a_codes_65 a_clauseOf_66 a_codeFrom_67 a_codeHalf_68 a_codeTo_69 a_stack_70 a_facts_71 a_lineChore_72 a_lineMany_73 a_lineDoer_74 a_newFrom_75 a_newTo_76 a_goFrom_77 a_goTo_78 a_idleFrom_79 a_idleTo_80 a_moreOf_81 a_firstOf_82 a_leftOf_83 a_didOf_84 a_costBy_85 a_gainBy_86 a_hiredOf_87 a_hiredBest_88 a_hiredTo_89 a_turnOf_90 a_turnWho_91 0 0 0 0 fw_92 (fun _ => 0) (fun _ => 0) (fun _ => 0) (fun _ => 0) (fun _ => 0) (fun _ => 0) (fun _ => 0) (fun _ => 0) (fun _ => 0) fo5_94 fl_93 (xs 1) (xs 2) (xs 3) hw_95.1.1 hw_95.1.2.1 hw_95.1.2.2 hw_95.2) (gV k_1596 k_1597 k_1598 k_103 k_1599) (by decide +kernel) ⟨Nat.le_of_ble_eq_true rfl, Nat.le_of_ble_eq_true rfl⟩ ⟨rfl, rfl⟩ [8, 9, 10, 19, 20, 21, 22, 23, 24, 25, 26, 27, 15] [0, 1, 2, 3, 4, 5, 6, 7, 11, 12, 13, 14, 16, 17, 18] rfl rfl (by decide) (by decide) rfl rfl rfl rfl rfl hl.1 (Nat.le_of_ble_eq_true rfl) dL_law_915 ⟨Nat.le_of_ble_eq_true rfl, Nat.le_of_ble_eq_true rfl⟩ (fun r_154 u H locs hw_155 hP hD hS => ?_)
    try dsimp only at hw_155
    have hP : va_P D vwCl [(tp_3, .inr (5, [.ref by__4, .int 0])), (by__4, .inl (cI, 260, .inl (fun _ => 0))), (t1_6, .inl (cI, 10, .inl (fun _ => 0))), (t2_7, .inl (cI, 12, .inl (fun _ => 0))), (kp_14, .inr (4, [.ref u3_15, .ref f3_16, .ref g3_17, .int 0, .int 0, .int 1])), (u3_15, .inl (cI, 12, .inl (fun _ => 0))), (f3_16, .inl (cI, 10, .inl ff3_40)), (g3_17, .inl (cI, 10, .inl fg3_41)), (a_kept_49, .inl (cI, 15, .inl (fun _ => 0))), (a_keptFrom_50, .inl (cI, 10, .inl (fun _ => 0))), (a_keptTo_51, .inl (cI, 10, .inl (fun _ => 0))), (a_capOf_52, .inl (cI, 10, .inl (fun _ => 0))), (a_leaveTo_54, .inl (cI, 10, .inl (fun _ => 0))), (a_amountOf_55, .inl (cI, 12, .inl (fun _ => 0))), (a_tape_58, .inl (cB, 260, .inl (fun _ => 0)))] H := hP
    have hD : va_D A [(tp_3, .inr (5, [.ref by__4, .int 0])), (by__4, .inl (cI, 260, .inl (fun _ => 0))), (t1_6, .inl (cI, 10, .inl (fun _ => 0))), (t2_7, .inl (cI, 12, .inl (fun _ => 0))), (kp_14, .inr (4, [.ref u3_15, .ref f3_16, .ref g3_17, .int 0, .int 0, .int 1])), (u3_15, .inl (cI, 12, .inl (fun _ => 0))), (f3_16, .inl (cI, 10, .inl ff3_40)), (g3_17, .inl (cI, 10, .inl fg3_41)), (a_kept_49, .inl (cI, 15, .inl (fun _ => 0))), (a_keptFrom_50, .inl (cI, 10, .inl (fun _ => 0))), (a_keptTo_51, .inl (cI, 10, .inl (fun _ => 0))), (a_capOf_52, .inl (cI, 10, .inl (fun _ => 0))), (a_leaveTo_54, .inl (cI, 10, .inl (fun _ => 0))), (a_amountOf_55, .inl (cI, 12, .inl (fun _ => 0))), (a_tape_58, .inl (cB, 260, .inl (fun _ => 0)))] := hD
    refine lv_icmp_eq (tgt := 1309) hx hb dL_law_918 (by decide) (fun _ => ?_) (fun c_918 => absurd (hw_153.trans hw_155.symm) c_918)
    refine lv_iinc (v := 6) (lv' := [(3, .int 6), (2, .ref q_45), (1, .ref q_1), (0, .ref b)]) hx hb dL_law_1309 hl (k := 0) rfl (by decide) (by decide) rfl (fun ls hl => ?_)
    refine lv_goto (tgt := 18) hx hb dL_law_1312 (by decide) ?_
    refine lv_iload_n hx hb dL_law_18 rfl (lv_at hl 0 rfl) ?_
    refine lv_aload_n hx hb dL_law_19 rfl (lv_at hl 3 rfl) ?_
    refine va_slen hx hb hX hbl hbA hS dL_law_20 ?_
    refine tv (z := 6) rfl ?_
    refine lv_bipush (v := 6) hx hb dL_law_21 (by decide) ?_
    refine lv_isub hx hb dL_law_23 ?_
    refine tv (z := 0) (by decide) ?_
    refine lv_icmp_gt (tgt := 1315) hx hb dL_law_24 (by decide) (fun _ => ?_) (fun c_24 => absurd (by decide) c_24)
    refine lv_iconst (v := 1) hx hb dL_law_1315 (by decide) ?_
    refine va_forget (fun q hq => hAq _ (hS.2.2 q hq)) ?_
    refine W.widen (k := 600000) (n := 7302250) (Nat.le_of_ble_eq_true rfl) (Nat.le_of_ble_eq_true rfl) ?_
    exact lw_ret hx hb hr hlocks dL_law_1316
  by_cases e33_21 : z = 21
  · subst e33_21
    refine lv_tableIn (off := 890) (tgt := 923) hx hb dL_law_33 (by decide) (by decide) (by decide) (by decide) ?_
    refine lv_aload_n hx hb dL_law_923 rfl (lv_at hl 2 rfl) ?_
    refine lv_aload_n hx hb dL_law_924 rfl (lv_at hl 3 rfl) ?_
    refine lv_iload_n hx hb dL_law_925 rfl (lv_at hl 0 rfl) ?_
    refine lv_iconst (v := 1) hx hb dL_law_926 (by decide) ?_
    refine lv_iadd hx hb dL_law_927 ?_
    refine tv (z := 1) (by decide) ?_
    refine va_sld hx hb hX hbl hbA hS (by unfold vp_in; decide) dL_law_928 ?_
    refine tv (z := xs 1) rfl ?_
    refine lv_aload_n hx hb dL_law_929 rfl (lv_at hl 3 rfl) ?_
    refine lv_iload_n hx hb dL_law_930 rfl (lv_at hl 0 rfl) ?_
    refine lv_iconst (v := 2) hx hb dL_law_931 (by decide) ?_
    refine lv_iadd hx hb dL_law_932 ?_
    refine tv (z := 2) (by decide) ?_
    refine va_sld hx hb hX hbl hbA hS (by unfold vp_in; decide) dL_law_933 ?_
    refine tv (z := xs 2) rfl ?_
    refine cVI (As := [.int (xs 1), .int (xs 2)]) (rest := []) (n := 2) (ci := 9) (q0 := 0) (wr := [(tp_3, .inr (5, [.ref by__4, .int 0])), (by__4, .inl (cI, 260, .inl (fun _ => 0))), (t1_6, .inl (cI, 10, .inl (fun _ => 0))), (t2_7, .inl (cI, 12, .inl (fun _ => 0))), (kp_14, .inr (4, [.ref u3_15, .ref f3_16, .ref g3_17, .int 0, .int 0, .int 1])), (u3_15, .inl (cI, 12, .inl (fun _ => 0))), (f3_16, .inl (cI, 10, .inl ff3_40)), (g3_17, .inl (cI, 10, .inl fg3_41)), (q_45, .inr (10, [.ref a_now_47, .ref a_aside_48, .ref a_kept_49, .ref a_keptFrom_50, .ref a_keptTo_51, .ref a_capOf_52, .ref a_leaveFrom_53, .ref a_leaveTo_54, .ref a_amountOf_55, .ref a_doerMany_56, .ref a_doerOf_57, .int 0, .int 0, .int 0, .ref a_tape_58, .int 0, .int 0, .int 0, .int 0, .int 0, .int 0, .int 0, .int 0, .int 0, .int 0, .ref a_said_59, .ref a_waitsAt_60, .ref a_saidLetter_61, .ref a_saidFrom_62, .ref a_saidHalf_63, .ref a_saidTo_64, .ref a_codes_65, .ref a_clauseOf_66, .ref a_codeFrom_67, .ref a_codeHalf_68, .ref a_codeTo_69, .ref a_stack_70, .ref a_facts_71, .ref a_lineChore_72, .ref a_lineMany_73, .ref a_lineDoer_74, .ref a_newFrom_75, .ref a_newTo_76, .int 0, .ref a_goFrom_77, .ref a_goTo_78, .ref a_idleFrom_79, .ref a_idleTo_80, .ref a_moreOf_81, .ref a_firstOf_82, .ref a_leftOf_83, .ref a_didOf_84, .int 0, .int 0, .int 0, .int 0, .ref a_costBy_85, .int 0, .ref a_gainBy_86, .ref a_hiredOf_87, .ref a_hiredBest_88, .ref a_hiredTo_89, .ref a_turnOf_90, .ref a_turnWho_91, .int 0])), (a_now_47, .inl (cI, 15, .inl fw_92)), (a_aside_48, .inl (cI, 15, .inl (fun _ => 0))), (a_kept_49, .inl (cI, 15, .inl (fun _ => 0))), (a_keptFrom_50, .inl (cI, 10, .inl (fun _ => 0))), (a_keptTo_51, .inl (cI, 10, .inl (fun _ => 0))), (a_capOf_52, .inl (cI, 10, .inl (fun _ => 0))), (a_leaveFrom_53, .inl (cI, 10, .inl fl_93)), (a_leaveTo_54, .inl (cI, 10, .inl (fun _ => 0))), (a_amountOf_55, .inl (cI, 12, .inl (fun _ => 0))), (a_tape_58, .inl (cB, 260, .inl (fun _ => 0))), (a_facts_71, .inl (cI, 8, .inl (fun _ => 0))), (a_leftOf_83, .inl (cI, 10, .inl (fun _ => 0))), (a_didOf_84, .inl (cI, 10, .inl (fun _ => 0))), (a_goFrom_77, .inl (cI, 10, .inl (fun _ => 0))), (a_goTo_78, .inl (cI, 10, .inl (fun _ => 0))), (a_idleFrom_79, .inl (cI, 10, .inl (fun _ => 0))), (a_idleTo_80, .inl (cI, 10, .inl (fun _ => 0))), (a_moreOf_81, .inl (cI, 10, .inl (fun _ => 0))), (a_firstOf_82, .inl (cI, 12, .inl fo5_94))]) X hN hK hP hD hS hA (c_X9_mayor l D cI cB _ q_1 tp_3 tw_5 nw_10 kp_14 lw_18 lr_26 dd_27 vv_28 tl_29 sc_37 t1_6 t2_7 t3_8 t4_9 u2_11 f2_12 g2_13 (fun _ => 0) ff2_38 fg2_39 l1_19 l2_20 l3_21 l4_22 l5_23 l6_24 l7_25 0 0 (fun _ => 0) st_30 m1_34 c1_35 d1_36 0 0 0 0 0 0 0 0 u1_31 f1_32 g1_33 0 0 1 (fun _ => 0) ff_42 fg_43 (fun _ => 0) (fun _ => 0) (fun _ => 0) (xs 1) (xs 2) (fun _ _ => rfl) hw_44.1 hw_44.2.1) (gV k_993 k_994 k_995 k_92 k_996) (by decide +kernel) ⟨Nat.le_of_ble_eq_true rfl, Nat.le_of_ble_eq_true rfl⟩ ⟨rfl, rfl⟩ [0, 3, 6, 7, 8, 9, 14, 15, 16, 17, 18, 19, 20, 21, 22, 23] [1, 2, 4, 5, 10, 11, 12, 13, 24, 25, 26, 27, 28, 29, 30, 31, 32, 33, 34, 35, 36, 37, 38, 39, 40, 41, 42, 43] rfl rfl (by decide) (by decide) rfl rfl rfl rfl rfl hl.1 (Nat.le_of_ble_eq_true rfl) dL_law_934 ⟨Nat.le_of_ble_eq_true rfl, Nat.le_of_ble_eq_true rfl⟩ (fun r_156 u H locs hw_157 hP hD hS => ?_)
    try dsimp only at hw_157
    have hP : va_P D vwCl [(tp_3, .inr (5, [.ref by__4, .int 0])), (by__4, .inl (cI, 260, .inl (fun _ => 0))), (t1_6, .inl (cI, 10, .inl (fun _ => 0))), (t2_7, .inl (cI, 12, .inl (fun _ => 0))), (kp_14, .inr (4, [.ref u3_15, .ref f3_16, .ref g3_17, .int 0, .int 0, .int 1])), (u3_15, .inl (cI, 12, .inl (fun _ => 0))), (f3_16, .inl (cI, 10, .inl ff3_40)), (g3_17, .inl (cI, 10, .inl fg3_41)), (q_45, .inr (10, [.ref a_now_47, .ref a_aside_48, .ref a_kept_49, .ref a_keptFrom_50, .ref a_keptTo_51, .ref a_capOf_52, .ref a_leaveFrom_53, .ref a_leaveTo_54, .ref a_amountOf_55, .ref a_doerMany_56, .ref a_doerOf_57, .int 0, .int 0, .int 0, .ref a_tape_58, .int 0, .int 0, .int 0, .int 0, .int 0, .int 0, .int 0, .int 0, .int 0, .int 0, .ref a_said_59, .ref a_waitsAt_60, .ref a_saidLetter_61, .ref a_saidFrom_62, .ref a_saidHalf_63, .ref a_saidTo_64, .ref a_codes_65, .ref a_clauseOf_66, .ref a_codeFrom_67, .ref a_codeHalf_68, .ref a_codeTo_69, .ref a_stack_70, .ref a_facts_71, .ref a_lineChore_72, .ref a_lineMany_73, .ref a_lineDoer_74, .ref a_newFrom_75, .ref a_newTo_76, .int 0, .ref a_goFrom_77, .ref a_goTo_78, .ref a_idleFrom_79, .ref a_idleTo_80, .ref a_moreOf_81, .ref a_firstOf_82, .ref a_leftOf_83, .ref a_didOf_84, .int 0, .int 0, .int 0, .int 0, .ref a_costBy_85, .int 0, .ref a_gainBy_86, .ref a_hiredOf_87, .ref a_hiredBest_88, .ref a_hiredTo_89, .ref a_turnOf_90, .ref a_turnWho_91, .int 0])), (a_now_47, .inl (cI, 15, .inl fw_92)), (a_aside_48, .inl (cI, 15, .inl (fun _ => 0))), (a_kept_49, .inl (cI, 15, .inl (fun _ => 0))), (a_keptFrom_50, .inl (cI, 10, .inl (fun _ => 0))), (a_keptTo_51, .inl (cI, 10, .inl (fun _ => 0))), (a_capOf_52, .inl (cI, 10, .inl (fun _ => 0))), (a_leaveFrom_53, .inl (cI, 10, .inl fl_93)), (a_leaveTo_54, .inl (cI, 10, .inl (fun _ => 0))), (a_amountOf_55, .inl (cI, 12, .inl (fun _ => 0))), (a_tape_58, .inl (cB, 260, .inl (fun _ => 0))), (a_facts_71, .inl (cI, 8, .inl (fun _ => 0))), (a_leftOf_83, .inl (cI, 10, .inl (fun _ => 0))), (a_didOf_84, .inl (cI, 10, .inl (fun _ => 0))), (a_goFrom_77, .inl (cI, 10, .inl (fun _ => 0))), (a_goTo_78, .inl (cI, 10, .inl (fun _ => 0))), (a_idleFrom_79, .inl (cI, 10, .inl (fun _ => 0))), (a_idleTo_80, .inl (cI, 10, .inl (fun _ => 0))), (a_moreOf_81, .inl (cI, 10, .inl (fun _ => 0))), (a_firstOf_82, .inl (cI, 12, .inl fo5_94))] H := hP
    have hD : va_D A [(tp_3, .inr (5, [.ref by__4, .int 0])), (by__4, .inl (cI, 260, .inl (fun _ => 0))), (t1_6, .inl (cI, 10, .inl (fun _ => 0))), (t2_7, .inl (cI, 12, .inl (fun _ => 0))), (kp_14, .inr (4, [.ref u3_15, .ref f3_16, .ref g3_17, .int 0, .int 0, .int 1])), (u3_15, .inl (cI, 12, .inl (fun _ => 0))), (f3_16, .inl (cI, 10, .inl ff3_40)), (g3_17, .inl (cI, 10, .inl fg3_41)), (q_45, .inr (10, [.ref a_now_47, .ref a_aside_48, .ref a_kept_49, .ref a_keptFrom_50, .ref a_keptTo_51, .ref a_capOf_52, .ref a_leaveFrom_53, .ref a_leaveTo_54, .ref a_amountOf_55, .ref a_doerMany_56, .ref a_doerOf_57, .int 0, .int 0, .int 0, .ref a_tape_58, .int 0, .int 0, .int 0, .int 0, .int 0, .int 0, .int 0, .int 0, .int 0, .int 0, .ref a_said_59, .ref a_waitsAt_60, .ref a_saidLetter_61, .ref a_saidFrom_62, .ref a_saidHalf_63, .ref a_saidTo_64, .ref a_codes_65, .ref a_clauseOf_66, .ref a_codeFrom_67, .ref a_codeHalf_68, .ref a_codeTo_69, .ref a_stack_70, .ref a_facts_71, .ref a_lineChore_72, .ref a_lineMany_73, .ref a_lineDoer_74, .ref a_newFrom_75, .ref a_newTo_76, .int 0, .ref a_goFrom_77, .ref a_goTo_78, .ref a_idleFrom_79, .ref a_idleTo_80, .ref a_moreOf_81, .ref a_firstOf_82, .ref a_leftOf_83, .ref a_didOf_84, .int 0, .int 0, .int 0, .int 0, .ref a_costBy_85, .int 0, .ref a_gainBy_86, .ref a_hiredOf_87, .ref a_hiredBest_88, .ref a_hiredTo_89, .ref a_turnOf_90, .ref a_turnWho_91, .int 0])), (a_now_47, .inl (cI, 15, .inl fw_92)), (a_aside_48, .inl (cI, 15, .inl (fun _ => 0))), (a_kept_49, .inl (cI, 15, .inl (fun _ => 0))), (a_keptFrom_50, .inl (cI, 10, .inl (fun _ => 0))), (a_keptTo_51, .inl (cI, 10, .inl (fun _ => 0))), (a_capOf_52, .inl (cI, 10, .inl (fun _ => 0))), (a_leaveFrom_53, .inl (cI, 10, .inl fl_93)), (a_leaveTo_54, .inl (cI, 10, .inl (fun _ => 0))), (a_amountOf_55, .inl (cI, 12, .inl (fun _ => 0))), (a_tape_58, .inl (cB, 260, .inl (fun _ => 0))), (a_facts_71, .inl (cI, 8, .inl (fun _ => 0))), (a_leftOf_83, .inl (cI, 10, .inl (fun _ => 0))), (a_didOf_84, .inl (cI, 10, .inl (fun _ => 0))), (a_goFrom_77, .inl (cI, 10, .inl (fun _ => 0))), (a_goTo_78, .inl (cI, 10, .inl (fun _ => 0))), (a_idleFrom_79, .inl (cI, 10, .inl (fun _ => 0))), (a_idleTo_80, .inl (cI, 10, .inl (fun _ => 0))), (a_moreOf_81, .inl (cI, 10, .inl (fun _ => 0))), (a_firstOf_82, .inl (cI, 12, .inl fo5_94))] := hD
    refine lv_aload_n hx hb dL_law_937 rfl (lv_at hl 1 rfl) ?_
    refine lv_aload_n hx hb dL_law_938 rfl (lv_at hl 3 rfl) ?_
    refine lv_iload_n hx hb dL_law_939 rfl (lv_at hl 0 rfl) ?_
    refine lv_iconst (v := 1) hx hb dL_law_940 (by decide) ?_
    refine lv_iadd hx hb dL_law_941 ?_
    refine tv (z := 1) (by decide) ?_
    refine va_sld hx hb hX hbl hbA hS (by unfold vp_in; decide) dL_law_942 ?_
    refine tv (z := xs 1) rfl ?_
    refine lv_aload_n hx hb dL_law_943 rfl (lv_at hl 3 rfl) ?_
    refine lv_iload_n hx hb dL_law_944 rfl (lv_at hl 0 rfl) ?_
    refine lv_iconst (v := 2) hx hb dL_law_945 (by decide) ?_
    refine lv_iadd hx hb dL_law_946 ?_
    refine tv (z := 2) (by decide) ?_
    refine va_sld hx hb hX hbl hbA hS (by unfold vp_in; decide) dL_law_947 ?_
    refine tv (z := xs 2) rfl ?_
    refine cVI (As := [.int (xs 1), .int (xs 2)]) (rest := [.int r_156]) (n := 2) (ci := 10) (q0 := 0) (wr := [(tp_3, .inr (5, [.ref by__4, .int 0])), (by__4, .inl (cI, 260, .inl (fun _ => 0))), (t1_6, .inl (cI, 10, .inl (fun _ => 0))), (t2_7, .inl (cI, 12, .inl (fun _ => 0))), (kp_14, .inr (4, [.ref u3_15, .ref f3_16, .ref g3_17, .int 0, .int 0, .int 1])), (u3_15, .inl (cI, 12, .inl (fun _ => 0))), (f3_16, .inl (cI, 10, .inl ff3_40)), (g3_17, .inl (cI, 10, .inl fg3_41)), (a_kept_49, .inl (cI, 15, .inl (fun _ => 0))), (a_keptFrom_50, .inl (cI, 10, .inl (fun _ => 0))), (a_keptTo_51, .inl (cI, 10, .inl (fun _ => 0))), (a_capOf_52, .inl (cI, 10, .inl (fun _ => 0))), (a_leaveTo_54, .inl (cI, 10, .inl (fun _ => 0))), (a_amountOf_55, .inl (cI, 12, .inl (fun _ => 0))), (a_tape_58, .inl (cB, 260, .inl (fun _ => 0)))]) X hN hK hP hD hS hA (c_X10_mayor l D cI cB _ q_45 a_now_47 a_aside_48 a_kept_49 a_keptFrom_50 a_keptTo_51 a_capOf_52 a_leaveFrom_53 a_leaveTo_54 a_amountOf_55 a_doerMany_56 a_doerOf_57 a_tape_58 a_said_59 a_waitsAt_60 a_saidLetter_61 a_saidFrom_62 a_saidHalf_63 a_saidTo_64 a_codes_65 a_clauseOf_66 a_codeFrom_67 a_codeHalf_68 a_codeTo_69 a_stack_70 a_facts_71 a_lineChore_72 a_lineMany_73 a_lineDoer_74 a_newFrom_75 a_newTo_76 a_goFrom_77 a_goTo_78 a_idleFrom_79 a_idleTo_80 a_moreOf_81 a_firstOf_82 a_leftOf_83 a_didOf_84 a_costBy_85 a_gainBy_86 a_hiredOf_87 a_hiredBest_88 a_hiredTo_89 a_turnOf_90 a_turnWho_91 0 0 0 0 fw_92 (fun _ => 0) (fun _ => 0) (fun _ => 0) (fun _ => 0) (fun _ => 0) (fun _ => 0) (fun _ => 0) (fun _ => 0) (fun _ => 0) fo5_94 fl_93 (xs 1) (xs 2) hw_95.1.1 hw_95.1.2.1 hw_95.1.2.2 hw_95.2) (gV k_1605 k_1606 k_1607 k_103 k_1608) (by decide +kernel) ⟨Nat.le_of_ble_eq_true rfl, Nat.le_of_ble_eq_true rfl⟩ ⟨rfl, rfl⟩ [8, 9, 10, 19, 20, 21, 22, 23, 24, 25, 26, 27, 15] [0, 1, 2, 3, 4, 5, 6, 7, 11, 12, 13, 14, 16, 17, 18] rfl rfl (by decide) (by decide) rfl rfl rfl rfl rfl hl.1 (Nat.le_of_ble_eq_true rfl) dL_law_948 ⟨Nat.le_of_ble_eq_true rfl, Nat.le_of_ble_eq_true rfl⟩ (fun r_158 u H locs hw_159 hP hD hS => ?_)
    try dsimp only at hw_159
    have hP : va_P D vwCl [(tp_3, .inr (5, [.ref by__4, .int 0])), (by__4, .inl (cI, 260, .inl (fun _ => 0))), (t1_6, .inl (cI, 10, .inl (fun _ => 0))), (t2_7, .inl (cI, 12, .inl (fun _ => 0))), (kp_14, .inr (4, [.ref u3_15, .ref f3_16, .ref g3_17, .int 0, .int 0, .int 1])), (u3_15, .inl (cI, 12, .inl (fun _ => 0))), (f3_16, .inl (cI, 10, .inl ff3_40)), (g3_17, .inl (cI, 10, .inl fg3_41)), (a_kept_49, .inl (cI, 15, .inl (fun _ => 0))), (a_keptFrom_50, .inl (cI, 10, .inl (fun _ => 0))), (a_keptTo_51, .inl (cI, 10, .inl (fun _ => 0))), (a_capOf_52, .inl (cI, 10, .inl (fun _ => 0))), (a_leaveTo_54, .inl (cI, 10, .inl (fun _ => 0))), (a_amountOf_55, .inl (cI, 12, .inl (fun _ => 0))), (a_tape_58, .inl (cB, 260, .inl (fun _ => 0)))] H := hP
    have hD : va_D A [(tp_3, .inr (5, [.ref by__4, .int 0])), (by__4, .inl (cI, 260, .inl (fun _ => 0))), (t1_6, .inl (cI, 10, .inl (fun _ => 0))), (t2_7, .inl (cI, 12, .inl (fun _ => 0))), (kp_14, .inr (4, [.ref u3_15, .ref f3_16, .ref g3_17, .int 0, .int 0, .int 1])), (u3_15, .inl (cI, 12, .inl (fun _ => 0))), (f3_16, .inl (cI, 10, .inl ff3_40)), (g3_17, .inl (cI, 10, .inl fg3_41)), (a_kept_49, .inl (cI, 15, .inl (fun _ => 0))), (a_keptFrom_50, .inl (cI, 10, .inl (fun _ => 0))), (a_keptTo_51, .inl (cI, 10, .inl (fun _ => 0))), (a_capOf_52, .inl (cI, 10, .inl (fun _ => 0))), (a_leaveTo_54, .inl (cI, 10, .inl (fun _ => 0))), (a_amountOf_55, .inl (cI, 12, .inl (fun _ => 0))), (a_tape_58, .inl (cB, 260, .inl (fun _ => 0)))] := hD
    refine lv_icmp_eq (tgt := 1309) hx hb dL_law_951 (by decide) (fun _ => ?_) (fun c_951 => absurd (hw_157.trans hw_159.symm) c_951)
    refine lv_iinc (v := 6) (lv' := [(3, .int 6), (2, .ref q_45), (1, .ref q_1), (0, .ref b)]) hx hb dL_law_1309 hl (k := 0) rfl (by decide) (by decide) rfl (fun ls hl => ?_)
    refine lv_goto (tgt := 18) hx hb dL_law_1312 (by decide) ?_
    refine lv_iload_n hx hb dL_law_18 rfl (lv_at hl 0 rfl) ?_
    refine lv_aload_n hx hb dL_law_19 rfl (lv_at hl 3 rfl) ?_
    refine va_slen hx hb hX hbl hbA hS dL_law_20 ?_
    refine tv (z := 6) rfl ?_
    refine lv_bipush (v := 6) hx hb dL_law_21 (by decide) ?_
    refine lv_isub hx hb dL_law_23 ?_
    refine tv (z := 0) (by decide) ?_
    refine lv_icmp_gt (tgt := 1315) hx hb dL_law_24 (by decide) (fun _ => ?_) (fun c_24 => absurd (by decide) c_24)
    refine lv_iconst (v := 1) hx hb dL_law_1315 (by decide) ?_
    refine va_forget (fun q hq => hAq _ (hS.2.2 q hq)) ?_
    refine W.widen (k := 600000) (n := 7302250) (Nat.le_of_ble_eq_true rfl) (Nat.le_of_ble_eq_true rfl) ?_
    exact lw_ret hx hb hr hlocks dL_law_1316
  by_cases e33_22 : z = 22
  · subst e33_22
    refine lv_tableIn (off := 923) (tgt := 956) hx hb dL_law_33 (by decide) (by decide) (by decide) (by decide) ?_
    refine lv_aload_n hx hb dL_law_956 rfl (lv_at hl 2 rfl) ?_
    refine lv_aload_n hx hb dL_law_957 rfl (lv_at hl 3 rfl) ?_
    refine lv_iload_n hx hb dL_law_958 rfl (lv_at hl 0 rfl) ?_
    refine lv_iconst (v := 1) hx hb dL_law_959 (by decide) ?_
    refine lv_iadd hx hb dL_law_960 ?_
    refine tv (z := 1) (by decide) ?_
    refine va_sld hx hb hX hbl hbA hS (by unfold vp_in; decide) dL_law_961 ?_
    refine tv (z := xs 1) rfl ?_
    refine lv_aload_n hx hb dL_law_962 rfl (lv_at hl 3 rfl) ?_
    refine lv_iload_n hx hb dL_law_963 rfl (lv_at hl 0 rfl) ?_
    refine lv_iconst (v := 2) hx hb dL_law_964 (by decide) ?_
    refine lv_iadd hx hb dL_law_965 ?_
    refine tv (z := 2) (by decide) ?_
    refine va_sld hx hb hX hbl hbA hS (by unfold vp_in; decide) dL_law_966 ?_
    refine tv (z := xs 2) rfl ?_
    refine lv_aload_n hx hb dL_law_967 rfl (lv_at hl 3 rfl) ?_
    refine lv_iload_n hx hb dL_law_968 rfl (lv_at hl 0 rfl) ?_
    refine lv_iconst (v := 3) hx hb dL_law_969 (by decide) ?_
    refine lv_iadd hx hb dL_law_970 ?_
    refine tv (z := 3) (by decide) ?_
    refine va_sld hx hb hX hbl hbA hS (by unfold vp_in; decide) dL_law_971 ?_
    refine tv (z := xs 3) rfl ?_
    refine lv_aload_n hx hb dL_law_972 rfl (lv_at hl 3 rfl) ?_
    refine lv_iload_n hx hb dL_law_973 rfl (lv_at hl 0 rfl) ?_
    refine lv_iconst (v := 4) hx hb dL_law_974 (by decide) ?_
    refine lv_iadd hx hb dL_law_975 ?_
    refine tv (z := 4) (by decide) ?_
    refine va_sld hx hb hX hbl hbA hS (by unfold vp_in; decide) dL_law_976 ?_
    refine tv (z := xs 4) rfl ?_
    refine cVR (As := [.int (xs 1), .int (xs 2), .int (xs 3), .int (xs 4)]) (rest := []) (n := 4) (ci := 9) (q0 := 0) X hN hK hP (c_X9_standIn l D cI cB q_1 tp_3 tw_5 nw_10 kp_14 lw_18 lr_26 dd_27 vv_28 tl_29 sc_37 t1_6 t2_7 t3_8 t4_9 (xs 1) (xs 2) (xs 3) (xs 4)) (gV k_997 k_998 k_999 k_92 k_1000) (by decide +kernel) ⟨Nat.le_of_ble_eq_true rfl, Nat.le_of_ble_eq_true rfl⟩ ⟨rfl, rfl⟩ [0, 3] rfl rfl rfl rfl rfl rfl hl.1 (Nat.le_of_ble_eq_true rfl) dL_law_977 ⟨Nat.le_of_ble_eq_true rfl, Nat.le_of_ble_eq_true rfl⟩ (fun r_160 hr_160 => ?_)
    subst hr_160
    refine lv_aload_n hx hb dL_law_980 rfl (lv_at hl 1 rfl) ?_
    refine lv_aload_n hx hb dL_law_981 rfl (lv_at hl 3 rfl) ?_
    refine lv_iload_n hx hb dL_law_982 rfl (lv_at hl 0 rfl) ?_
    refine lv_iconst (v := 1) hx hb dL_law_983 (by decide) ?_
    refine lv_iadd hx hb dL_law_984 ?_
    refine tv (z := 1) (by decide) ?_
    refine va_sld hx hb hX hbl hbA hS (by unfold vp_in; decide) dL_law_985 ?_
    refine tv (z := xs 1) rfl ?_
    refine lv_aload_n hx hb dL_law_986 rfl (lv_at hl 3 rfl) ?_
    refine lv_iload_n hx hb dL_law_987 rfl (lv_at hl 0 rfl) ?_
    refine lv_iconst (v := 2) hx hb dL_law_988 (by decide) ?_
    refine lv_iadd hx hb dL_law_989 ?_
    refine tv (z := 2) (by decide) ?_
    refine va_sld hx hb hX hbl hbA hS (by unfold vp_in; decide) dL_law_990 ?_
    refine tv (z := xs 2) rfl ?_
    refine lv_aload_n hx hb dL_law_991 rfl (lv_at hl 3 rfl) ?_
    refine lv_iload_n hx hb dL_law_992 rfl (lv_at hl 0 rfl) ?_
    refine lv_iconst (v := 3) hx hb dL_law_993 (by decide) ?_
    refine lv_iadd hx hb dL_law_994 ?_
    refine tv (z := 3) (by decide) ?_
    refine va_sld hx hb hX hbl hbA hS (by unfold vp_in; decide) dL_law_995 ?_
    refine tv (z := xs 3) rfl ?_
    refine lv_aload_n hx hb dL_law_996 rfl (lv_at hl 3 rfl) ?_
    refine lv_iload_n hx hb dL_law_997 rfl (lv_at hl 0 rfl) ?_
    refine lv_iconst (v := 4) hx hb dL_law_998 (by decide) ?_
    refine lv_iadd hx hb dL_law_999 ?_
    refine tv (z := 4) (by decide) ?_
    refine va_sld hx hb hX hbl hbA hS (by unfold vp_in; decide) dL_law_1000 ?_
    refine tv (z := xs 4) rfl ?_
    refine cVR (As := [.int (xs 1), .int (xs 2), .int (xs 3), .int (xs 4)]) (rest := [.int (-1000000000)]) (n := 4) (ci := 10) (q0 := 0) X hN hK hP (c_X10_standIn l D cI cB q_45 a_now_47 a_aside_48 a_kept_49 a_keptFrom_50 a_keptTo_51 a_capOf_52 a_leaveFrom_53 a_leaveTo_54 a_amountOf_55 a_doerMany_56 a_doerOf_57 a_tape_58 a_said_59 a_waitsAt_60 a_saidLetter_61 a_saidFrom_62 a_saidHalf_63 a_saidTo_64 a_codes_65 a_clauseOf_66 a_codeFrom_67 a_codeHalf_68 a_codeTo_69 a_stack_70 a_facts_71 a_lineChore_72 a_lineMany_73 a_lineDoer_74 a_newFrom_75 a_newTo_76 a_goFrom_77 a_goTo_78 a_idleFrom_79 a_idleTo_80 a_moreOf_81 a_firstOf_82 a_leftOf_83 a_didOf_84 a_costBy_85 a_gainBy_86 a_hiredOf_87 a_hiredBest_88 a_hiredTo_89 a_turnOf_90 a_turnWho_91 0 0 0 0 (xs 1) (xs 2) (xs 3) (xs 4)) (gV k_1609 k_1610 k_1611 k_103 k_1612) (by decide +kernel) ⟨Nat.le_of_ble_eq_true rfl, Nat.le_of_ble_eq_true rfl⟩ ⟨rfl, rfl⟩ [24] rfl rfl rfl rfl rfl rfl hl.1 (Nat.le_of_ble_eq_true rfl) dL_law_1001 ⟨Nat.le_of_ble_eq_true rfl, Nat.le_of_ble_eq_true rfl⟩ (fun r_161 hr_161 => ?_)
    subst hr_161
    refine lv_icmp_eq (tgt := 1309) hx hb dL_law_1004 (by decide) (fun _ => ?_) (fun c_1004 => absurd (rfl) c_1004)
    refine lv_iinc (v := 6) (lv' := [(3, .int 6), (2, .ref q_45), (1, .ref q_1), (0, .ref b)]) hx hb dL_law_1309 hl (k := 0) rfl (by decide) (by decide) rfl (fun ls hl => ?_)
    refine lv_goto (tgt := 18) hx hb dL_law_1312 (by decide) ?_
    refine lv_iload_n hx hb dL_law_18 rfl (lv_at hl 0 rfl) ?_
    refine lv_aload_n hx hb dL_law_19 rfl (lv_at hl 3 rfl) ?_
    refine va_slen hx hb hX hbl hbA hS dL_law_20 ?_
    refine tv (z := 6) rfl ?_
    refine lv_bipush (v := 6) hx hb dL_law_21 (by decide) ?_
    refine lv_isub hx hb dL_law_23 ?_
    refine tv (z := 0) (by decide) ?_
    refine lv_icmp_gt (tgt := 1315) hx hb dL_law_24 (by decide) (fun _ => ?_) (fun c_24 => absurd (by decide) c_24)
    refine lv_iconst (v := 1) hx hb dL_law_1315 (by decide) ?_
    refine va_forget (fun q hq => hAq _ (hS.2.2 q hq)) ?_
    refine W.widen (k := 600000) (n := 7302250) (Nat.le_of_ble_eq_true rfl) (Nat.le_of_ble_eq_true rfl) ?_
    exact lw_ret hx hb hr hlocks dL_law_1316
  by_cases e33_23 : z = 23
  · subst e33_23
    refine lv_tableIn (off := 976) (tgt := 1009) hx hb dL_law_33 (by decide) (by decide) (by decide) (by decide) ?_
    refine lv_aload_n hx hb dL_law_1009 rfl (lv_at hl 2 rfl) ?_
    refine lv_aload_n hx hb dL_law_1010 rfl (lv_at hl 3 rfl) ?_
    refine lv_iload_n hx hb dL_law_1011 rfl (lv_at hl 0 rfl) ?_
    refine lv_iconst (v := 1) hx hb dL_law_1012 (by decide) ?_
    refine lv_iadd hx hb dL_law_1013 ?_
    refine tv (z := 1) (by decide) ?_
    refine va_sld hx hb hX hbl hbA hS (by unfold vp_in; decide) dL_law_1014 ?_
    refine tv (z := xs 1) rfl ?_
    refine lv_aload_n hx hb dL_law_1015 rfl (lv_at hl 3 rfl) ?_
    refine lv_iload_n hx hb dL_law_1016 rfl (lv_at hl 0 rfl) ?_
    refine lv_iconst (v := 2) hx hb dL_law_1017 (by decide) ?_
    refine lv_iadd hx hb dL_law_1018 ?_
    refine tv (z := 2) (by decide) ?_
    refine va_sld hx hb hX hbl hbA hS (by unfold vp_in; decide) dL_law_1019 ?_
    refine tv (z := xs 2) rfl ?_
    refine lv_aload_n hx hb dL_law_1020 rfl (lv_at hl 3 rfl) ?_
    refine lv_iload_n hx hb dL_law_1021 rfl (lv_at hl 0 rfl) ?_
    refine lv_iconst (v := 3) hx hb dL_law_1022 (by decide) ?_
    refine lv_iadd hx hb dL_law_1023 ?_
    refine tv (z := 3) (by decide) ?_
    refine va_sld hx hb hX hbl hbA hS (by unfold vp_in; decide) dL_law_1024 ?_
    refine tv (z := xs 3) rfl ?_
    refine lv_aload_n hx hb dL_law_1025 rfl (lv_at hl 3 rfl) ?_
    refine lv_iload_n hx hb dL_law_1026 rfl (lv_at hl 0 rfl) ?_
    refine lv_iconst (v := 4) hx hb dL_law_1027 (by decide) ?_
    refine lv_iadd hx hb dL_law_1028 ?_
    refine tv (z := 4) (by decide) ?_
    refine va_sld hx hb hX hbl hbA hS (by unfold vp_in; decide) dL_law_1029 ?_
    refine tv (z := xs 4) rfl ?_
    refine cVR (As := [.int (xs 1), .int (xs 2), .int (xs 3), .int (xs 4)]) (rest := []) (n := 4) (ci := 9) (q0 := 0) X hN hK hP (c_X9_hired l D cI cB q_1 tp_3 tw_5 nw_10 kp_14 lw_18 lr_26 dd_27 vv_28 tl_29 sc_37 t1_6 t2_7 t3_8 t4_9 (xs 1) (xs 2) (xs 3) (xs 4)) (gV k_1001 k_1002 k_1003 k_92 k_1004) (by decide +kernel) ⟨Nat.le_of_ble_eq_true rfl, Nat.le_of_ble_eq_true rfl⟩ ⟨rfl, rfl⟩ [0, 3] rfl rfl rfl rfl rfl rfl hl.1 (Nat.le_of_ble_eq_true rfl) dL_law_1030 ⟨Nat.le_of_ble_eq_true rfl, Nat.le_of_ble_eq_true rfl⟩ (fun r_162 hr_162 => ?_)
    subst hr_162
    refine lv_aload_n hx hb dL_law_1033 rfl (lv_at hl 1 rfl) ?_
    refine lv_aload_n hx hb dL_law_1034 rfl (lv_at hl 3 rfl) ?_
    refine lv_iload_n hx hb dL_law_1035 rfl (lv_at hl 0 rfl) ?_
    refine lv_iconst (v := 1) hx hb dL_law_1036 (by decide) ?_
    refine lv_iadd hx hb dL_law_1037 ?_
    refine tv (z := 1) (by decide) ?_
    refine va_sld hx hb hX hbl hbA hS (by unfold vp_in; decide) dL_law_1038 ?_
    refine tv (z := xs 1) rfl ?_
    refine lv_aload_n hx hb dL_law_1039 rfl (lv_at hl 3 rfl) ?_
    refine lv_iload_n hx hb dL_law_1040 rfl (lv_at hl 0 rfl) ?_
    refine lv_iconst (v := 2) hx hb dL_law_1041 (by decide) ?_
    refine lv_iadd hx hb dL_law_1042 ?_
    refine tv (z := 2) (by decide) ?_
    refine va_sld hx hb hX hbl hbA hS (by unfold vp_in; decide) dL_law_1043 ?_
    refine tv (z := xs 2) rfl ?_
    refine lv_aload_n hx hb dL_law_1044 rfl (lv_at hl 3 rfl) ?_
    refine lv_iload_n hx hb dL_law_1045 rfl (lv_at hl 0 rfl) ?_
    refine lv_iconst (v := 3) hx hb dL_law_1046 (by decide) ?_
    refine lv_iadd hx hb dL_law_1047 ?_
    refine tv (z := 3) (by decide) ?_
    refine va_sld hx hb hX hbl hbA hS (by unfold vp_in; decide) dL_law_1048 ?_
    refine tv (z := xs 3) rfl ?_
    refine lv_aload_n hx hb dL_law_1049 rfl (lv_at hl 3 rfl) ?_
    refine lv_iload_n hx hb dL_law_1050 rfl (lv_at hl 0 rfl) ?_
    refine lv_iconst (v := 4) hx hb dL_law_1051 (by decide) ?_
    refine lv_iadd hx hb dL_law_1052 ?_
    refine tv (z := 4) (by decide) ?_
    refine va_sld hx hb hX hbl hbA hS (by unfold vp_in; decide) dL_law_1053 ?_
    refine tv (z := xs 4) rfl ?_
    refine cVR (As := [.int (xs 1), .int (xs 2), .int (xs 3), .int (xs 4)]) (rest := [.int (-1)]) (n := 4) (ci := 10) (q0 := 0) X hN hK hP (c_X10_hired l D cI cB q_45 a_now_47 a_aside_48 a_kept_49 a_keptFrom_50 a_keptTo_51 a_capOf_52 a_leaveFrom_53 a_leaveTo_54 a_amountOf_55 a_doerMany_56 a_doerOf_57 a_tape_58 a_said_59 a_waitsAt_60 a_saidLetter_61 a_saidFrom_62 a_saidHalf_63 a_saidTo_64 a_codes_65 a_clauseOf_66 a_codeFrom_67 a_codeHalf_68 a_codeTo_69 a_stack_70 a_facts_71 a_lineChore_72 a_lineMany_73 a_lineDoer_74 a_newFrom_75 a_newTo_76 a_goFrom_77 a_goTo_78 a_idleFrom_79 a_idleTo_80 a_moreOf_81 a_firstOf_82 a_leftOf_83 a_didOf_84 a_costBy_85 a_gainBy_86 a_hiredOf_87 a_hiredBest_88 a_hiredTo_89 a_turnOf_90 a_turnWho_91 0 0 0 0 (xs 1) (xs 2) (xs 3) (xs 4)) (gV k_1617 k_1618 k_1619 k_103 k_1620) (by decide +kernel) ⟨Nat.le_of_ble_eq_true rfl, Nat.le_of_ble_eq_true rfl⟩ ⟨rfl, rfl⟩ [24] rfl rfl rfl rfl rfl rfl hl.1 (Nat.le_of_ble_eq_true rfl) dL_law_1054 ⟨Nat.le_of_ble_eq_true rfl, Nat.le_of_ble_eq_true rfl⟩ (fun r_163 hr_163 => ?_)
    subst hr_163
    refine lv_icmp_eq (tgt := 1309) hx hb dL_law_1057 (by decide) (fun _ => ?_) (fun c_1057 => absurd (rfl) c_1057)
    refine lv_iinc (v := 6) (lv' := [(3, .int 6), (2, .ref q_45), (1, .ref q_1), (0, .ref b)]) hx hb dL_law_1309 hl (k := 0) rfl (by decide) (by decide) rfl (fun ls hl => ?_)
    refine lv_goto (tgt := 18) hx hb dL_law_1312 (by decide) ?_
    refine lv_iload_n hx hb dL_law_18 rfl (lv_at hl 0 rfl) ?_
    refine lv_aload_n hx hb dL_law_19 rfl (lv_at hl 3 rfl) ?_
    refine va_slen hx hb hX hbl hbA hS dL_law_20 ?_
    refine tv (z := 6) rfl ?_
    refine lv_bipush (v := 6) hx hb dL_law_21 (by decide) ?_
    refine lv_isub hx hb dL_law_23 ?_
    refine tv (z := 0) (by decide) ?_
    refine lv_icmp_gt (tgt := 1315) hx hb dL_law_24 (by decide) (fun _ => ?_) (fun c_24 => absurd (by decide) c_24)
    refine lv_iconst (v := 1) hx hb dL_law_1315 (by decide) ?_
    refine va_forget (fun q hq => hAq _ (hS.2.2 q hq)) ?_
    refine W.widen (k := 600000) (n := 7302250) (Nat.le_of_ble_eq_true rfl) (Nat.le_of_ble_eq_true rfl) ?_
    exact lw_ret hx hb hr hlocks dL_law_1316
  by_cases e33_24 : z = 24
  · subst e33_24
    refine lv_tableIn (off := 1029) (tgt := 1062) hx hb dL_law_33 (by decide) (by decide) (by decide) (by decide) ?_
    refine lv_aload_n hx hb dL_law_1062 rfl (lv_at hl 2 rfl) ?_
    refine lv_aload_n hx hb dL_law_1063 rfl (lv_at hl 3 rfl) ?_
    refine lv_iload_n hx hb dL_law_1064 rfl (lv_at hl 0 rfl) ?_
    refine lv_iconst (v := 1) hx hb dL_law_1065 (by decide) ?_
    refine lv_iadd hx hb dL_law_1066 ?_
    refine tv (z := 1) (by decide) ?_
    refine va_sld hx hb hX hbl hbA hS (by unfold vp_in; decide) dL_law_1067 ?_
    refine tv (z := xs 1) rfl ?_
    refine lv_aload_n hx hb dL_law_1068 rfl (lv_at hl 3 rfl) ?_
    refine lv_iload_n hx hb dL_law_1069 rfl (lv_at hl 0 rfl) ?_
    refine lv_iconst (v := 2) hx hb dL_law_1070 (by decide) ?_
    refine lv_iadd hx hb dL_law_1071 ?_
    refine tv (z := 2) (by decide) ?_
    refine va_sld hx hb hX hbl hbA hS (by unfold vp_in; decide) dL_law_1072 ?_
    refine tv (z := xs 2) rfl ?_
    refine cVI (As := [.int (xs 1), .int (xs 2)]) (rest := []) (n := 2) (ci := 9) (q0 := 0) (wr := [(tp_3, .inr (5, [.ref by__4, .int 0])), (by__4, .inl (cI, 260, .inl (fun _ => 0))), (t1_6, .inl (cI, 10, .inl (fun _ => 0))), (t2_7, .inl (cI, 12, .inl (fun _ => 0))), (kp_14, .inr (4, [.ref u3_15, .ref f3_16, .ref g3_17, .int 0, .int 0, .int 1])), (u3_15, .inl (cI, 12, .inl (fun _ => 0))), (f3_16, .inl (cI, 10, .inl ff3_40)), (g3_17, .inl (cI, 10, .inl fg3_41)), (q_45, .inr (10, [.ref a_now_47, .ref a_aside_48, .ref a_kept_49, .ref a_keptFrom_50, .ref a_keptTo_51, .ref a_capOf_52, .ref a_leaveFrom_53, .ref a_leaveTo_54, .ref a_amountOf_55, .ref a_doerMany_56, .ref a_doerOf_57, .int 0, .int 0, .int 0, .ref a_tape_58, .int 0, .int 0, .int 0, .int 0, .int 0, .int 0, .int 0, .int 0, .int 0, .int 0, .ref a_said_59, .ref a_waitsAt_60, .ref a_saidLetter_61, .ref a_saidFrom_62, .ref a_saidHalf_63, .ref a_saidTo_64, .ref a_codes_65, .ref a_clauseOf_66, .ref a_codeFrom_67, .ref a_codeHalf_68, .ref a_codeTo_69, .ref a_stack_70, .ref a_facts_71, .ref a_lineChore_72, .ref a_lineMany_73, .ref a_lineDoer_74, .ref a_newFrom_75, .ref a_newTo_76, .int 0, .ref a_goFrom_77, .ref a_goTo_78, .ref a_idleFrom_79, .ref a_idleTo_80, .ref a_moreOf_81, .ref a_firstOf_82, .ref a_leftOf_83, .ref a_didOf_84, .int 0, .int 0, .int 0, .int 0, .ref a_costBy_85, .int 0, .ref a_gainBy_86, .ref a_hiredOf_87, .ref a_hiredBest_88, .ref a_hiredTo_89, .ref a_turnOf_90, .ref a_turnWho_91, .int 0])), (a_now_47, .inl (cI, 15, .inl fw_92)), (a_aside_48, .inl (cI, 15, .inl (fun _ => 0))), (a_kept_49, .inl (cI, 15, .inl (fun _ => 0))), (a_keptFrom_50, .inl (cI, 10, .inl (fun _ => 0))), (a_keptTo_51, .inl (cI, 10, .inl (fun _ => 0))), (a_capOf_52, .inl (cI, 10, .inl (fun _ => 0))), (a_leaveFrom_53, .inl (cI, 10, .inl fl_93)), (a_leaveTo_54, .inl (cI, 10, .inl (fun _ => 0))), (a_amountOf_55, .inl (cI, 12, .inl (fun _ => 0))), (a_tape_58, .inl (cB, 260, .inl (fun _ => 0))), (a_facts_71, .inl (cI, 8, .inl (fun _ => 0))), (a_leftOf_83, .inl (cI, 10, .inl (fun _ => 0))), (a_didOf_84, .inl (cI, 10, .inl (fun _ => 0))), (a_goFrom_77, .inl (cI, 10, .inl (fun _ => 0))), (a_goTo_78, .inl (cI, 10, .inl (fun _ => 0))), (a_idleFrom_79, .inl (cI, 10, .inl (fun _ => 0))), (a_idleTo_80, .inl (cI, 10, .inl (fun _ => 0))), (a_moreOf_81, .inl (cI, 10, .inl (fun _ => 0))), (a_firstOf_82, .inl (cI, 12, .inl fo5_94))]) X hN hK hP hD hS hA (c_X9_mustStay l D cI cB _ q_1 tp_3 tw_5 nw_10 kp_14 lw_18 lr_26 dd_27 vv_28 tl_29 sc_37 t1_6 t2_7 t3_8 t4_9 u2_11 f2_12 g2_13 (fun _ => 0) ff2_38 fg2_39 l1_19 l2_20 l3_21 l4_22 l5_23 l6_24 l7_25 0 0 (fun _ => 0) st_30 m1_34 c1_35 d1_36 0 0 0 0 0 0 0 0 u1_31 f1_32 g1_33 0 0 1 (fun _ => 0) ff_42 fg_43 (fun _ => 0) (fun _ => 0) (fun _ => 0) (xs 1) (xs 2) (fun _ _ => rfl) hw_44.1 hw_44.2.1) (gV k_1012 k_1013 k_1014 k_92 k_1015) (by decide +kernel) ⟨Nat.le_of_ble_eq_true rfl, Nat.le_of_ble_eq_true rfl⟩ ⟨rfl, rfl⟩ [0, 3, 6, 7, 8, 9, 14, 15, 16, 17, 18, 19, 20, 21, 22, 23] [1, 2, 4, 5, 10, 11, 12, 13, 24, 25, 26, 27, 28, 29, 30, 31, 32, 33, 34, 35, 36, 37, 38, 39, 40, 41, 42, 43] rfl rfl (by decide) (by decide) rfl rfl rfl rfl rfl hl.1 (Nat.le_of_ble_eq_true rfl) dL_law_1073 ⟨Nat.le_of_ble_eq_true rfl, Nat.le_of_ble_eq_true rfl⟩ (fun r_164 u H locs hw_165 hP hD hS => ?_)
    try dsimp only at hw_165
    have hP : va_P D vwCl [(tp_3, .inr (5, [.ref by__4, .int 0])), (by__4, .inl (cI, 260, .inl (fun _ => 0))), (t1_6, .inl (cI, 10, .inl (fun _ => 0))), (t2_7, .inl (cI, 12, .inl (fun _ => 0))), (kp_14, .inr (4, [.ref u3_15, .ref f3_16, .ref g3_17, .int 0, .int 0, .int 1])), (u3_15, .inl (cI, 12, .inl (fun _ => 0))), (f3_16, .inl (cI, 10, .inl ff3_40)), (g3_17, .inl (cI, 10, .inl fg3_41)), (q_45, .inr (10, [.ref a_now_47, .ref a_aside_48, .ref a_kept_49, .ref a_keptFrom_50, .ref a_keptTo_51, .ref a_capOf_52, .ref a_leaveFrom_53, .ref a_leaveTo_54, .ref a_amountOf_55, .ref a_doerMany_56, .ref a_doerOf_57, .int 0, .int 0, .int 0, .ref a_tape_58, .int 0, .int 0, .int 0, .int 0, .int 0, .int 0, .int 0, .int 0, .int 0, .int 0, .ref a_said_59, .ref a_waitsAt_60, .ref a_saidLetter_61, .ref a_saidFrom_62, .ref a_saidHalf_63, .ref a_saidTo_64, .ref a_codes_65, .ref a_clauseOf_66, .ref a_codeFrom_67, .ref a_codeHalf_68, .ref a_codeTo_69, .ref a_stack_70, .ref a_facts_71, .ref a_lineChore_72, .ref a_lineMany_73, .ref a_lineDoer_74, .ref a_newFrom_75, .ref a_newTo_76, .int 0, .ref a_goFrom_77, .ref a_goTo_78, .ref a_idleFrom_79, .ref a_idleTo_80, .ref a_moreOf_81, .ref a_firstOf_82, .ref a_leftOf_83, .ref a_didOf_84, .int 0, .int 0, .int 0, .int 0, .ref a_costBy_85, .int 0, .ref a_gainBy_86, .ref a_hiredOf_87, .ref a_hiredBest_88, .ref a_hiredTo_89, .ref a_turnOf_90, .ref a_turnWho_91, .int 0])), (a_now_47, .inl (cI, 15, .inl fw_92)), (a_aside_48, .inl (cI, 15, .inl (fun _ => 0))), (a_kept_49, .inl (cI, 15, .inl (fun _ => 0))), (a_keptFrom_50, .inl (cI, 10, .inl (fun _ => 0))), (a_keptTo_51, .inl (cI, 10, .inl (fun _ => 0))), (a_capOf_52, .inl (cI, 10, .inl (fun _ => 0))), (a_leaveFrom_53, .inl (cI, 10, .inl fl_93)), (a_leaveTo_54, .inl (cI, 10, .inl (fun _ => 0))), (a_amountOf_55, .inl (cI, 12, .inl (fun _ => 0))), (a_tape_58, .inl (cB, 260, .inl (fun _ => 0))), (a_facts_71, .inl (cI, 8, .inl (fun _ => 0))), (a_leftOf_83, .inl (cI, 10, .inl (fun _ => 0))), (a_didOf_84, .inl (cI, 10, .inl (fun _ => 0))), (a_goFrom_77, .inl (cI, 10, .inl (fun _ => 0))), (a_goTo_78, .inl (cI, 10, .inl (fun _ => 0))), (a_idleFrom_79, .inl (cI, 10, .inl (fun _ => 0))), (a_idleTo_80, .inl (cI, 10, .inl (fun _ => 0))), (a_moreOf_81, .inl (cI, 10, .inl (fun _ => 0))), (a_firstOf_82, .inl (cI, 12, .inl fo5_94))] H := hP
    have hD : va_D A [(tp_3, .inr (5, [.ref by__4, .int 0])), (by__4, .inl (cI, 260, .inl (fun _ => 0))), (t1_6, .inl (cI, 10, .inl (fun _ => 0))), (t2_7, .inl (cI, 12, .inl (fun _ => 0))), (kp_14, .inr (4, [.ref u3_15, .ref f3_16, .ref g3_17, .int 0, .int 0, .int 1])), (u3_15, .inl (cI, 12, .inl (fun _ => 0))), (f3_16, .inl (cI, 10, .inl ff3_40)), (g3_17, .inl (cI, 10, .inl fg3_41)), (q_45, .inr (10, [.ref a_now_47, .ref a_aside_48, .ref a_kept_49, .ref a_keptFrom_50, .ref a_keptTo_51, .ref a_capOf_52, .ref a_leaveFrom_53, .ref a_leaveTo_54, .ref a_amountOf_55, .ref a_doerMany_56, .ref a_doerOf_57, .int 0, .int 0, .int 0, .ref a_tape_58, .int 0, .int 0, .int 0, .int 0, .int 0, .int 0, .int 0, .int 0, .int 0, .int 0, .ref a_said_59, .ref a_waitsAt_60, .ref a_saidLetter_61, .ref a_saidFrom_62, .ref a_saidHalf_63, .ref a_saidTo_64, .ref a_codes_65, .ref a_clauseOf_66, .ref a_codeFrom_67, .ref a_codeHalf_68, .ref a_codeTo_69, .ref a_stack_70, .ref a_facts_71, .ref a_lineChore_72, .ref a_lineMany_73, .ref a_lineDoer_74, .ref a_newFrom_75, .ref a_newTo_76, .int 0, .ref a_goFrom_77, .ref a_goTo_78, .ref a_idleFrom_79, .ref a_idleTo_80, .ref a_moreOf_81, .ref a_firstOf_82, .ref a_leftOf_83, .ref a_didOf_84, .int 0, .int 0, .int 0, .int 0, .ref a_costBy_85, .int 0, .ref a_gainBy_86, .ref a_hiredOf_87, .ref a_hiredBest_88, .ref a_hiredTo_89, .ref a_turnOf_90, .ref a_turnWho_91, .int 0])), (a_now_47, .inl (cI, 15, .inl fw_92)), (a_aside_48, .inl (cI, 15, .inl (fun _ => 0))), (a_kept_49, .inl (cI, 15, .inl (fun _ => 0))), (a_keptFrom_50, .inl (cI, 10, .inl (fun _ => 0))), (a_keptTo_51, .inl (cI, 10, .inl (fun _ => 0))), (a_capOf_52, .inl (cI, 10, .inl (fun _ => 0))), (a_leaveFrom_53, .inl (cI, 10, .inl fl_93)), (a_leaveTo_54, .inl (cI, 10, .inl (fun _ => 0))), (a_amountOf_55, .inl (cI, 12, .inl (fun _ => 0))), (a_tape_58, .inl (cB, 260, .inl (fun _ => 0))), (a_facts_71, .inl (cI, 8, .inl (fun _ => 0))), (a_leftOf_83, .inl (cI, 10, .inl (fun _ => 0))), (a_didOf_84, .inl (cI, 10, .inl (fun _ => 0))), (a_goFrom_77, .inl (cI, 10, .inl (fun _ => 0))), (a_goTo_78, .inl (cI, 10, .inl (fun _ => 0))), (a_idleFrom_79, .inl (cI, 10, .inl (fun _ => 0))), (a_idleTo_80, .inl (cI, 10, .inl (fun _ => 0))), (a_moreOf_81, .inl (cI, 10, .inl (fun _ => 0))), (a_firstOf_82, .inl (cI, 12, .inl fo5_94))] := hD
    refine lv_aload_n hx hb dL_law_1076 rfl (lv_at hl 1 rfl) ?_
    refine lv_aload_n hx hb dL_law_1077 rfl (lv_at hl 3 rfl) ?_
    refine lv_iload_n hx hb dL_law_1078 rfl (lv_at hl 0 rfl) ?_
    refine lv_iconst (v := 1) hx hb dL_law_1079 (by decide) ?_
    refine lv_iadd hx hb dL_law_1080 ?_
    refine tv (z := 1) (by decide) ?_
    refine va_sld hx hb hX hbl hbA hS (by unfold vp_in; decide) dL_law_1081 ?_
    refine tv (z := xs 1) rfl ?_
    refine lv_aload_n hx hb dL_law_1082 rfl (lv_at hl 3 rfl) ?_
    refine lv_iload_n hx hb dL_law_1083 rfl (lv_at hl 0 rfl) ?_
    refine lv_iconst (v := 2) hx hb dL_law_1084 (by decide) ?_
    refine lv_iadd hx hb dL_law_1085 ?_
    refine tv (z := 2) (by decide) ?_
    refine va_sld hx hb hX hbl hbA hS (by unfold vp_in; decide) dL_law_1086 ?_
    refine tv (z := xs 2) rfl ?_
    refine cVI (As := [.int (xs 1), .int (xs 2)]) (rest := [.int r_164]) (n := 2) (ci := 10) (q0 := 0) (wr := [(tp_3, .inr (5, [.ref by__4, .int 0])), (by__4, .inl (cI, 260, .inl (fun _ => 0))), (t1_6, .inl (cI, 10, .inl (fun _ => 0))), (t2_7, .inl (cI, 12, .inl (fun _ => 0))), (kp_14, .inr (4, [.ref u3_15, .ref f3_16, .ref g3_17, .int 0, .int 0, .int 1])), (u3_15, .inl (cI, 12, .inl (fun _ => 0))), (f3_16, .inl (cI, 10, .inl ff3_40)), (g3_17, .inl (cI, 10, .inl fg3_41)), (a_kept_49, .inl (cI, 15, .inl (fun _ => 0))), (a_keptFrom_50, .inl (cI, 10, .inl (fun _ => 0))), (a_keptTo_51, .inl (cI, 10, .inl (fun _ => 0))), (a_capOf_52, .inl (cI, 10, .inl (fun _ => 0))), (a_leaveTo_54, .inl (cI, 10, .inl (fun _ => 0))), (a_amountOf_55, .inl (cI, 12, .inl (fun _ => 0))), (a_tape_58, .inl (cB, 260, .inl (fun _ => 0)))]) X hN hK hP hD hS hA (c_X10_mustStay l D cI cB _ q_45 a_now_47 a_aside_48 a_kept_49 a_keptFrom_50 a_keptTo_51 a_capOf_52 a_leaveFrom_53 a_leaveTo_54 a_amountOf_55 a_doerMany_56 a_doerOf_57 a_tape_58 a_said_59 a_waitsAt_60 a_saidLetter_61 a_saidFrom_62 a_saidHalf_63 a_saidTo_64 a_codes_65 a_clauseOf_66 a_codeFrom_67 a_codeHalf_68 a_codeTo_69 a_stack_70 a_facts_71 a_lineChore_72 a_lineMany_73 a_lineDoer_74 a_newFrom_75 a_newTo_76 a_goFrom_77 a_goTo_78 a_idleFrom_79 a_idleTo_80 a_moreOf_81 a_firstOf_82 a_leftOf_83 a_didOf_84 a_costBy_85 a_gainBy_86 a_hiredOf_87 a_hiredBest_88 a_hiredTo_89 a_turnOf_90 a_turnWho_91 0 0 0 0 fw_92 (fun _ => 0) (fun _ => 0) (fun _ => 0) (fun _ => 0) (fun _ => 0) (fun _ => 0) (fun _ => 0) (fun _ => 0) (fun _ => 0) fo5_94 fl_93 (xs 1) (xs 2) hw_95.1.1 hw_95.1.2.1 hw_95.1.2.2 hw_95.2) (gV k_1625 k_1626 k_1627 k_103 k_1628) (by decide +kernel) ⟨Nat.le_of_ble_eq_true rfl, Nat.le_of_ble_eq_true rfl⟩ ⟨rfl, rfl⟩ [8, 9, 10, 19, 20, 21, 22, 23, 24, 25, 26, 27, 15] [0, 1, 2, 3, 4, 5, 6, 7, 11, 12, 13, 14, 16, 17, 18] rfl rfl (by decide) (by decide) rfl rfl rfl rfl rfl hl.1 (Nat.le_of_ble_eq_true rfl) dL_law_1087 ⟨Nat.le_of_ble_eq_true rfl, Nat.le_of_ble_eq_true rfl⟩ (fun r_166 u H locs hw_167 hP hD hS => ?_)
    try dsimp only at hw_167
    have hP : va_P D vwCl [(tp_3, .inr (5, [.ref by__4, .int 0])), (by__4, .inl (cI, 260, .inl (fun _ => 0))), (t1_6, .inl (cI, 10, .inl (fun _ => 0))), (t2_7, .inl (cI, 12, .inl (fun _ => 0))), (kp_14, .inr (4, [.ref u3_15, .ref f3_16, .ref g3_17, .int 0, .int 0, .int 1])), (u3_15, .inl (cI, 12, .inl (fun _ => 0))), (f3_16, .inl (cI, 10, .inl ff3_40)), (g3_17, .inl (cI, 10, .inl fg3_41)), (a_kept_49, .inl (cI, 15, .inl (fun _ => 0))), (a_keptFrom_50, .inl (cI, 10, .inl (fun _ => 0))), (a_keptTo_51, .inl (cI, 10, .inl (fun _ => 0))), (a_capOf_52, .inl (cI, 10, .inl (fun _ => 0))), (a_leaveTo_54, .inl (cI, 10, .inl (fun _ => 0))), (a_amountOf_55, .inl (cI, 12, .inl (fun _ => 0))), (a_tape_58, .inl (cB, 260, .inl (fun _ => 0)))] H := hP
    have hD : va_D A [(tp_3, .inr (5, [.ref by__4, .int 0])), (by__4, .inl (cI, 260, .inl (fun _ => 0))), (t1_6, .inl (cI, 10, .inl (fun _ => 0))), (t2_7, .inl (cI, 12, .inl (fun _ => 0))), (kp_14, .inr (4, [.ref u3_15, .ref f3_16, .ref g3_17, .int 0, .int 0, .int 1])), (u3_15, .inl (cI, 12, .inl (fun _ => 0))), (f3_16, .inl (cI, 10, .inl ff3_40)), (g3_17, .inl (cI, 10, .inl fg3_41)), (a_kept_49, .inl (cI, 15, .inl (fun _ => 0))), (a_keptFrom_50, .inl (cI, 10, .inl (fun _ => 0))), (a_keptTo_51, .inl (cI, 10, .inl (fun _ => 0))), (a_capOf_52, .inl (cI, 10, .inl (fun _ => 0))), (a_leaveTo_54, .inl (cI, 10, .inl (fun _ => 0))), (a_amountOf_55, .inl (cI, 12, .inl (fun _ => 0))), (a_tape_58, .inl (cB, 260, .inl (fun _ => 0)))] := hD
    refine lv_icmp_eq (tgt := 1309) hx hb dL_law_1090 (by decide) (fun _ => ?_) (fun c_1090 => absurd (hw_165.trans hw_167.symm) c_1090)
    refine lv_iinc (v := 6) (lv' := [(3, .int 6), (2, .ref q_45), (1, .ref q_1), (0, .ref b)]) hx hb dL_law_1309 hl (k := 0) rfl (by decide) (by decide) rfl (fun ls hl => ?_)
    refine lv_goto (tgt := 18) hx hb dL_law_1312 (by decide) ?_
    refine lv_iload_n hx hb dL_law_18 rfl (lv_at hl 0 rfl) ?_
    refine lv_aload_n hx hb dL_law_19 rfl (lv_at hl 3 rfl) ?_
    refine va_slen hx hb hX hbl hbA hS dL_law_20 ?_
    refine tv (z := 6) rfl ?_
    refine lv_bipush (v := 6) hx hb dL_law_21 (by decide) ?_
    refine lv_isub hx hb dL_law_23 ?_
    refine tv (z := 0) (by decide) ?_
    refine lv_icmp_gt (tgt := 1315) hx hb dL_law_24 (by decide) (fun _ => ?_) (fun c_24 => absurd (by decide) c_24)
    refine lv_iconst (v := 1) hx hb dL_law_1315 (by decide) ?_
    refine va_forget (fun q hq => hAq _ (hS.2.2 q hq)) ?_
    refine W.widen (k := 600000) (n := 7302250) (Nat.le_of_ble_eq_true rfl) (Nat.le_of_ble_eq_true rfl) ?_
    exact lw_ret hx hb hr hlocks dL_law_1316
  by_cases e33_25 : z = 25
  · subst e33_25
    refine lv_tableIn (off := 1062) (tgt := 1095) hx hb dL_law_33 (by decide) (by decide) (by decide) (by decide) ?_
    refine lv_aload_n hx hb dL_law_1095 rfl (lv_at hl 2 rfl) ?_
    refine lv_aload_n hx hb dL_law_1096 rfl (lv_at hl 3 rfl) ?_
    refine lv_iload_n hx hb dL_law_1097 rfl (lv_at hl 0 rfl) ?_
    refine lv_iconst (v := 1) hx hb dL_law_1098 (by decide) ?_
    refine lv_iadd hx hb dL_law_1099 ?_
    refine tv (z := 1) (by decide) ?_
    refine va_sld hx hb hX hbl hbA hS (by unfold vp_in; decide) dL_law_1100 ?_
    refine tv (z := xs 1) rfl ?_
    refine lv_aload_n hx hb dL_law_1101 rfl (lv_at hl 3 rfl) ?_
    refine lv_iload_n hx hb dL_law_1102 rfl (lv_at hl 0 rfl) ?_
    refine lv_iconst (v := 2) hx hb dL_law_1103 (by decide) ?_
    refine lv_iadd hx hb dL_law_1104 ?_
    refine tv (z := 2) (by decide) ?_
    refine va_sld hx hb hX hbl hbA hS (by unfold vp_in; decide) dL_law_1105 ?_
    refine tv (z := xs 2) rfl ?_
    refine cVR (As := [.int (xs 1), .int (xs 2)]) (rest := []) (n := 2) (ci := 9) (q0 := 0) X hN hK hP (c_X9_halfDone l D cI cB q_1 tp_3 tw_5 nw_10 kp_14 lw_18 lr_26 dd_27 vv_28 tl_29 sc_37 t1_6 t2_7 t3_8 t4_9 (xs 1) (xs 2)) (gV k_1024 k_1025 k_1026 k_92 k_1027) (by decide +kernel) ⟨Nat.le_of_ble_eq_true rfl, Nat.le_of_ble_eq_true rfl⟩ ⟨rfl, rfl⟩ [0, 3] rfl rfl rfl rfl rfl rfl hl.1 (Nat.le_of_ble_eq_true rfl) dL_law_1106 ⟨Nat.le_of_ble_eq_true rfl, Nat.le_of_ble_eq_true rfl⟩ (fun r_168 hr_168 => ?_)
    subst hr_168
    refine lv_aload_n hx hb dL_law_1109 rfl (lv_at hl 1 rfl) ?_
    refine lv_aload_n hx hb dL_law_1110 rfl (lv_at hl 3 rfl) ?_
    refine lv_iload_n hx hb dL_law_1111 rfl (lv_at hl 0 rfl) ?_
    refine lv_iconst (v := 1) hx hb dL_law_1112 (by decide) ?_
    refine lv_iadd hx hb dL_law_1113 ?_
    refine tv (z := 1) (by decide) ?_
    refine va_sld hx hb hX hbl hbA hS (by unfold vp_in; decide) dL_law_1114 ?_
    refine tv (z := xs 1) rfl ?_
    refine lv_aload_n hx hb dL_law_1115 rfl (lv_at hl 3 rfl) ?_
    refine lv_iload_n hx hb dL_law_1116 rfl (lv_at hl 0 rfl) ?_
    refine lv_iconst (v := 2) hx hb dL_law_1117 (by decide) ?_
    refine lv_iadd hx hb dL_law_1118 ?_
    refine tv (z := 2) (by decide) ?_
    refine va_sld hx hb hX hbl hbA hS (by unfold vp_in; decide) dL_law_1119 ?_
    refine tv (z := xs 2) rfl ?_
    refine cVR (As := [.int (xs 1), .int (xs 2)]) (rest := [.int (-1000000000)]) (n := 2) (ci := 10) (q0 := 0) X hN hK hP (c_X10_halfDone l D cI cB q_45 a_now_47 a_aside_48 a_kept_49 a_keptFrom_50 a_keptTo_51 a_capOf_52 a_leaveFrom_53 a_leaveTo_54 a_amountOf_55 a_doerMany_56 a_doerOf_57 a_tape_58 a_said_59 a_waitsAt_60 a_saidLetter_61 a_saidFrom_62 a_saidHalf_63 a_saidTo_64 a_codes_65 a_clauseOf_66 a_codeFrom_67 a_codeHalf_68 a_codeTo_69 a_stack_70 a_facts_71 a_lineChore_72 a_lineMany_73 a_lineDoer_74 a_newFrom_75 a_newTo_76 a_goFrom_77 a_goTo_78 a_idleFrom_79 a_idleTo_80 a_moreOf_81 a_firstOf_82 a_leftOf_83 a_didOf_84 a_costBy_85 a_gainBy_86 a_hiredOf_87 a_hiredBest_88 a_hiredTo_89 a_turnOf_90 a_turnWho_91 0 0 0 0 (xs 1) (xs 2)) (gV k_1629 k_1630 k_1631 k_103 k_1632) (by decide +kernel) ⟨Nat.le_of_ble_eq_true rfl, Nat.le_of_ble_eq_true rfl⟩ ⟨rfl, rfl⟩ [24] rfl rfl rfl rfl rfl rfl hl.1 (Nat.le_of_ble_eq_true rfl) dL_law_1120 ⟨Nat.le_of_ble_eq_true rfl, Nat.le_of_ble_eq_true rfl⟩ (fun r_169 hr_169 => ?_)
    subst hr_169
    refine lv_icmp_eq (tgt := 1309) hx hb dL_law_1123 (by decide) (fun _ => ?_) (fun c_1123 => absurd (rfl) c_1123)
    refine lv_iinc (v := 6) (lv' := [(3, .int 6), (2, .ref q_45), (1, .ref q_1), (0, .ref b)]) hx hb dL_law_1309 hl (k := 0) rfl (by decide) (by decide) rfl (fun ls hl => ?_)
    refine lv_goto (tgt := 18) hx hb dL_law_1312 (by decide) ?_
    refine lv_iload_n hx hb dL_law_18 rfl (lv_at hl 0 rfl) ?_
    refine lv_aload_n hx hb dL_law_19 rfl (lv_at hl 3 rfl) ?_
    refine va_slen hx hb hX hbl hbA hS dL_law_20 ?_
    refine tv (z := 6) rfl ?_
    refine lv_bipush (v := 6) hx hb dL_law_21 (by decide) ?_
    refine lv_isub hx hb dL_law_23 ?_
    refine tv (z := 0) (by decide) ?_
    refine lv_icmp_gt (tgt := 1315) hx hb dL_law_24 (by decide) (fun _ => ?_) (fun c_24 => absurd (by decide) c_24)
    refine lv_iconst (v := 1) hx hb dL_law_1315 (by decide) ?_
    refine va_forget (fun q hq => hAq _ (hS.2.2 q hq)) ?_
    refine W.widen (k := 600000) (n := 7302250) (Nat.le_of_ble_eq_true rfl) (Nat.le_of_ble_eq_true rfl) ?_
    exact lw_ret hx hb hr hlocks dL_law_1316
  by_cases e33_26 : z = 26
  · subst e33_26
    refine lv_tableIn (off := 1095) (tgt := 1128) hx hb dL_law_33 (by decide) (by decide) (by decide) (by decide) ?_
    refine lv_aload_n hx hb dL_law_1128 rfl (lv_at hl 2 rfl) ?_
    refine lv_aload_n hx hb dL_law_1129 rfl (lv_at hl 3 rfl) ?_
    refine lv_iload_n hx hb dL_law_1130 rfl (lv_at hl 0 rfl) ?_
    refine lv_iconst (v := 1) hx hb dL_law_1131 (by decide) ?_
    refine lv_iadd hx hb dL_law_1132 ?_
    refine tv (z := 1) (by decide) ?_
    refine va_sld hx hb hX hbl hbA hS (by unfold vp_in; decide) dL_law_1133 ?_
    refine tv (z := xs 1) rfl ?_
    refine lv_aload_n hx hb dL_law_1134 rfl (lv_at hl 3 rfl) ?_
    refine lv_iload_n hx hb dL_law_1135 rfl (lv_at hl 0 rfl) ?_
    refine lv_iconst (v := 2) hx hb dL_law_1136 (by decide) ?_
    refine lv_iadd hx hb dL_law_1137 ?_
    refine tv (z := 2) (by decide) ?_
    refine va_sld hx hb hX hbl hbA hS (by unfold vp_in; decide) dL_law_1138 ?_
    refine tv (z := xs 2) rfl ?_
    refine lv_aload_n hx hb dL_law_1139 rfl (lv_at hl 3 rfl) ?_
    refine lv_iload_n hx hb dL_law_1140 rfl (lv_at hl 0 rfl) ?_
    refine lv_iconst (v := 3) hx hb dL_law_1141 (by decide) ?_
    refine lv_iadd hx hb dL_law_1142 ?_
    refine tv (z := 3) (by decide) ?_
    refine va_sld hx hb hX hbl hbA hS (by unfold vp_in; decide) dL_law_1143 ?_
    refine tv (z := xs 3) rfl ?_
    refine cVR (As := [.int (xs 1), .int (xs 2), .int (xs 3)]) (rest := []) (n := 3) (ci := 9) (q0 := 0) X hN hK hP (c_X9_byTurns l D cI cB q_1 tp_3 tw_5 nw_10 kp_14 lw_18 lr_26 dd_27 vv_28 tl_29 sc_37 t1_6 t2_7 t3_8 t4_9 (xs 1) (xs 2) (xs 3)) (gV k_1032 k_1033 k_1034 k_92 k_1035) (by decide +kernel) ⟨Nat.le_of_ble_eq_true rfl, Nat.le_of_ble_eq_true rfl⟩ ⟨rfl, rfl⟩ [0, 3] rfl rfl rfl rfl rfl rfl hl.1 (Nat.le_of_ble_eq_true rfl) dL_law_1144 ⟨Nat.le_of_ble_eq_true rfl, Nat.le_of_ble_eq_true rfl⟩ (fun r_170 hr_170 => ?_)
    subst hr_170
    refine lv_aload_n hx hb dL_law_1147 rfl (lv_at hl 1 rfl) ?_
    refine lv_aload_n hx hb dL_law_1148 rfl (lv_at hl 3 rfl) ?_
    refine lv_iload_n hx hb dL_law_1149 rfl (lv_at hl 0 rfl) ?_
    refine lv_iconst (v := 1) hx hb dL_law_1150 (by decide) ?_
    refine lv_iadd hx hb dL_law_1151 ?_
    refine tv (z := 1) (by decide) ?_
    refine va_sld hx hb hX hbl hbA hS (by unfold vp_in; decide) dL_law_1152 ?_
    refine tv (z := xs 1) rfl ?_
    refine lv_aload_n hx hb dL_law_1153 rfl (lv_at hl 3 rfl) ?_
    refine lv_iload_n hx hb dL_law_1154 rfl (lv_at hl 0 rfl) ?_
    refine lv_iconst (v := 2) hx hb dL_law_1155 (by decide) ?_
    refine lv_iadd hx hb dL_law_1156 ?_
    refine tv (z := 2) (by decide) ?_
    refine va_sld hx hb hX hbl hbA hS (by unfold vp_in; decide) dL_law_1157 ?_
    refine tv (z := xs 2) rfl ?_
    refine lv_aload_n hx hb dL_law_1158 rfl (lv_at hl 3 rfl) ?_
    refine lv_iload_n hx hb dL_law_1159 rfl (lv_at hl 0 rfl) ?_
    refine lv_iconst (v := 3) hx hb dL_law_1160 (by decide) ?_
    refine lv_iadd hx hb dL_law_1161 ?_
    refine tv (z := 3) (by decide) ?_
    refine va_sld hx hb hX hbl hbA hS (by unfold vp_in; decide) dL_law_1162 ?_
    refine tv (z := xs 3) rfl ?_
    refine cVR (As := [.int (xs 1), .int (xs 2), .int (xs 3)]) (rest := [.int (-1)]) (n := 3) (ci := 10) (q0 := 0) X hN hK hP (c_X10_byTurns l D cI cB q_45 a_now_47 a_aside_48 a_kept_49 a_keptFrom_50 a_keptTo_51 a_capOf_52 a_leaveFrom_53 a_leaveTo_54 a_amountOf_55 a_doerMany_56 a_doerOf_57 a_tape_58 a_said_59 a_waitsAt_60 a_saidLetter_61 a_saidFrom_62 a_saidHalf_63 a_saidTo_64 a_codes_65 a_clauseOf_66 a_codeFrom_67 a_codeHalf_68 a_codeTo_69 a_stack_70 a_facts_71 a_lineChore_72 a_lineMany_73 a_lineDoer_74 a_newFrom_75 a_newTo_76 a_goFrom_77 a_goTo_78 a_idleFrom_79 a_idleTo_80 a_moreOf_81 a_firstOf_82 a_leftOf_83 a_didOf_84 a_costBy_85 a_gainBy_86 a_hiredOf_87 a_hiredBest_88 a_hiredTo_89 a_turnOf_90 a_turnWho_91 0 0 0 0 (xs 1) (xs 2) (xs 3)) (gV k_1637 k_1638 k_1639 k_103 k_1640) (by decide +kernel) ⟨Nat.le_of_ble_eq_true rfl, Nat.le_of_ble_eq_true rfl⟩ ⟨rfl, rfl⟩ [24] rfl rfl rfl rfl rfl rfl hl.1 (Nat.le_of_ble_eq_true rfl) dL_law_1163 ⟨Nat.le_of_ble_eq_true rfl, Nat.le_of_ble_eq_true rfl⟩ (fun r_171 hr_171 => ?_)
    subst hr_171
    refine lv_icmp_eq (tgt := 1309) hx hb dL_law_1166 (by decide) (fun _ => ?_) (fun c_1166 => absurd (rfl) c_1166)
    refine lv_iinc (v := 6) (lv' := [(3, .int 6), (2, .ref q_45), (1, .ref q_1), (0, .ref b)]) hx hb dL_law_1309 hl (k := 0) rfl (by decide) (by decide) rfl (fun ls hl => ?_)
    refine lv_goto (tgt := 18) hx hb dL_law_1312 (by decide) ?_
    refine lv_iload_n hx hb dL_law_18 rfl (lv_at hl 0 rfl) ?_
    refine lv_aload_n hx hb dL_law_19 rfl (lv_at hl 3 rfl) ?_
    refine va_slen hx hb hX hbl hbA hS dL_law_20 ?_
    refine tv (z := 6) rfl ?_
    refine lv_bipush (v := 6) hx hb dL_law_21 (by decide) ?_
    refine lv_isub hx hb dL_law_23 ?_
    refine tv (z := 0) (by decide) ?_
    refine lv_icmp_gt (tgt := 1315) hx hb dL_law_24 (by decide) (fun _ => ?_) (fun c_24 => absurd (by decide) c_24)
    refine lv_iconst (v := 1) hx hb dL_law_1315 (by decide) ?_
    refine va_forget (fun q hq => hAq _ (hS.2.2 q hq)) ?_
    refine W.widen (k := 600000) (n := 7302250) (Nat.le_of_ble_eq_true rfl) (Nat.le_of_ble_eq_true rfl) ?_
    exact lw_ret hx hb hr hlocks dL_law_1316
  by_cases e33_27 : z = 27
  · subst e33_27
    refine lv_tableIn (off := 1138) (tgt := 1171) hx hb dL_law_33 (by decide) (by decide) (by decide) (by decide) ?_
    refine lv_aload_n hx hb dL_law_1171 rfl (lv_at hl 2 rfl) ?_
    refine lv_aload_n hx hb dL_law_1172 rfl (lv_at hl 3 rfl) ?_
    refine lv_iload_n hx hb dL_law_1173 rfl (lv_at hl 0 rfl) ?_
    refine lv_iconst (v := 1) hx hb dL_law_1174 (by decide) ?_
    refine lv_iadd hx hb dL_law_1175 ?_
    refine tv (z := 1) (by decide) ?_
    refine va_sld hx hb hX hbl hbA hS (by unfold vp_in; decide) dL_law_1176 ?_
    refine tv (z := xs 1) rfl ?_
    refine lv_aload_n hx hb dL_law_1177 rfl (lv_at hl 3 rfl) ?_
    refine lv_iload_n hx hb dL_law_1178 rfl (lv_at hl 0 rfl) ?_
    refine lv_iconst (v := 2) hx hb dL_law_1179 (by decide) ?_
    refine lv_iadd hx hb dL_law_1180 ?_
    refine tv (z := 2) (by decide) ?_
    refine va_sld hx hb hX hbl hbA hS (by unfold vp_in; decide) dL_law_1181 ?_
    refine tv (z := xs 2) rfl ?_
    refine lv_aload_n hx hb dL_law_1182 rfl (lv_at hl 3 rfl) ?_
    refine lv_iload_n hx hb dL_law_1183 rfl (lv_at hl 0 rfl) ?_
    refine lv_iconst (v := 3) hx hb dL_law_1184 (by decide) ?_
    refine lv_iadd hx hb dL_law_1185 ?_
    refine tv (z := 3) (by decide) ?_
    refine va_sld hx hb hX hbl hbA hS (by unfold vp_in; decide) dL_law_1186 ?_
    refine tv (z := xs 3) rfl ?_
    refine cVR (As := [.int (xs 1), .int (xs 2), .int (xs 3)]) (rest := []) (n := 3) (ci := 9) (q0 := 0) X hN hK hP (c_X9_firstDoer l D cI cB q_1 tp_3 tw_5 nw_10 kp_14 lw_18 lr_26 dd_27 vv_28 tl_29 sc_37 t1_6 t2_7 t3_8 t4_9 (xs 1) (xs 2) (xs 3)) (gV k_1046 k_1047 k_1048 k_92 k_1049) (by decide +kernel) ⟨Nat.le_of_ble_eq_true rfl, Nat.le_of_ble_eq_true rfl⟩ ⟨rfl, rfl⟩ [0, 3] rfl rfl rfl rfl rfl rfl hl.1 (Nat.le_of_ble_eq_true rfl) dL_law_1187 ⟨Nat.le_of_ble_eq_true rfl, Nat.le_of_ble_eq_true rfl⟩ (fun r_172 hr_172 => ?_)
    subst hr_172
    refine lv_aload_n hx hb dL_law_1190 rfl (lv_at hl 1 rfl) ?_
    refine lv_aload_n hx hb dL_law_1191 rfl (lv_at hl 3 rfl) ?_
    refine lv_iload_n hx hb dL_law_1192 rfl (lv_at hl 0 rfl) ?_
    refine lv_iconst (v := 1) hx hb dL_law_1193 (by decide) ?_
    refine lv_iadd hx hb dL_law_1194 ?_
    refine tv (z := 1) (by decide) ?_
    refine va_sld hx hb hX hbl hbA hS (by unfold vp_in; decide) dL_law_1195 ?_
    refine tv (z := xs 1) rfl ?_
    refine lv_aload_n hx hb dL_law_1196 rfl (lv_at hl 3 rfl) ?_
    refine lv_iload_n hx hb dL_law_1197 rfl (lv_at hl 0 rfl) ?_
    refine lv_iconst (v := 2) hx hb dL_law_1198 (by decide) ?_
    refine lv_iadd hx hb dL_law_1199 ?_
    refine tv (z := 2) (by decide) ?_
    refine va_sld hx hb hX hbl hbA hS (by unfold vp_in; decide) dL_law_1200 ?_
    refine tv (z := xs 2) rfl ?_
    refine lv_aload_n hx hb dL_law_1201 rfl (lv_at hl 3 rfl) ?_
    refine lv_iload_n hx hb dL_law_1202 rfl (lv_at hl 0 rfl) ?_
    refine lv_iconst (v := 3) hx hb dL_law_1203 (by decide) ?_
    refine lv_iadd hx hb dL_law_1204 ?_
    refine tv (z := 3) (by decide) ?_
    refine va_sld hx hb hX hbl hbA hS (by unfold vp_in; decide) dL_law_1205 ?_
    refine tv (z := xs 3) rfl ?_
    refine cVR (As := [.int (xs 1), .int (xs 2), .int (xs 3)]) (rest := [.int (-1)]) (n := 3) (ci := 10) (q0 := 0) X hN hK hP (c_X10_firstDoer l D cI cB q_45 a_now_47 a_aside_48 a_kept_49 a_keptFrom_50 a_keptTo_51 a_capOf_52 a_leaveFrom_53 a_leaveTo_54 a_amountOf_55 a_doerMany_56 a_doerOf_57 a_tape_58 a_said_59 a_waitsAt_60 a_saidLetter_61 a_saidFrom_62 a_saidHalf_63 a_saidTo_64 a_codes_65 a_clauseOf_66 a_codeFrom_67 a_codeHalf_68 a_codeTo_69 a_stack_70 a_facts_71 a_lineChore_72 a_lineMany_73 a_lineDoer_74 a_newFrom_75 a_newTo_76 a_goFrom_77 a_goTo_78 a_idleFrom_79 a_idleTo_80 a_moreOf_81 a_firstOf_82 a_leftOf_83 a_didOf_84 a_costBy_85 a_gainBy_86 a_hiredOf_87 a_hiredBest_88 a_hiredTo_89 a_turnOf_90 a_turnWho_91 0 0 0 0 (xs 1) (xs 2) (xs 3)) (gV k_1645 k_1646 k_1647 k_103 k_1648) (by decide +kernel) ⟨Nat.le_of_ble_eq_true rfl, Nat.le_of_ble_eq_true rfl⟩ ⟨rfl, rfl⟩ [24] rfl rfl rfl rfl rfl rfl hl.1 (Nat.le_of_ble_eq_true rfl) dL_law_1206 ⟨Nat.le_of_ble_eq_true rfl, Nat.le_of_ble_eq_true rfl⟩ (fun r_173 hr_173 => ?_)
    subst hr_173
    refine lv_icmp_eq (tgt := 1309) hx hb dL_law_1209 (by decide) (fun _ => ?_) (fun c_1209 => absurd (rfl) c_1209)
    refine lv_iinc (v := 6) (lv' := [(3, .int 6), (2, .ref q_45), (1, .ref q_1), (0, .ref b)]) hx hb dL_law_1309 hl (k := 0) rfl (by decide) (by decide) rfl (fun ls hl => ?_)
    refine lv_goto (tgt := 18) hx hb dL_law_1312 (by decide) ?_
    refine lv_iload_n hx hb dL_law_18 rfl (lv_at hl 0 rfl) ?_
    refine lv_aload_n hx hb dL_law_19 rfl (lv_at hl 3 rfl) ?_
    refine va_slen hx hb hX hbl hbA hS dL_law_20 ?_
    refine tv (z := 6) rfl ?_
    refine lv_bipush (v := 6) hx hb dL_law_21 (by decide) ?_
    refine lv_isub hx hb dL_law_23 ?_
    refine tv (z := 0) (by decide) ?_
    refine lv_icmp_gt (tgt := 1315) hx hb dL_law_24 (by decide) (fun _ => ?_) (fun c_24 => absurd (by decide) c_24)
    refine lv_iconst (v := 1) hx hb dL_law_1315 (by decide) ?_
    refine va_forget (fun q hq => hAq _ (hS.2.2 q hq)) ?_
    refine W.widen (k := 600000) (n := 7302250) (Nat.le_of_ble_eq_true rfl) (Nat.le_of_ble_eq_true rfl) ?_
    exact lw_ret hx hb hr hlocks dL_law_1316
  by_cases e33_28 : z = 28
  · subst e33_28
    refine lv_tableIn (off := 1181) (tgt := 1214) hx hb dL_law_33 (by decide) (by decide) (by decide) (by decide) ?_
    refine lv_aload_n hx hb dL_law_1214 rfl (lv_at hl 2 rfl) ?_
    refine lv_aload_n hx hb dL_law_1215 rfl (lv_at hl 3 rfl) ?_
    refine lv_iload_n hx hb dL_law_1216 rfl (lv_at hl 0 rfl) ?_
    refine lv_iconst (v := 1) hx hb dL_law_1217 (by decide) ?_
    refine lv_iadd hx hb dL_law_1218 ?_
    refine tv (z := 1) (by decide) ?_
    refine va_sld hx hb hX hbl hbA hS (by unfold vp_in; decide) dL_law_1219 ?_
    refine tv (z := xs 1) rfl ?_
    refine cVI (As := [.int (xs 1)]) (rest := []) (n := 1) (ci := 9) (q0 := 0) (wr := [(tp_3, .inr (5, [.ref by__4, .int 0])), (by__4, .inl (cI, 260, .inl (fun _ => 0))), (tw_5, .inr (7, [.int 0, .int 0, .int 0, .ref t1_6, .ref t2_7, .ref t3_8, .ref t4_9])), (t1_6, .inl (cI, 10, .inl (fun _ => 0))), (t2_7, .inl (cI, 12, .inl (fun _ => 0))), (u2_11, .inl (cI, 12, .inl (fun _ => 0))), (f2_12, .inl (cI, 10, .inl ff2_38)), (g2_13, .inl (cI, 10, .inl fg2_39)), (kp_14, .inr (4, [.ref u3_15, .ref f3_16, .ref g3_17, .int 0, .int 0, .int 1])), (u3_15, .inl (cI, 12, .inl (fun _ => 0))), (f3_16, .inl (cI, 10, .inl ff3_40)), (g3_17, .inl (cI, 10, .inl fg3_41)), (lw_18, .inr (1, [.ref l1_19, .ref l2_20, .ref l3_21, .ref l4_22, .ref l5_23, .ref l6_24, .ref l7_25, .int 0, .int 0])), (l6_24, .inl (cI, 8, .inl (fun _ => 0))), (tl_29, .inr (8, [.ref tw_5, .ref lw_18, .ref st_30, .ref m1_34, .ref c1_35, .ref d1_36, .int 0, .int 0, .int 0, .int 0, .int 0, .int 0, .int 0, .int 0])), (st_30, .inr (4, [.ref u1_31, .ref f1_32, .ref g1_33, .int 0, .int 0, .int 1])), (u1_31, .inl (cI, 12, .inl (fun _ => 0))), (f1_32, .inl (cI, 10, .inl ff_42)), (g1_33, .inl (cI, 10, .inl fg_43)), (m1_34, .inl (cI, 10, .inl (fun _ => 0))), (c1_35, .inl (cI, 10, .inl (fun _ => 0))), (d1_36, .inl (cI, 10, .inl (fun _ => 0))), (q_45, .inr (10, [.ref a_now_47, .ref a_aside_48, .ref a_kept_49, .ref a_keptFrom_50, .ref a_keptTo_51, .ref a_capOf_52, .ref a_leaveFrom_53, .ref a_leaveTo_54, .ref a_amountOf_55, .ref a_doerMany_56, .ref a_doerOf_57, .int 0, .int 0, .int 0, .ref a_tape_58, .int 0, .int 0, .int 0, .int 0, .int 0, .int 0, .int 0, .int 0, .int 0, .int 0, .ref a_said_59, .ref a_waitsAt_60, .ref a_saidLetter_61, .ref a_saidFrom_62, .ref a_saidHalf_63, .ref a_saidTo_64, .ref a_codes_65, .ref a_clauseOf_66, .ref a_codeFrom_67, .ref a_codeHalf_68, .ref a_codeTo_69, .ref a_stack_70, .ref a_facts_71, .ref a_lineChore_72, .ref a_lineMany_73, .ref a_lineDoer_74, .ref a_newFrom_75, .ref a_newTo_76, .int 0, .ref a_goFrom_77, .ref a_goTo_78, .ref a_idleFrom_79, .ref a_idleTo_80, .ref a_moreOf_81, .ref a_firstOf_82, .ref a_leftOf_83, .ref a_didOf_84, .int 0, .int 0, .int 0, .int 0, .ref a_costBy_85, .int 0, .ref a_gainBy_86, .ref a_hiredOf_87, .ref a_hiredBest_88, .ref a_hiredTo_89, .ref a_turnOf_90, .ref a_turnWho_91, .int 0])), (a_now_47, .inl (cI, 15, .inl fw_92)), (a_aside_48, .inl (cI, 15, .inl (fun _ => 0))), (a_kept_49, .inl (cI, 15, .inl (fun _ => 0))), (a_keptFrom_50, .inl (cI, 10, .inl (fun _ => 0))), (a_keptTo_51, .inl (cI, 10, .inl (fun _ => 0))), (a_capOf_52, .inl (cI, 10, .inl (fun _ => 0))), (a_leaveFrom_53, .inl (cI, 10, .inl fl_93)), (a_leaveTo_54, .inl (cI, 10, .inl (fun _ => 0))), (a_amountOf_55, .inl (cI, 12, .inl (fun _ => 0))), (a_tape_58, .inl (cB, 260, .inl (fun _ => 0))), (a_facts_71, .inl (cI, 8, .inl (fun _ => 0))), (a_leftOf_83, .inl (cI, 10, .inl (fun _ => 0))), (a_didOf_84, .inl (cI, 10, .inl (fun _ => 0))), (a_goFrom_77, .inl (cI, 10, .inl (fun _ => 0))), (a_goTo_78, .inl (cI, 10, .inl (fun _ => 0))), (a_idleFrom_79, .inl (cI, 10, .inl (fun _ => 0))), (a_idleTo_80, .inl (cI, 10, .inl (fun _ => 0))), (a_moreOf_81, .inl (cI, 10, .inl (fun _ => 0))), (a_firstOf_82, .inl (cI, 12, .inl fo5_94))]) X hN hK hP hD hS hA (c_X9_seed l D cI cB _ q_1 tp_3 tw_5 nw_10 kp_14 lw_18 lr_26 dd_27 vv_28 tl_29 sc_37 u2_11 f2_12 g2_13 (xs 1)) (gV k_761 k_762 k_763 k_92 k_764) (by decide +kernel) ⟨Nat.le_of_ble_eq_true rfl, Nat.le_of_ble_eq_true rfl⟩ ⟨rfl, rfl⟩ [0, 6] [1, 2, 3, 4, 5, 7, 8, 9, 10, 11, 12, 13, 14, 15, 16, 17, 18, 19, 20, 21, 22, 23, 24, 25, 26, 27, 28, 29, 30, 31, 32, 33, 34, 35, 36, 37, 38, 39, 40, 41, 42, 43] rfl rfl (by decide) (by decide) rfl rfl rfl rfl rfl hl.1 (Nat.le_of_ble_eq_true rfl) dL_law_1220 ⟨Nat.le_of_ble_eq_true rfl, Nat.le_of_ble_eq_true rfl⟩ (fun r_174 u H locs hw_175 hP hD hS => ?_)
    try dsimp only at hw_175
    have hP : va_P D vwCl [(tp_3, .inr (5, [.ref by__4, .int 0])), (by__4, .inl (cI, 260, .inl (fun _ => 0))), (tw_5, .inr (7, [.int 0, .int 0, .int 0, .ref t1_6, .ref t2_7, .ref t3_8, .ref t4_9])), (t1_6, .inl (cI, 10, .inl (fun _ => 0))), (t2_7, .inl (cI, 12, .inl (fun _ => 0))), (u2_11, .inl (cI, 12, .inl (fun _ => 0))), (f2_12, .inl (cI, 10, .inl ff2_38)), (g2_13, .inl (cI, 10, .inl fg2_39)), (kp_14, .inr (4, [.ref u3_15, .ref f3_16, .ref g3_17, .int 0, .int 0, .int 1])), (u3_15, .inl (cI, 12, .inl (fun _ => 0))), (f3_16, .inl (cI, 10, .inl ff3_40)), (g3_17, .inl (cI, 10, .inl fg3_41)), (lw_18, .inr (1, [.ref l1_19, .ref l2_20, .ref l3_21, .ref l4_22, .ref l5_23, .ref l6_24, .ref l7_25, .int 0, .int 0])), (l6_24, .inl (cI, 8, .inl (fun _ => 0))), (tl_29, .inr (8, [.ref tw_5, .ref lw_18, .ref st_30, .ref m1_34, .ref c1_35, .ref d1_36, .int 0, .int 0, .int 0, .int 0, .int 0, .int 0, .int 0, .int 0])), (st_30, .inr (4, [.ref u1_31, .ref f1_32, .ref g1_33, .int 0, .int 0, .int 1])), (u1_31, .inl (cI, 12, .inl (fun _ => 0))), (f1_32, .inl (cI, 10, .inl ff_42)), (g1_33, .inl (cI, 10, .inl fg_43)), (m1_34, .inl (cI, 10, .inl (fun _ => 0))), (c1_35, .inl (cI, 10, .inl (fun _ => 0))), (d1_36, .inl (cI, 10, .inl (fun _ => 0))), (q_45, .inr (10, [.ref a_now_47, .ref a_aside_48, .ref a_kept_49, .ref a_keptFrom_50, .ref a_keptTo_51, .ref a_capOf_52, .ref a_leaveFrom_53, .ref a_leaveTo_54, .ref a_amountOf_55, .ref a_doerMany_56, .ref a_doerOf_57, .int 0, .int 0, .int 0, .ref a_tape_58, .int 0, .int 0, .int 0, .int 0, .int 0, .int 0, .int 0, .int 0, .int 0, .int 0, .ref a_said_59, .ref a_waitsAt_60, .ref a_saidLetter_61, .ref a_saidFrom_62, .ref a_saidHalf_63, .ref a_saidTo_64, .ref a_codes_65, .ref a_clauseOf_66, .ref a_codeFrom_67, .ref a_codeHalf_68, .ref a_codeTo_69, .ref a_stack_70, .ref a_facts_71, .ref a_lineChore_72, .ref a_lineMany_73, .ref a_lineDoer_74, .ref a_newFrom_75, .ref a_newTo_76, .int 0, .ref a_goFrom_77, .ref a_goTo_78, .ref a_idleFrom_79, .ref a_idleTo_80, .ref a_moreOf_81, .ref a_firstOf_82, .ref a_leftOf_83, .ref a_didOf_84, .int 0, .int 0, .int 0, .int 0, .ref a_costBy_85, .int 0, .ref a_gainBy_86, .ref a_hiredOf_87, .ref a_hiredBest_88, .ref a_hiredTo_89, .ref a_turnOf_90, .ref a_turnWho_91, .int 0])), (a_now_47, .inl (cI, 15, .inl fw_92)), (a_aside_48, .inl (cI, 15, .inl (fun _ => 0))), (a_kept_49, .inl (cI, 15, .inl (fun _ => 0))), (a_keptFrom_50, .inl (cI, 10, .inl (fun _ => 0))), (a_keptTo_51, .inl (cI, 10, .inl (fun _ => 0))), (a_capOf_52, .inl (cI, 10, .inl (fun _ => 0))), (a_leaveFrom_53, .inl (cI, 10, .inl fl_93)), (a_leaveTo_54, .inl (cI, 10, .inl (fun _ => 0))), (a_amountOf_55, .inl (cI, 12, .inl (fun _ => 0))), (a_tape_58, .inl (cB, 260, .inl (fun _ => 0))), (a_facts_71, .inl (cI, 8, .inl (fun _ => 0))), (a_leftOf_83, .inl (cI, 10, .inl (fun _ => 0))), (a_didOf_84, .inl (cI, 10, .inl (fun _ => 0))), (a_goFrom_77, .inl (cI, 10, .inl (fun _ => 0))), (a_goTo_78, .inl (cI, 10, .inl (fun _ => 0))), (a_idleFrom_79, .inl (cI, 10, .inl (fun _ => 0))), (a_idleTo_80, .inl (cI, 10, .inl (fun _ => 0))), (a_moreOf_81, .inl (cI, 10, .inl (fun _ => 0))), (a_firstOf_82, .inl (cI, 12, .inl fo5_94))] H := hP
    have hD : va_D A [(tp_3, .inr (5, [.ref by__4, .int 0])), (by__4, .inl (cI, 260, .inl (fun _ => 0))), (tw_5, .inr (7, [.int 0, .int 0, .int 0, .ref t1_6, .ref t2_7, .ref t3_8, .ref t4_9])), (t1_6, .inl (cI, 10, .inl (fun _ => 0))), (t2_7, .inl (cI, 12, .inl (fun _ => 0))), (u2_11, .inl (cI, 12, .inl (fun _ => 0))), (f2_12, .inl (cI, 10, .inl ff2_38)), (g2_13, .inl (cI, 10, .inl fg2_39)), (kp_14, .inr (4, [.ref u3_15, .ref f3_16, .ref g3_17, .int 0, .int 0, .int 1])), (u3_15, .inl (cI, 12, .inl (fun _ => 0))), (f3_16, .inl (cI, 10, .inl ff3_40)), (g3_17, .inl (cI, 10, .inl fg3_41)), (lw_18, .inr (1, [.ref l1_19, .ref l2_20, .ref l3_21, .ref l4_22, .ref l5_23, .ref l6_24, .ref l7_25, .int 0, .int 0])), (l6_24, .inl (cI, 8, .inl (fun _ => 0))), (tl_29, .inr (8, [.ref tw_5, .ref lw_18, .ref st_30, .ref m1_34, .ref c1_35, .ref d1_36, .int 0, .int 0, .int 0, .int 0, .int 0, .int 0, .int 0, .int 0])), (st_30, .inr (4, [.ref u1_31, .ref f1_32, .ref g1_33, .int 0, .int 0, .int 1])), (u1_31, .inl (cI, 12, .inl (fun _ => 0))), (f1_32, .inl (cI, 10, .inl ff_42)), (g1_33, .inl (cI, 10, .inl fg_43)), (m1_34, .inl (cI, 10, .inl (fun _ => 0))), (c1_35, .inl (cI, 10, .inl (fun _ => 0))), (d1_36, .inl (cI, 10, .inl (fun _ => 0))), (q_45, .inr (10, [.ref a_now_47, .ref a_aside_48, .ref a_kept_49, .ref a_keptFrom_50, .ref a_keptTo_51, .ref a_capOf_52, .ref a_leaveFrom_53, .ref a_leaveTo_54, .ref a_amountOf_55, .ref a_doerMany_56, .ref a_doerOf_57, .int 0, .int 0, .int 0, .ref a_tape_58, .int 0, .int 0, .int 0, .int 0, .int 0, .int 0, .int 0, .int 0, .int 0, .int 0, .ref a_said_59, .ref a_waitsAt_60, .ref a_saidLetter_61, .ref a_saidFrom_62, .ref a_saidHalf_63, .ref a_saidTo_64, .ref a_codes_65, .ref a_clauseOf_66, .ref a_codeFrom_67, .ref a_codeHalf_68, .ref a_codeTo_69, .ref a_stack_70, .ref a_facts_71, .ref a_lineChore_72, .ref a_lineMany_73, .ref a_lineDoer_74, .ref a_newFrom_75, .ref a_newTo_76, .int 0, .ref a_goFrom_77, .ref a_goTo_78, .ref a_idleFrom_79, .ref a_idleTo_80, .ref a_moreOf_81, .ref a_firstOf_82, .ref a_leftOf_83, .ref a_didOf_84, .int 0, .int 0, .int 0, .int 0, .ref a_costBy_85, .int 0, .ref a_gainBy_86, .ref a_hiredOf_87, .ref a_hiredBest_88, .ref a_hiredTo_89, .ref a_turnOf_90, .ref a_turnWho_91, .int 0])), (a_now_47, .inl (cI, 15, .inl fw_92)), (a_aside_48, .inl (cI, 15, .inl (fun _ => 0))), (a_kept_49, .inl (cI, 15, .inl (fun _ => 0))), (a_keptFrom_50, .inl (cI, 10, .inl (fun _ => 0))), (a_keptTo_51, .inl (cI, 10, .inl (fun _ => 0))), (a_capOf_52, .inl (cI, 10, .inl (fun _ => 0))), (a_leaveFrom_53, .inl (cI, 10, .inl fl_93)), (a_leaveTo_54, .inl (cI, 10, .inl (fun _ => 0))), (a_amountOf_55, .inl (cI, 12, .inl (fun _ => 0))), (a_tape_58, .inl (cB, 260, .inl (fun _ => 0))), (a_facts_71, .inl (cI, 8, .inl (fun _ => 0))), (a_leftOf_83, .inl (cI, 10, .inl (fun _ => 0))), (a_didOf_84, .inl (cI, 10, .inl (fun _ => 0))), (a_goFrom_77, .inl (cI, 10, .inl (fun _ => 0))), (a_goTo_78, .inl (cI, 10, .inl (fun _ => 0))), (a_idleFrom_79, .inl (cI, 10, .inl (fun _ => 0))), (a_idleTo_80, .inl (cI, 10, .inl (fun _ => 0))), (a_moreOf_81, .inl (cI, 10, .inl (fun _ => 0))), (a_firstOf_82, .inl (cI, 12, .inl fo5_94))] := hD
    refine lv_aload_n hx hb dL_law_1223 rfl (lv_at hl 1 rfl) ?_
    refine lv_aload_n hx hb dL_law_1224 rfl (lv_at hl 3 rfl) ?_
    refine lv_iload_n hx hb dL_law_1225 rfl (lv_at hl 0 rfl) ?_
    refine lv_iconst (v := 1) hx hb dL_law_1226 (by decide) ?_
    refine lv_iadd hx hb dL_law_1227 ?_
    refine tv (z := 1) (by decide) ?_
    refine va_sld hx hb hX hbl hbA hS (by unfold vp_in; decide) dL_law_1228 ?_
    refine tv (z := xs 1) rfl ?_
    refine cVI (As := [.int (xs 1)]) (rest := [.int r_174]) (n := 1) (ci := 10) (q0 := 0) (wr := [(tp_3, .inr (5, [.ref by__4, .int 0])), (by__4, .inl (cI, 260, .inl (fun _ => 0))), (tw_5, .inr (7, [.int 0, .int 0, .int 0, .ref t1_6, .ref t2_7, .ref t3_8, .ref t4_9])), (t1_6, .inl (cI, 10, .inl (fun _ => 0))), (t2_7, .inl (cI, 12, .inl (fun _ => 0))), (u2_11, .inl (cI, 12, .inl (fun _ => 0))), (f2_12, .inl (cI, 10, .inl ff2_38)), (g2_13, .inl (cI, 10, .inl fg2_39)), (kp_14, .inr (4, [.ref u3_15, .ref f3_16, .ref g3_17, .int 0, .int 0, .int 1])), (u3_15, .inl (cI, 12, .inl (fun _ => 0))), (f3_16, .inl (cI, 10, .inl ff3_40)), (g3_17, .inl (cI, 10, .inl fg3_41)), (lw_18, .inr (1, [.ref l1_19, .ref l2_20, .ref l3_21, .ref l4_22, .ref l5_23, .ref l6_24, .ref l7_25, .int 0, .int 0])), (l6_24, .inl (cI, 8, .inl (fun _ => 0))), (tl_29, .inr (8, [.ref tw_5, .ref lw_18, .ref st_30, .ref m1_34, .ref c1_35, .ref d1_36, .int 0, .int 0, .int 0, .int 0, .int 0, .int 0, .int 0, .int 0])), (st_30, .inr (4, [.ref u1_31, .ref f1_32, .ref g1_33, .int 0, .int 0, .int 1])), (u1_31, .inl (cI, 12, .inl (fun _ => 0))), (f1_32, .inl (cI, 10, .inl ff_42)), (g1_33, .inl (cI, 10, .inl fg_43)), (m1_34, .inl (cI, 10, .inl (fun _ => 0))), (c1_35, .inl (cI, 10, .inl (fun _ => 0))), (d1_36, .inl (cI, 10, .inl (fun _ => 0))), (a_aside_48, .inl (cI, 15, .inl (fun _ => 0))), (a_kept_49, .inl (cI, 15, .inl (fun _ => 0))), (a_keptFrom_50, .inl (cI, 10, .inl (fun _ => 0))), (a_keptTo_51, .inl (cI, 10, .inl (fun _ => 0))), (a_capOf_52, .inl (cI, 10, .inl (fun _ => 0))), (a_leaveFrom_53, .inl (cI, 10, .inl fl_93)), (a_leaveTo_54, .inl (cI, 10, .inl (fun _ => 0))), (a_amountOf_55, .inl (cI, 12, .inl (fun _ => 0))), (a_tape_58, .inl (cB, 260, .inl (fun _ => 0))), (a_facts_71, .inl (cI, 8, .inl (fun _ => 0))), (a_leftOf_83, .inl (cI, 10, .inl (fun _ => 0))), (a_didOf_84, .inl (cI, 10, .inl (fun _ => 0))), (a_goFrom_77, .inl (cI, 10, .inl (fun _ => 0))), (a_goTo_78, .inl (cI, 10, .inl (fun _ => 0))), (a_idleFrom_79, .inl (cI, 10, .inl (fun _ => 0))), (a_idleTo_80, .inl (cI, 10, .inl (fun _ => 0))), (a_moreOf_81, .inl (cI, 10, .inl (fun _ => 0))), (a_firstOf_82, .inl (cI, 12, .inl fo5_94))]) X hN hK hP hD hS hA (c_X10_seed l D cI cB _ q_45 a_now_47 a_aside_48 a_kept_49 a_keptFrom_50 a_keptTo_51 a_capOf_52 a_leaveFrom_53 a_leaveTo_54 a_amountOf_55 a_doerMany_56 a_doerOf_57 a_tape_58 a_said_59 a_waitsAt_60 a_saidLetter_61 a_saidFrom_62 a_saidHalf_63 a_saidTo_64 a_codes_65 a_clauseOf_66 a_codeFrom_67 a_codeHalf_68 a_codeTo_69 a_stack_70 a_facts_71 a_lineChore_72 a_lineMany_73 a_lineDoer_74 a_newFrom_75 a_newTo_76 a_goFrom_77 a_goTo_78 a_idleFrom_79 a_idleTo_80 a_moreOf_81 a_firstOf_82 a_leftOf_83 a_didOf_84 a_costBy_85 a_gainBy_86 a_hiredOf_87 a_hiredBest_88 a_hiredTo_89 a_turnOf_90 a_turnWho_91 0 0 0 0 fw_92 (xs 1)) (gV k_1649 k_1650 k_1651 k_103 k_1652) (by decide +kernel) ⟨Nat.le_of_ble_eq_true rfl, Nat.le_of_ble_eq_true rfl⟩ ⟨rfl, rfl⟩ [22, 23] [0, 1, 2, 3, 4, 5, 6, 7, 8, 9, 10, 11, 12, 13, 14, 15, 16, 17, 18, 19, 20, 21, 24, 25, 26, 27, 28, 29, 30, 31, 32, 33, 34, 35, 36, 37, 38, 39, 40, 41] rfl rfl (by decide) (by decide) rfl rfl rfl rfl rfl hl.1 (Nat.le_of_ble_eq_true rfl) dL_law_1229 ⟨Nat.le_of_ble_eq_true rfl, Nat.le_of_ble_eq_true rfl⟩ (fun r_176 u H locs hw_177 hP hD hS => ?_)
    try dsimp only at hw_177
    have hP : va_P D vwCl [(tp_3, .inr (5, [.ref by__4, .int 0])), (by__4, .inl (cI, 260, .inl (fun _ => 0))), (tw_5, .inr (7, [.int 0, .int 0, .int 0, .ref t1_6, .ref t2_7, .ref t3_8, .ref t4_9])), (t1_6, .inl (cI, 10, .inl (fun _ => 0))), (t2_7, .inl (cI, 12, .inl (fun _ => 0))), (u2_11, .inl (cI, 12, .inl (fun _ => 0))), (f2_12, .inl (cI, 10, .inl ff2_38)), (g2_13, .inl (cI, 10, .inl fg2_39)), (kp_14, .inr (4, [.ref u3_15, .ref f3_16, .ref g3_17, .int 0, .int 0, .int 1])), (u3_15, .inl (cI, 12, .inl (fun _ => 0))), (f3_16, .inl (cI, 10, .inl ff3_40)), (g3_17, .inl (cI, 10, .inl fg3_41)), (lw_18, .inr (1, [.ref l1_19, .ref l2_20, .ref l3_21, .ref l4_22, .ref l5_23, .ref l6_24, .ref l7_25, .int 0, .int 0])), (l6_24, .inl (cI, 8, .inl (fun _ => 0))), (tl_29, .inr (8, [.ref tw_5, .ref lw_18, .ref st_30, .ref m1_34, .ref c1_35, .ref d1_36, .int 0, .int 0, .int 0, .int 0, .int 0, .int 0, .int 0, .int 0])), (st_30, .inr (4, [.ref u1_31, .ref f1_32, .ref g1_33, .int 0, .int 0, .int 1])), (u1_31, .inl (cI, 12, .inl (fun _ => 0))), (f1_32, .inl (cI, 10, .inl ff_42)), (g1_33, .inl (cI, 10, .inl fg_43)), (m1_34, .inl (cI, 10, .inl (fun _ => 0))), (c1_35, .inl (cI, 10, .inl (fun _ => 0))), (d1_36, .inl (cI, 10, .inl (fun _ => 0))), (a_aside_48, .inl (cI, 15, .inl (fun _ => 0))), (a_kept_49, .inl (cI, 15, .inl (fun _ => 0))), (a_keptFrom_50, .inl (cI, 10, .inl (fun _ => 0))), (a_keptTo_51, .inl (cI, 10, .inl (fun _ => 0))), (a_capOf_52, .inl (cI, 10, .inl (fun _ => 0))), (a_leaveFrom_53, .inl (cI, 10, .inl fl_93)), (a_leaveTo_54, .inl (cI, 10, .inl (fun _ => 0))), (a_amountOf_55, .inl (cI, 12, .inl (fun _ => 0))), (a_tape_58, .inl (cB, 260, .inl (fun _ => 0))), (a_facts_71, .inl (cI, 8, .inl (fun _ => 0))), (a_leftOf_83, .inl (cI, 10, .inl (fun _ => 0))), (a_didOf_84, .inl (cI, 10, .inl (fun _ => 0))), (a_goFrom_77, .inl (cI, 10, .inl (fun _ => 0))), (a_goTo_78, .inl (cI, 10, .inl (fun _ => 0))), (a_idleFrom_79, .inl (cI, 10, .inl (fun _ => 0))), (a_idleTo_80, .inl (cI, 10, .inl (fun _ => 0))), (a_moreOf_81, .inl (cI, 10, .inl (fun _ => 0))), (a_firstOf_82, .inl (cI, 12, .inl fo5_94))] H := hP
    have hD : va_D A [(tp_3, .inr (5, [.ref by__4, .int 0])), (by__4, .inl (cI, 260, .inl (fun _ => 0))), (tw_5, .inr (7, [.int 0, .int 0, .int 0, .ref t1_6, .ref t2_7, .ref t3_8, .ref t4_9])), (t1_6, .inl (cI, 10, .inl (fun _ => 0))), (t2_7, .inl (cI, 12, .inl (fun _ => 0))), (u2_11, .inl (cI, 12, .inl (fun _ => 0))), (f2_12, .inl (cI, 10, .inl ff2_38)), (g2_13, .inl (cI, 10, .inl fg2_39)), (kp_14, .inr (4, [.ref u3_15, .ref f3_16, .ref g3_17, .int 0, .int 0, .int 1])), (u3_15, .inl (cI, 12, .inl (fun _ => 0))), (f3_16, .inl (cI, 10, .inl ff3_40)), (g3_17, .inl (cI, 10, .inl fg3_41)), (lw_18, .inr (1, [.ref l1_19, .ref l2_20, .ref l3_21, .ref l4_22, .ref l5_23, .ref l6_24, .ref l7_25, .int 0, .int 0])), (l6_24, .inl (cI, 8, .inl (fun _ => 0))), (tl_29, .inr (8, [.ref tw_5, .ref lw_18, .ref st_30, .ref m1_34, .ref c1_35, .ref d1_36, .int 0, .int 0, .int 0, .int 0, .int 0, .int 0, .int 0, .int 0])), (st_30, .inr (4, [.ref u1_31, .ref f1_32, .ref g1_33, .int 0, .int 0, .int 1])), (u1_31, .inl (cI, 12, .inl (fun _ => 0))), (f1_32, .inl (cI, 10, .inl ff_42)), (g1_33, .inl (cI, 10, .inl fg_43)), (m1_34, .inl (cI, 10, .inl (fun _ => 0))), (c1_35, .inl (cI, 10, .inl (fun _ => 0))), (d1_36, .inl (cI, 10, .inl (fun _ => 0))), (a_aside_48, .inl (cI, 15, .inl (fun _ => 0))), (a_kept_49, .inl (cI, 15, .inl (fun _ => 0))), (a_keptFrom_50, .inl (cI, 10, .inl (fun _ => 0))), (a_keptTo_51, .inl (cI, 10, .inl (fun _ => 0))), (a_capOf_52, .inl (cI, 10, .inl (fun _ => 0))), (a_leaveFrom_53, .inl (cI, 10, .inl fl_93)), (a_leaveTo_54, .inl (cI, 10, .inl (fun _ => 0))), (a_amountOf_55, .inl (cI, 12, .inl (fun _ => 0))), (a_tape_58, .inl (cB, 260, .inl (fun _ => 0))), (a_facts_71, .inl (cI, 8, .inl (fun _ => 0))), (a_leftOf_83, .inl (cI, 10, .inl (fun _ => 0))), (a_didOf_84, .inl (cI, 10, .inl (fun _ => 0))), (a_goFrom_77, .inl (cI, 10, .inl (fun _ => 0))), (a_goTo_78, .inl (cI, 10, .inl (fun _ => 0))), (a_idleFrom_79, .inl (cI, 10, .inl (fun _ => 0))), (a_idleTo_80, .inl (cI, 10, .inl (fun _ => 0))), (a_moreOf_81, .inl (cI, 10, .inl (fun _ => 0))), (a_firstOf_82, .inl (cI, 12, .inl fo5_94))] := hD
    refine lv_icmp_eq (tgt := 1309) hx hb dL_law_1232 (by decide) (fun _ => ?_) (fun c_1232 => absurd (hw_175.trans hw_177.symm) c_1232)
    refine lv_iinc (v := 6) (lv' := [(3, .int 6), (2, .ref q_45), (1, .ref q_1), (0, .ref b)]) hx hb dL_law_1309 hl (k := 0) rfl (by decide) (by decide) rfl (fun ls hl => ?_)
    refine lv_goto (tgt := 18) hx hb dL_law_1312 (by decide) ?_
    refine lv_iload_n hx hb dL_law_18 rfl (lv_at hl 0 rfl) ?_
    refine lv_aload_n hx hb dL_law_19 rfl (lv_at hl 3 rfl) ?_
    refine va_slen hx hb hX hbl hbA hS dL_law_20 ?_
    refine tv (z := 6) rfl ?_
    refine lv_bipush (v := 6) hx hb dL_law_21 (by decide) ?_
    refine lv_isub hx hb dL_law_23 ?_
    refine tv (z := 0) (by decide) ?_
    refine lv_icmp_gt (tgt := 1315) hx hb dL_law_24 (by decide) (fun _ => ?_) (fun c_24 => absurd (by decide) c_24)
    refine lv_iconst (v := 1) hx hb dL_law_1315 (by decide) ?_
    refine va_forget (fun q hq => hAq _ (hS.2.2 q hq)) ?_
    refine W.widen (k := 600000) (n := 7302250) (Nat.le_of_ble_eq_true rfl) (Nat.le_of_ble_eq_true rfl) ?_
    exact lw_ret hx hb hr hlocks dL_law_1316
  by_cases e33_29 : z = 29
  · subst e33_29
    refine lv_tableIn (off := 1204) (tgt := 1237) hx hb dL_law_33 (by decide) (by decide) (by decide) (by decide) ?_
    refine lv_aload_n hx hb dL_law_1237 rfl (lv_at hl 2 rfl) ?_
    refine cVI (As := []) (rest := []) (n := 0) (ci := 9) (q0 := 0) (wr := [(tp_3, .inr (5, [.ref by__4, .int 0])), (by__4, .inl (cI, 260, .inl (fun _ => 0))), (tw_5, .inr (7, [.int 0, .int 0, .int 0, .ref t1_6, .ref t2_7, .ref t3_8, .ref t4_9])), (t1_6, .inl (cI, 10, .inl (fun _ => 0))), (t2_7, .inl (cI, 12, .inl (fun _ => 0))), (lw_18, .inr (1, [.ref l1_19, .ref l2_20, .ref l3_21, .ref l4_22, .ref l5_23, .ref l6_24, .ref l7_25, .int 0, .int 0])), (l6_24, .inl (cI, 8, .inl (fun _ => 0))), (tl_29, .inr (8, [.ref tw_5, .ref lw_18, .ref st_30, .ref m1_34, .ref c1_35, .ref d1_36, .int 0, .int 0, .int 0, .int 0, .int 0, .int 0, .int 0, .int 0])), (st_30, .inr (4, [.ref u1_31, .ref f1_32, .ref g1_33, .int 0, .int 0, .int 1])), (u1_31, .inl (cI, 12, .inl (fun _ => 0))), (f1_32, .inl (cI, 10, .inl ff_42)), (g1_33, .inl (cI, 10, .inl fg_43)), (m1_34, .inl (cI, 10, .inl (fun _ => 0))), (c1_35, .inl (cI, 10, .inl (fun _ => 0))), (d1_36, .inl (cI, 10, .inl (fun _ => 0))), (q_45, .inr (10, [.ref a_now_47, .ref a_aside_48, .ref a_kept_49, .ref a_keptFrom_50, .ref a_keptTo_51, .ref a_capOf_52, .ref a_leaveFrom_53, .ref a_leaveTo_54, .ref a_amountOf_55, .ref a_doerMany_56, .ref a_doerOf_57, .int 0, .int 0, .int 0, .ref a_tape_58, .int 0, .int 0, .int 0, .int 0, .int 0, .int 0, .int 0, .int 0, .int 0, .int 0, .ref a_said_59, .ref a_waitsAt_60, .ref a_saidLetter_61, .ref a_saidFrom_62, .ref a_saidHalf_63, .ref a_saidTo_64, .ref a_codes_65, .ref a_clauseOf_66, .ref a_codeFrom_67, .ref a_codeHalf_68, .ref a_codeTo_69, .ref a_stack_70, .ref a_facts_71, .ref a_lineChore_72, .ref a_lineMany_73, .ref a_lineDoer_74, .ref a_newFrom_75, .ref a_newTo_76, .int 0, .ref a_goFrom_77, .ref a_goTo_78, .ref a_idleFrom_79, .ref a_idleTo_80, .ref a_moreOf_81, .ref a_firstOf_82, .ref a_leftOf_83, .ref a_didOf_84, .int 0, .int 0, .int 0, .int 0, .ref a_costBy_85, .int 0, .ref a_gainBy_86, .ref a_hiredOf_87, .ref a_hiredBest_88, .ref a_hiredTo_89, .ref a_turnOf_90, .ref a_turnWho_91, .int 0])), (a_now_47, .inl (cI, 15, .inl fw_92)), (a_aside_48, .inl (cI, 15, .inl (fun _ => 0))), (a_kept_49, .inl (cI, 15, .inl (fun _ => 0))), (a_keptFrom_50, .inl (cI, 10, .inl (fun _ => 0))), (a_keptTo_51, .inl (cI, 10, .inl (fun _ => 0))), (a_capOf_52, .inl (cI, 10, .inl (fun _ => 0))), (a_leaveFrom_53, .inl (cI, 10, .inl fl_93)), (a_leaveTo_54, .inl (cI, 10, .inl (fun _ => 0))), (a_amountOf_55, .inl (cI, 12, .inl (fun _ => 0))), (a_tape_58, .inl (cB, 260, .inl (fun _ => 0))), (a_facts_71, .inl (cI, 8, .inl (fun _ => 0))), (a_leftOf_83, .inl (cI, 10, .inl (fun _ => 0))), (a_didOf_84, .inl (cI, 10, .inl (fun _ => 0))), (a_goFrom_77, .inl (cI, 10, .inl (fun _ => 0))), (a_goTo_78, .inl (cI, 10, .inl (fun _ => 0))), (a_idleFrom_79, .inl (cI, 10, .inl (fun _ => 0))), (a_idleTo_80, .inl (cI, 10, .inl (fun _ => 0))), (a_moreOf_81, .inl (cI, 10, .inl (fun _ => 0))), (a_firstOf_82, .inl (cI, 12, .inl fo5_94))]) X hN hK hP hD hS hA (c_X9_keep l D cI cB _ q_1 tp_3 tw_5 nw_10 kp_14 lw_18 lr_26 dd_27 vv_28 tl_29 sc_37 u2_11 f2_12 g2_13 (fun _ => 0) ff2_38 fg2_39 u3_15 f3_16 g3_17 0 0 1 (fun _ => 0) ff3_40 fg3_41 (fun _ _ => rfl) hw_44.1 hw_44.2.1) (gV k_1050 k_1051 k_1052 k_92 k_1053) (by decide +kernel) ⟨Nat.le_of_ble_eq_true rfl, Nat.le_of_ble_eq_true rfl⟩ ⟨rfl, rfl⟩ [0, 6, 7, 8, 9, 10, 11, 12, 13] [1, 2, 3, 4, 5, 14, 15, 16, 17, 18, 19, 20, 21, 22, 23, 24, 25, 26, 27, 28, 29, 30, 31, 32, 33, 34, 35, 36, 37, 38, 39, 40, 41, 42, 43] rfl rfl (by decide) (by decide) rfl rfl rfl rfl rfl hl.1 (Nat.le_of_ble_eq_true rfl) dL_law_1238 ⟨Nat.le_of_ble_eq_true rfl, Nat.le_of_ble_eq_true rfl⟩ (fun r_178 u H locs hw_179 hP hD hS => ?_)
    try dsimp only at hw_179
    have hP : va_P D vwCl [(tp_3, .inr (5, [.ref by__4, .int 0])), (by__4, .inl (cI, 260, .inl (fun _ => 0))), (tw_5, .inr (7, [.int 0, .int 0, .int 0, .ref t1_6, .ref t2_7, .ref t3_8, .ref t4_9])), (t1_6, .inl (cI, 10, .inl (fun _ => 0))), (t2_7, .inl (cI, 12, .inl (fun _ => 0))), (lw_18, .inr (1, [.ref l1_19, .ref l2_20, .ref l3_21, .ref l4_22, .ref l5_23, .ref l6_24, .ref l7_25, .int 0, .int 0])), (l6_24, .inl (cI, 8, .inl (fun _ => 0))), (tl_29, .inr (8, [.ref tw_5, .ref lw_18, .ref st_30, .ref m1_34, .ref c1_35, .ref d1_36, .int 0, .int 0, .int 0, .int 0, .int 0, .int 0, .int 0, .int 0])), (st_30, .inr (4, [.ref u1_31, .ref f1_32, .ref g1_33, .int 0, .int 0, .int 1])), (u1_31, .inl (cI, 12, .inl (fun _ => 0))), (f1_32, .inl (cI, 10, .inl ff_42)), (g1_33, .inl (cI, 10, .inl fg_43)), (m1_34, .inl (cI, 10, .inl (fun _ => 0))), (c1_35, .inl (cI, 10, .inl (fun _ => 0))), (d1_36, .inl (cI, 10, .inl (fun _ => 0))), (q_45, .inr (10, [.ref a_now_47, .ref a_aside_48, .ref a_kept_49, .ref a_keptFrom_50, .ref a_keptTo_51, .ref a_capOf_52, .ref a_leaveFrom_53, .ref a_leaveTo_54, .ref a_amountOf_55, .ref a_doerMany_56, .ref a_doerOf_57, .int 0, .int 0, .int 0, .ref a_tape_58, .int 0, .int 0, .int 0, .int 0, .int 0, .int 0, .int 0, .int 0, .int 0, .int 0, .ref a_said_59, .ref a_waitsAt_60, .ref a_saidLetter_61, .ref a_saidFrom_62, .ref a_saidHalf_63, .ref a_saidTo_64, .ref a_codes_65, .ref a_clauseOf_66, .ref a_codeFrom_67, .ref a_codeHalf_68, .ref a_codeTo_69, .ref a_stack_70, .ref a_facts_71, .ref a_lineChore_72, .ref a_lineMany_73, .ref a_lineDoer_74, .ref a_newFrom_75, .ref a_newTo_76, .int 0, .ref a_goFrom_77, .ref a_goTo_78, .ref a_idleFrom_79, .ref a_idleTo_80, .ref a_moreOf_81, .ref a_firstOf_82, .ref a_leftOf_83, .ref a_didOf_84, .int 0, .int 0, .int 0, .int 0, .ref a_costBy_85, .int 0, .ref a_gainBy_86, .ref a_hiredOf_87, .ref a_hiredBest_88, .ref a_hiredTo_89, .ref a_turnOf_90, .ref a_turnWho_91, .int 0])), (a_now_47, .inl (cI, 15, .inl fw_92)), (a_aside_48, .inl (cI, 15, .inl (fun _ => 0))), (a_kept_49, .inl (cI, 15, .inl (fun _ => 0))), (a_keptFrom_50, .inl (cI, 10, .inl (fun _ => 0))), (a_keptTo_51, .inl (cI, 10, .inl (fun _ => 0))), (a_capOf_52, .inl (cI, 10, .inl (fun _ => 0))), (a_leaveFrom_53, .inl (cI, 10, .inl fl_93)), (a_leaveTo_54, .inl (cI, 10, .inl (fun _ => 0))), (a_amountOf_55, .inl (cI, 12, .inl (fun _ => 0))), (a_tape_58, .inl (cB, 260, .inl (fun _ => 0))), (a_facts_71, .inl (cI, 8, .inl (fun _ => 0))), (a_leftOf_83, .inl (cI, 10, .inl (fun _ => 0))), (a_didOf_84, .inl (cI, 10, .inl (fun _ => 0))), (a_goFrom_77, .inl (cI, 10, .inl (fun _ => 0))), (a_goTo_78, .inl (cI, 10, .inl (fun _ => 0))), (a_idleFrom_79, .inl (cI, 10, .inl (fun _ => 0))), (a_idleTo_80, .inl (cI, 10, .inl (fun _ => 0))), (a_moreOf_81, .inl (cI, 10, .inl (fun _ => 0))), (a_firstOf_82, .inl (cI, 12, .inl fo5_94))] H := hP
    have hD : va_D A [(tp_3, .inr (5, [.ref by__4, .int 0])), (by__4, .inl (cI, 260, .inl (fun _ => 0))), (tw_5, .inr (7, [.int 0, .int 0, .int 0, .ref t1_6, .ref t2_7, .ref t3_8, .ref t4_9])), (t1_6, .inl (cI, 10, .inl (fun _ => 0))), (t2_7, .inl (cI, 12, .inl (fun _ => 0))), (lw_18, .inr (1, [.ref l1_19, .ref l2_20, .ref l3_21, .ref l4_22, .ref l5_23, .ref l6_24, .ref l7_25, .int 0, .int 0])), (l6_24, .inl (cI, 8, .inl (fun _ => 0))), (tl_29, .inr (8, [.ref tw_5, .ref lw_18, .ref st_30, .ref m1_34, .ref c1_35, .ref d1_36, .int 0, .int 0, .int 0, .int 0, .int 0, .int 0, .int 0, .int 0])), (st_30, .inr (4, [.ref u1_31, .ref f1_32, .ref g1_33, .int 0, .int 0, .int 1])), (u1_31, .inl (cI, 12, .inl (fun _ => 0))), (f1_32, .inl (cI, 10, .inl ff_42)), (g1_33, .inl (cI, 10, .inl fg_43)), (m1_34, .inl (cI, 10, .inl (fun _ => 0))), (c1_35, .inl (cI, 10, .inl (fun _ => 0))), (d1_36, .inl (cI, 10, .inl (fun _ => 0))), (q_45, .inr (10, [.ref a_now_47, .ref a_aside_48, .ref a_kept_49, .ref a_keptFrom_50, .ref a_keptTo_51, .ref a_capOf_52, .ref a_leaveFrom_53, .ref a_leaveTo_54, .ref a_amountOf_55, .ref a_doerMany_56, .ref a_doerOf_57, .int 0, .int 0, .int 0, .ref a_tape_58, .int 0, .int 0, .int 0, .int 0, .int 0, .int 0, .int 0, .int 0, .int 0, .int 0, .ref a_said_59, .ref a_waitsAt_60, .ref a_saidLetter_61, .ref a_saidFrom_62, .ref a_saidHalf_63, .ref a_saidTo_64, .ref a_codes_65, .ref a_clauseOf_66, .ref a_codeFrom_67, .ref a_codeHalf_68, .ref a_codeTo_69, .ref a_stack_70, .ref a_facts_71, .ref a_lineChore_72, .ref a_lineMany_73, .ref a_lineDoer_74, .ref a_newFrom_75, .ref a_newTo_76, .int 0, .ref a_goFrom_77, .ref a_goTo_78, .ref a_idleFrom_79, .ref a_idleTo_80, .ref a_moreOf_81, .ref a_firstOf_82, .ref a_leftOf_83, .ref a_didOf_84, .int 0, .int 0, .int 0, .int 0, .ref a_costBy_85, .int 0, .ref a_gainBy_86, .ref a_hiredOf_87, .ref a_hiredBest_88, .ref a_hiredTo_89, .ref a_turnOf_90, .ref a_turnWho_91, .int 0])), (a_now_47, .inl (cI, 15, .inl fw_92)), (a_aside_48, .inl (cI, 15, .inl (fun _ => 0))), (a_kept_49, .inl (cI, 15, .inl (fun _ => 0))), (a_keptFrom_50, .inl (cI, 10, .inl (fun _ => 0))), (a_keptTo_51, .inl (cI, 10, .inl (fun _ => 0))), (a_capOf_52, .inl (cI, 10, .inl (fun _ => 0))), (a_leaveFrom_53, .inl (cI, 10, .inl fl_93)), (a_leaveTo_54, .inl (cI, 10, .inl (fun _ => 0))), (a_amountOf_55, .inl (cI, 12, .inl (fun _ => 0))), (a_tape_58, .inl (cB, 260, .inl (fun _ => 0))), (a_facts_71, .inl (cI, 8, .inl (fun _ => 0))), (a_leftOf_83, .inl (cI, 10, .inl (fun _ => 0))), (a_didOf_84, .inl (cI, 10, .inl (fun _ => 0))), (a_goFrom_77, .inl (cI, 10, .inl (fun _ => 0))), (a_goTo_78, .inl (cI, 10, .inl (fun _ => 0))), (a_idleFrom_79, .inl (cI, 10, .inl (fun _ => 0))), (a_idleTo_80, .inl (cI, 10, .inl (fun _ => 0))), (a_moreOf_81, .inl (cI, 10, .inl (fun _ => 0))), (a_firstOf_82, .inl (cI, 12, .inl fo5_94))] := hD
    refine lv_aload_n hx hb dL_law_1241 rfl (lv_at hl 1 rfl) ?_
    refine cVI (As := []) (rest := [.int r_178]) (n := 0) (ci := 10) (q0 := 0) (wr := [(tp_3, .inr (5, [.ref by__4, .int 0])), (by__4, .inl (cI, 260, .inl (fun _ => 0))), (tw_5, .inr (7, [.int 0, .int 0, .int 0, .ref t1_6, .ref t2_7, .ref t3_8, .ref t4_9])), (t1_6, .inl (cI, 10, .inl (fun _ => 0))), (t2_7, .inl (cI, 12, .inl (fun _ => 0))), (lw_18, .inr (1, [.ref l1_19, .ref l2_20, .ref l3_21, .ref l4_22, .ref l5_23, .ref l6_24, .ref l7_25, .int 0, .int 0])), (l6_24, .inl (cI, 8, .inl (fun _ => 0))), (tl_29, .inr (8, [.ref tw_5, .ref lw_18, .ref st_30, .ref m1_34, .ref c1_35, .ref d1_36, .int 0, .int 0, .int 0, .int 0, .int 0, .int 0, .int 0, .int 0])), (st_30, .inr (4, [.ref u1_31, .ref f1_32, .ref g1_33, .int 0, .int 0, .int 1])), (u1_31, .inl (cI, 12, .inl (fun _ => 0))), (f1_32, .inl (cI, 10, .inl ff_42)), (g1_33, .inl (cI, 10, .inl fg_43)), (m1_34, .inl (cI, 10, .inl (fun _ => 0))), (c1_35, .inl (cI, 10, .inl (fun _ => 0))), (d1_36, .inl (cI, 10, .inl (fun _ => 0))), (a_aside_48, .inl (cI, 15, .inl (fun _ => 0))), (a_capOf_52, .inl (cI, 10, .inl (fun _ => 0))), (a_amountOf_55, .inl (cI, 12, .inl (fun _ => 0))), (a_tape_58, .inl (cB, 260, .inl (fun _ => 0))), (a_facts_71, .inl (cI, 8, .inl (fun _ => 0))), (a_leftOf_83, .inl (cI, 10, .inl (fun _ => 0))), (a_didOf_84, .inl (cI, 10, .inl (fun _ => 0))), (a_goFrom_77, .inl (cI, 10, .inl (fun _ => 0))), (a_goTo_78, .inl (cI, 10, .inl (fun _ => 0))), (a_idleFrom_79, .inl (cI, 10, .inl (fun _ => 0))), (a_idleTo_80, .inl (cI, 10, .inl (fun _ => 0))), (a_moreOf_81, .inl (cI, 10, .inl (fun _ => 0))), (a_firstOf_82, .inl (cI, 12, .inl fo5_94))]) X hN hK hP hD hS hA (c_X10_keep l D cI cB _ q_45 a_now_47 a_aside_48 a_kept_49 a_keptFrom_50 a_keptTo_51 a_capOf_52 a_leaveFrom_53 a_leaveTo_54 a_amountOf_55 a_doerMany_56 a_doerOf_57 a_tape_58 a_said_59 a_waitsAt_60 a_saidLetter_61 a_saidFrom_62 a_saidHalf_63 a_saidTo_64 a_codes_65 a_clauseOf_66 a_codeFrom_67 a_codeHalf_68 a_codeTo_69 a_stack_70 a_facts_71 a_lineChore_72 a_lineMany_73 a_lineDoer_74 a_newFrom_75 a_newTo_76 a_goFrom_77 a_goTo_78 a_idleFrom_79 a_idleTo_80 a_moreOf_81 a_firstOf_82 a_leftOf_83 a_didOf_84 a_costBy_85 a_gainBy_86 a_hiredOf_87 a_hiredBest_88 a_hiredTo_89 a_turnOf_90 a_turnWho_91 0 0 0 0 fw_92 (fun _ => 0) fl_93 (fun _ => 0) (fun _ => 0) (fun _ => 0) hw_95.1.2.1) (gV k_1654 k_1655 k_1656 k_103 k_1657) (by decide +kernel) ⟨Nat.le_of_ble_eq_true rfl, Nat.le_of_ble_eq_true rfl⟩ ⟨rfl, rfl⟩ [15, 16, 18, 22, 23, 19, 20] [0, 1, 2, 3, 4, 5, 6, 7, 8, 9, 10, 11, 12, 13, 14, 17, 21, 24, 25, 26, 27, 28, 29, 30, 31, 32, 33, 34] rfl rfl (by decide) (by decide) rfl rfl rfl rfl rfl hl.1 (Nat.le_of_ble_eq_true rfl) dL_law_1242 ⟨Nat.le_of_ble_eq_true rfl, Nat.le_of_ble_eq_true rfl⟩ (fun r_180 u H locs hw_181 hP hD hS => ?_)
    try dsimp only at hw_181
    have hP : va_P D vwCl [(tp_3, .inr (5, [.ref by__4, .int 0])), (by__4, .inl (cI, 260, .inl (fun _ => 0))), (tw_5, .inr (7, [.int 0, .int 0, .int 0, .ref t1_6, .ref t2_7, .ref t3_8, .ref t4_9])), (t1_6, .inl (cI, 10, .inl (fun _ => 0))), (t2_7, .inl (cI, 12, .inl (fun _ => 0))), (lw_18, .inr (1, [.ref l1_19, .ref l2_20, .ref l3_21, .ref l4_22, .ref l5_23, .ref l6_24, .ref l7_25, .int 0, .int 0])), (l6_24, .inl (cI, 8, .inl (fun _ => 0))), (tl_29, .inr (8, [.ref tw_5, .ref lw_18, .ref st_30, .ref m1_34, .ref c1_35, .ref d1_36, .int 0, .int 0, .int 0, .int 0, .int 0, .int 0, .int 0, .int 0])), (st_30, .inr (4, [.ref u1_31, .ref f1_32, .ref g1_33, .int 0, .int 0, .int 1])), (u1_31, .inl (cI, 12, .inl (fun _ => 0))), (f1_32, .inl (cI, 10, .inl ff_42)), (g1_33, .inl (cI, 10, .inl fg_43)), (m1_34, .inl (cI, 10, .inl (fun _ => 0))), (c1_35, .inl (cI, 10, .inl (fun _ => 0))), (d1_36, .inl (cI, 10, .inl (fun _ => 0))), (a_aside_48, .inl (cI, 15, .inl (fun _ => 0))), (a_capOf_52, .inl (cI, 10, .inl (fun _ => 0))), (a_amountOf_55, .inl (cI, 12, .inl (fun _ => 0))), (a_tape_58, .inl (cB, 260, .inl (fun _ => 0))), (a_facts_71, .inl (cI, 8, .inl (fun _ => 0))), (a_leftOf_83, .inl (cI, 10, .inl (fun _ => 0))), (a_didOf_84, .inl (cI, 10, .inl (fun _ => 0))), (a_goFrom_77, .inl (cI, 10, .inl (fun _ => 0))), (a_goTo_78, .inl (cI, 10, .inl (fun _ => 0))), (a_idleFrom_79, .inl (cI, 10, .inl (fun _ => 0))), (a_idleTo_80, .inl (cI, 10, .inl (fun _ => 0))), (a_moreOf_81, .inl (cI, 10, .inl (fun _ => 0))), (a_firstOf_82, .inl (cI, 12, .inl fo5_94))] H := hP
    have hD : va_D A [(tp_3, .inr (5, [.ref by__4, .int 0])), (by__4, .inl (cI, 260, .inl (fun _ => 0))), (tw_5, .inr (7, [.int 0, .int 0, .int 0, .ref t1_6, .ref t2_7, .ref t3_8, .ref t4_9])), (t1_6, .inl (cI, 10, .inl (fun _ => 0))), (t2_7, .inl (cI, 12, .inl (fun _ => 0))), (lw_18, .inr (1, [.ref l1_19, .ref l2_20, .ref l3_21, .ref l4_22, .ref l5_23, .ref l6_24, .ref l7_25, .int 0, .int 0])), (l6_24, .inl (cI, 8, .inl (fun _ => 0))), (tl_29, .inr (8, [.ref tw_5, .ref lw_18, .ref st_30, .ref m1_34, .ref c1_35, .ref d1_36, .int 0, .int 0, .int 0, .int 0, .int 0, .int 0, .int 0, .int 0])), (st_30, .inr (4, [.ref u1_31, .ref f1_32, .ref g1_33, .int 0, .int 0, .int 1])), (u1_31, .inl (cI, 12, .inl (fun _ => 0))), (f1_32, .inl (cI, 10, .inl ff_42)), (g1_33, .inl (cI, 10, .inl fg_43)), (m1_34, .inl (cI, 10, .inl (fun _ => 0))), (c1_35, .inl (cI, 10, .inl (fun _ => 0))), (d1_36, .inl (cI, 10, .inl (fun _ => 0))), (a_aside_48, .inl (cI, 15, .inl (fun _ => 0))), (a_capOf_52, .inl (cI, 10, .inl (fun _ => 0))), (a_amountOf_55, .inl (cI, 12, .inl (fun _ => 0))), (a_tape_58, .inl (cB, 260, .inl (fun _ => 0))), (a_facts_71, .inl (cI, 8, .inl (fun _ => 0))), (a_leftOf_83, .inl (cI, 10, .inl (fun _ => 0))), (a_didOf_84, .inl (cI, 10, .inl (fun _ => 0))), (a_goFrom_77, .inl (cI, 10, .inl (fun _ => 0))), (a_goTo_78, .inl (cI, 10, .inl (fun _ => 0))), (a_idleFrom_79, .inl (cI, 10, .inl (fun _ => 0))), (a_idleTo_80, .inl (cI, 10, .inl (fun _ => 0))), (a_moreOf_81, .inl (cI, 10, .inl (fun _ => 0))), (a_firstOf_82, .inl (cI, 12, .inl fo5_94))] := hD
    refine lv_icmp_eq (tgt := 1309) hx hb dL_law_1245 (by decide) (fun _ => ?_) (fun c_1245 => absurd (hw_179.trans hw_181.symm) c_1245)
    refine lv_iinc (v := 6) (lv' := [(3, .int 6), (2, .ref q_45), (1, .ref q_1), (0, .ref b)]) hx hb dL_law_1309 hl (k := 0) rfl (by decide) (by decide) rfl (fun ls hl => ?_)
    refine lv_goto (tgt := 18) hx hb dL_law_1312 (by decide) ?_
    refine lv_iload_n hx hb dL_law_18 rfl (lv_at hl 0 rfl) ?_
    refine lv_aload_n hx hb dL_law_19 rfl (lv_at hl 3 rfl) ?_
    refine va_slen hx hb hX hbl hbA hS dL_law_20 ?_
    refine tv (z := 6) rfl ?_
    refine lv_bipush (v := 6) hx hb dL_law_21 (by decide) ?_
    refine lv_isub hx hb dL_law_23 ?_
    refine tv (z := 0) (by decide) ?_
    refine lv_icmp_gt (tgt := 1315) hx hb dL_law_24 (by decide) (fun _ => ?_) (fun c_24 => absurd (by decide) c_24)
    refine lv_iconst (v := 1) hx hb dL_law_1315 (by decide) ?_
    refine va_forget (fun q hq => hAq _ (hS.2.2 q hq)) ?_
    refine W.widen (k := 600000) (n := 7302250) (Nat.le_of_ble_eq_true rfl) (Nat.le_of_ble_eq_true rfl) ?_
    exact lw_ret hx hb hr hlocks dL_law_1316
  by_cases e33_30 : z = 30
  · subst e33_30
    refine lv_tableIn (off := 1217) (tgt := 1250) hx hb dL_law_33 (by decide) (by decide) (by decide) (by decide) ?_
    refine lv_aload_n hx hb dL_law_1250 rfl (lv_at hl 2 rfl) ?_
    refine cVR (As := []) (rest := []) (n := 0) (ci := 9) (q0 := 0) X hN hK hP (c_X9_undo l D cI cB q_1 tp_3 tw_5 nw_10 kp_14 lw_18 lr_26 dd_27 vv_28 tl_29 sc_37) (gV k_1054 k_1055 k_1056 k_92 k_1057) (by decide +kernel) ⟨Nat.le_of_ble_eq_true rfl, Nat.le_of_ble_eq_true rfl⟩ ⟨rfl, rfl⟩ [0] rfl rfl rfl rfl rfl rfl hl.1 (Nat.le_of_ble_eq_true rfl) dL_law_1251 ⟨Nat.le_of_ble_eq_true rfl, Nat.le_of_ble_eq_true rfl⟩ (fun r_182 hr_182 => ?_)
    subst hr_182
    refine lv_aload_n hx hb dL_law_1254 rfl (lv_at hl 1 rfl) ?_
    refine cVR (As := []) (rest := [.int 0]) (n := 0) (ci := 10) (q0 := 0) X hN hK hP (c_X10_undo l D cI cB q_45 a_now_47 a_aside_48 a_kept_49 a_keptFrom_50 a_keptTo_51 a_capOf_52 a_leaveFrom_53 a_leaveTo_54 a_amountOf_55 a_doerMany_56 a_doerOf_57 a_tape_58 a_said_59 a_waitsAt_60 a_saidLetter_61 a_saidFrom_62 a_saidHalf_63 a_saidTo_64 a_codes_65 a_clauseOf_66 a_codeFrom_67 a_codeHalf_68 a_codeTo_69 a_stack_70 a_facts_71 a_lineChore_72 a_lineMany_73 a_lineDoer_74 a_newFrom_75 a_newTo_76 a_goFrom_77 a_goTo_78 a_idleFrom_79 a_idleTo_80 a_moreOf_81 a_firstOf_82 a_leftOf_83 a_didOf_84 a_costBy_85 a_gainBy_86 a_hiredOf_87 a_hiredBest_88 a_hiredTo_89 a_turnOf_90 a_turnWho_91 0 0 0 0) (gV k_1658 k_1659 k_1660 k_103 k_1661) (by decide +kernel) ⟨Nat.le_of_ble_eq_true rfl, Nat.le_of_ble_eq_true rfl⟩ ⟨rfl, rfl⟩ [24] rfl rfl rfl rfl rfl rfl hl.1 (Nat.le_of_ble_eq_true rfl) dL_law_1255 ⟨Nat.le_of_ble_eq_true rfl, Nat.le_of_ble_eq_true rfl⟩ (fun r_183 hr_183 => ?_)
    subst hr_183
    refine lv_icmp_eq (tgt := 1309) hx hb dL_law_1258 (by decide) (fun _ => ?_) (fun c_1258 => absurd (rfl) c_1258)
    refine lv_iinc (v := 6) (lv' := [(3, .int 6), (2, .ref q_45), (1, .ref q_1), (0, .ref b)]) hx hb dL_law_1309 hl (k := 0) rfl (by decide) (by decide) rfl (fun ls hl => ?_)
    refine lv_goto (tgt := 18) hx hb dL_law_1312 (by decide) ?_
    refine lv_iload_n hx hb dL_law_18 rfl (lv_at hl 0 rfl) ?_
    refine lv_aload_n hx hb dL_law_19 rfl (lv_at hl 3 rfl) ?_
    refine va_slen hx hb hX hbl hbA hS dL_law_20 ?_
    refine tv (z := 6) rfl ?_
    refine lv_bipush (v := 6) hx hb dL_law_21 (by decide) ?_
    refine lv_isub hx hb dL_law_23 ?_
    refine tv (z := 0) (by decide) ?_
    refine lv_icmp_gt (tgt := 1315) hx hb dL_law_24 (by decide) (fun _ => ?_) (fun c_24 => absurd (by decide) c_24)
    refine lv_iconst (v := 1) hx hb dL_law_1315 (by decide) ?_
    refine va_forget (fun q hq => hAq _ (hS.2.2 q hq)) ?_
    refine W.widen (k := 600000) (n := 7302250) (Nat.le_of_ble_eq_true rfl) (Nat.le_of_ble_eq_true rfl) ?_
    exact lw_ret hx hb hr hlocks dL_law_1316
  by_cases e33_31 : z = 31
  · subst e33_31
    refine lv_tableIn (off := 1230) (tgt := 1263) hx hb dL_law_33 (by decide) (by decide) (by decide) (by decide) ?_
    refine lv_aload_n hx hb dL_law_1263 rfl (lv_at hl 2 rfl) ?_
    refine lv_aload_n hx hb dL_law_1264 rfl (lv_at hl 3 rfl) ?_
    refine lv_iload_n hx hb dL_law_1265 rfl (lv_at hl 0 rfl) ?_
    refine lv_iconst (v := 1) hx hb dL_law_1266 (by decide) ?_
    refine lv_iadd hx hb dL_law_1267 ?_
    refine tv (z := 1) (by decide) ?_
    refine va_sld hx hb hX hbl hbA hS (by unfold vp_in; decide) dL_law_1268 ?_
    refine tv (z := xs 1) rfl ?_
    refine cVI (As := [.int (xs 1)]) (rest := []) (n := 1) (ci := 9) (q0 := 0) (wr := [(by__4, .inl (cI, 260, .inl (fun _ => 0))), (tw_5, .inr (7, [.int 0, .int 0, .int 0, .ref t1_6, .ref t2_7, .ref t3_8, .ref t4_9])), (t1_6, .inl (cI, 10, .inl (fun _ => 0))), (t2_7, .inl (cI, 12, .inl (fun _ => 0))), (u2_11, .inl (cI, 12, .inl (fun _ => 0))), (f2_12, .inl (cI, 10, .inl ff2_38)), (g2_13, .inl (cI, 10, .inl fg2_39)), (kp_14, .inr (4, [.ref u3_15, .ref f3_16, .ref g3_17, .int 0, .int 0, .int 1])), (u3_15, .inl (cI, 12, .inl (fun _ => 0))), (f3_16, .inl (cI, 10, .inl ff3_40)), (g3_17, .inl (cI, 10, .inl fg3_41)), (lw_18, .inr (1, [.ref l1_19, .ref l2_20, .ref l3_21, .ref l4_22, .ref l5_23, .ref l6_24, .ref l7_25, .int 0, .int 0])), (l6_24, .inl (cI, 8, .inl (fun _ => 0))), (tl_29, .inr (8, [.ref tw_5, .ref lw_18, .ref st_30, .ref m1_34, .ref c1_35, .ref d1_36, .int 0, .int 0, .int 0, .int 0, .int 0, .int 0, .int 0, .int 0])), (st_30, .inr (4, [.ref u1_31, .ref f1_32, .ref g1_33, .int 0, .int 0, .int 1])), (u1_31, .inl (cI, 12, .inl (fun _ => 0))), (f1_32, .inl (cI, 10, .inl ff_42)), (g1_33, .inl (cI, 10, .inl fg_43)), (m1_34, .inl (cI, 10, .inl (fun _ => 0))), (c1_35, .inl (cI, 10, .inl (fun _ => 0))), (d1_36, .inl (cI, 10, .inl (fun _ => 0))), (q_45, .inr (10, [.ref a_now_47, .ref a_aside_48, .ref a_kept_49, .ref a_keptFrom_50, .ref a_keptTo_51, .ref a_capOf_52, .ref a_leaveFrom_53, .ref a_leaveTo_54, .ref a_amountOf_55, .ref a_doerMany_56, .ref a_doerOf_57, .int 0, .int 0, .int 0, .ref a_tape_58, .int 0, .int 0, .int 0, .int 0, .int 0, .int 0, .int 0, .int 0, .int 0, .int 0, .ref a_said_59, .ref a_waitsAt_60, .ref a_saidLetter_61, .ref a_saidFrom_62, .ref a_saidHalf_63, .ref a_saidTo_64, .ref a_codes_65, .ref a_clauseOf_66, .ref a_codeFrom_67, .ref a_codeHalf_68, .ref a_codeTo_69, .ref a_stack_70, .ref a_facts_71, .ref a_lineChore_72, .ref a_lineMany_73, .ref a_lineDoer_74, .ref a_newFrom_75, .ref a_newTo_76, .int 0, .ref a_goFrom_77, .ref a_goTo_78, .ref a_idleFrom_79, .ref a_idleTo_80, .ref a_moreOf_81, .ref a_firstOf_82, .ref a_leftOf_83, .ref a_didOf_84, .int 0, .int 0, .int 0, .int 0, .ref a_costBy_85, .int 0, .ref a_gainBy_86, .ref a_hiredOf_87, .ref a_hiredBest_88, .ref a_hiredTo_89, .ref a_turnOf_90, .ref a_turnWho_91, .int 0])), (a_now_47, .inl (cI, 15, .inl fw_92)), (a_aside_48, .inl (cI, 15, .inl (fun _ => 0))), (a_kept_49, .inl (cI, 15, .inl (fun _ => 0))), (a_keptFrom_50, .inl (cI, 10, .inl (fun _ => 0))), (a_keptTo_51, .inl (cI, 10, .inl (fun _ => 0))), (a_capOf_52, .inl (cI, 10, .inl (fun _ => 0))), (a_leaveFrom_53, .inl (cI, 10, .inl fl_93)), (a_leaveTo_54, .inl (cI, 10, .inl (fun _ => 0))), (a_amountOf_55, .inl (cI, 12, .inl (fun _ => 0))), (a_tape_58, .inl (cB, 260, .inl (fun _ => 0))), (a_facts_71, .inl (cI, 8, .inl (fun _ => 0))), (a_leftOf_83, .inl (cI, 10, .inl (fun _ => 0))), (a_didOf_84, .inl (cI, 10, .inl (fun _ => 0))), (a_goFrom_77, .inl (cI, 10, .inl (fun _ => 0))), (a_goTo_78, .inl (cI, 10, .inl (fun _ => 0))), (a_idleFrom_79, .inl (cI, 10, .inl (fun _ => 0))), (a_idleTo_80, .inl (cI, 10, .inl (fun _ => 0))), (a_moreOf_81, .inl (cI, 10, .inl (fun _ => 0))), (a_firstOf_82, .inl (cI, 12, .inl fo5_94))]) X hN hK hP hD hS hA (c_X9_check l D cI cB _ q_1 tp_3 tw_5 nw_10 kp_14 lw_18 lr_26 dd_27 vv_28 tl_29 sc_37 by__4 u2_11 f2_12 g2_13 (xs 1)) (gV k_1058 k_1059 k_1060 k_92 k_1061) (by decide +kernel) ⟨Nat.le_of_ble_eq_true rfl, Nat.le_of_ble_eq_true rfl⟩ ⟨rfl, rfl⟩ [0, 1, 6] [2, 3, 4, 5, 7, 8, 9, 10, 11, 12, 13, 14, 15, 16, 17, 18, 19, 20, 21, 22, 23, 24, 25, 26, 27, 28, 29, 30, 31, 32, 33, 34, 35, 36, 37, 38, 39, 40, 41, 42, 43] rfl rfl (by decide) (by decide) rfl rfl rfl rfl rfl hl.1 (Nat.le_of_ble_eq_true rfl) dL_law_1269 ⟨Nat.le_of_ble_eq_true rfl, Nat.le_of_ble_eq_true rfl⟩ (fun r_184 u H locs hw_185 hP hD hS => ?_)
    try dsimp only at hw_185
    have hP : va_P D vwCl [(by__4, .inl (cI, 260, .inl (fun _ => 0))), (tw_5, .inr (7, [.int 0, .int 0, .int 0, .ref t1_6, .ref t2_7, .ref t3_8, .ref t4_9])), (t1_6, .inl (cI, 10, .inl (fun _ => 0))), (t2_7, .inl (cI, 12, .inl (fun _ => 0))), (u2_11, .inl (cI, 12, .inl (fun _ => 0))), (f2_12, .inl (cI, 10, .inl ff2_38)), (g2_13, .inl (cI, 10, .inl fg2_39)), (kp_14, .inr (4, [.ref u3_15, .ref f3_16, .ref g3_17, .int 0, .int 0, .int 1])), (u3_15, .inl (cI, 12, .inl (fun _ => 0))), (f3_16, .inl (cI, 10, .inl ff3_40)), (g3_17, .inl (cI, 10, .inl fg3_41)), (lw_18, .inr (1, [.ref l1_19, .ref l2_20, .ref l3_21, .ref l4_22, .ref l5_23, .ref l6_24, .ref l7_25, .int 0, .int 0])), (l6_24, .inl (cI, 8, .inl (fun _ => 0))), (tl_29, .inr (8, [.ref tw_5, .ref lw_18, .ref st_30, .ref m1_34, .ref c1_35, .ref d1_36, .int 0, .int 0, .int 0, .int 0, .int 0, .int 0, .int 0, .int 0])), (st_30, .inr (4, [.ref u1_31, .ref f1_32, .ref g1_33, .int 0, .int 0, .int 1])), (u1_31, .inl (cI, 12, .inl (fun _ => 0))), (f1_32, .inl (cI, 10, .inl ff_42)), (g1_33, .inl (cI, 10, .inl fg_43)), (m1_34, .inl (cI, 10, .inl (fun _ => 0))), (c1_35, .inl (cI, 10, .inl (fun _ => 0))), (d1_36, .inl (cI, 10, .inl (fun _ => 0))), (q_45, .inr (10, [.ref a_now_47, .ref a_aside_48, .ref a_kept_49, .ref a_keptFrom_50, .ref a_keptTo_51, .ref a_capOf_52, .ref a_leaveFrom_53, .ref a_leaveTo_54, .ref a_amountOf_55, .ref a_doerMany_56, .ref a_doerOf_57, .int 0, .int 0, .int 0, .ref a_tape_58, .int 0, .int 0, .int 0, .int 0, .int 0, .int 0, .int 0, .int 0, .int 0, .int 0, .ref a_said_59, .ref a_waitsAt_60, .ref a_saidLetter_61, .ref a_saidFrom_62, .ref a_saidHalf_63, .ref a_saidTo_64, .ref a_codes_65, .ref a_clauseOf_66, .ref a_codeFrom_67, .ref a_codeHalf_68, .ref a_codeTo_69, .ref a_stack_70, .ref a_facts_71, .ref a_lineChore_72, .ref a_lineMany_73, .ref a_lineDoer_74, .ref a_newFrom_75, .ref a_newTo_76, .int 0, .ref a_goFrom_77, .ref a_goTo_78, .ref a_idleFrom_79, .ref a_idleTo_80, .ref a_moreOf_81, .ref a_firstOf_82, .ref a_leftOf_83, .ref a_didOf_84, .int 0, .int 0, .int 0, .int 0, .ref a_costBy_85, .int 0, .ref a_gainBy_86, .ref a_hiredOf_87, .ref a_hiredBest_88, .ref a_hiredTo_89, .ref a_turnOf_90, .ref a_turnWho_91, .int 0])), (a_now_47, .inl (cI, 15, .inl fw_92)), (a_aside_48, .inl (cI, 15, .inl (fun _ => 0))), (a_kept_49, .inl (cI, 15, .inl (fun _ => 0))), (a_keptFrom_50, .inl (cI, 10, .inl (fun _ => 0))), (a_keptTo_51, .inl (cI, 10, .inl (fun _ => 0))), (a_capOf_52, .inl (cI, 10, .inl (fun _ => 0))), (a_leaveFrom_53, .inl (cI, 10, .inl fl_93)), (a_leaveTo_54, .inl (cI, 10, .inl (fun _ => 0))), (a_amountOf_55, .inl (cI, 12, .inl (fun _ => 0))), (a_tape_58, .inl (cB, 260, .inl (fun _ => 0))), (a_facts_71, .inl (cI, 8, .inl (fun _ => 0))), (a_leftOf_83, .inl (cI, 10, .inl (fun _ => 0))), (a_didOf_84, .inl (cI, 10, .inl (fun _ => 0))), (a_goFrom_77, .inl (cI, 10, .inl (fun _ => 0))), (a_goTo_78, .inl (cI, 10, .inl (fun _ => 0))), (a_idleFrom_79, .inl (cI, 10, .inl (fun _ => 0))), (a_idleTo_80, .inl (cI, 10, .inl (fun _ => 0))), (a_moreOf_81, .inl (cI, 10, .inl (fun _ => 0))), (a_firstOf_82, .inl (cI, 12, .inl fo5_94))] H := hP
    have hD : va_D A [(by__4, .inl (cI, 260, .inl (fun _ => 0))), (tw_5, .inr (7, [.int 0, .int 0, .int 0, .ref t1_6, .ref t2_7, .ref t3_8, .ref t4_9])), (t1_6, .inl (cI, 10, .inl (fun _ => 0))), (t2_7, .inl (cI, 12, .inl (fun _ => 0))), (u2_11, .inl (cI, 12, .inl (fun _ => 0))), (f2_12, .inl (cI, 10, .inl ff2_38)), (g2_13, .inl (cI, 10, .inl fg2_39)), (kp_14, .inr (4, [.ref u3_15, .ref f3_16, .ref g3_17, .int 0, .int 0, .int 1])), (u3_15, .inl (cI, 12, .inl (fun _ => 0))), (f3_16, .inl (cI, 10, .inl ff3_40)), (g3_17, .inl (cI, 10, .inl fg3_41)), (lw_18, .inr (1, [.ref l1_19, .ref l2_20, .ref l3_21, .ref l4_22, .ref l5_23, .ref l6_24, .ref l7_25, .int 0, .int 0])), (l6_24, .inl (cI, 8, .inl (fun _ => 0))), (tl_29, .inr (8, [.ref tw_5, .ref lw_18, .ref st_30, .ref m1_34, .ref c1_35, .ref d1_36, .int 0, .int 0, .int 0, .int 0, .int 0, .int 0, .int 0, .int 0])), (st_30, .inr (4, [.ref u1_31, .ref f1_32, .ref g1_33, .int 0, .int 0, .int 1])), (u1_31, .inl (cI, 12, .inl (fun _ => 0))), (f1_32, .inl (cI, 10, .inl ff_42)), (g1_33, .inl (cI, 10, .inl fg_43)), (m1_34, .inl (cI, 10, .inl (fun _ => 0))), (c1_35, .inl (cI, 10, .inl (fun _ => 0))), (d1_36, .inl (cI, 10, .inl (fun _ => 0))), (q_45, .inr (10, [.ref a_now_47, .ref a_aside_48, .ref a_kept_49, .ref a_keptFrom_50, .ref a_keptTo_51, .ref a_capOf_52, .ref a_leaveFrom_53, .ref a_leaveTo_54, .ref a_amountOf_55, .ref a_doerMany_56, .ref a_doerOf_57, .int 0, .int 0, .int 0, .ref a_tape_58, .int 0, .int 0, .int 0, .int 0, .int 0, .int 0, .int 0, .int 0, .int 0, .int 0, .ref a_said_59, .ref a_waitsAt_60, .ref a_saidLetter_61, .ref a_saidFrom_62, .ref a_saidHalf_63, .ref a_saidTo_64, .ref a_codes_65, .ref a_clauseOf_66, .ref a_codeFrom_67, .ref a_codeHalf_68, .ref a_codeTo_69, .ref a_stack_70, .ref a_facts_71, .ref a_lineChore_72, .ref a_lineMany_73, .ref a_lineDoer_74, .ref a_newFrom_75, .ref a_newTo_76, .int 0, .ref a_goFrom_77, .ref a_goTo_78, .ref a_idleFrom_79, .ref a_idleTo_80, .ref a_moreOf_81, .ref a_firstOf_82, .ref a_leftOf_83, .ref a_didOf_84, .int 0, .int 0, .int 0, .int 0, .ref a_costBy_85, .int 0, .ref a_gainBy_86, .ref a_hiredOf_87, .ref a_hiredBest_88, .ref a_hiredTo_89, .ref a_turnOf_90, .ref a_turnWho_91, .int 0])), (a_now_47, .inl (cI, 15, .inl fw_92)), (a_aside_48, .inl (cI, 15, .inl (fun _ => 0))), (a_kept_49, .inl (cI, 15, .inl (fun _ => 0))), (a_keptFrom_50, .inl (cI, 10, .inl (fun _ => 0))), (a_keptTo_51, .inl (cI, 10, .inl (fun _ => 0))), (a_capOf_52, .inl (cI, 10, .inl (fun _ => 0))), (a_leaveFrom_53, .inl (cI, 10, .inl fl_93)), (a_leaveTo_54, .inl (cI, 10, .inl (fun _ => 0))), (a_amountOf_55, .inl (cI, 12, .inl (fun _ => 0))), (a_tape_58, .inl (cB, 260, .inl (fun _ => 0))), (a_facts_71, .inl (cI, 8, .inl (fun _ => 0))), (a_leftOf_83, .inl (cI, 10, .inl (fun _ => 0))), (a_didOf_84, .inl (cI, 10, .inl (fun _ => 0))), (a_goFrom_77, .inl (cI, 10, .inl (fun _ => 0))), (a_goTo_78, .inl (cI, 10, .inl (fun _ => 0))), (a_idleFrom_79, .inl (cI, 10, .inl (fun _ => 0))), (a_idleTo_80, .inl (cI, 10, .inl (fun _ => 0))), (a_moreOf_81, .inl (cI, 10, .inl (fun _ => 0))), (a_firstOf_82, .inl (cI, 12, .inl fo5_94))] := hD
    refine lv_aload_n hx hb dL_law_1272 rfl (lv_at hl 1 rfl) ?_
    refine lv_aload_n hx hb dL_law_1273 rfl (lv_at hl 3 rfl) ?_
    refine lv_iload_n hx hb dL_law_1274 rfl (lv_at hl 0 rfl) ?_
    refine lv_iconst (v := 1) hx hb dL_law_1275 (by decide) ?_
    refine lv_iadd hx hb dL_law_1276 ?_
    refine tv (z := 1) (by decide) ?_
    refine va_sld hx hb hX hbl hbA hS (by unfold vp_in; decide) dL_law_1277 ?_
    refine tv (z := xs 1) rfl ?_
    refine cVI (As := [.int (xs 1)]) (rest := [.int r_184]) (n := 1) (ci := 10) (q0 := 0) (wr := [(by__4, .inl (cI, 260, .inl (fun _ => 0))), (tw_5, .inr (7, [.int 0, .int 0, .int 0, .ref t1_6, .ref t2_7, .ref t3_8, .ref t4_9])), (t1_6, .inl (cI, 10, .inl (fun _ => 0))), (t2_7, .inl (cI, 12, .inl (fun _ => 0))), (u2_11, .inl (cI, 12, .inl (fun _ => 0))), (f2_12, .inl (cI, 10, .inl ff2_38)), (g2_13, .inl (cI, 10, .inl fg2_39)), (kp_14, .inr (4, [.ref u3_15, .ref f3_16, .ref g3_17, .int 0, .int 0, .int 1])), (u3_15, .inl (cI, 12, .inl (fun _ => 0))), (f3_16, .inl (cI, 10, .inl ff3_40)), (g3_17, .inl (cI, 10, .inl fg3_41)), (lw_18, .inr (1, [.ref l1_19, .ref l2_20, .ref l3_21, .ref l4_22, .ref l5_23, .ref l6_24, .ref l7_25, .int 0, .int 0])), (l6_24, .inl (cI, 8, .inl (fun _ => 0))), (tl_29, .inr (8, [.ref tw_5, .ref lw_18, .ref st_30, .ref m1_34, .ref c1_35, .ref d1_36, .int 0, .int 0, .int 0, .int 0, .int 0, .int 0, .int 0, .int 0])), (st_30, .inr (4, [.ref u1_31, .ref f1_32, .ref g1_33, .int 0, .int 0, .int 1])), (u1_31, .inl (cI, 12, .inl (fun _ => 0))), (f1_32, .inl (cI, 10, .inl ff_42)), (g1_33, .inl (cI, 10, .inl fg_43)), (m1_34, .inl (cI, 10, .inl (fun _ => 0))), (c1_35, .inl (cI, 10, .inl (fun _ => 0))), (d1_36, .inl (cI, 10, .inl (fun _ => 0))), (a_now_47, .inl (cI, 15, .inl fw_92)), (a_aside_48, .inl (cI, 15, .inl (fun _ => 0))), (a_kept_49, .inl (cI, 15, .inl (fun _ => 0))), (a_keptFrom_50, .inl (cI, 10, .inl (fun _ => 0))), (a_keptTo_51, .inl (cI, 10, .inl (fun _ => 0))), (a_capOf_52, .inl (cI, 10, .inl (fun _ => 0))), (a_leaveFrom_53, .inl (cI, 10, .inl fl_93)), (a_leaveTo_54, .inl (cI, 10, .inl (fun _ => 0))), (a_amountOf_55, .inl (cI, 12, .inl (fun _ => 0))), (a_tape_58, .inl (cB, 260, .inl (fun _ => 0))), (a_facts_71, .inl (cI, 8, .inl (fun _ => 0))), (a_leftOf_83, .inl (cI, 10, .inl (fun _ => 0))), (a_didOf_84, .inl (cI, 10, .inl (fun _ => 0))), (a_goFrom_77, .inl (cI, 10, .inl (fun _ => 0))), (a_goTo_78, .inl (cI, 10, .inl (fun _ => 0))), (a_idleFrom_79, .inl (cI, 10, .inl (fun _ => 0))), (a_idleTo_80, .inl (cI, 10, .inl (fun _ => 0))), (a_moreOf_81, .inl (cI, 10, .inl (fun _ => 0))), (a_firstOf_82, .inl (cI, 12, .inl fo5_94))]) X hN hK hP hD hS hA (c_X10_check l D cI cB _ q_45 a_now_47 a_aside_48 a_kept_49 a_keptFrom_50 a_keptTo_51 a_capOf_52 a_leaveFrom_53 a_leaveTo_54 a_amountOf_55 a_doerMany_56 a_doerOf_57 a_tape_58 a_said_59 a_waitsAt_60 a_saidLetter_61 a_saidFrom_62 a_saidHalf_63 a_saidTo_64 a_codes_65 a_clauseOf_66 a_codeFrom_67 a_codeHalf_68 a_codeTo_69 a_stack_70 a_facts_71 a_lineChore_72 a_lineMany_73 a_lineDoer_74 a_newFrom_75 a_newTo_76 a_goFrom_77 a_goTo_78 a_idleFrom_79 a_idleTo_80 a_moreOf_81 a_firstOf_82 a_leftOf_83 a_didOf_84 a_costBy_85 a_gainBy_86 a_hiredOf_87 a_hiredBest_88 a_hiredTo_89 a_turnOf_90 a_turnWho_91 0 0 0 0 (xs 1)) (gV k_1662 k_1663 k_1664 k_103 k_1665) (by decide +kernel) ⟨Nat.le_of_ble_eq_true rfl, Nat.le_of_ble_eq_true rfl⟩ ⟨rfl, rfl⟩ [21] [0, 1, 2, 3, 4, 5, 6, 7, 8, 9, 10, 11, 12, 13, 14, 15, 16, 17, 18, 19, 20, 22, 23, 24, 25, 26, 27, 28, 29, 30, 31, 32, 33, 34, 35, 36, 37, 38, 39, 40] rfl rfl (by decide) (by decide) rfl rfl rfl rfl rfl hl.1 (Nat.le_of_ble_eq_true rfl) dL_law_1278 ⟨Nat.le_of_ble_eq_true rfl, Nat.le_of_ble_eq_true rfl⟩ (fun r_186 u H locs hw_187 hP hD hS => ?_)
    try dsimp only at hw_187
    have hP : va_P D vwCl [(by__4, .inl (cI, 260, .inl (fun _ => 0))), (tw_5, .inr (7, [.int 0, .int 0, .int 0, .ref t1_6, .ref t2_7, .ref t3_8, .ref t4_9])), (t1_6, .inl (cI, 10, .inl (fun _ => 0))), (t2_7, .inl (cI, 12, .inl (fun _ => 0))), (u2_11, .inl (cI, 12, .inl (fun _ => 0))), (f2_12, .inl (cI, 10, .inl ff2_38)), (g2_13, .inl (cI, 10, .inl fg2_39)), (kp_14, .inr (4, [.ref u3_15, .ref f3_16, .ref g3_17, .int 0, .int 0, .int 1])), (u3_15, .inl (cI, 12, .inl (fun _ => 0))), (f3_16, .inl (cI, 10, .inl ff3_40)), (g3_17, .inl (cI, 10, .inl fg3_41)), (lw_18, .inr (1, [.ref l1_19, .ref l2_20, .ref l3_21, .ref l4_22, .ref l5_23, .ref l6_24, .ref l7_25, .int 0, .int 0])), (l6_24, .inl (cI, 8, .inl (fun _ => 0))), (tl_29, .inr (8, [.ref tw_5, .ref lw_18, .ref st_30, .ref m1_34, .ref c1_35, .ref d1_36, .int 0, .int 0, .int 0, .int 0, .int 0, .int 0, .int 0, .int 0])), (st_30, .inr (4, [.ref u1_31, .ref f1_32, .ref g1_33, .int 0, .int 0, .int 1])), (u1_31, .inl (cI, 12, .inl (fun _ => 0))), (f1_32, .inl (cI, 10, .inl ff_42)), (g1_33, .inl (cI, 10, .inl fg_43)), (m1_34, .inl (cI, 10, .inl (fun _ => 0))), (c1_35, .inl (cI, 10, .inl (fun _ => 0))), (d1_36, .inl (cI, 10, .inl (fun _ => 0))), (a_now_47, .inl (cI, 15, .inl fw_92)), (a_aside_48, .inl (cI, 15, .inl (fun _ => 0))), (a_kept_49, .inl (cI, 15, .inl (fun _ => 0))), (a_keptFrom_50, .inl (cI, 10, .inl (fun _ => 0))), (a_keptTo_51, .inl (cI, 10, .inl (fun _ => 0))), (a_capOf_52, .inl (cI, 10, .inl (fun _ => 0))), (a_leaveFrom_53, .inl (cI, 10, .inl fl_93)), (a_leaveTo_54, .inl (cI, 10, .inl (fun _ => 0))), (a_amountOf_55, .inl (cI, 12, .inl (fun _ => 0))), (a_tape_58, .inl (cB, 260, .inl (fun _ => 0))), (a_facts_71, .inl (cI, 8, .inl (fun _ => 0))), (a_leftOf_83, .inl (cI, 10, .inl (fun _ => 0))), (a_didOf_84, .inl (cI, 10, .inl (fun _ => 0))), (a_goFrom_77, .inl (cI, 10, .inl (fun _ => 0))), (a_goTo_78, .inl (cI, 10, .inl (fun _ => 0))), (a_idleFrom_79, .inl (cI, 10, .inl (fun _ => 0))), (a_idleTo_80, .inl (cI, 10, .inl (fun _ => 0))), (a_moreOf_81, .inl (cI, 10, .inl (fun _ => 0))), (a_firstOf_82, .inl (cI, 12, .inl fo5_94))] H := hP
    have hD : va_D A [(by__4, .inl (cI, 260, .inl (fun _ => 0))), (tw_5, .inr (7, [.int 0, .int 0, .int 0, .ref t1_6, .ref t2_7, .ref t3_8, .ref t4_9])), (t1_6, .inl (cI, 10, .inl (fun _ => 0))), (t2_7, .inl (cI, 12, .inl (fun _ => 0))), (u2_11, .inl (cI, 12, .inl (fun _ => 0))), (f2_12, .inl (cI, 10, .inl ff2_38)), (g2_13, .inl (cI, 10, .inl fg2_39)), (kp_14, .inr (4, [.ref u3_15, .ref f3_16, .ref g3_17, .int 0, .int 0, .int 1])), (u3_15, .inl (cI, 12, .inl (fun _ => 0))), (f3_16, .inl (cI, 10, .inl ff3_40)), (g3_17, .inl (cI, 10, .inl fg3_41)), (lw_18, .inr (1, [.ref l1_19, .ref l2_20, .ref l3_21, .ref l4_22, .ref l5_23, .ref l6_24, .ref l7_25, .int 0, .int 0])), (l6_24, .inl (cI, 8, .inl (fun _ => 0))), (tl_29, .inr (8, [.ref tw_5, .ref lw_18, .ref st_30, .ref m1_34, .ref c1_35, .ref d1_36, .int 0, .int 0, .int 0, .int 0, .int 0, .int 0, .int 0, .int 0])), (st_30, .inr (4, [.ref u1_31, .ref f1_32, .ref g1_33, .int 0, .int 0, .int 1])), (u1_31, .inl (cI, 12, .inl (fun _ => 0))), (f1_32, .inl (cI, 10, .inl ff_42)), (g1_33, .inl (cI, 10, .inl fg_43)), (m1_34, .inl (cI, 10, .inl (fun _ => 0))), (c1_35, .inl (cI, 10, .inl (fun _ => 0))), (d1_36, .inl (cI, 10, .inl (fun _ => 0))), (a_now_47, .inl (cI, 15, .inl fw_92)), (a_aside_48, .inl (cI, 15, .inl (fun _ => 0))), (a_kept_49, .inl (cI, 15, .inl (fun _ => 0))), (a_keptFrom_50, .inl (cI, 10, .inl (fun _ => 0))), (a_keptTo_51, .inl (cI, 10, .inl (fun _ => 0))), (a_capOf_52, .inl (cI, 10, .inl (fun _ => 0))), (a_leaveFrom_53, .inl (cI, 10, .inl fl_93)), (a_leaveTo_54, .inl (cI, 10, .inl (fun _ => 0))), (a_amountOf_55, .inl (cI, 12, .inl (fun _ => 0))), (a_tape_58, .inl (cB, 260, .inl (fun _ => 0))), (a_facts_71, .inl (cI, 8, .inl (fun _ => 0))), (a_leftOf_83, .inl (cI, 10, .inl (fun _ => 0))), (a_didOf_84, .inl (cI, 10, .inl (fun _ => 0))), (a_goFrom_77, .inl (cI, 10, .inl (fun _ => 0))), (a_goTo_78, .inl (cI, 10, .inl (fun _ => 0))), (a_idleFrom_79, .inl (cI, 10, .inl (fun _ => 0))), (a_idleTo_80, .inl (cI, 10, .inl (fun _ => 0))), (a_moreOf_81, .inl (cI, 10, .inl (fun _ => 0))), (a_firstOf_82, .inl (cI, 12, .inl fo5_94))] := hD
    refine lv_icmp_eq (tgt := 1309) hx hb dL_law_1281 (by decide) (fun _ => ?_) (fun c_1281 => absurd (hw_185.trans hw_187.symm) c_1281)
    refine lv_iinc (v := 6) (lv' := [(3, .int 6), (2, .ref q_45), (1, .ref q_1), (0, .ref b)]) hx hb dL_law_1309 hl (k := 0) rfl (by decide) (by decide) rfl (fun ls hl => ?_)
    refine lv_goto (tgt := 18) hx hb dL_law_1312 (by decide) ?_
    refine lv_iload_n hx hb dL_law_18 rfl (lv_at hl 0 rfl) ?_
    refine lv_aload_n hx hb dL_law_19 rfl (lv_at hl 3 rfl) ?_
    refine va_slen hx hb hX hbl hbA hS dL_law_20 ?_
    refine tv (z := 6) rfl ?_
    refine lv_bipush (v := 6) hx hb dL_law_21 (by decide) ?_
    refine lv_isub hx hb dL_law_23 ?_
    refine tv (z := 0) (by decide) ?_
    refine lv_icmp_gt (tgt := 1315) hx hb dL_law_24 (by decide) (fun _ => ?_) (fun c_24 => absurd (by decide) c_24)
    refine lv_iconst (v := 1) hx hb dL_law_1315 (by decide) ?_
    refine va_forget (fun q hq => hAq _ (hS.2.2 q hq)) ?_
    refine W.widen (k := 600000) (n := 7302250) (Nat.le_of_ble_eq_true rfl) (Nat.le_of_ble_eq_true rfl) ?_
    exact lw_ret hx hb hr hlocks dL_law_1316
  by_cases e33_32 : z = 32
  · subst e33_32
    refine lv_tableIn (off := 1253) (tgt := 1286) hx hb dL_law_33 (by decide) (by decide) (by decide) (by decide) ?_
    refine lv_aload_n hx hb dL_law_1286 rfl (lv_at hl 2 rfl) ?_
    refine lv_aload_n hx hb dL_law_1287 rfl (lv_at hl 3 rfl) ?_
    refine lv_iload_n hx hb dL_law_1288 rfl (lv_at hl 0 rfl) ?_
    refine lv_iconst (v := 1) hx hb dL_law_1289 (by decide) ?_
    refine lv_iadd hx hb dL_law_1290 ?_
    refine tv (z := 1) (by decide) ?_
    refine va_sld hx hb hX hbl hbA hS (by unfold vp_in; decide) dL_law_1291 ?_
    refine tv (z := xs 1) rfl ?_
    refine cVR (As := [.int (xs 1)]) (rest := []) (n := 1) (ci := 9) (q0 := 0) X hN hK hP (c_X9_count l D cI cB q_1 tp_3 tw_5 nw_10 kp_14 lw_18 lr_26 dd_27 vv_28 tl_29 sc_37 t1_6 t2_7 t3_8 t4_9 by__4 u2_11 f2_12 g2_13 ff2_38 fg2_39 l1_19 l2_20 l3_21 l4_22 l5_23 l6_24 l7_25 0 (xs 1) hw_44.1 hw_44.2.1) (gV k_884 k_885 k_886 k_92 k_887) (by decide +kernel) ⟨Nat.le_of_ble_eq_true rfl, Nat.le_of_ble_eq_true rfl⟩ ⟨rfl, rfl⟩ [0, 1, 3, 6, 8, 9, 14] rfl rfl rfl rfl rfl rfl hl.1 (Nat.le_of_ble_eq_true rfl) dL_law_1292 ⟨Nat.le_of_ble_eq_true rfl, Nat.le_of_ble_eq_true rfl⟩ (fun r_188 hr_188 => ?_)
    subst hr_188
    refine lv_aload_n hx hb dL_law_1295 rfl (lv_at hl 1 rfl) ?_
    refine lv_aload_n hx hb dL_law_1296 rfl (lv_at hl 3 rfl) ?_
    refine lv_iload_n hx hb dL_law_1297 rfl (lv_at hl 0 rfl) ?_
    refine lv_iconst (v := 1) hx hb dL_law_1298 (by decide) ?_
    refine lv_iadd hx hb dL_law_1299 ?_
    refine tv (z := 1) (by decide) ?_
    refine va_sld hx hb hX hbl hbA hS (by unfold vp_in; decide) dL_law_1300 ?_
    refine tv (z := xs 1) rfl ?_
    refine cVI (As := [.int (xs 1)]) (rest := [.int (iI ((xs 1) = 7) 1 (iI (0 ≤ (xs 1) ∧ (xs 1) ≤ 9) 0 (-1)))]) (n := 1) (ci := 10) (q0 := 0) (wr := [(q_1, .inr (9, [.ref tp_3, .ref tw_5, .ref nw_10, .ref kp_14, .ref lw_18, .ref lr_26, .ref dd_27, .ref vv_28, .ref tl_29, .ref sc_37, .int 0])), (tp_3, .inr (5, [.ref by__4, .int 0])), (by__4, .inl (cI, 260, .inl (fun _ => 0))), (tw_5, .inr (7, [.int 0, .int 0, .int 0, .ref t1_6, .ref t2_7, .ref t3_8, .ref t4_9])), (t1_6, .inl (cI, 10, .inl (fun _ => 0))), (t2_7, .inl (cI, 12, .inl (fun _ => 0))), (nw_10, .inr (4, [.ref u2_11, .ref f2_12, .ref g2_13, .int 0, .int 0, .int 1])), (u2_11, .inl (cI, 12, .inl (fun _ => 0))), (f2_12, .inl (cI, 10, .inl ff2_38)), (g2_13, .inl (cI, 10, .inl fg2_39)), (kp_14, .inr (4, [.ref u3_15, .ref f3_16, .ref g3_17, .int 0, .int 0, .int 1])), (u3_15, .inl (cI, 12, .inl (fun _ => 0))), (f3_16, .inl (cI, 10, .inl ff3_40)), (g3_17, .inl (cI, 10, .inl fg3_41)), (lw_18, .inr (1, [.ref l1_19, .ref l2_20, .ref l3_21, .ref l4_22, .ref l5_23, .ref l6_24, .ref l7_25, .int 0, .int 0])), (l6_24, .inl (cI, 8, .inl (fun _ => 0))), (tl_29, .inr (8, [.ref tw_5, .ref lw_18, .ref st_30, .ref m1_34, .ref c1_35, .ref d1_36, .int 0, .int 0, .int 0, .int 0, .int 0, .int 0, .int 0, .int 0])), (st_30, .inr (4, [.ref u1_31, .ref f1_32, .ref g1_33, .int 0, .int 0, .int 1])), (u1_31, .inl (cI, 12, .inl (fun _ => 0))), (f1_32, .inl (cI, 10, .inl ff_42)), (g1_33, .inl (cI, 10, .inl fg_43)), (m1_34, .inl (cI, 10, .inl (fun _ => 0))), (c1_35, .inl (cI, 10, .inl (fun _ => 0))), (d1_36, .inl (cI, 10, .inl (fun _ => 0))), (a_kept_49, .inl (cI, 15, .inl (fun _ => 0))), (a_keptFrom_50, .inl (cI, 10, .inl (fun _ => 0))), (a_keptTo_51, .inl (cI, 10, .inl (fun _ => 0))), (a_capOf_52, .inl (cI, 10, .inl (fun _ => 0))), (a_leaveTo_54, .inl (cI, 10, .inl (fun _ => 0))), (a_amountOf_55, .inl (cI, 12, .inl (fun _ => 0))), (a_tape_58, .inl (cB, 260, .inl (fun _ => 0)))]) X hN hK hP hD hS hA (c_X10_count l D cI cB _ q_45 a_now_47 a_aside_48 a_kept_49 a_keptFrom_50 a_keptTo_51 a_capOf_52 a_leaveFrom_53 a_leaveTo_54 a_amountOf_55 a_doerMany_56 a_doerOf_57 a_tape_58 a_said_59 a_waitsAt_60 a_saidLetter_61 a_saidFrom_62 a_saidHalf_63 a_saidTo_64 a_codes_65 a_clauseOf_66 a_codeFrom_67 a_codeHalf_68 a_codeTo_69 a_stack_70 a_facts_71 a_lineChore_72 a_lineMany_73 a_lineDoer_74 a_newFrom_75 a_newTo_76 a_goFrom_77 a_goTo_78 a_idleFrom_79 a_idleTo_80 a_moreOf_81 a_firstOf_82 a_leftOf_83 a_didOf_84 a_costBy_85 a_gainBy_86 a_hiredOf_87 a_hiredBest_88 a_hiredTo_89 a_turnOf_90 a_turnWho_91 0 0 0 0 fw_92 (fun _ => 0) (fun _ => 0) (fun _ => 0) (fun _ => 0) (fun _ => 0) (fun _ => 0) (fun _ => 0) (fun _ => 0) (fun _ => 0) fo5_94 fl_93 (xs 1) hw_95.1.1 hw_95.1.2.1 hw_95.1.2.2 hw_95.2) (gV k_1666 k_1667 k_1668 k_103 k_1669) (by decide +kernel) ⟨Nat.le_of_ble_eq_true rfl, Nat.le_of_ble_eq_true rfl⟩ ⟨rfl, rfl⟩ [24, 25, 26, 35, 36, 37, 38, 39, 40, 41, 42, 43, 31] [0, 1, 2, 3, 4, 5, 6, 7, 8, 9, 10, 11, 12, 13, 14, 15, 16, 17, 18, 19, 20, 21, 22, 23, 27, 28, 29, 30, 32, 33, 34] rfl rfl (by decide) (by decide) rfl rfl rfl rfl rfl hl.1 (Nat.le_of_ble_eq_true rfl) dL_law_1301 ⟨Nat.le_of_ble_eq_true rfl, Nat.le_of_ble_eq_true rfl⟩ (fun r_189 u H locs hw_190 hP hD hS => ?_)
    try dsimp only at hw_190
    have hP : va_P D vwCl [(q_1, .inr (9, [.ref tp_3, .ref tw_5, .ref nw_10, .ref kp_14, .ref lw_18, .ref lr_26, .ref dd_27, .ref vv_28, .ref tl_29, .ref sc_37, .int 0])), (tp_3, .inr (5, [.ref by__4, .int 0])), (by__4, .inl (cI, 260, .inl (fun _ => 0))), (tw_5, .inr (7, [.int 0, .int 0, .int 0, .ref t1_6, .ref t2_7, .ref t3_8, .ref t4_9])), (t1_6, .inl (cI, 10, .inl (fun _ => 0))), (t2_7, .inl (cI, 12, .inl (fun _ => 0))), (nw_10, .inr (4, [.ref u2_11, .ref f2_12, .ref g2_13, .int 0, .int 0, .int 1])), (u2_11, .inl (cI, 12, .inl (fun _ => 0))), (f2_12, .inl (cI, 10, .inl ff2_38)), (g2_13, .inl (cI, 10, .inl fg2_39)), (kp_14, .inr (4, [.ref u3_15, .ref f3_16, .ref g3_17, .int 0, .int 0, .int 1])), (u3_15, .inl (cI, 12, .inl (fun _ => 0))), (f3_16, .inl (cI, 10, .inl ff3_40)), (g3_17, .inl (cI, 10, .inl fg3_41)), (lw_18, .inr (1, [.ref l1_19, .ref l2_20, .ref l3_21, .ref l4_22, .ref l5_23, .ref l6_24, .ref l7_25, .int 0, .int 0])), (l6_24, .inl (cI, 8, .inl (fun _ => 0))), (tl_29, .inr (8, [.ref tw_5, .ref lw_18, .ref st_30, .ref m1_34, .ref c1_35, .ref d1_36, .int 0, .int 0, .int 0, .int 0, .int 0, .int 0, .int 0, .int 0])), (st_30, .inr (4, [.ref u1_31, .ref f1_32, .ref g1_33, .int 0, .int 0, .int 1])), (u1_31, .inl (cI, 12, .inl (fun _ => 0))), (f1_32, .inl (cI, 10, .inl ff_42)), (g1_33, .inl (cI, 10, .inl fg_43)), (m1_34, .inl (cI, 10, .inl (fun _ => 0))), (c1_35, .inl (cI, 10, .inl (fun _ => 0))), (d1_36, .inl (cI, 10, .inl (fun _ => 0))), (a_kept_49, .inl (cI, 15, .inl (fun _ => 0))), (a_keptFrom_50, .inl (cI, 10, .inl (fun _ => 0))), (a_keptTo_51, .inl (cI, 10, .inl (fun _ => 0))), (a_capOf_52, .inl (cI, 10, .inl (fun _ => 0))), (a_leaveTo_54, .inl (cI, 10, .inl (fun _ => 0))), (a_amountOf_55, .inl (cI, 12, .inl (fun _ => 0))), (a_tape_58, .inl (cB, 260, .inl (fun _ => 0)))] H := hP
    have hD : va_D A [(q_1, .inr (9, [.ref tp_3, .ref tw_5, .ref nw_10, .ref kp_14, .ref lw_18, .ref lr_26, .ref dd_27, .ref vv_28, .ref tl_29, .ref sc_37, .int 0])), (tp_3, .inr (5, [.ref by__4, .int 0])), (by__4, .inl (cI, 260, .inl (fun _ => 0))), (tw_5, .inr (7, [.int 0, .int 0, .int 0, .ref t1_6, .ref t2_7, .ref t3_8, .ref t4_9])), (t1_6, .inl (cI, 10, .inl (fun _ => 0))), (t2_7, .inl (cI, 12, .inl (fun _ => 0))), (nw_10, .inr (4, [.ref u2_11, .ref f2_12, .ref g2_13, .int 0, .int 0, .int 1])), (u2_11, .inl (cI, 12, .inl (fun _ => 0))), (f2_12, .inl (cI, 10, .inl ff2_38)), (g2_13, .inl (cI, 10, .inl fg2_39)), (kp_14, .inr (4, [.ref u3_15, .ref f3_16, .ref g3_17, .int 0, .int 0, .int 1])), (u3_15, .inl (cI, 12, .inl (fun _ => 0))), (f3_16, .inl (cI, 10, .inl ff3_40)), (g3_17, .inl (cI, 10, .inl fg3_41)), (lw_18, .inr (1, [.ref l1_19, .ref l2_20, .ref l3_21, .ref l4_22, .ref l5_23, .ref l6_24, .ref l7_25, .int 0, .int 0])), (l6_24, .inl (cI, 8, .inl (fun _ => 0))), (tl_29, .inr (8, [.ref tw_5, .ref lw_18, .ref st_30, .ref m1_34, .ref c1_35, .ref d1_36, .int 0, .int 0, .int 0, .int 0, .int 0, .int 0, .int 0, .int 0])), (st_30, .inr (4, [.ref u1_31, .ref f1_32, .ref g1_33, .int 0, .int 0, .int 1])), (u1_31, .inl (cI, 12, .inl (fun _ => 0))), (f1_32, .inl (cI, 10, .inl ff_42)), (g1_33, .inl (cI, 10, .inl fg_43)), (m1_34, .inl (cI, 10, .inl (fun _ => 0))), (c1_35, .inl (cI, 10, .inl (fun _ => 0))), (d1_36, .inl (cI, 10, .inl (fun _ => 0))), (a_kept_49, .inl (cI, 15, .inl (fun _ => 0))), (a_keptFrom_50, .inl (cI, 10, .inl (fun _ => 0))), (a_keptTo_51, .inl (cI, 10, .inl (fun _ => 0))), (a_capOf_52, .inl (cI, 10, .inl (fun _ => 0))), (a_leaveTo_54, .inl (cI, 10, .inl (fun _ => 0))), (a_amountOf_55, .inl (cI, 12, .inl (fun _ => 0))), (a_tape_58, .inl (cB, 260, .inl (fun _ => 0)))] := hD
    refine lv_icmp_eq (tgt := 1309) hx hb dL_law_1304 (by decide) (fun _ => ?_) (fun c_1304 => absurd (hw_190.symm) c_1304)
    refine lv_iinc (v := 6) (lv' := [(3, .int 6), (2, .ref q_45), (1, .ref q_1), (0, .ref b)]) hx hb dL_law_1309 hl (k := 0) rfl (by decide) (by decide) rfl (fun ls hl => ?_)
    refine lv_goto (tgt := 18) hx hb dL_law_1312 (by decide) ?_
    refine lv_iload_n hx hb dL_law_18 rfl (lv_at hl 0 rfl) ?_
    refine lv_aload_n hx hb dL_law_19 rfl (lv_at hl 3 rfl) ?_
    refine va_slen hx hb hX hbl hbA hS dL_law_20 ?_
    refine tv (z := 6) rfl ?_
    refine lv_bipush (v := 6) hx hb dL_law_21 (by decide) ?_
    refine lv_isub hx hb dL_law_23 ?_
    refine tv (z := 0) (by decide) ?_
    refine lv_icmp_gt (tgt := 1315) hx hb dL_law_24 (by decide) (fun _ => ?_) (fun c_24 => absurd (by decide) c_24)
    refine lv_iconst (v := 1) hx hb dL_law_1315 (by decide) ?_
    refine va_forget (fun q hq => hAq _ (hS.2.2 q hq)) ?_
    refine W.widen (k := 600000) (n := 7302250) (Nat.le_of_ble_eq_true rfl) (Nat.le_of_ble_eq_true rfl) ?_
    exact lw_ret hx hb hr hlocks dL_law_1316
  refine lv_tableOut (tgt := 1309) hx hb dL_law_33 (by have t0 := lv_neT e33_0 (a := 0) (by decide); have t1 := lv_neT e33_1 (a := 1) (by decide); have t2 := lv_neT e33_2 (a := 2) (by decide); have t3 := lv_neT e33_3 (a := 3) (by decide); have t4 := lv_neT e33_4 (a := 4) (by decide); have t5 := lv_neT e33_5 (a := 5) (by decide); have t6 := lv_neT e33_6 (a := 6) (by decide); have t7 := lv_neT e33_7 (a := 7) (by decide); have t8 := lv_neT e33_8 (a := 8) (by decide); have t9 := lv_neT e33_9 (a := 9) (by decide); have t10 := lv_neT e33_10 (a := 10) (by decide); have t11 := lv_neT e33_11 (a := 11) (by decide); have t12 := lv_neT e33_12 (a := 12) (by decide); have t13 := lv_neT e33_13 (a := 13) (by decide); have t14 := lv_neT e33_14 (a := 14) (by decide); have t15 := lv_neT e33_15 (a := 15) (by decide); have t16 := lv_neT e33_16 (a := 16) (by decide); have t17 := lv_neT e33_17 (a := 17) (by decide); have t18 := lv_neT e33_18 (a := 18) (by decide); have t19 := lv_neT e33_19 (a := 19) (by decide); have t20 := lv_neT e33_20 (a := 20) (by decide); have t21 := lv_neT e33_21 (a := 21) (by decide); have t22 := lv_neT e33_22 (a := 22) (by decide); have t23 := lv_neT e33_23 (a := 23) (by decide); have t24 := lv_neT e33_24 (a := 24) (by decide); have t25 := lv_neT e33_25 (a := 25) (by decide); have t26 := lv_neT e33_26 (a := 26) (by decide); have t27 := lv_neT e33_27 (a := 27) (by decide); have t28 := lv_neT e33_28 (a := 28) (by decide); have t29 := lv_neT e33_29 (a := 29) (by decide); have t30 := lv_neT e33_30 (a := 30) (by decide); have t31 := lv_neT e33_31 (a := 31) (by decide); have t32 := lv_neT e33_32 (a := 32) (by decide); omega) (by decide) ?_
  refine lv_iinc (v := 6) (lv' := [(3, .int 6), (2, .ref q_45), (1, .ref q_1), (0, .ref b)]) hx hb dL_law_1309 hl (k := 0) rfl (by decide) (by decide) rfl (fun ls hl => ?_)
  refine lv_goto (tgt := 18) hx hb dL_law_1312 (by decide) ?_
  refine lv_iload_n hx hb dL_law_18 rfl (lv_at hl 0 rfl) ?_
  refine lv_aload_n hx hb dL_law_19 rfl (lv_at hl 3 rfl) ?_
  refine va_slen hx hb hX hbl hbA hS dL_law_20 ?_
  refine tv (z := 6) rfl ?_
  refine lv_bipush (v := 6) hx hb dL_law_21 (by decide) ?_
  refine lv_isub hx hb dL_law_23 ?_
  refine tv (z := 0) (by decide) ?_
  refine lv_icmp_gt (tgt := 1315) hx hb dL_law_24 (by decide) (fun _ => ?_) (fun c_24 => absurd (by decide) c_24)
  refine lv_iconst (v := 1) hx hb dL_law_1315 (by decide) ?_
  refine va_forget (fun q hq => hAq _ (hS.2.2 q hq)) ?_
  refine W.widen (k := 600000) (n := 7302250) (Nat.le_of_ble_eq_true rfl) (Nat.le_of_ble_eq_true rfl) ?_
  exact lw_ret hx hb hr hlocks dL_law_1316
