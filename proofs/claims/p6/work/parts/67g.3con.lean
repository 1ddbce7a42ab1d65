set_option maxRecDepth 100000 in
set_option maxHeartbeats 4000000 in
theorem c_endAll (l : Launch) (D : va_G) (cI cB : ClassId) (sz : Nat) (h0 : Nat) (u1 : Nat) (f1 : Nat) (g1 : Nat) (ms : Int32) (dy : Int32) (dr : Int32) (ff : Nat → Int32) (fg : Nat → Int32)  : MV (S := ((Nat → Int32) × (Nat → Int32))) l D cI cB yX4_endLeaves cX4_endLeaves 3 (rm 1 21) [.ref h0, .int 1023] [(h0, .inr (4, [.ref u1, .ref f1, .ref g1, .int ms, .int dy, .int dr])), (f1, .inl (cI, 10, .inl ff)), (g1, .inl (cI, 10, .inl fg))] sz (fun u => ∀ j, j < 10 → u.1 j = -2 ∧ u.2 j = -2) (fun u : ((Nat → Int32) × (Nat → Int32)) => [(h0, .inr (4, [.ref u1, .ref f1, .ref g1, .int ms, .int dy, .int dr])), (f1, .inl (cI, 10, .inl u.1)), (g1, .inl (cI, 10, .inl u.2))]) := by
  refine MV.of (by decide) (Nat.le_of_ble_eq_true rfl) ?_
  intro p e s m below meth c Q ls A X hin hN hP hK hD hA hl ret
  have hS : va_S A s.heap s.heap [] := va_S.rf
  obtain ⟨hx, hb, hml, hown, htb⟩ := id X
  have hl : lv_has ls 3 [(0, .ref h0), (1, .int 1023)] := hl
  refine lv_iconst (v := 0) hx hb dX4_endLeaves_0 (by decide) ?_
  refine lv_istore_n (lv' := [(2, .int 0), (0, .ref h0), (1, .int 1023)]) hx hb dX4_endLeaves_1 rfl hl (by decide) rfl (fun ls hl => ?_)
  have loop_2 : ∀ (n i : Nat) (fa : Nat → Int32) (ga : Nat → Int32), n + i = 10 → (∀ j, j < i → fa j = -2 ∧ ga j = -2) → ∀ (H : Heap) (locs : List Loc), va_P D vwCl [(h0, .inr (4, [.ref u1, .ref f1, .ref g1, .int ms, .int dy, .int dr])), (f1, .inl (cI, 10, .inl fa)), (g1, .inl (cI, 10, .inl ga))] H → va_D A [(h0, .inr (4, [.ref u1, .ref f1, .ref g1, .int ms, .int dy, .int dr])), (f1, .inl (cI, 10, .inl fa)), (g1, .inl (cI, 10, .inl ga))] → va_S A s.heap H locs → ∀ (ls : Array Slot), lv_has ls 3 [(0, .ref h0), (1, .int 1023), (2, .int (nI i))] → W p l e (rm 1 21) s m ([.ref h0, .int 1023] : List Value).toArray below meth c H locs 0 0 Q (F0 m 2 ls []) := by
    intro n
    induction n with
    | zero =>
      intro i fa ga hni hfa H locs hP hD hS ls hl
      have hni_2 := hni
      have hi : i = 10 := by omega
      refine lv_iload_n hx hb dX4_endLeaves_2 rfl (lv_at hl 2 rfl) ?_
      refine lv_bipush (v := 10) hx hb dX4_endLeaves_3 (by decide) ?_
      refine lv_icmp_ge (tgt := 38) hx hb dX4_endLeaves_5 (by decide) (fun _ => ?_) (fun c_5 => absurd (by rw [hi]; decide) c_5)
      exact ret _ _ _ _ (fa, ga) dX4_endLeaves_38 (by rw [hi] at hfa; exact hfa) (hP.sub [0, 1, 2] rfl) (hD.sub [0, 1, 2] (by decide) rfl) hS
    | succ n ih_2 =>
      intro i fa ga hni hfa H locs hP hD hS ls hl
      have hni_2 := hni
      have hi : i < 10 := by omega
      refine lv_iload_n hx hb dX4_endLeaves_2 rfl (lv_at hl 2 rfl) ?_
      refine lv_bipush (v := 10) hx hb dX4_endLeaves_3 (by decide) ?_
      refine lv_icmp_ge (tgt := 38) hx hb dX4_endLeaves_5 (by decide) (fun c_5 => absurd c_5 (nI_ge hi (by decide))) (fun _ => ?_)
      refine lv_iload_n hx hb dX4_endLeaves_8 rfl (lv_at hl 1 rfl) ?_
      refine lv_iload_n hx hb dX4_endLeaves_9 rfl (lv_at hl 2 rfl) ?_
      refine cSNR (As := [.int 1023, .int (nI i)]) (rest := []) (n := 2) X hN hK hP (c_isInF l D cI cB 1023 (nI i)) n_737 k_696 k_92 k_697 (by decide +kernel) ⟨Nat.le_of_ble_eq_true rfl, Nat.le_of_ble_eq_true rfl⟩ ⟨rfl, rfl⟩ [] rfl rfl rfl hl.1 (Nat.le_of_ble_eq_true rfl) dX4_endLeaves_10 ⟨Nat.le_of_ble_eq_true rfl, Nat.le_of_ble_eq_true rfl⟩ (fun r_1 hr_1 => ?_)
      subst hr_1
      refine lv_if_eq (tgt := 32) hx hb dX4_endLeaves_13 (by decide) (fun c_13 => absurd c_13 (fun q => bIf q (all10 i hi))) (fun _ => ?_)
      refine lv_aload_n hx hb dX4_endLeaves_16 rfl (lv_at hl 0 rfl) ?_
      refine va_get (D := D) (ci := 4) (v := .ref f1) (C := RX4) (T := TX4) (N := 6) hx hb htb itX4 hown hK hP 0 rfl rfl 1 (by decide) (htb _ k_192) (fun _ h9 => h9) rfl dX4_endLeaves_17 ?_
      refine lv_iload_n hx hb dX4_endLeaves_20 rfl (lv_at hl 2 rfl) ?_
      refine lv_bipush (v := (-2)) hx hb dX4_endLeaves_21 (by decide) ?_
      refine va_iast hx hb hK hP hD hS 1 0 rfl rfl (vp_in_nI (by omega) (by decide)) dX4_endLeaves_23 (fun H locs hP hD hS => ?_)
      obtain ⟨f_2, ef_2⟩ : ∃ g : Nat → Int32, g = upd fa (Int32.toNatClampNeg (nI i)) (-2) := ⟨_, rfl⟩
      rw [← ef_2] at hP hD
      have hP : va_P D vwCl [(h0, .inr (4, [.ref u1, .ref f1, .ref g1, .int ms, .int dy, .int dr])), (f1, .inl (cI, 10, .inl f_2)), (g1, .inl (cI, 10, .inl ga))] H := hP
      have hD : va_D A [(h0, .inr (4, [.ref u1, .ref f1, .ref g1, .int ms, .int dy, .int dr])), (f1, .inl (cI, 10, .inl f_2)), (g1, .inl (cI, 10, .inl ga))] := hD
      refine lv_aload_n hx hb dX4_endLeaves_24 rfl (lv_at hl 0 rfl) ?_
      refine va_get (D := D) (ci := 4) (v := .ref g1) (C := RX4) (T := TX4) (N := 6) hx hb htb itX4 hown hK hP 0 rfl rfl 2 (by decide) (htb _ k_194) (fun _ h9 => h9) rfl dX4_endLeaves_25 ?_
      refine lv_iload_n hx hb dX4_endLeaves_28 rfl (lv_at hl 2 rfl) ?_
      refine lv_bipush (v := (-2)) hx hb dX4_endLeaves_29 (by decide) ?_
      refine va_iast hx hb hK hP hD hS 2 0 rfl rfl (vp_in_nI (by omega) (by decide)) dX4_endLeaves_31 (fun H locs hP hD hS => ?_)
      obtain ⟨f_3, ef_3⟩ : ∃ g : Nat → Int32, g = upd ga (Int32.toNatClampNeg (nI i)) (-2) := ⟨_, rfl⟩
      rw [← ef_3] at hP hD
      have hP : va_P D vwCl [(h0, .inr (4, [.ref u1, .ref f1, .ref g1, .int ms, .int dy, .int dr])), (f1, .inl (cI, 10, .inl f_2)), (g1, .inl (cI, 10, .inl f_3))] H := hP
      have hD : va_D A [(h0, .inr (4, [.ref u1, .ref f1, .ref g1, .int ms, .int dy, .int dr])), (f1, .inl (cI, 10, .inl f_2)), (g1, .inl (cI, 10, .inl f_3))] := hD
      refine lv_iinc (v := (nI (i + 1))) (lv' := [(2, .int (nI (i + 1))), (0, .ref h0), (1, .int 1023)]) hx hb dX4_endLeaves_32 hl (k := 2) rfl (nI_1 i) (by decide) rfl (fun ls hl => ?_)
      refine lv_goto (tgt := 2) hx hb dX4_endLeaves_35 (by decide) ?_
      exact ih_2 (i + 1) f_2 f_3 (by omega) (by rw [ef_2, ef_3, nI_clamp (by omega)]; exact updS2 hfa) _ _ (hP.sub [0, 1, 2] rfl) (hD.sub [0, 1, 2] (by decide) rfl) hS _ (lv_sub hl [1, 2, 0] rfl)
  exact loop_2 10 0 ff fg (by omega) (fun j hj => absurd hj (Nat.not_lt_zero j)) _ _ (hP.sub [0, 1, 2] rfl) (hD.sub [0, 1, 2] (by decide) rfl) hS _ (lv_sub hl [1, 2, 0] rfl)

set_option maxRecDepth 100000 in
set_option maxHeartbeats 4000000 in
theorem c_giveLeaveN (l : Launch) (D : va_G) (cI cB : ClassId) (sz : Nat) (h0 : Nat) (u1 : Nat) (f1 : Nat) (g1 : Nat) (ms : Int32) (dy : Int32) (dr : Int32) (k : Nat) (a : Int32) (b : Int32) (ff : Nat → Int32) (fg : Nat → Int32) (hk : k < 10) : MV (S := ((Nat → Int32) × (Nat → Int32))) l D cI cB yX4_giveLeave cX4_giveLeave 4 (rm 0 0) [.ref h0, .int (nI k), .int a, .int b] [(h0, .inr (4, [.ref u1, .ref f1, .ref g1, .int ms, .int dy, .int dr])), (f1, .inl (cI, 10, .inl ff)), (g1, .inl (cI, 10, .inl fg))] sz (fun u => u.1 = upd ff k a ∧ u.2 = upd fg k b) (fun u : ((Nat → Int32) × (Nat → Int32)) => [(h0, .inr (4, [.ref u1, .ref f1, .ref g1, .int ms, .int dy, .int dr])), (f1, .inl (cI, 10, .inl u.1)), (g1, .inl (cI, 10, .inl u.2))]) := by
  refine MV.of (by decide) (Nat.le_of_ble_eq_true rfl) ?_
  intro p e s m below meth c Q ls A X hin hN hP hK hD hA hl ret
  have hS : va_S A s.heap s.heap [] := va_S.rf
  obtain ⟨hx, hb, hml, hown, htb⟩ := id X
  have hl : lv_has ls 4 [(0, .ref h0), (1, .int (nI k)), (2, .int a), (3, .int b)] := hl
  refine lv_iload_n hx hb dX4_giveLeave_0 rfl (lv_at hl 1 rfl) ?_
  refine lv_if_lt (tgt := 24) hx hb dX4_giveLeave_1 (by decide) (fun c_1 => absurd c_1 (nI_pos (by omega))) (fun _ => ?_)
  refine lv_iload_n hx hb dX4_giveLeave_4 rfl (lv_at hl 1 rfl) ?_
  refine lv_bipush (v := 10) hx hb dX4_giveLeave_5 (by decide) ?_
  refine lv_icmp_ge (tgt := 24) hx hb dX4_giveLeave_7 (by decide) (fun c_7 => absurd c_7 (nI_ge hk (by decide))) (fun _ => ?_)
  refine lv_aload_n hx hb dX4_giveLeave_10 rfl (lv_at hl 0 rfl) ?_
  refine va_get (D := D) (ci := 4) (v := .ref f1) (C := RX4) (T := TX4) (N := 6) hx hb htb itX4 hown hK hP 0 rfl rfl 1 (by decide) (htb _ k_192) (fun _ h9 => h9) rfl dX4_giveLeave_11 ?_
  refine lv_iload_n hx hb dX4_giveLeave_14 rfl (lv_at hl 1 rfl) ?_
  refine lv_iload_n hx hb dX4_giveLeave_15 rfl (lv_at hl 2 rfl) ?_
  refine va_iast hx hb hK hP hD hS 1 0 rfl rfl (vp_in_nI (by omega) (by decide)) dX4_giveLeave_16 (fun H locs hP hD hS => ?_)
  obtain ⟨f_1, ef_1⟩ : ∃ g : Nat → Int32, g = upd ff (Int32.toNatClampNeg (nI k)) a := ⟨_, rfl⟩
  rw [← ef_1] at hP hD
  have hP : va_P D vwCl [(h0, .inr (4, [.ref u1, .ref f1, .ref g1, .int ms, .int dy, .int dr])), (f1, .inl (cI, 10, .inl f_1)), (g1, .inl (cI, 10, .inl fg))] H := hP
  have hD : va_D A [(h0, .inr (4, [.ref u1, .ref f1, .ref g1, .int ms, .int dy, .int dr])), (f1, .inl (cI, 10, .inl f_1)), (g1, .inl (cI, 10, .inl fg))] := hD
  refine lv_aload_n hx hb dX4_giveLeave_17 rfl (lv_at hl 0 rfl) ?_
  refine va_get (D := D) (ci := 4) (v := .ref g1) (C := RX4) (T := TX4) (N := 6) hx hb htb itX4 hown hK hP 0 rfl rfl 2 (by decide) (htb _ k_194) (fun _ h9 => h9) rfl dX4_giveLeave_18 ?_
  refine lv_iload_n hx hb dX4_giveLeave_21 rfl (lv_at hl 1 rfl) ?_
  refine lv_iload_n hx hb dX4_giveLeave_22 rfl (lv_at hl 3 rfl) ?_
  refine va_iast hx hb hK hP hD hS 2 0 rfl rfl (vp_in_nI (by omega) (by decide)) dX4_giveLeave_23 (fun H locs hP hD hS => ?_)
  obtain ⟨f_2, ef_2⟩ : ∃ g : Nat → Int32, g = upd fg (Int32.toNatClampNeg (nI k)) b := ⟨_, rfl⟩
  rw [← ef_2] at hP hD
  have hP : va_P D vwCl [(h0, .inr (4, [.ref u1, .ref f1, .ref g1, .int ms, .int dy, .int dr])), (f1, .inl (cI, 10, .inl f_1)), (g1, .inl (cI, 10, .inl f_2))] H := hP
  have hD : va_D A [(h0, .inr (4, [.ref u1, .ref f1, .ref g1, .int ms, .int dy, .int dr])), (f1, .inl (cI, 10, .inl f_1)), (g1, .inl (cI, 10, .inl f_2))] := hD
  exact ret _ _ _ _ (f_1, f_2) dX4_giveLeave_24 (⟨by rw [ef_1, nI_clamp (by omega)], by rw [ef_2, nI_clamp (by omega)]⟩) (hP.sub [0, 1, 2] rfl) (hD.sub [0, 1, 2] (by decide) rfl) hS

set_option maxRecDepth 100000 in
set_option maxHeartbeats 4000000 in
theorem c_giveToP (l : Launch) (D : va_G) (cI cB : ClassId) (sz : Nat) (h0 : Nat) (tx : Nat) (lf_ : Nat) (ll_ : Nat) (sn : Int32) (ln : Int32) (st : Nat) (u1 : Nat) (f1 : Nat) (g1 : Nat) (ms : Int32) (dy : Int32) (dr : Int32) (flf : Nat → Int32) (fll : Nat → Int32) (ff : Nat → Int32) (fg : Nat → Int32) (gF : Nat → Int32) (gL : Nat → Int32) (hLR : LREL sn gF gL flf fll) : MV (S := ((Nat → Int32) × (Nat → Int32))) l D cI cB yX3_giveTo cX3_giveTo 3 (rm 2 43) [.ref h0, .ref st] [(h0, .inr (3, [.ref tx, .ref lf_, .ref ll_, .int sn, .int ln])), (lf_, .inl (cI, 10, .inl flf)), (ll_, .inl (cI, 10, .inl fll)), (st, .inr (4, [.ref u1, .ref f1, .ref g1, .int ms, .int dy, .int dr])), (f1, .inl (cI, 10, .inl ff)), (g1, .inl (cI, 10, .inl fg))] sz (fun u => LVK gF gL u.1 u.2) (fun u : ((Nat → Int32) × (Nat → Int32)) => [(h0, .inr (3, [.ref tx, .ref lf_, .ref ll_, .int sn, .int ln])), (lf_, .inl (cI, 10, .inl flf)), (ll_, .inl (cI, 10, .inl fll)), (st, .inr (4, [.ref u1, .ref f1, .ref g1, .int ms, .int dy, .int dr])), (f1, .inl (cI, 10, .inl u.1)), (g1, .inl (cI, 10, .inl u.2))]) := by
  refine MV.of (by decide) (Nat.le_of_ble_eq_true rfl) ?_
  intro p e s m below meth c Q ls A X hin hN hP hK hD hA hl ret
  have hS : va_S A s.heap s.heap [] := va_S.rf
  obtain ⟨hx, hb, hml, hown, htb⟩ := id X
  have hl : lv_has ls 3 [(0, .ref h0), (1, .ref st)] := hl
  refine lv_aload_n hx hb dX3_giveTo_0 rfl (lv_at hl 1 rfl) ?_
  refine lv_sipush (v := 1023) hx hb dX3_giveTo_1 (by decide) ?_
  refine cVV (As := [.int 1023]) (rest := []) (n := 1) (ci := 4) (q0 := 0) (wr := [(h0, .inr (3, [.ref tx, .ref lf_, .ref ll_, .int sn, .int ln])), (lf_, .inl (cI, 10, .inl flf)), (ll_, .inl (cI, 10, .inl fll))]) X hN hK hP hD hS hA (c_endAll l D cI cB _ st u1 f1 g1 ms dy dr ff fg) (gV k_733 k_734 k_735 k_95 k_736) (by decide +kernel) ⟨Nat.le_of_ble_eq_true rfl, Nat.le_of_ble_eq_true rfl⟩ ⟨rfl, rfl⟩ [3, 4, 5] [0, 1, 2] rfl rfl (by decide) (by decide) rfl rfl rfl rfl rfl hl.1 (Nat.le_of_ble_eq_true rfl) dX3_giveTo_4 ⟨Nat.le_of_ble_eq_true rfl, Nat.le_of_ble_eq_true rfl⟩ (fun u H locs hw_4 hP hD hS => ?_)
  obtain ⟨f1_fo_2, g1_fo_3⟩ := u
  try dsimp only at hw_4
  have hP : va_P D vwCl [(h0, .inr (3, [.ref tx, .ref lf_, .ref ll_, .int sn, .int ln])), (lf_, .inl (cI, 10, .inl flf)), (ll_, .inl (cI, 10, .inl fll)), (st, .inr (4, [.ref u1, .ref f1, .ref g1, .int ms, .int dy, .int dr])), (f1, .inl (cI, 10, .inl f1_fo_2)), (g1, .inl (cI, 10, .inl g1_fo_3))] H := hP
  have hD : va_D A [(h0, .inr (3, [.ref tx, .ref lf_, .ref ll_, .int sn, .int ln])), (lf_, .inl (cI, 10, .inl flf)), (ll_, .inl (cI, 10, .inl fll)), (st, .inr (4, [.ref u1, .ref f1, .ref g1, .int ms, .int dy, .int dr])), (f1, .inl (cI, 10, .inl f1_fo_2)), (g1, .inl (cI, 10, .inl g1_fo_3))] := hD
  refine lv_iconst (v := 0) hx hb dX3_giveTo_7 (by decide) ?_
  refine lv_istore_n (lv' := [(2, .int 0), (0, .ref h0), (1, .ref st)]) hx hb dX3_giveTo_8 rfl hl (by decide) rfl (fun ls hl => ?_)
  have loop_9 : ∀ (n i : Nat) (fa : Nat → Int32) (ga : Nat → Int32), n + i = 10 → (LVI i gF gL fa ga) → ∀ (H : Heap) (locs : List Loc), va_P D vwCl [(h0, .inr (3, [.ref tx, .ref lf_, .ref ll_, .int sn, .int ln])), (lf_, .inl (cI, 10, .inl flf)), (ll_, .inl (cI, 10, .inl fll)), (st, .inr (4, [.ref u1, .ref f1, .ref g1, .int ms, .int dy, .int dr])), (f1, .inl (cI, 10, .inl fa)), (g1, .inl (cI, 10, .inl ga))] H → va_D A [(h0, .inr (3, [.ref tx, .ref lf_, .ref ll_, .int sn, .int ln])), (lf_, .inl (cI, 10, .inl flf)), (ll_, .inl (cI, 10, .inl fll)), (st, .inr (4, [.ref u1, .ref f1, .ref g1, .int ms, .int dy, .int dr])), (f1, .inl (cI, 10, .inl fa)), (g1, .inl (cI, 10, .inl ga))] → va_S A s.heap H locs → ∀ (ls : Array Slot), lv_has ls 3 [(0, .ref h0), (1, .ref st), (2, .int (nI i))] → W p l e (rm 2 43) s m ([.ref h0, .ref st] : List Value).toArray below meth c H locs 0 0 Q (F0 m 9 ls []) := by
    intro n
    induction n with
    | zero =>
      intro i fa ga hni hlv H locs hP hD hS ls hl
      have hni_9 := hni
      have hi : i = 10 := by omega
      refine lv_iload_n hx hb dX3_giveTo_9 rfl (lv_at hl 2 rfl) ?_
      refine lv_bipush (v := 10) hx hb dX3_giveTo_10 (by decide) ?_
      refine lv_icmp_ge (tgt := 49) hx hb dX3_giveTo_12 (by decide) (fun _ => ?_) (fun c_12 => absurd (by rw [hi]; decide) c_12)
      exact ret _ _ _ _ (fa, ga) dX3_giveTo_49 (by rw [hi] at hlv; exact hlv.all) (hP.sub [0, 1, 2, 3, 4, 5] rfl) (hD.sub [0, 1, 2, 3, 4, 5] (by decide) rfl) hS
    | succ n ih_9 =>
      intro i fa ga hni hlv H locs hP hD hS ls hl
      have hni_9 := hni
      have hi : i < 10 := by omega
      refine lv_iload_n hx hb dX3_giveTo_9 rfl (lv_at hl 2 rfl) ?_
      refine lv_bipush (v := 10) hx hb dX3_giveTo_10 (by decide) ?_
      refine lv_icmp_ge (tgt := 49) hx hb dX3_giveTo_12 (by decide) (fun c_12 => absurd c_12 (nI_ge hi (by decide))) (fun _ => ?_)
      refine lv_aload_n hx hb dX3_giveTo_15 rfl (lv_at hl 0 rfl) ?_
      refine va_get (D := D) (ci := 3) (v := .int sn) (C := RX3) (T := TX3) (N := 5) hx hb htb itX3 hown hK hP 0 rfl rfl 3 (by decide) (htb _ k_324) (fun _ h9 => h9) rfl dX3_giveTo_16 ?_
      refine lv_iload_n hx hb dX3_giveTo_19 rfl (lv_at hl 2 rfl) ?_
      refine cSNR (As := [.int sn, .int (nI i)]) (rest := []) (n := 2) X hN hK hP (c_isInF l D cI cB sn (nI i)) n_720 k_696 k_92 k_697 (by decide +kernel) ⟨Nat.le_of_ble_eq_true rfl, Nat.le_of_ble_eq_true rfl⟩ ⟨rfl, rfl⟩ [] rfl rfl rfl hl.1 (Nat.le_of_ble_eq_true rfl) dX3_giveTo_20 ⟨Nat.le_of_ble_eq_true rfl, Nat.le_of_ble_eq_true rfl⟩ (fun r_5 hr_5 => ?_)
      subst hr_5
      refine lv_if_eq (tgt := 43) hx hb dX3_giveTo_23 (by decide) (fun c_23 => ?_) (fun c_23 => ?_)
      · refine lv_iinc (v := (nI (i + 1))) (lv' := [(2, .int (nI (i + 1))), (0, .ref h0), (1, .ref st)]) hx hb dX3_giveTo_43 hl (k := 2) rfl (nI_1 i) (by decide) rfl (fun ls hl => ?_)
        refine lv_goto (tgt := 9) hx hb dX3_giveTo_46 (by decide) ?_
        exact ih_9 (i + 1) fa ga (by omega) (hlv.no (Classical.byContradiction (fun z => bIf c_23 ⟨bfr rfl (by omega), (hLR i hi).1.mpr z⟩))) _ _ (hP.sub [0, 1, 2, 3, 4, 5] rfl) (hD.sub [0, 1, 2, 3, 4, 5] (by decide) rfl) hS _ (lv_sub hl [1, 2, 0] rfl)
      · refine lv_aload_n hx hb dX3_giveTo_26 rfl (lv_at hl 1 rfl) ?_
        refine lv_iload_n hx hb dX3_giveTo_27 rfl (lv_at hl 2 rfl) ?_
        refine lv_aload_n hx hb dX3_giveTo_28 rfl (lv_at hl 0 rfl) ?_
        refine va_get (D := D) (ci := 3) (v := .ref lf_) (C := RX3) (T := TX3) (N := 5) hx hb htb itX3 hown hK hP 0 rfl rfl 1 (by decide) (htb _ k_322) (fun _ h9 => h9) rfl dX3_giveTo_29 ?_
        refine lv_iload_n hx hb dX3_giveTo_32 rfl (lv_at hl 2 rfl) ?_
        refine va_iald hx hb hK hP 1 0 rfl rfl (by have a0 := mt Int32.toInt_inj.mp c_23; have a1 : (0 : Int32).toInt = 0 := (by decide); exact vp_in_nI (by omega) (by decide)) dX3_giveTo_33 ?_
        refine lv_aload_n hx hb dX3_giveTo_34 rfl (lv_at hl 0 rfl) ?_
        refine va_get (D := D) (ci := 3) (v := .ref ll_) (C := RX3) (T := TX3) (N := 5) hx hb htb itX3 hown hK hP 0 rfl rfl 2 (by decide) (htb _ k_323) (fun _ h9 => h9) rfl dX3_giveTo_35 ?_
        refine lv_iload_n hx hb dX3_giveTo_38 rfl (lv_at hl 2 rfl) ?_
        refine va_iald hx hb hK hP 2 0 rfl rfl (by have a0 := mt Int32.toInt_inj.mp c_23; have a1 : (0 : Int32).toInt = 0 := (by decide); exact vp_in_nI (by omega) (by decide)) dX3_giveTo_39 ?_
        refine cVV (As := [.int (nI i), .int (flf (Int32.toNatClampNeg (nI i))), .int (fll (Int32.toNatClampNeg (nI i)))]) (rest := []) (n := 3) (ci := 4) (q0 := 0) (wr := [(h0, .inr (3, [.ref tx, .ref lf_, .ref ll_, .int sn, .int ln])), (lf_, .inl (cI, 10, .inl flf)), (ll_, .inl (cI, 10, .inl fll))]) X hN hK hP hD hS hA (c_giveLeaveN l D cI cB _ st u1 f1 g1 ms dy dr i (flf (Int32.toNatClampNeg (nI i))) (fll (Int32.toNatClampNeg (nI i))) fa ga hi) (gV k_738 k_739 k_740 k_95 k_741) (by decide +kernel) ⟨Nat.le_of_ble_eq_true rfl, Nat.le_of_ble_eq_true rfl⟩ ⟨rfl, rfl⟩ [3, 4, 5] [0, 1, 2] rfl rfl (by decide) (by decide) rfl rfl rfl rfl rfl hl.1 (Nat.le_of_ble_eq_true rfl) dX3_giveTo_40 ⟨Nat.le_of_ble_eq_true rfl, Nat.le_of_ble_eq_true rfl⟩ (fun u H locs hw_9 hP hD hS => ?_)
        obtain ⟨f1_fo_7, g1_fo_8⟩ := u
        try dsimp only at hw_9
        have hP : va_P D vwCl [(h0, .inr (3, [.ref tx, .ref lf_, .ref ll_, .int sn, .int ln])), (lf_, .inl (cI, 10, .inl flf)), (ll_, .inl (cI, 10, .inl fll)), (st, .inr (4, [.ref u1, .ref f1, .ref g1, .int ms, .int dy, .int dr])), (f1, .inl (cI, 10, .inl f1_fo_7)), (g1, .inl (cI, 10, .inl g1_fo_8))] H := hP
        have hD : va_D A [(h0, .inr (3, [.ref tx, .ref lf_, .ref ll_, .int sn, .int ln])), (lf_, .inl (cI, 10, .inl flf)), (ll_, .inl (cI, 10, .inl fll)), (st, .inr (4, [.ref u1, .ref f1, .ref g1, .int ms, .int dy, .int dr])), (f1, .inl (cI, 10, .inl f1_fo_7)), (g1, .inl (cI, 10, .inl g1_fo_8))] := hD
        refine lv_iinc (v := (nI (i + 1))) (lv' := [(2, .int (nI (i + 1))), (0, .ref h0), (1, .ref st)]) hx hb dX3_giveTo_43 hl (k := 2) rfl (nI_1 i) (by decide) rfl (fun ls hl => ?_)
        refine lv_goto (tgt := 9) hx hb dX3_giveTo_46 (by decide) ?_
        exact ih_9 (i + 1) f1_fo_7 g1_fo_8 (by omega) (by have hF := (hLR i hi).1.mp (bIt c_23).2; rw [hw_9.1, hw_9.2, nI_clamp (by omega)]; exact hlv.yes hF ((hLR i hi).2 hF).1 ((hLR i hi).2 hF).2) _ _ (hP.sub [0, 1, 2, 3, 4, 5] rfl) (hD.sub [0, 1, 2, 3, 4, 5] (by decide) rfl) hS _ (lv_sub hl [1, 2, 0] rfl)
  exact loop_9 10 0 f1_fo_2 g1_fo_3 (by omega) (LVI.z hw_4) _ _ (hP.sub [0, 1, 2, 3, 4, 5] rfl) (hD.sub [0, 1, 2, 3, 4, 5] (by decide) rfl) hS _ (lv_sub hl [1, 2, 0] rfl)

set_option maxRecDepth 100000 in
set_option maxHeartbeats 4000000 in
theorem c_leavesX (l : Launch) (D : va_G) (cI cB : ClassId) (sz : Nat) (h0 : Nat) (tp : Nat) (tw : Nat) (nw : Nat) (kp : Nat) (lw : Nat) (lr : Nat) (dd : Nat) (vv : Nat) (tl : Nat) (sc : Nat) (hk : Int32) (by_ : Nat) (T : Nat) (fb : Nat → Int32) (tx : Nat) (ed : Int32) (pl : Int32) (fa : Int32) (lf_ : Nat) (ll_ : Nat) (sn : Int32) (ln : Int32) (flf : Nat → Int32) (fll : Nat → Int32) (u2 : Nat) (f2 : Nat) (g2 : Nat) (ms2 : Int32) (dy2 : Int32) (dr2 : Int32) (fu2 : Nat → Int32) (ff2 : Nat → Int32) (fg2 : Nat → Int32) (x1 : Int32) (gl : Nat → Int32) (hT : T ≤ 260) : MI (S := ((Nat) × (Int32) × (Int32) × (Int32) × (Int32) × (Int32) × (Nat → Int32) × (Nat → Int32) × (Nat → Int32) × (Nat → Int32))) l D cI cB yX9_leaves cX9_leaves 3 .int (rm 6 131) [.ref h0, .int x1] [(h0, .inr (9, [.ref tp, .ref tw, .ref nw, .ref kp, .ref lw, .ref lr, .ref dd, .ref vv, .ref tl, .ref sc, .int hk])), (tp, .inr (5, [.ref by_, .int (nI T)])), (by_, .inl (cI, 260, .inl fb)), (tx, .inr (6, [.ref tp, .int ed, .int pl, .int fa])), (vv, .inr (3, [.ref tx, .ref lf_, .ref ll_, .int sn, .int ln])), (lf_, .inl (cI, 10, .inl flf)), (ll_, .inl (cI, 10, .inl fll)), (nw, .inr (4, [.ref u2, .ref f2, .ref g2, .int ms2, .int dy2, .int dr2])), (u2, .inl (cI, 12, .inl fu2)), (f2, .inl (cI, 10, .inl ff2)), (g2, .inl (cI, 10, .inl fg2))] sz (fun r u => (u.1 ≤ 260 ∧ (((1 ≤ x1 ∧ x1 ≤ 120) ∧ x1 ≤ nI T) → u.1 = 0) ∧ (¬ ((1 ≤ x1 ∧ x1 ≤ 120) ∧ x1 ≤ nI T) → u.1 = T ∧ r = (-1))) ∧ (((1 ≤ x1 ∧ x1 ≤ 120) ∧ x1 ≤ nI T) → ∃ N : Nat, x1 = nI N ∧ N ≤ T ∧ ((lvTot (chF fb N) N gl = none ∧ u.2.2.2.2.2.2.2.2.1 = ff2 ∧ u.2.2.2.2.2.2.2.2.2 = fg2) ∨ ∃ F L : Nat → Int32, lvTot (chF fb N) N gl = some (F, L) ∧ LVK F L u.2.2.2.2.2.2.2.2.1 u.2.2.2.2.2.2.2.2.2)) ∧ (¬ ((1 ≤ x1 ∧ x1 ≤ 120) ∧ x1 ≤ nI T) → u.2.2.2.2.2.2.2.2.1 = ff2 ∧ u.2.2.2.2.2.2.2.2.2 = fg2)) (fun u : ((Nat) × (Int32) × (Int32) × (Int32) × (Int32) × (Int32) × (Nat → Int32) × (Nat → Int32) × (Nat → Int32) × (Nat → Int32)) => [(h0, .inr (9, [.ref tp, .ref tw, .ref nw, .ref kp, .ref lw, .ref lr, .ref dd, .ref vv, .ref tl, .ref sc, .int hk])), (tp, .inr (5, [.ref by_, .int (nI u.1)])), (by_, .inl (cI, 260, .inl fb)), (tx, .inr (6, [.ref tp, .int u.2.1, .int u.2.2.1, .int u.2.2.2.1])), (vv, .inr (3, [.ref tx, .ref lf_, .ref ll_, .int u.2.2.2.2.1, .int u.2.2.2.2.2.1])), (lf_, .inl (cI, 10, .inl u.2.2.2.2.2.2.1)), (ll_, .inl (cI, 10, .inl u.2.2.2.2.2.2.2.1)), (nw, .inr (4, [.ref u2, .ref f2, .ref g2, .int ms2, .int dy2, .int dr2])), (u2, .inl (cI, 12, .inl fu2)), (f2, .inl (cI, 10, .inl u.2.2.2.2.2.2.2.2.1)), (g2, .inl (cI, 10, .inl u.2.2.2.2.2.2.2.2.2))]) := by
  refine MI.of (by decide) (Nat.le_of_ble_eq_true rfl) ?_
  intro p e s m below meth c Q ls A X hin hN hP hK hD hA hl ret
  have hS : va_S A s.heap s.heap [] := va_S.rf
  obtain ⟨hx, hb, hml, hown, htb⟩ := id X
  have hl : lv_has ls 3 [(0, .ref h0), (1, .int x1)] := hl
  refine lv_aload_n hx hb dX9_leaves_0 rfl (lv_at hl 0 rfl) ?_
  refine va_get (D := D) (ci := 9) (v := .ref tp) (C := RX9) (T := TX9) (N := 11) hx hb htb itX9 hown hK hP 0 rfl rfl 0 (by decide) (htb _ k_393) (fun _ h9 => h9) rfl dX9_leaves_1 ?_
  refine lv_iload_n hx hb dX9_leaves_4 rfl (lv_at hl 1 rfl) ?_
  refine lv_iconst (v := 1) hx hb dX9_leaves_5 (by decide) ?_
  refine lv_bipush (v := 120) hx hb dX9_leaves_6 (by decide) ?_
  refine cVR (As := [.int x1, .int 1, .int 120]) (rest := []) (n := 3) (ci := 5) (q0 := 0) X hN hK hP (c_X5_canGive l D cI cB tp by_ T x1 1 120) (gV k_458 k_459 k_460 k_93 k_461) (by decide +kernel) ⟨Nat.le_of_ble_eq_true rfl, Nat.le_of_ble_eq_true rfl⟩ ⟨rfl, rfl⟩ [1] rfl rfl rfl rfl rfl rfl hl.1 (Nat.le_of_ble_eq_true rfl) dX9_leaves_8 ⟨Nat.le_of_ble_eq_true rfl, Nat.le_of_ble_eq_true rfl⟩ (fun r_1 hr_1 => ?_)
  subst hr_1
  refine lv_if_ne (tgt := 16) hx hb dX9_leaves_11 (by decide) (fun c_11 => ?_) (fun c_11 => ?_)
  · obtain ⟨N, hN120, eN⟩ := dcN (k := 120) (by decide) (bIt c_11).1
    have hl : lv_has ls 3 [(0, .ref h0), (1, .int (nI N))] := by rw [← eN]; exact hl
    have hNT : N ≤ T := (nI_leI (by omega) (by omega)).mp (by rw [← eN]; exact (bIt c_11).2)
    have hN1 : 1 ≤ N := (nI_leI (a := 1) (by omega) (by omega)).mp (by rw [← eN]; exact (bIt c_11).1.1)
    refine lv_aload_n hx hb dX9_leaves_16 rfl (lv_at hl 0 rfl) ?_
    refine va_get (D := D) (ci := 9) (v := .ref vv) (C := RX9) (T := TX9) (N := 11) hx hb htb itX9 hown hK hP 0 rfl rfl 7 (by decide) (htb _ k_400) (fun _ h9 => h9) rfl dX9_leaves_17 ?_
    refine lv_iload_n hx hb dX9_leaves_20 rfl (lv_at hl 1 rfl) ?_
    refine cVI (As := [.int (nI N)]) (rest := []) (n := 1) (ci := 3) (q0 := 0) (wr := [(h0, .inr (9, [.ref tp, .ref tw, .ref nw, .ref kp, .ref lw, .ref lr, .ref dd, .ref vv, .ref tl, .ref sc, .int hk])), (nw, .inr (4, [.ref u2, .ref f2, .ref g2, .int ms2, .int dy2, .int dr2])), (u2, .inl (cI, 12, .inl fu2)), (f2, .inl (cI, 10, .inl ff2)), (g2, .inl (cI, 10, .inl fg2))]) X hN hK hP hD hS hA (c_readLv l D cI cB _ vv lf_ ll_ tx tp by_ T fb flf fll ed pl fa sn ln N gl hT hNT hN1) (gV k_709 k_710 k_711 k_101 k_712) (by decide +kernel) ⟨Nat.le_of_ble_eq_true rfl, Nat.le_of_ble_eq_true rfl⟩ ⟨rfl, rfl⟩ [4, 3, 1, 2, 5, 6] [0, 7, 8, 9, 10] rfl rfl (by decide) (by decide) rfl rfl rfl rfl rfl hl.1 (Nat.le_of_ble_eq_true rfl) dX9_leaves_21 ⟨Nat.le_of_ble_eq_true rfl, Nat.le_of_ble_eq_true rfl⟩ (fun r_2 u H locs hw_9 hP hD hS => ?_)
    obtain ⟨Po_3, fo_4, so_5, Ko_6, lfo_7, llo_8⟩ := u
    try dsimp only at hw_9
    have hP : va_P D vwCl [(h0, .inr (9, [.ref tp, .ref tw, .ref nw, .ref kp, .ref lw, .ref lr, .ref dd, .ref vv, .ref tl, .ref sc, .int hk])), (nw, .inr (4, [.ref u2, .ref f2, .ref g2, .int ms2, .int dy2, .int dr2])), (u2, .inl (cI, 12, .inl fu2)), (f2, .inl (cI, 10, .inl ff2)), (g2, .inl (cI, 10, .inl fg2)), (vv, .inr (3, [.ref tx, .ref lf_, .ref ll_, .int so_5, .int (nI Ko_6)])), (tx, .inr (6, [.ref tp, .int (nI N), .int (nI Po_3), .int fo_4])), (tp, .inr (5, [.ref by_, .int (nI T)])), (by_, .inl (cI, 260, .inl fb)), (lf_, .inl (cI, 10, .inl lfo_7)), (ll_, .inl (cI, 10, .inl llo_8))] H := hP
    have hD : va_D A [(h0, .inr (9, [.ref tp, .ref tw, .ref nw, .ref kp, .ref lw, .ref lr, .ref dd, .ref vv, .ref tl, .ref sc, .int hk])), (nw, .inr (4, [.ref u2, .ref f2, .ref g2, .int ms2, .int dy2, .int dr2])), (u2, .inl (cI, 12, .inl fu2)), (f2, .inl (cI, 10, .inl ff2)), (g2, .inl (cI, 10, .inl fg2)), (vv, .inr (3, [.ref tx, .ref lf_, .ref ll_, .int so_5, .int (nI Ko_6)])), (tx, .inr (6, [.ref tp, .int (nI N), .int (nI Po_3), .int fo_4])), (tp, .inr (5, [.ref by_, .int (nI T)])), (by_, .inl (cI, 260, .inl fb)), (lf_, .inl (cI, 10, .inl lfo_7)), (ll_, .inl (cI, 10, .inl llo_8))] := hD
    refine lv_istore_n (lv' := [(2, .int r_2), (0, .ref h0), (1, .int (nI N))]) hx hb dX9_leaves_24 rfl hl (by decide) rfl (fun ls hl => ?_)
    refine lv_iload_n hx hb dX9_leaves_25 rfl (lv_at hl 0 rfl) ?_
    refine lv_if_le (tgt := 40) hx hb dX9_leaves_26 (by decide) (fun c_26 => ?_) (fun c_26 => ?_)
    · refine lv_aload_n hx hb dX9_leaves_40 rfl (lv_at hl 1 rfl) ?_
      refine va_get (D := D) (ci := 9) (v := .ref tp) (C := RX9) (T := TX9) (N := 11) hx hb htb itX9 hown hK hP 0 rfl rfl 0 (by decide) (htb _ k_393) (fun _ h9 => h9) rfl dX9_leaves_41 ?_
      refine lv_iconst (v := 0) hx hb dX9_leaves_44 (by decide) ?_
      refine va_putN (D := D) (ci := 5) (v := .int 0) (ty := .int) (C := RX5) (T := TX5) (N := 2) hx hb htb itX5 tyX5 tyX5_ok nmX5 hown hK hP hD hS 7 rfl rfl 1 (by decide) (va_Nw.use rfl (hN _ n_130 rfl)) (fun _ h9 => h9) rfl (tyX5_ok 1 (by decide)) rfl rfl (Nat.le_of_ble_eq_true rfl) dX9_leaves_45 (fun H locs hP hD hS => ?_)
      have hP : va_P D vwCl [(h0, .inr (9, [.ref tp, .ref tw, .ref nw, .ref kp, .ref lw, .ref lr, .ref dd, .ref vv, .ref tl, .ref sc, .int hk])), (nw, .inr (4, [.ref u2, .ref f2, .ref g2, .int ms2, .int dy2, .int dr2])), (u2, .inl (cI, 12, .inl fu2)), (f2, .inl (cI, 10, .inl ff2)), (g2, .inl (cI, 10, .inl fg2)), (vv, .inr (3, [.ref tx, .ref lf_, .ref ll_, .int so_5, .int (nI Ko_6)])), (tx, .inr (6, [.ref tp, .int (nI N), .int (nI Po_3), .int fo_4])), (tp, .inr (5, [.ref by_, .int 0])), (by_, .inl (cI, 260, .inl fb)), (lf_, .inl (cI, 10, .inl lfo_7)), (ll_, .inl (cI, 10, .inl llo_8))] H := hP
      have hD : va_D A [(h0, .inr (9, [.ref tp, .ref tw, .ref nw, .ref kp, .ref lw, .ref lr, .ref dd, .ref vv, .ref tl, .ref sc, .int hk])), (nw, .inr (4, [.ref u2, .ref f2, .ref g2, .int ms2, .int dy2, .int dr2])), (u2, .inl (cI, 12, .inl fu2)), (f2, .inl (cI, 10, .inl ff2)), (g2, .inl (cI, 10, .inl fg2)), (vv, .inr (3, [.ref tx, .ref lf_, .ref ll_, .int so_5, .int (nI Ko_6)])), (tx, .inr (6, [.ref tp, .int (nI N), .int (nI Po_3), .int fo_4])), (tp, .inr (5, [.ref by_, .int 0])), (by_, .inl (cI, 260, .inl fb)), (lf_, .inl (cI, 10, .inl lfo_7)), (ll_, .inl (cI, 10, .inl llo_8))] := hD
      refine lv_iload_n hx hb dX9_leaves_48 rfl (lv_at hl 0 rfl) ?_
      exact ret _ _ _ _ r_2 (0, (nI N), (nI Po_3), fo_4, so_5, (nI Ko_6), lfo_7, llo_8, ff2, fg2) dX9_leaves_49 rfl (⟨⟨Nat.zero_le _, fun _ => rfl, fun h => absurd (bIt c_11) h⟩, fun _ => ⟨N, eN, hNT, Or.inl ((hw_9).elim (fun z => ⟨z.1, rfl, rfl⟩) (fun ⟨_, _, _, z, _⟩ => absurd c_26 (Int32.not_le.mpr z)))⟩, fun h => absurd (bIt c_11) h⟩) (hP.sub [0, 7, 8, 6, 5, 9, 10, 1, 2, 3, 4] rfl) (hD.sub [0, 7, 8, 6, 5, 9, 10, 1, 2, 3, 4] (by decide) rfl) hS
    · obtain ⟨gF, gL, hgg⟩ := (hw_9).resolve_left (fun z => c_26 (Int32.le_of_lt z.2))
      refine lv_aload_n hx hb dX9_leaves_29 rfl (lv_at hl 1 rfl) ?_
      refine va_get (D := D) (ci := 9) (v := .ref vv) (C := RX9) (T := TX9) (N := 11) hx hb htb itX9 hown hK hP 0 rfl rfl 7 (by decide) (htb _ k_400) (fun _ h9 => h9) rfl dX9_leaves_30 ?_
      refine lv_aload_n hx hb dX9_leaves_33 rfl (lv_at hl 1 rfl) ?_
      refine va_get (D := D) (ci := 9) (v := .ref nw) (C := RX9) (T := TX9) (N := 11) hx hb htb itX9 hown hK hP 0 rfl rfl 2 (by decide) (htb _ k_395) (fun _ h9 => h9) rfl dX9_leaves_34 ?_
      refine cVV (As := [.ref nw]) (rest := []) (n := 1) (ci := 3) (q0 := 0) (wr := [(h0, .inr (9, [.ref tp, .ref tw, .ref nw, .ref kp, .ref lw, .ref lr, .ref dd, .ref vv, .ref tl, .ref sc, .int hk])), (u2, .inl (cI, 12, .inl fu2)), (tx, .inr (6, [.ref tp, .int (nI N), .int (nI Po_3), .int fo_4])), (tp, .inr (5, [.ref by_, .int (nI T)])), (by_, .inl (cI, 260, .inl fb))]) X hN hK hP hD hS hA (c_giveToP l D cI cB _ vv tx lf_ ll_ so_5 (nI Ko_6) nw u2 f2 g2 ms2 dy2 dr2 lfo_7 llo_8 ff2 fg2 gF gL hgg.2.2) (gV k_729 k_730 k_731 k_101 k_732) (by decide +kernel) ⟨Nat.le_of_ble_eq_true rfl, Nat.le_of_ble_eq_true rfl⟩ ⟨rfl, rfl⟩ [5, 9, 10, 1, 3, 4] [0, 2, 6, 7, 8] rfl rfl (by decide) (by decide) rfl rfl rfl rfl rfl hl.1 (Nat.le_of_ble_eq_true rfl) dX9_leaves_37 ⟨Nat.le_of_ble_eq_true rfl, Nat.le_of_ble_eq_true rfl⟩ (fun u H locs hw_13 hP hD hS => ?_)
      obtain ⟨f1_fo_11, g1_fo_12⟩ := u
      try dsimp only at hw_13
      have hP : va_P D vwCl [(h0, .inr (9, [.ref tp, .ref tw, .ref nw, .ref kp, .ref lw, .ref lr, .ref dd, .ref vv, .ref tl, .ref sc, .int hk])), (u2, .inl (cI, 12, .inl fu2)), (tx, .inr (6, [.ref tp, .int (nI N), .int (nI Po_3), .int fo_4])), (tp, .inr (5, [.ref by_, .int (nI T)])), (by_, .inl (cI, 260, .inl fb)), (vv, .inr (3, [.ref tx, .ref lf_, .ref ll_, .int so_5, .int (nI Ko_6)])), (lf_, .inl (cI, 10, .inl lfo_7)), (ll_, .inl (cI, 10, .inl llo_8)), (nw, .inr (4, [.ref u2, .ref f2, .ref g2, .int ms2, .int dy2, .int dr2])), (f2, .inl (cI, 10, .inl f1_fo_11)), (g2, .inl (cI, 10, .inl g1_fo_12))] H := hP
      have hD : va_D A [(h0, .inr (9, [.ref tp, .ref tw, .ref nw, .ref kp, .ref lw, .ref lr, .ref dd, .ref vv, .ref tl, .ref sc, .int hk])), (u2, .inl (cI, 12, .inl fu2)), (tx, .inr (6, [.ref tp, .int (nI N), .int (nI Po_3), .int fo_4])), (tp, .inr (5, [.ref by_, .int (nI T)])), (by_, .inl (cI, 260, .inl fb)), (vv, .inr (3, [.ref tx, .ref lf_, .ref ll_, .int so_5, .int (nI Ko_6)])), (lf_, .inl (cI, 10, .inl lfo_7)), (ll_, .inl (cI, 10, .inl llo_8)), (nw, .inr (4, [.ref u2, .ref f2, .ref g2, .int ms2, .int dy2, .int dr2])), (f2, .inl (cI, 10, .inl f1_fo_11)), (g2, .inl (cI, 10, .inl g1_fo_12))] := hD
      refine lv_aload_n hx hb dX9_leaves_40 rfl (lv_at hl 1 rfl) ?_
      refine va_get (D := D) (ci := 9) (v := .ref tp) (C := RX9) (T := TX9) (N := 11) hx hb htb itX9 hown hK hP 0 rfl rfl 0 (by decide) (htb _ k_393) (fun _ h9 => h9) rfl dX9_leaves_41 ?_
      refine lv_iconst (v := 0) hx hb dX9_leaves_44 (by decide) ?_
      refine va_putN (D := D) (ci := 5) (v := .int 0) (ty := .int) (C := RX5) (T := TX5) (N := 2) hx hb htb itX5 tyX5 tyX5_ok nmX5 hown hK hP hD hS 3 rfl rfl 1 (by decide) (va_Nw.use rfl (hN _ n_130 rfl)) (fun _ h9 => h9) rfl (tyX5_ok 1 (by decide)) rfl rfl (Nat.le_of_ble_eq_true rfl) dX9_leaves_45 (fun H locs hP hD hS => ?_)
      have hP : va_P D vwCl [(h0, .inr (9, [.ref tp, .ref tw, .ref nw, .ref kp, .ref lw, .ref lr, .ref dd, .ref vv, .ref tl, .ref sc, .int hk])), (u2, .inl (cI, 12, .inl fu2)), (tx, .inr (6, [.ref tp, .int (nI N), .int (nI Po_3), .int fo_4])), (tp, .inr (5, [.ref by_, .int 0])), (by_, .inl (cI, 260, .inl fb)), (vv, .inr (3, [.ref tx, .ref lf_, .ref ll_, .int so_5, .int (nI Ko_6)])), (lf_, .inl (cI, 10, .inl lfo_7)), (ll_, .inl (cI, 10, .inl llo_8)), (nw, .inr (4, [.ref u2, .ref f2, .ref g2, .int ms2, .int dy2, .int dr2])), (f2, .inl (cI, 10, .inl f1_fo_11)), (g2, .inl (cI, 10, .inl g1_fo_12))] H := hP
      have hD : va_D A [(h0, .inr (9, [.ref tp, .ref tw, .ref nw, .ref kp, .ref lw, .ref lr, .ref dd, .ref vv, .ref tl, .ref sc, .int hk])), (u2, .inl (cI, 12, .inl fu2)), (tx, .inr (6, [.ref tp, .int (nI N), .int (nI Po_3), .int fo_4])), (tp, .inr (5, [.ref by_, .int 0])), (by_, .inl (cI, 260, .inl fb)), (vv, .inr (3, [.ref tx, .ref lf_, .ref ll_, .int so_5, .int (nI Ko_6)])), (lf_, .inl (cI, 10, .inl lfo_7)), (ll_, .inl (cI, 10, .inl llo_8)), (nw, .inr (4, [.ref u2, .ref f2, .ref g2, .int ms2, .int dy2, .int dr2])), (f2, .inl (cI, 10, .inl f1_fo_11)), (g2, .inl (cI, 10, .inl g1_fo_12))] := hD
      refine lv_iload_n hx hb dX9_leaves_48 rfl (lv_at hl 0 rfl) ?_
      exact ret _ _ _ _ r_2 (0, (nI N), (nI Po_3), fo_4, so_5, (nI Ko_6), lfo_7, llo_8, f1_fo_11, g1_fo_12) dX9_leaves_49 rfl (⟨⟨Nat.zero_le _, fun _ => rfl, fun h => absurd (bIt c_11) h⟩, fun _ => ⟨N, eN, hNT, Or.inr ⟨gF, gL, hgg.1, hw_13⟩⟩, fun h => absurd (bIt c_11) h⟩) (hP.sub [0, 3, 4, 2, 5, 6, 7, 8, 1, 9, 10] rfl) (hD.sub [0, 3, 4, 2, 5, 6, 7, 8, 1, 9, 10] (by decide) rfl) hS
  · refine lv_iconst (v := (-1)) hx hb dX9_leaves_14 (by decide) ?_
    exact ret _ _ _ _ (-1) (T, ed, pl, fa, sn, ln, flf, fll, ff2, fg2) dX9_leaves_15 rfl (⟨⟨hT, fun h => absurd h (bIf c_11), fun _ => ⟨rfl, rfl⟩⟩, fun h => absurd h (bIf c_11), fun _ => ⟨rfl, rfl⟩⟩) (hP.sub [0, 1, 2, 3, 4, 5, 6, 7, 8, 9, 10] rfl) (hD.sub [0, 1, 2, 3, 4, 5, 6, 7, 8, 9, 10] (by decide) rfl) hS

set_option maxRecDepth 100000 in
set_option maxHeartbeats 4000000 in
theorem c_hasLeaveN (l : Launch) (D : va_G) (cI cB : ClassId) (h0 : Nat) (u1 : Nat) (f1 : Nat) (g1 : Nat) (ms : Int32) (dy : Int32) (dr : Int32) (k : Nat) (ff : Nat → Int32) (hk : k < 10) : MR l D cI cB yX4_hasLeave cX4_hasLeave 2 .boolean (rm 0 0) [.ref h0, .int (nI k)] [(h0, .inr (4, [.ref u1, .ref f1, .ref g1, .int ms, .int dy, .int dr])), (f1, .inl (cI, 10, .inl ff))] (fun r : Int32 => r = bI (¬ ff k = -2)) := by
  refine MR.of (by decide) (Nat.le_of_ble_eq_true rfl) ?_
  intro p e s m below meth c Q ls X hN hP hK hl ret
  obtain ⟨hx, hb, hml, hown, htb⟩ := id X
  have hl : lv_has ls 2 [(0, .ref h0), (1, .int (nI k))] := hl
  refine lv_iload_n hx hb dX4_hasLeave_0 rfl (lv_at hl 1 rfl) ?_
  refine lv_if_lt (tgt := 25) hx hb dX4_hasLeave_1 (by decide) (fun c_1 => absurd c_1 (nI_pos (by omega))) (fun _ => ?_)
  refine lv_iload_n hx hb dX4_hasLeave_4 rfl (lv_at hl 1 rfl) ?_
  refine lv_bipush (v := 10) hx hb dX4_hasLeave_5 (by decide) ?_
  refine lv_icmp_ge (tgt := 25) hx hb dX4_hasLeave_7 (by decide) (fun c_7 => absurd c_7 (nI_ge hk (by decide))) (fun _ => ?_)
  refine lv_aload_n hx hb dX4_hasLeave_10 rfl (lv_at hl 0 rfl) ?_
  refine va_get (D := D) (ci := 4) (v := .ref f1) (C := RX4) (T := TX4) (N := 6) hx hb htb itX4 hown hK hP 0 rfl rfl 1 (by decide) (htb _ k_192) (fun _ h9 => h9) rfl dX4_hasLeave_11 ?_
  refine lv_iload_n hx hb dX4_hasLeave_14 rfl (lv_at hl 1 rfl) ?_
  refine va_iald hx hb hK hP 1 0 rfl rfl (vp_in_nI (by omega) (by decide)) dX4_hasLeave_15 ?_
  refine lv_bipush (v := (-2)) hx hb dX4_hasLeave_16 (by decide) ?_
  refine lv_icmp_eq (tgt := 25) hx hb dX4_hasLeave_18 (by decide) (fun c_18 => ?_) (fun c_18 => ?_)
  · refine lv_iconst (v := 0) hx hb dX4_hasLeave_25 (by decide) ?_
    exact ret _ _ 0 dX4_hasLeave_26 rfl (by rw [nI_clamp (by omega)] at c_18; exact bI0 (fun z => z c_18))
  · refine lv_iconst (v := 1) hx hb dX4_hasLeave_21 (by decide) ?_
    refine lv_goto (tgt := 26) hx hb dX4_hasLeave_22 (by decide) ?_
    exact ret _ _ 1 dX4_hasLeave_26 rfl (by rw [nI_clamp (by omega)] at c_18; exact bI1 c_18)

set_option maxRecDepth 100000 in
set_option maxHeartbeats 4000000 in
theorem c_leaveBitsF (l : Launch) (D : va_G) (cI cB : ClassId) (h0 : Nat) (u1 : Nat) (f1 : Nat) (g1 : Nat) (ms : Int32) (dy : Int32) (dr : Int32) (ff : Nat → Int32)  : MR l D cI cB yX4_leaveBits cX4_leaveBits 3 .int (rm 1 21) [.ref h0] [(h0, .inr (4, [.ref u1, .ref f1, .ref g1, .int ms, .int dy, .int dr])), (f1, .inl (cI, 10, .inl ff))] (fun r : Int32 => r = lbF ff 10) := by
  refine MR.of (by decide) (Nat.le_of_ble_eq_true rfl) ?_
  intro p e s m below meth c Q ls X hN hP hK hl ret
  obtain ⟨hx, hb, hml, hown, htb⟩ := id X
  have hl : lv_has ls 3 [(0, .ref h0)] := hl
  refine lv_iconst (v := 0) hx hb dX4_leaveBits_0 (by decide) ?_
  refine lv_istore_n (lv' := [(1, .int 0), (0, .ref h0)]) hx hb dX4_leaveBits_1 rfl hl (by decide) rfl (fun ls hl => ?_)
  refine lv_iconst (v := 0) hx hb dX4_leaveBits_2 (by decide) ?_
  refine lv_istore_n (lv' := [(2, .int 0), (1, .int 0), (0, .ref h0)]) hx hb dX4_leaveBits_3 rfl hl (by decide) rfl (fun ls hl => ?_)
  have loop_4 : ∀ (n i : Nat), n + i = 10 → ∀ (ls : Array Slot), lv_has ls 3 [(0, .ref h0), (1, .int (lbF ff i)), (2, .int (nI i))] → W p l e (rm 1 21) s m ([.ref h0] : List Value).toArray below meth c s.heap [] 0 0 Q (F0 m 4 ls []) := by
    intro n
    induction n with
    | zero =>
      intro i hni ls hl
      have hni_4 := hni
      have hi : i = 10 := by omega
      refine lv_iload_n hx hb dX4_leaveBits_4 rfl (lv_at hl 2 rfl) ?_
      refine lv_bipush (v := 10) hx hb dX4_leaveBits_5 (by decide) ?_
      refine lv_icmp_ge (tgt := 34) hx hb dX4_leaveBits_7 (by decide) (fun _ => ?_) (fun c_7 => absurd (by rw [hi]; decide) c_7)
      refine lv_iload_n hx hb dX4_leaveBits_34 rfl (lv_at hl 1 rfl) ?_
      exact ret _ _ (lbF ff i) dX4_leaveBits_35 rfl (by rw [hi])
    | succ n ih_4 =>
      intro i hni ls hl
      have hni_4 := hni
      have hi : i < 10 := by omega
      refine lv_iload_n hx hb dX4_leaveBits_4 rfl (lv_at hl 2 rfl) ?_
      refine lv_bipush (v := 10) hx hb dX4_leaveBits_5 (by decide) ?_
      refine lv_icmp_ge (tgt := 34) hx hb dX4_leaveBits_7 (by decide) (fun c_7 => absurd c_7 (nI_ge hi (by decide))) (fun _ => ?_)
      refine lv_iload_n hx hb dX4_leaveBits_10 rfl (lv_at hl 1 rfl) ?_
      refine lv_aload_n hx hb dX4_leaveBits_11 rfl (lv_at hl 0 rfl) ?_
      refine lv_iload_n hx hb dX4_leaveBits_12 rfl (lv_at hl 2 rfl) ?_
      refine cVR (As := [.int (nI i)]) (rest := [.int (lbF ff i)]) (n := 1) (ci := 4) (q0 := 0) X hN hK hP (c_hasLeaveN l D cI cB h0 u1 f1 g1 ms dy dr i ff hi) (gV k_750 k_751 k_752 k_95 k_753) (by decide +kernel) ⟨Nat.le_of_ble_eq_true rfl, Nat.le_of_ble_eq_true rfl⟩ ⟨rfl, rfl⟩ [0, 1] rfl rfl rfl rfl rfl rfl hl.1 (Nat.le_of_ble_eq_true rfl) dX4_leaveBits_13 ⟨Nat.le_of_ble_eq_true rfl, Nat.le_of_ble_eq_true rfl⟩ (fun r_1 hr_1 => ?_)
      subst hr_1
      refine lv_if_eq (tgt := 25) hx hb dX4_leaveBits_16 (by decide) (fun c_16 => ?_) (fun c_16 => ?_)
      · refine lv_iconst (v := 0) hx hb dX4_leaveBits_25 (by decide) ?_
        refine lv_ior hx hb dX4_leaveBits_26 ?_
        refine tv (z := (lbF ff (i + 1))) (lbF_n (Classical.byContradiction (bIf c_16))) ?_
        refine lv_istore_n (lv' := [(1, .int (lbF ff (i + 1))), (0, .ref h0), (2, .int (nI i))]) hx hb dX4_leaveBits_27 rfl hl (by decide) rfl (fun ls hl => ?_)
        refine lv_iinc (v := (nI (i + 1))) (lv' := [(2, .int (nI (i + 1))), (1, .int (lbF ff (i + 1))), (0, .ref h0)]) hx hb dX4_leaveBits_28 hl (k := 2) rfl (nI_1 i) (by decide) rfl (fun ls hl => ?_)
        refine lv_goto (tgt := 4) hx hb dX4_leaveBits_31 (by decide) ?_
        exact ih_4 (i + 1) (by omega) _ (lv_sub hl [2, 1, 0] rfl)
      · refine lv_iconst (v := 1) hx hb dX4_leaveBits_19 (by decide) ?_
        refine lv_iload_n hx hb dX4_leaveBits_20 rfl (lv_at hl 2 rfl) ?_
        refine lv_ishl hx hb dX4_leaveBits_21 ?_
        refine tv (z := ((1 : Int32) <<< ((nI i) &&& 31))) (rfl) ?_
        refine lv_goto (tgt := 26) hx hb dX4_leaveBits_22 (by decide) ?_
        refine lv_ior hx hb dX4_leaveBits_26 ?_
        refine tv (z := (lbF ff (i + 1))) (lbF_y (bIt c_16)) ?_
        refine lv_istore_n (lv' := [(1, .int (lbF ff (i + 1))), (0, .ref h0), (2, .int (nI i))]) hx hb dX4_leaveBits_27 rfl hl (by decide) rfl (fun ls hl => ?_)
        refine lv_iinc (v := (nI (i + 1))) (lv' := [(2, .int (nI (i + 1))), (1, .int (lbF ff (i + 1))), (0, .ref h0)]) hx hb dX4_leaveBits_28 hl (k := 2) rfl (nI_1 i) (by decide) rfl (fun ls hl => ?_)
        refine lv_goto (tgt := 4) hx hb dX4_leaveBits_31 (by decide) ?_
        exact ih_4 (i + 1) (by omega) _ (lv_sub hl [2, 1, 0] rfl)
  exact loop_4 10 0 (by omega) _ (lv_sub hl [2, 1, 0] rfl)

set_option maxRecDepth 100000 in
set_option maxHeartbeats 4000000 in
theorem c_homeX (l : Launch) (D : va_G) (cI cB : ClassId) (sz : Nat) (h0 : Nat) (tp : Nat) (tw : Nat) (nw : Nat) (kp : Nat) (lw : Nat) (lr : Nat) (dd : Nat) (vv : Nat) (tl : Nat) (sc : Nat) (hk : Int32) (u2 : Nat) (f2 : Nat) (g2 : Nat) (ms2 : Int32) (dy2 : Int32) (dr2 : Int32) (fu2 : Nat → Int32) (ff2 : Nat → Int32) (fg2 : Nat → Int32)  : MI (S := ((Nat → Int32) × (Nat → Int32))) l D cI cB yX9_home cX9_home 2 .int (rm 2 43) [.ref h0] [(h0, .inr (9, [.ref tp, .ref tw, .ref nw, .ref kp, .ref lw, .ref lr, .ref dd, .ref vv, .ref tl, .ref sc, .int hk])), (nw, .inr (4, [.ref u2, .ref f2, .ref g2, .int ms2, .int dy2, .int dr2])), (u2, .inl (cI, 12, .inl fu2)), (f2, .inl (cI, 10, .inl ff2)), (g2, .inl (cI, 10, .inl fg2))] sz (fun r u => r = bcF (lbF ff2 10) ∧ ∀ j, j < 10 → u.1 j = -2 ∧ u.2 j = -2) (fun u : ((Nat → Int32) × (Nat → Int32)) => [(h0, .inr (9, [.ref tp, .ref tw, .ref nw, .ref kp, .ref lw, .ref lr, .ref dd, .ref vv, .ref tl, .ref sc, .int hk])), (nw, .inr (4, [.ref u2, .ref f2, .ref g2, .int ms2, .int dy2, .int dr2])), (u2, .inl (cI, 12, .inl fu2)), (f2, .inl (cI, 10, .inl u.1)), (g2, .inl (cI, 10, .inl u.2))]) := by
  refine MI.of (by decide) (Nat.le_of_ble_eq_true rfl) ?_
  intro p e s m below meth c Q ls A X hin hN hP hK hD hA hl ret
  have hS : va_S A s.heap s.heap [] := va_S.rf
  obtain ⟨hx, hb, hml, hown, htb⟩ := id X
  have hl : lv_has ls 2 [(0, .ref h0)] := hl
  refine lv_aload_n hx hb dX9_home_0 rfl (lv_at hl 0 rfl) ?_
  refine va_get (D := D) (ci := 9) (v := .ref nw) (C := RX9) (T := TX9) (N := 11) hx hb htb itX9 hown hK hP 0 rfl rfl 2 (by decide) (htb _ k_395) (fun _ h9 => h9) rfl dX9_home_1 ?_
  refine cVR (As := []) (rest := []) (n := 0) (ci := 4) (q0 := 0) X hN hK hP (c_leaveBitsF l D cI cB nw u2 f2 g2 ms2 dy2 dr2 ff2) (gV k_746 k_747 k_748 k_95 k_749) (by decide +kernel) ⟨Nat.le_of_ble_eq_true rfl, Nat.le_of_ble_eq_true rfl⟩ ⟨rfl, rfl⟩ [1, 3] rfl rfl rfl rfl rfl rfl hl.1 (Nat.le_of_ble_eq_true rfl) dX9_home_4 ⟨Nat.le_of_ble_eq_true rfl, Nat.le_of_ble_eq_true rfl⟩ (fun r_1 hr_1 => ?_)
  subst hr_1
  refine cSR (As := [.int (lbF ff2 10)]) (rest := []) (n := 1) X hN hK hP (c_bitCountF l D cI cB (lbF ff2 10)) k_754 k_755 k_111 k_756 (by decide +kernel) ⟨Nat.le_of_ble_eq_true rfl, Nat.le_of_ble_eq_true rfl⟩ ⟨rfl, rfl⟩ [] rfl rfl rfl hl.1 (Nat.le_of_ble_eq_true rfl) dX9_home_7 ⟨Nat.le_of_ble_eq_true rfl, Nat.le_of_ble_eq_true rfl⟩ (fun r_2 hr_2 => ?_)
  subst hr_2
  refine lv_topi (fun x_3 ex_3 => ?_)
  refine lv_istore_n (lv' := [(1, .int x_3), (0, .ref h0)]) hx hb dX9_home_10 rfl hl (by decide) rfl (fun ls hl => ?_)
  refine lv_aload_n hx hb dX9_home_11 rfl (lv_at hl 1 rfl) ?_
  refine va_get (D := D) (ci := 9) (v := .ref nw) (C := RX9) (T := TX9) (N := 11) hx hb htb itX9 hown hK hP 0 rfl rfl 2 (by decide) (htb _ k_395) (fun _ h9 => h9) rfl dX9_home_12 ?_
  refine lv_sipush (v := 1023) hx hb dX9_home_15 (by decide) ?_
  refine cVV (As := [.int 1023]) (rest := []) (n := 1) (ci := 4) (q0 := 0) (wr := [(h0, .inr (9, [.ref tp, .ref tw, .ref nw, .ref kp, .ref lw, .ref lr, .ref dd, .ref vv, .ref tl, .ref sc, .int hk])), (u2, .inl (cI, 12, .inl fu2))]) X hN hK hP hD hS hA (c_endAll l D cI cB _ nw u2 f2 g2 ms2 dy2 dr2 ff2 fg2) (gV k_760 k_734 k_735 k_95 k_736) (by decide +kernel) ⟨Nat.le_of_ble_eq_true rfl, Nat.le_of_ble_eq_true rfl⟩ ⟨rfl, rfl⟩ [1, 3, 4] [0, 2] rfl rfl (by decide) (by decide) rfl rfl rfl rfl rfl hl.1 (Nat.le_of_ble_eq_true rfl) dX9_home_18 ⟨Nat.le_of_ble_eq_true rfl, Nat.le_of_ble_eq_true rfl⟩ (fun u H locs hw_7 hP hD hS => ?_)
  obtain ⟨f1_fo_5, g1_fo_6⟩ := u
  try dsimp only at hw_7
  have hP : va_P D vwCl [(h0, .inr (9, [.ref tp, .ref tw, .ref nw, .ref kp, .ref lw, .ref lr, .ref dd, .ref vv, .ref tl, .ref sc, .int hk])), (u2, .inl (cI, 12, .inl fu2)), (nw, .inr (4, [.ref u2, .ref f2, .ref g2, .int ms2, .int dy2, .int dr2])), (f2, .inl (cI, 10, .inl f1_fo_5)), (g2, .inl (cI, 10, .inl g1_fo_6))] H := hP
  have hD : va_D A [(h0, .inr (9, [.ref tp, .ref tw, .ref nw, .ref kp, .ref lw, .ref lr, .ref dd, .ref vv, .ref tl, .ref sc, .int hk])), (u2, .inl (cI, 12, .inl fu2)), (nw, .inr (4, [.ref u2, .ref f2, .ref g2, .int ms2, .int dy2, .int dr2])), (f2, .inl (cI, 10, .inl f1_fo_5)), (g2, .inl (cI, 10, .inl g1_fo_6))] := hD
  refine lv_iload_n hx hb dX9_home_21 rfl (lv_at hl 0 rfl) ?_
  exact ret _ _ _ _ x_3 (f1_fo_5, g1_fo_6) dX9_home_22 rfl (⟨ex_3, hw_7⟩) (hP.sub [0, 2, 1, 3, 4] rfl) (hD.sub [0, 2, 1, 3, 4] (by decide) rfl) hS
