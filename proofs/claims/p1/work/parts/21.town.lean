set_option maxRecDepth 100000 in
set_option maxHeartbeats 4000000 in
theorem c_J7_fill_53178 (l : Launch) (D : va_G) (cI cB : ClassId) (sz : Nat) (a0 : Nat) (v : Int32) (ff : Nat → Int32)  : MV (S := ((Nat → Int32))) l D cI cB yJ7_fill_53178 cJ7_fill_53178 4 (rm 0 0) [.ref a0, .int v] [(a0, .inl (cI, 10, .inl ff))] sz (fun u => ∀ j, j < 10 → u j = v) (fun u : ((Nat → Int32)) => [(a0, .inl (cI, 10, .inl u))]) := by
  refine MV.of (by decide) (Nat.le_of_ble_eq_true rfl) ?_
  intro p e s m below meth c Q ls A X hin hN hP hK hD hA hl ret
  have hS : va_S A s.heap s.heap [] := va_S.rf
  obtain ⟨hx, hb, hml, hown, htb⟩ := id X
  have hl : lv_has ls 4 [(0, .ref a0), (1, .int v)] := hl
  refine lv_iconst (v := 0) hx hb dJ7_fill_53178_0 (by decide) ?_
  refine lv_istore_n (lv' := [(2, .int 0), (0, .ref a0), (1, .int v)]) hx hb dJ7_fill_53178_1 rfl hl (by decide) rfl (fun ls hl => ?_)
  refine lv_aload_n hx hb dJ7_fill_53178_2 rfl (lv_at hl 1 rfl) ?_
  refine va_alen hx hb hK hP 0 0 rfl rfl (v := 10) rfl dJ7_fill_53178_3 ?_
  refine lv_istore_n (lv' := [(3, .int 10), (2, .int 0), (0, .ref a0), (1, .int v)]) hx hb dJ7_fill_53178_4 rfl hl (by decide) rfl (fun ls hl => ?_)
  have loop_5 : ∀ (n i : Nat) (fa : Nat → Int32), n + i = 10 → (∀ j, j < i → fa j = v) → ∀ (H : Heap) (locs : List Loc), va_P D vwCl [(a0, .inl (cI, 10, .inl fa))] H → va_D A [(a0, .inl (cI, 10, .inl fa))] → va_S A s.heap H locs → ∀ (ls : Array Slot), lv_has ls 4 [(0, .ref a0), (1, .int v), (2, .int (nI i)), (3, .int 10)] → W p l e (rm 0 0) s m ([.ref a0, .int v] : List Value).toArray below meth c H locs 0 0 Q (F0 m 5 ls []) := by
    intro n
    induction n with
    | zero =>
      intro i fa hni hfa H locs hP hD hS ls hl
      have hi : i = 10 := by omega
      subst hi
      refine lv_iload_n hx hb dJ7_fill_53178_5 rfl (lv_at hl 2 rfl) ?_
      refine lv_iload_n hx hb dJ7_fill_53178_6 rfl (lv_at hl 3 rfl) ?_
      refine lv_icmp_ge (tgt := 20) hx hb dJ7_fill_53178_7 (by decide) (fun _ => ?_) (fun c_7 => absurd (by decide) c_7)
      exact ret _ _ _ _ fa dJ7_fill_53178_20 hfa (hP.sub [0] rfl) (hD.sub [0] (by decide) rfl) hS
    | succ n ih =>
      intro i fa hni hfa H locs hP hD hS ls hl
      have hi : i < 10 := by omega
      refine lv_iload_n hx hb dJ7_fill_53178_5 rfl (lv_at hl 2 rfl) ?_
      refine lv_iload_n hx hb dJ7_fill_53178_6 rfl (lv_at hl 3 rfl) ?_
      refine lv_icmp_ge (tgt := 20) hx hb dJ7_fill_53178_7 (by decide) (fun c_7 => absurd c_7 (nI_ge hi (by decide))) (fun _ => ?_)
      refine lv_aload_n hx hb dJ7_fill_53178_10 rfl (lv_at hl 0 rfl) ?_
      refine lv_iload_n hx hb dJ7_fill_53178_11 rfl (lv_at hl 2 rfl) ?_
      refine lv_iload_n hx hb dJ7_fill_53178_12 rfl (lv_at hl 1 rfl) ?_
      refine va_iast hx hb hK hP hD hS 0 0 rfl rfl (vp_in_nI (by omega) (by decide)) dJ7_fill_53178_13 (fun H locs hP hD hS => ?_)
      obtain ⟨f_1, ef_1⟩ : ∃ g : Nat → Int32, g = upd fa (Int32.toNatClampNeg (nI i)) v := ⟨_, rfl⟩
      rw [← ef_1] at hP hD
      have hP : va_P D vwCl [(a0, .inl (cI, 10, .inl f_1))] H := hP
      have hD : va_D A [(a0, .inl (cI, 10, .inl f_1))] := hD
      refine lv_iinc (v := (nI (i + 1))) (lv' := [(2, .int (nI (i + 1))), (0, .ref a0), (1, .int v), (3, .int 10)]) hx hb dJ7_fill_53178_14 hl (k := 2) rfl (nI_1 i) (by decide) rfl (fun ls hl => ?_)
      refine lv_goto (tgt := 5) hx hb dJ7_fill_53178_17 (by decide) ?_
      exact ih (i + 1) f_1 (by omega) (by rw [ef_1, nI_clamp (by omega)]; exact updS hfa) _ _ (hP.sub [0] rfl) (hD.sub [0] (by decide) rfl) hS _ (lv_sub hl [1, 2, 0, 3] rfl)
  exact loop_5 10 0 ff (by omega) (fun j hj => absurd hj (Nat.not_lt_zero j)) _ _ (hP.sub [0] rfl) (hD.sub [0] (by decide) rfl) hS _ (lv_sub hl [2, 3, 1, 0] rfl)

set_option maxRecDepth 100000 in
set_option maxHeartbeats 4000000 in
theorem c_X4_copy (l : Launch) (D : va_G) (cI cB : ClassId) (sz : Nat) (h0 : Nat) (u1 : Nat) (f1 : Nat) (g1 : Nat) (ms : Int32) (dy : Int32) (dr : Int32) (h1 : Nat) (u2 : Nat) (f2 : Nat) (g2 : Nat) (ms2 : Int32) (dy2 : Int32) (dr2 : Int32) (fu : Nat → Int32) (ff : Nat → Int32) (fg : Nat → Int32) (fu2 : Nat → Int32) (ff2 : Nat → Int32) (fg2 : Nat → Int32) (hu : ∀ j, j < 12 → fu2 j = 0) (hf : ∀ j, j < 10 → ff2 j = -2) (hg : ∀ j, j < 10 → fg2 j = -2) : MV (S := ((Nat → Int32) × (Nat → Int32) × (Nat → Int32))) l D cI cB yX4_copy cX4_copy 2 (rm 1 60) [.ref h0, .ref h1] [(h0, .inr (4, [.ref u1, .ref f1, .ref g1, .int ms, .int dy, .int dr])), (u1, .inl (cI, 12, .inl fu)), (f1, .inl (cI, 10, .inl ff)), (g1, .inl (cI, 10, .inl fg)), (h1, .inr (4, [.ref u2, .ref f2, .ref g2, .int ms2, .int dy2, .int dr2])), (u2, .inl (cI, 12, .inl fu2)), (f2, .inl (cI, 10, .inl ff2)), (g2, .inl (cI, 10, .inl fg2))] sz (fun u => (∀ j, j < 12 → u.1 j = 0) ∧ (∀ j, j < 10 → u.2.1 j = -2) ∧ (∀ j, j < 10 → u.2.2 j = -2)) (fun u : ((Nat → Int32) × (Nat → Int32) × (Nat → Int32)) => [(h0, .inr (4, [.ref u1, .ref f1, .ref g1, .int ms2, .int dy2, .int dr2])), (u1, .inl (cI, 12, .inl u.1)), (f1, .inl (cI, 10, .inl u.2.1)), (g1, .inl (cI, 10, .inl u.2.2)), (h1, .inr (4, [.ref u2, .ref f2, .ref g2, .int ms2, .int dy2, .int dr2])), (u2, .inl (cI, 12, .inl fu2)), (f2, .inl (cI, 10, .inl ff2)), (g2, .inl (cI, 10, .inl fg2))]) := by
  refine MV.of (by decide) (Nat.le_of_ble_eq_true rfl) ?_
  intro p e s m below meth c Q ls A X hin hN hP hK hD hA hl ret
  have hS : va_S A s.heap s.heap [] := va_S.rf
  obtain ⟨hx, hb, hml, hown, htb⟩ := id X
  have hl : lv_has ls 2 [(0, .ref h0), (1, .ref h1)] := hl
  refine lv_aload_n hx hb dX4_copy_0 rfl (lv_at hl 1 rfl) ?_
  refine va_get (D := D) (ci := 4) (v := .ref u2) (C := RX4) (T := TX4) (N := 6) hx hb htb itX4 hown hK hP 4 rfl rfl 0 (by decide) (htb _ k_189) (fun _ h9 => h9) rfl dX4_copy_1 ?_
  refine lv_iconst (v := 0) hx hb dX4_copy_4 (by decide) ?_
  refine lv_aload_n hx hb dX4_copy_5 rfl (lv_at hl 0 rfl) ?_
  refine va_get (D := D) (ci := 4) (v := .ref u1) (C := RX4) (T := TX4) (N := 6) hx hb htb itX4 hown hK hP 0 rfl rfl 0 (by decide) (htb _ k_189) (fun _ h9 => h9) rfl dX4_copy_6 ?_
  refine lv_iconst (v := 0) hx hb dX4_copy_9 (by decide) ?_
  refine lv_bipush (v := 12) hx hb dX4_copy_10 (by decide) ?_
  refine va_copyi (rest := []) hx hb (by rw [hml]; exact hl.1.symm) hown (htb _ k_781) (htb _ k_667) (htb _ k_666) (htb _ k_110) hK hP hD hS 5 1 0 0 rfl rfl rfl rfl rfl (by decide) (by decide) (by decide) (by decide) (by decide) (fun _ _ => rfl) (Nat.le_of_ble_eq_true rfl) (by decide) dX4_copy_12 (fun H locs hP hD hS => ?_)
  obtain ⟨f_1, ef_1⟩ : ∃ g : Nat → Int32, g = va_cpy fu2 fu (Int32.toNatClampNeg 0) (Int32.toNatClampNeg 0) (Int32.toNatClampNeg 12) := ⟨_, rfl⟩
  rw [← ef_1] at hP hD
  have hP : va_P D vwCl [(h0, .inr (4, [.ref u1, .ref f1, .ref g1, .int ms, .int dy, .int dr])), (u1, .inl (cI, 12, .inl f_1)), (f1, .inl (cI, 10, .inl ff)), (g1, .inl (cI, 10, .inl fg)), (h1, .inr (4, [.ref u2, .ref f2, .ref g2, .int ms2, .int dy2, .int dr2])), (u2, .inl (cI, 12, .inl fu2)), (f2, .inl (cI, 10, .inl ff2)), (g2, .inl (cI, 10, .inl fg2))] H := hP
  have hD : va_D A [(h0, .inr (4, [.ref u1, .ref f1, .ref g1, .int ms, .int dy, .int dr])), (u1, .inl (cI, 12, .inl f_1)), (f1, .inl (cI, 10, .inl ff)), (g1, .inl (cI, 10, .inl fg)), (h1, .inr (4, [.ref u2, .ref f2, .ref g2, .int ms2, .int dy2, .int dr2])), (u2, .inl (cI, 12, .inl fu2)), (f2, .inl (cI, 10, .inl ff2)), (g2, .inl (cI, 10, .inl fg2))] := hD
  refine lv_aload_n hx hb dX4_copy_15 rfl (lv_at hl 1 rfl) ?_
  refine va_get (D := D) (ci := 4) (v := .ref f2) (C := RX4) (T := TX4) (N := 6) hx hb htb itX4 hown hK hP 4 rfl rfl 1 (by decide) (htb _ k_192) (fun _ h9 => h9) rfl dX4_copy_16 ?_
  refine lv_iconst (v := 0) hx hb dX4_copy_19 (by decide) ?_
  refine lv_aload_n hx hb dX4_copy_20 rfl (lv_at hl 0 rfl) ?_
  refine va_get (D := D) (ci := 4) (v := .ref f1) (C := RX4) (T := TX4) (N := 6) hx hb htb itX4 hown hK hP 0 rfl rfl 1 (by decide) (htb _ k_192) (fun _ h9 => h9) rfl dX4_copy_21 ?_
  refine lv_iconst (v := 0) hx hb dX4_copy_24 (by decide) ?_
  refine lv_bipush (v := 10) hx hb dX4_copy_25 (by decide) ?_
  refine va_copyi (rest := []) hx hb (by rw [hml]; exact hl.1.symm) hown (htb _ k_781) (htb _ k_667) (htb _ k_666) (htb _ k_110) hK hP hD hS 6 2 0 0 rfl rfl rfl rfl rfl (by decide) (by decide) (by decide) (by decide) (by decide) (fun _ _ => rfl) (Nat.le_of_ble_eq_true rfl) (by decide) dX4_copy_27 (fun H locs hP hD hS => ?_)
  obtain ⟨f_2, ef_2⟩ : ∃ g : Nat → Int32, g = va_cpy ff2 ff (Int32.toNatClampNeg 0) (Int32.toNatClampNeg 0) (Int32.toNatClampNeg 10) := ⟨_, rfl⟩
  rw [← ef_2] at hP hD
  have hP : va_P D vwCl [(h0, .inr (4, [.ref u1, .ref f1, .ref g1, .int ms, .int dy, .int dr])), (u1, .inl (cI, 12, .inl f_1)), (f1, .inl (cI, 10, .inl f_2)), (g1, .inl (cI, 10, .inl fg)), (h1, .inr (4, [.ref u2, .ref f2, .ref g2, .int ms2, .int dy2, .int dr2])), (u2, .inl (cI, 12, .inl fu2)), (f2, .inl (cI, 10, .inl ff2)), (g2, .inl (cI, 10, .inl fg2))] H := hP
  have hD : va_D A [(h0, .inr (4, [.ref u1, .ref f1, .ref g1, .int ms, .int dy, .int dr])), (u1, .inl (cI, 12, .inl f_1)), (f1, .inl (cI, 10, .inl f_2)), (g1, .inl (cI, 10, .inl fg)), (h1, .inr (4, [.ref u2, .ref f2, .ref g2, .int ms2, .int dy2, .int dr2])), (u2, .inl (cI, 12, .inl fu2)), (f2, .inl (cI, 10, .inl ff2)), (g2, .inl (cI, 10, .inl fg2))] := hD
  refine lv_aload_n hx hb dX4_copy_30 rfl (lv_at hl 1 rfl) ?_
  refine va_get (D := D) (ci := 4) (v := .ref g2) (C := RX4) (T := TX4) (N := 6) hx hb htb itX4 hown hK hP 4 rfl rfl 2 (by decide) (htb _ k_194) (fun _ h9 => h9) rfl dX4_copy_31 ?_
  refine lv_iconst (v := 0) hx hb dX4_copy_34 (by decide) ?_
  refine lv_aload_n hx hb dX4_copy_35 rfl (lv_at hl 0 rfl) ?_
  refine va_get (D := D) (ci := 4) (v := .ref g1) (C := RX4) (T := TX4) (N := 6) hx hb htb itX4 hown hK hP 0 rfl rfl 2 (by decide) (htb _ k_194) (fun _ h9 => h9) rfl dX4_copy_36 ?_
  refine lv_iconst (v := 0) hx hb dX4_copy_39 (by decide) ?_
  refine lv_bipush (v := 10) hx hb dX4_copy_40 (by decide) ?_
  refine va_copyi (rest := []) hx hb (by rw [hml]; exact hl.1.symm) hown (htb _ k_781) (htb _ k_667) (htb _ k_666) (htb _ k_110) hK hP hD hS 7 3 0 0 rfl rfl rfl rfl rfl (by decide) (by decide) (by decide) (by decide) (by decide) (fun _ _ => rfl) (Nat.le_of_ble_eq_true rfl) (by decide) dX4_copy_42 (fun H locs hP hD hS => ?_)
  obtain ⟨f_3, ef_3⟩ : ∃ g : Nat → Int32, g = va_cpy fg2 fg (Int32.toNatClampNeg 0) (Int32.toNatClampNeg 0) (Int32.toNatClampNeg 10) := ⟨_, rfl⟩
  rw [← ef_3] at hP hD
  have hP : va_P D vwCl [(h0, .inr (4, [.ref u1, .ref f1, .ref g1, .int ms, .int dy, .int dr])), (u1, .inl (cI, 12, .inl f_1)), (f1, .inl (cI, 10, .inl f_2)), (g1, .inl (cI, 10, .inl f_3)), (h1, .inr (4, [.ref u2, .ref f2, .ref g2, .int ms2, .int dy2, .int dr2])), (u2, .inl (cI, 12, .inl fu2)), (f2, .inl (cI, 10, .inl ff2)), (g2, .inl (cI, 10, .inl fg2))] H := hP
  have hD : va_D A [(h0, .inr (4, [.ref u1, .ref f1, .ref g1, .int ms, .int dy, .int dr])), (u1, .inl (cI, 12, .inl f_1)), (f1, .inl (cI, 10, .inl f_2)), (g1, .inl (cI, 10, .inl f_3)), (h1, .inr (4, [.ref u2, .ref f2, .ref g2, .int ms2, .int dy2, .int dr2])), (u2, .inl (cI, 12, .inl fu2)), (f2, .inl (cI, 10, .inl ff2)), (g2, .inl (cI, 10, .inl fg2))] := hD
  refine lv_aload_n hx hb dX4_copy_45 rfl (lv_at hl 0 rfl) ?_
  refine lv_aload_n hx hb dX4_copy_46 rfl (lv_at hl 1 rfl) ?_
  refine va_get (D := D) (ci := 4) (v := .int ms2) (C := RX4) (T := TX4) (N := 6) hx hb htb itX4 hown hK hP 4 rfl rfl 3 (by decide) (htb _ k_197) (fun _ h9 => h9) rfl dX4_copy_47 ?_
  refine va_put (D := D) (ci := 4) (v := .int ms2) (ty := .int) (C := RX4) (T := TX4) (N := 6) hx hb htb itX4 tyX4 tyX4_ok nmX4 hown hK hP hD hS 0 rfl rfl 3 (by decide) (htb _ k_197) (fun _ h9 => h9) rfl (tyX4_ok 3 (by decide)) rfl rfl (Nat.le_of_ble_eq_true rfl) dX4_copy_50 (fun H locs hP hD hS => ?_)
  have hP : va_P D vwCl [(h0, .inr (4, [.ref u1, .ref f1, .ref g1, .int ms2, .int dy, .int dr])), (u1, .inl (cI, 12, .inl f_1)), (f1, .inl (cI, 10, .inl f_2)), (g1, .inl (cI, 10, .inl f_3)), (h1, .inr (4, [.ref u2, .ref f2, .ref g2, .int ms2, .int dy2, .int dr2])), (u2, .inl (cI, 12, .inl fu2)), (f2, .inl (cI, 10, .inl ff2)), (g2, .inl (cI, 10, .inl fg2))] H := hP
  have hD : va_D A [(h0, .inr (4, [.ref u1, .ref f1, .ref g1, .int ms2, .int dy, .int dr])), (u1, .inl (cI, 12, .inl f_1)), (f1, .inl (cI, 10, .inl f_2)), (g1, .inl (cI, 10, .inl f_3)), (h1, .inr (4, [.ref u2, .ref f2, .ref g2, .int ms2, .int dy2, .int dr2])), (u2, .inl (cI, 12, .inl fu2)), (f2, .inl (cI, 10, .inl ff2)), (g2, .inl (cI, 10, .inl fg2))] := hD
  refine lv_aload_n hx hb dX4_copy_53 rfl (lv_at hl 0 rfl) ?_
  refine lv_aload_n hx hb dX4_copy_54 rfl (lv_at hl 1 rfl) ?_
  refine va_get (D := D) (ci := 4) (v := .int dy2) (C := RX4) (T := TX4) (N := 6) hx hb htb itX4 hown hK hP 4 rfl rfl 4 (by decide) (htb _ k_199) (fun _ h9 => h9) rfl dX4_copy_55 ?_
  refine va_put (D := D) (ci := 4) (v := .int dy2) (ty := .int) (C := RX4) (T := TX4) (N := 6) hx hb htb itX4 tyX4 tyX4_ok nmX4 hown hK hP hD hS 0 rfl rfl 4 (by decide) (htb _ k_199) (fun _ h9 => h9) rfl (tyX4_ok 4 (by decide)) rfl rfl (Nat.le_of_ble_eq_true rfl) dX4_copy_58 (fun H locs hP hD hS => ?_)
  have hP : va_P D vwCl [(h0, .inr (4, [.ref u1, .ref f1, .ref g1, .int ms2, .int dy2, .int dr])), (u1, .inl (cI, 12, .inl f_1)), (f1, .inl (cI, 10, .inl f_2)), (g1, .inl (cI, 10, .inl f_3)), (h1, .inr (4, [.ref u2, .ref f2, .ref g2, .int ms2, .int dy2, .int dr2])), (u2, .inl (cI, 12, .inl fu2)), (f2, .inl (cI, 10, .inl ff2)), (g2, .inl (cI, 10, .inl fg2))] H := hP
  have hD : va_D A [(h0, .inr (4, [.ref u1, .ref f1, .ref g1, .int ms2, .int dy2, .int dr])), (u1, .inl (cI, 12, .inl f_1)), (f1, .inl (cI, 10, .inl f_2)), (g1, .inl (cI, 10, .inl f_3)), (h1, .inr (4, [.ref u2, .ref f2, .ref g2, .int ms2, .int dy2, .int dr2])), (u2, .inl (cI, 12, .inl fu2)), (f2, .inl (cI, 10, .inl ff2)), (g2, .inl (cI, 10, .inl fg2))] := hD
  refine lv_aload_n hx hb dX4_copy_61 rfl (lv_at hl 0 rfl) ?_
  refine lv_aload_n hx hb dX4_copy_62 rfl (lv_at hl 1 rfl) ?_
  refine va_get (D := D) (ci := 4) (v := .int dr2) (C := RX4) (T := TX4) (N := 6) hx hb htb itX4 hown hK hP 4 rfl rfl 5 (by decide) (htb _ k_202) (fun _ h9 => h9) rfl dX4_copy_63 ?_
  refine va_put (D := D) (ci := 4) (v := .int dr2) (ty := .int) (C := RX4) (T := TX4) (N := 6) hx hb htb itX4 tyX4 tyX4_ok nmX4 hown hK hP hD hS 0 rfl rfl 5 (by decide) (htb _ k_202) (fun _ h9 => h9) rfl (tyX4_ok 5 (by decide)) rfl rfl (Nat.le_of_ble_eq_true rfl) dX4_copy_66 (fun H locs hP hD hS => ?_)
  have hP : va_P D vwCl [(h0, .inr (4, [.ref u1, .ref f1, .ref g1, .int ms2, .int dy2, .int dr2])), (u1, .inl (cI, 12, .inl f_1)), (f1, .inl (cI, 10, .inl f_2)), (g1, .inl (cI, 10, .inl f_3)), (h1, .inr (4, [.ref u2, .ref f2, .ref g2, .int ms2, .int dy2, .int dr2])), (u2, .inl (cI, 12, .inl fu2)), (f2, .inl (cI, 10, .inl ff2)), (g2, .inl (cI, 10, .inl fg2))] H := hP
  have hD : va_D A [(h0, .inr (4, [.ref u1, .ref f1, .ref g1, .int ms2, .int dy2, .int dr2])), (u1, .inl (cI, 12, .inl f_1)), (f1, .inl (cI, 10, .inl f_2)), (g1, .inl (cI, 10, .inl f_3)), (h1, .inr (4, [.ref u2, .ref f2, .ref g2, .int ms2, .int dy2, .int dr2])), (u2, .inl (cI, 12, .inl fu2)), (f2, .inl (cI, 10, .inl ff2)), (g2, .inl (cI, 10, .inl fg2))] := hD
  exact ret _ _ _ _ (f_1, f_2, f_3) dX4_copy_69 (⟨by rw [ef_1]; exact cpyA hu, by rw [ef_2]; exact cpyA hf, by rw [ef_3]; exact cpyA hg⟩) (hP.sub [0, 1, 2, 3, 4, 5, 6, 7] rfl) (hD.sub [0, 1, 2, 3, 4, 5, 6, 7] (by decide) rfl) hS

set_option maxRecDepth 100000 in
set_option maxHeartbeats 4000000 in
theorem c_X4_endLeaves (l : Launch) (D : va_G) (cI cB : ClassId) (sz : Nat) (h0 : Nat) (u1 : Nat) (f1 : Nat) (g1 : Nat) (ms : Int32) (dy : Int32) (dr : Int32) (k : Int32) (ff : Nat → Int32) (fg : Nat → Int32) (hf : ∀ j, j < 10 → ff j = -2) (hg : ∀ j, j < 10 → fg j = -2) : MV (S := ((Nat → Int32) × (Nat → Int32))) l D cI cB yX4_endLeaves cX4_endLeaves 3 (rm 1 21) [.ref h0, .int k] [(h0, .inr (4, [.ref u1, .ref f1, .ref g1, .int ms, .int dy, .int dr])), (f1, .inl (cI, 10, .inl ff)), (g1, .inl (cI, 10, .inl fg))] sz (fun u => (∀ j, j < 10 → u.1 j = -2) ∧ (∀ j, j < 10 → u.2 j = -2)) (fun u : ((Nat → Int32) × (Nat → Int32)) => [(h0, .inr (4, [.ref u1, .ref f1, .ref g1, .int ms, .int dy, .int dr])), (f1, .inl (cI, 10, .inl u.1)), (g1, .inl (cI, 10, .inl u.2))]) := by
  refine MV.of (by decide) (Nat.le_of_ble_eq_true rfl) ?_
  intro p e s m below meth c Q ls A X hin hN hP hK hD hA hl ret
  have hS : va_S A s.heap s.heap [] := va_S.rf
  obtain ⟨hx, hb, hml, hown, htb⟩ := id X
  have hl : lv_has ls 3 [(0, .ref h0), (1, .int k)] := hl
  refine lv_iconst (v := 0) hx hb dX4_endLeaves_0 (by decide) ?_
  refine lv_istore_n (lv' := [(2, .int 0), (0, .ref h0), (1, .int k)]) hx hb dX4_endLeaves_1 rfl hl (by decide) rfl (fun ls hl => ?_)
  have loop_2 : ∀ (n i : Nat) (fa : Nat → Int32) (ga : Nat → Int32), n + i = 10 → (∀ j, j < 10 → fa j = -2) → (∀ j, j < 10 → ga j = -2) → ∀ (H : Heap) (locs : List Loc), va_P D vwCl [(h0, .inr (4, [.ref u1, .ref f1, .ref g1, .int ms, .int dy, .int dr])), (f1, .inl (cI, 10, .inl fa)), (g1, .inl (cI, 10, .inl ga))] H → va_D A [(h0, .inr (4, [.ref u1, .ref f1, .ref g1, .int ms, .int dy, .int dr])), (f1, .inl (cI, 10, .inl fa)), (g1, .inl (cI, 10, .inl ga))] → va_S A s.heap H locs → ∀ (ls : Array Slot), lv_has ls 3 [(0, .ref h0), (1, .int k), (2, .int (nI i))] → W p l e (rm 1 21) s m ([.ref h0, .int k] : List Value).toArray below meth c H locs 0 0 Q (F0 m 2 ls []) := by
    intro n
    induction n with
    | zero =>
      intro i fa ga hni hfa hga H locs hP hD hS ls hl
      have hi : i = 10 := by omega
      subst hi
      refine lv_iload_n hx hb dX4_endLeaves_2 rfl (lv_at hl 2 rfl) ?_
      refine lv_bipush (v := 10) hx hb dX4_endLeaves_3 (by decide) ?_
      refine lv_icmp_ge (tgt := 38) hx hb dX4_endLeaves_5 (by decide) (fun _ => ?_) (fun c_5 => absurd (by decide) c_5)
      exact ret _ _ _ _ (fa, ga) dX4_endLeaves_38 (⟨hfa, hga⟩) (hP.sub [0, 1, 2] rfl) (hD.sub [0, 1, 2] (by decide) rfl) hS
    | succ n ih =>
      intro i fa ga hni hfa hga H locs hP hD hS ls hl
      have hi : i < 10 := by omega
      refine lv_iload_n hx hb dX4_endLeaves_2 rfl (lv_at hl 2 rfl) ?_
      refine lv_bipush (v := 10) hx hb dX4_endLeaves_3 (by decide) ?_
      refine lv_icmp_ge (tgt := 38) hx hb dX4_endLeaves_5 (by decide) (fun c_5 => absurd c_5 (nI_ge hi (by decide))) (fun _ => ?_)
      refine lv_iload_n hx hb dX4_endLeaves_8 rfl (lv_at hl 1 rfl) ?_
      refine lv_iload_n hx hb dX4_endLeaves_9 rfl (lv_at hl 2 rfl) ?_
      refine cSNR (As := [.int k, .int (nI i)]) (rest := []) (n := 2) X hN hK hP (c_X9_isIn l D cI cB k (nI i)) n_737 k_696 k_92 k_697 (by decide +kernel) ⟨Nat.le_of_ble_eq_true rfl, Nat.le_of_ble_eq_true rfl⟩ ⟨rfl, rfl⟩ [] rfl rfl rfl hl.1 (Nat.le_of_ble_eq_true rfl) dX4_endLeaves_10 ⟨Nat.le_of_ble_eq_true rfl, Nat.le_of_ble_eq_true rfl⟩ (fun r_1 hr_1 => ?_)
      refine lv_if_eq (tgt := 32) hx hb dX4_endLeaves_13 (by decide) (fun c_13 => ?_) (fun c_13 => ?_)
      · refine lv_iinc (v := (nI (i + 1))) (lv' := [(2, .int (nI (i + 1))), (0, .ref h0), (1, .int k)]) hx hb dX4_endLeaves_32 hl (k := 2) rfl (nI_1 i) (by decide) rfl (fun ls hl => ?_)
        refine lv_goto (tgt := 2) hx hb dX4_endLeaves_35 (by decide) ?_
        exact ih (i + 1) fa ga (by omega) hfa hga _ _ (hP.sub [0, 1, 2] rfl) (hD.sub [0, 1, 2] (by decide) rfl) hS _ (lv_sub hl [1, 2, 0] rfl)
      · refine lv_aload_n hx hb dX4_endLeaves_16 rfl (lv_at hl 0 rfl) ?_
        refine va_get (D := D) (ci := 4) (v := .ref f1) (C := RX4) (T := TX4) (N := 6) hx hb htb itX4 hown hK hP 0 rfl rfl 1 (by decide) (htb _ k_192) (fun _ h9 => h9) rfl dX4_endLeaves_17 ?_
        refine lv_iload_n hx hb dX4_endLeaves_20 rfl (lv_at hl 2 rfl) ?_
        refine lv_bipush (v := (-2)) hx hb dX4_endLeaves_21 (by decide) ?_
        refine va_iast hx hb hK hP hD hS 1 0 rfl rfl (vp_in_nI (by omega) (by decide)) dX4_endLeaves_23 (fun H locs hP hD hS => ?_)
        obtain ⟨f_2, ef_2⟩ : ∃ g : Nat → Int32, g = upd fa (Int32.toNatClampNeg (nI i)) (-2) := ⟨_, rfl⟩
        rw [← ef_2] at hP hD
        have hP : va_P D vwCl [(h0, .inr (4, [.ref u1, .ref f1, .ref g1, .int ms, .int dy, .int dr])), (f1, .inl (cI, 10, .inl f_2)), (g1, .inl (cI, 10, .inl ga))] H := hP
        have hD : va_D A [(h0, .inr (4, [.ref u1, .ref f1, .ref g1, .int ms, .int dy, .int dr])), (f1, .inl (cI, 10, .inl f_2)), (g1, .inl (cI, 10, .inl ga))] := hD
        refine lv_aload_n hx hb dX4_endLeaves_24 rfl (lv_at hl 0 rfl) ?_
        refine va_get (D := D) (ci := 4) (v := .ref g1) (C := RX4) (T := TX4) (N := 6) hx hb htb itX4 hown hK hP 0 rfl rfl 2 (by decide) (htb _ k_194) (fun _ h9 => h9) rfl dX4_endLeaves_25 ?_
        refine lv_iload_n hx hb dX4_endLeaves_28 rfl (lv_at hl 2 rfl) ?_
        refine lv_bipush (v := (-2)) hx hb dX4_endLeaves_29 (by decide) ?_
        refine va_iast hx hb hK hP hD hS 2 0 rfl rfl (vp_in_nI (by omega) (by decide)) dX4_endLeaves_31 (fun H locs hP hD hS => ?_)
        obtain ⟨f_3, ef_3⟩ : ∃ g : Nat → Int32, g = upd ga (Int32.toNatClampNeg (nI i)) (-2) := ⟨_, rfl⟩
        rw [← ef_3] at hP hD
        have hP : va_P D vwCl [(h0, .inr (4, [.ref u1, .ref f1, .ref g1, .int ms, .int dy, .int dr])), (f1, .inl (cI, 10, .inl f_2)), (g1, .inl (cI, 10, .inl f_3))] H := hP
        have hD : va_D A [(h0, .inr (4, [.ref u1, .ref f1, .ref g1, .int ms, .int dy, .int dr])), (f1, .inl (cI, 10, .inl f_2)), (g1, .inl (cI, 10, .inl f_3))] := hD
        refine lv_iinc (v := (nI (i + 1))) (lv' := [(2, .int (nI (i + 1))), (0, .ref h0), (1, .int k)]) hx hb dX4_endLeaves_32 hl (k := 2) rfl (nI_1 i) (by decide) rfl (fun ls hl => ?_)
        refine lv_goto (tgt := 2) hx hb dX4_endLeaves_35 (by decide) ?_
        exact ih (i + 1) f_2 f_3 (by omega) (by rw [ef_2]; exact updA _ hfa) (by rw [ef_3]; exact updA _ hga) _ _ (hP.sub [0, 1, 2] rfl) (hD.sub [0, 1, 2] (by decide) rfl) hS _ (lv_sub hl [1, 2, 0] rfl)
  exact loop_2 10 0 ff fg (by omega) hf hg _ _ (hP.sub [0, 1, 2] rfl) (hD.sub [0, 1, 2] (by decide) rfl) hS _ (lv_sub hl [1, 2, 0] rfl)

set_option maxRecDepth 100000 in
set_option maxHeartbeats 4000000 in
theorem c_X4_allUndone (l : Launch) (D : va_G) (cI cB : ClassId) (h0 : Nat) (u1 : Nat) (f1 : Nat) (g1 : Nat) (ms : Int32) (dy : Int32) (dr : Int32) (fu : Nat → Int32) (hz : ∀ j, j < 12 → fu j = 0) : MR l D cI cB yX4_allUndone cX4_allUndone 3 .int (rm 0 0) [.ref h0] [(h0, .inr (4, [.ref u1, .ref f1, .ref g1, .int ms, .int dy, .int dr])), (u1, .inl (cI, 12, .inl fu))] (fun r : Int32 => r = 0) := by
  refine MR.of (by decide) (Nat.le_of_ble_eq_true rfl) ?_
  intro p e s m below meth c Q ls X hN hP hK hl ret
  obtain ⟨hx, hb, hml, hown, htb⟩ := id X
  have hl : lv_has ls 3 [(0, .ref h0)] := hl
  refine lv_iconst (v := 0) hx hb dX4_allUndone_0 (by decide) ?_
  refine lv_istore_n (lv' := [(1, .int 0), (0, .ref h0)]) hx hb dX4_allUndone_1 rfl hl (by decide) rfl (fun ls hl => ?_)
  refine lv_iconst (v := 0) hx hb dX4_allUndone_2 (by decide) ?_
  refine lv_istore_n (lv' := [(2, .int 0), (1, .int 0), (0, .ref h0)]) hx hb dX4_allUndone_3 rfl hl (by decide) rfl (fun ls hl => ?_)
  have loop_4 : ∀ (n i : Nat), n + i = 12 → ∀ (ls : Array Slot), lv_has ls 3 [(0, .ref h0), (1, .int 0), (2, .int (nI i))] → W p l e (rm 0 0) s m ([.ref h0] : List Value).toArray below meth c s.heap [] 0 0 Q (F0 m 4 ls []) := by
    intro n
    induction n with
    | zero =>
      intro i hni ls hl
      have hi : i = 12 := by omega
      subst hi
      refine lv_iload_n hx hb dX4_allUndone_4 rfl (lv_at hl 2 rfl) ?_
      refine lv_bipush (v := 12) hx hb dX4_allUndone_5 (by decide) ?_
      refine lv_icmp_ge (tgt := 25) hx hb dX4_allUndone_7 (by decide) (fun _ => ?_) (fun c_7 => absurd (by decide) c_7)
      refine lv_iload_n hx hb dX4_allUndone_25 rfl (lv_at hl 1 rfl) ?_
      exact ret _ _ 0 dX4_allUndone_26 rfl rfl
    | succ n ih =>
      intro i hni ls hl
      have hi : i < 12 := by omega
      refine lv_iload_n hx hb dX4_allUndone_4 rfl (lv_at hl 2 rfl) ?_
      refine lv_bipush (v := 12) hx hb dX4_allUndone_5 (by decide) ?_
      refine lv_icmp_ge (tgt := 25) hx hb dX4_allUndone_7 (by decide) (fun c_7 => absurd c_7 (nI_ge hi (by decide))) (fun _ => ?_)
      refine lv_iload_n hx hb dX4_allUndone_10 rfl (lv_at hl 1 rfl) ?_
      refine lv_aload_n hx hb dX4_allUndone_11 rfl (lv_at hl 0 rfl) ?_
      refine va_get (D := D) (ci := 4) (v := .ref u1) (C := RX4) (T := TX4) (N := 6) hx hb htb itX4 hown hK hP 0 rfl rfl 0 (by decide) (htb _ k_189) (fun _ h9 => h9) rfl dX4_allUndone_12 ?_
      refine lv_iload_n hx hb dX4_allUndone_15 rfl (lv_at hl 2 rfl) ?_
      refine va_iald hx hb hK hP 1 0 rfl rfl (vp_in_nI (by omega) (by decide)) dX4_allUndone_16 ?_
      refine tv (z := 0) (by rw [nI_clamp (by omega)]; exact hz _ hi) ?_
      refine lv_iadd hx hb dX4_allUndone_17 ?_
      refine tv (z := 0) (by decide) ?_
      refine lv_istore_n (lv' := [(1, .int 0), (0, .ref h0), (2, .int (nI i))]) hx hb dX4_allUndone_18 rfl hl (by decide) rfl (fun ls hl => ?_)
      refine lv_iinc (v := (nI (i + 1))) (lv' := [(2, .int (nI (i + 1))), (1, .int 0), (0, .ref h0)]) hx hb dX4_allUndone_19 hl (k := 2) rfl (nI_1 i) (by decide) rfl (fun ls hl => ?_)
      refine lv_goto (tgt := 4) hx hb dX4_allUndone_22 (by decide) ?_
      exact ih (i + 1) (by omega) _ (lv_sub hl [2, 1, 0] rfl)
  exact loop_4 12 0 (by omega) _ (lv_sub hl [2, 1, 0] rfl)

set_option maxRecDepth 100000 in
set_option maxHeartbeats 4000000 in
theorem c_X8_allDone (l : Launch) (D : va_G) (cI cB : ClassId) (h0 : Nat) (tw : Nat) (lw : Nat) (st : Nat) (m1 : Nat) (c1 : Nat) (d1 : Nat) (idl : Int32) (idf : Int32) (idt : Int32) (fc : Int32) (fp : Int32) (mb : Int32) (ra : Int32) (cl : Int32) (fd : Nat → Int32) (hz : ∀ j, j < 10 → fd j = 0) : MR l D cI cB yX8_allDone cX8_allDone 3 .int (rm 0 0) [.ref h0] [(h0, .inr (8, [.ref tw, .ref lw, .ref st, .ref m1, .ref c1, .ref d1, .int idl, .int idf, .int idt, .int fc, .int fp, .int mb, .int ra, .int cl])), (d1, .inl (cI, 10, .inl fd))] (fun r : Int32 => r = 0) := by
  refine MR.of (by decide) (Nat.le_of_ble_eq_true rfl) ?_
  intro p e s m below meth c Q ls X hN hP hK hl ret
  obtain ⟨hx, hb, hml, hown, htb⟩ := id X
  have hl : lv_has ls 3 [(0, .ref h0)] := hl
  refine lv_iconst (v := 0) hx hb dX8_allDone_0 (by decide) ?_
  refine lv_istore_n (lv' := [(1, .int 0), (0, .ref h0)]) hx hb dX8_allDone_1 rfl hl (by decide) rfl (fun ls hl => ?_)
  refine lv_iconst (v := 0) hx hb dX8_allDone_2 (by decide) ?_
  refine lv_istore_n (lv' := [(2, .int 0), (1, .int 0), (0, .ref h0)]) hx hb dX8_allDone_3 rfl hl (by decide) rfl (fun ls hl => ?_)
  have loop_4 : ∀ (n i : Nat), n + i = 10 → ∀ (ls : Array Slot), lv_has ls 3 [(0, .ref h0), (1, .int 0), (2, .int (nI i))] → W p l e (rm 0 0) s m ([.ref h0] : List Value).toArray below meth c s.heap [] 0 0 Q (F0 m 4 ls []) := by
    intro n
    induction n with
    | zero =>
      intro i hni ls hl
      have hi : i = 10 := by omega
      subst hi
      refine lv_iload_n hx hb dX8_allDone_4 rfl (lv_at hl 2 rfl) ?_
      refine lv_bipush (v := 10) hx hb dX8_allDone_5 (by decide) ?_
      refine lv_icmp_ge (tgt := 25) hx hb dX8_allDone_7 (by decide) (fun _ => ?_) (fun c_7 => absurd (by decide) c_7)
      refine lv_iload_n hx hb dX8_allDone_25 rfl (lv_at hl 1 rfl) ?_
      exact ret _ _ 0 dX8_allDone_26 rfl rfl
    | succ n ih =>
      intro i hni ls hl
      have hi : i < 10 := by omega
      refine lv_iload_n hx hb dX8_allDone_4 rfl (lv_at hl 2 rfl) ?_
      refine lv_bipush (v := 10) hx hb dX8_allDone_5 (by decide) ?_
      refine lv_icmp_ge (tgt := 25) hx hb dX8_allDone_7 (by decide) (fun c_7 => absurd c_7 (nI_ge hi (by decide))) (fun _ => ?_)
      refine lv_iload_n hx hb dX8_allDone_10 rfl (lv_at hl 1 rfl) ?_
      refine lv_aload_n hx hb dX8_allDone_11 rfl (lv_at hl 0 rfl) ?_
      refine va_get (D := D) (ci := 8) (v := .ref d1) (C := RX8) (T := TX8) (N := 14) hx hb htb itX8 hown hK hP 0 rfl rfl 5 (by decide) (htb _ k_352) (fun _ h9 => h9) rfl dX8_allDone_12 ?_
      refine lv_iload_n hx hb dX8_allDone_15 rfl (lv_at hl 2 rfl) ?_
      refine va_iald hx hb hK hP 1 0 rfl rfl (vp_in_nI (by omega) (by decide)) dX8_allDone_16 ?_
      refine tv (z := 0) (by rw [nI_clamp (by omega)]; exact hz _ hi) ?_
      refine lv_iadd hx hb dX8_allDone_17 ?_
      refine tv (z := 0) (by decide) ?_
      refine lv_istore_n (lv' := [(1, .int 0), (0, .ref h0), (2, .int (nI i))]) hx hb dX8_allDone_18 rfl hl (by decide) rfl (fun ls hl => ?_)
      refine lv_iinc (v := (nI (i + 1))) (lv' := [(2, .int (nI (i + 1))), (1, .int 0), (0, .ref h0)]) hx hb dX8_allDone_19 hl (k := 2) rfl (nI_1 i) (by decide) rfl (fun ls hl => ?_)
      refine lv_goto (tgt := 4) hx hb dX8_allDone_22 (by decide) ?_
      exact ih (i + 1) (by omega) _ (lv_sub hl [2, 1, 0] rfl)
  exact loop_4 10 0 (by omega) _ (lv_sub hl [2, 1, 0] rfl)

set_option maxRecDepth 100000 in
set_option maxHeartbeats 4000000 in
theorem c_X1_setDay (l : Launch) (D : va_G) (cI cB : ClassId) (sz : Nat) (h0 : Nat) (l1 : Nat) (l2 : Nat) (l3 : Nat) (l4 : Nat) (l5 : Nat) (l6 : Nat) (l7 : Nat) (lz : Int32) (lc : Int32) (a : Int32) (b : Int32) (k : Int32) (fl : Nat → Int32)  : MV (S := ((Nat → Int32))) l D cI cB yX1_setDay cX1_setDay 4 (rm 0 0) [.ref h0, .int a, .int b, .int k] [(h0, .inr (1, [.ref l1, .ref l2, .ref l3, .ref l4, .ref l5, .ref l6, .ref l7, .int lz, .int lc])), (l6, .inl (cI, 8, .inl fl))] sz (fun u => True) (fun u : ((Nat → Int32)) => [(h0, .inr (1, [.ref l1, .ref l2, .ref l3, .ref l4, .ref l5, .ref l6, .ref l7, .int lz, .int lc])), (l6, .inl (cI, 8, .inl u))]) := by
  refine MV.of (by decide) (Nat.le_of_ble_eq_true rfl) ?_
  intro p e s m below meth c Q ls A X hin hN hP hK hD hA hl ret
  have hS : va_S A s.heap s.heap [] := va_S.rf
  obtain ⟨hx, hb, hml, hown, htb⟩ := id X
  have hl : lv_has ls 4 [(0, .ref h0), (1, .int a), (2, .int b), (3, .int k)] := hl
  refine lv_aload_n hx hb dX1_setDay_0 rfl (lv_at hl 0 rfl) ?_
  refine va_get (D := D) (ci := 1) (v := .ref l6) (C := RX1) (T := TX1) (N := 9) hx hb htb itX1 hown hK hP 0 rfl rfl 5 (by decide) (htb _ k_229) (fun _ h9 => h9) rfl dX1_setDay_1 ?_
  refine lv_iconst (v := 3) hx hb dX1_setDay_4 (by decide) ?_
  refine lv_iload_n hx hb dX1_setDay_5 rfl (lv_at hl 1 rfl) ?_
  refine va_iast hx hb hK hP hD hS 1 0 rfl rfl (by unfold vp_in; decide) dX1_setDay_6 (fun H locs hP hD hS => ?_)
  obtain ⟨f_1, ef_1⟩ : ∃ g : Nat → Int32, g = upd fl (Int32.toNatClampNeg 3) a := ⟨_, rfl⟩
  rw [← ef_1] at hP hD
  have hP : va_P D vwCl [(h0, .inr (1, [.ref l1, .ref l2, .ref l3, .ref l4, .ref l5, .ref l6, .ref l7, .int lz, .int lc])), (l6, .inl (cI, 8, .inl f_1))] H := hP
  have hD : va_D A [(h0, .inr (1, [.ref l1, .ref l2, .ref l3, .ref l4, .ref l5, .ref l6, .ref l7, .int lz, .int lc])), (l6, .inl (cI, 8, .inl f_1))] := hD
  refine lv_aload_n hx hb dX1_setDay_7 rfl (lv_at hl 0 rfl) ?_
  refine va_get (D := D) (ci := 1) (v := .ref l6) (C := RX1) (T := TX1) (N := 9) hx hb htb itX1 hown hK hP 0 rfl rfl 5 (by decide) (htb _ k_229) (fun _ h9 => h9) rfl dX1_setDay_8 ?_
  refine lv_iconst (v := 4) hx hb dX1_setDay_11 (by decide) ?_
  refine lv_iload_n hx hb dX1_setDay_12 rfl (lv_at hl 1 rfl) ?_
  refine lv_bipush (v := 7) hx hb dX1_setDay_13 (by decide) ?_
  refine lv_irem hx hb dX1_setDay_15 (by decide) ?_
  refine lv_topi (fun x_2 ex_2 => ?_)
  refine va_iast hx hb hK hP hD hS 1 0 rfl rfl (by unfold vp_in; decide) dX1_setDay_16 (fun H locs hP hD hS => ?_)
  obtain ⟨f_3, ef_3⟩ : ∃ g : Nat → Int32, g = upd f_1 (Int32.toNatClampNeg 4) x_2 := ⟨_, rfl⟩
  rw [← ef_3] at hP hD
  have hP : va_P D vwCl [(h0, .inr (1, [.ref l1, .ref l2, .ref l3, .ref l4, .ref l5, .ref l6, .ref l7, .int lz, .int lc])), (l6, .inl (cI, 8, .inl f_3))] H := hP
  have hD : va_D A [(h0, .inr (1, [.ref l1, .ref l2, .ref l3, .ref l4, .ref l5, .ref l6, .ref l7, .int lz, .int lc])), (l6, .inl (cI, 8, .inl f_3))] := hD
  refine lv_aload_n hx hb dX1_setDay_17 rfl (lv_at hl 0 rfl) ?_
  refine va_get (D := D) (ci := 1) (v := .ref l6) (C := RX1) (T := TX1) (N := 9) hx hb htb itX1 hown hK hP 0 rfl rfl 5 (by decide) (htb _ k_229) (fun _ h9 => h9) rfl dX1_setDay_18 ?_
  refine lv_iconst (v := 5) hx hb dX1_setDay_21 (by decide) ?_
  refine lv_iload_n hx hb dX1_setDay_22 rfl (lv_at hl 2 rfl) ?_
  refine va_iast hx hb hK hP hD hS 1 0 rfl rfl (by unfold vp_in; decide) dX1_setDay_23 (fun H locs hP hD hS => ?_)
  obtain ⟨f_4, ef_4⟩ : ∃ g : Nat → Int32, g = upd f_3 (Int32.toNatClampNeg 5) b := ⟨_, rfl⟩
  rw [← ef_4] at hP hD
  have hP : va_P D vwCl [(h0, .inr (1, [.ref l1, .ref l2, .ref l3, .ref l4, .ref l5, .ref l6, .ref l7, .int lz, .int lc])), (l6, .inl (cI, 8, .inl f_4))] H := hP
  have hD : va_D A [(h0, .inr (1, [.ref l1, .ref l2, .ref l3, .ref l4, .ref l5, .ref l6, .ref l7, .int lz, .int lc])), (l6, .inl (cI, 8, .inl f_4))] := hD
  refine lv_aload_n hx hb dX1_setDay_24 rfl (lv_at hl 0 rfl) ?_
  refine va_get (D := D) (ci := 1) (v := .ref l6) (C := RX1) (T := TX1) (N := 9) hx hb htb itX1 hown hK hP 0 rfl rfl 5 (by decide) (htb _ k_229) (fun _ h9 => h9) rfl dX1_setDay_25 ?_
  refine lv_bipush (v := 6) hx hb dX1_setDay_28 (by decide) ?_
  refine lv_iload_n hx hb dX1_setDay_30 rfl (lv_at hl 3 rfl) ?_
  refine va_iast hx hb hK hP hD hS 1 0 rfl rfl (by unfold vp_in; decide) dX1_setDay_31 (fun H locs hP hD hS => ?_)
  obtain ⟨f_5, ef_5⟩ : ∃ g : Nat → Int32, g = upd f_4 (Int32.toNatClampNeg 6) k := ⟨_, rfl⟩
  rw [← ef_5] at hP hD
  have hP : va_P D vwCl [(h0, .inr (1, [.ref l1, .ref l2, .ref l3, .ref l4, .ref l5, .ref l6, .ref l7, .int lz, .int lc])), (l6, .inl (cI, 8, .inl f_5))] H := hP
  have hD : va_D A [(h0, .inr (1, [.ref l1, .ref l2, .ref l3, .ref l4, .ref l5, .ref l6, .ref l7, .int lz, .int lc])), (l6, .inl (cI, 8, .inl f_5))] := hD
  exact ret _ _ _ _ f_5 dX1_setDay_32 trivial (hP.sub [0, 1] rfl) (hD.sub [0, 1] (by decide) rfl) hS
