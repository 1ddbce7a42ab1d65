set_option maxRecDepth 100000 in
set_option maxHeartbeats 4000000 in
theorem c_fill12 (l : Launch) (D : va_G) (cI cB : ClassId) (sz : Nat) (a0 : Nat) (v : Int32) (ff : Nat → Int32)  : MV (S := ((Nat → Int32))) l D cI cB yJ7_fill_53178 cJ7_fill_53178 4 (rm 0 0) [.ref a0, .int v] [(a0, .inl (cI, 12, .inl ff))] sz (fun u => ∀ j, j < 12 → u j = v) (fun u : ((Nat → Int32)) => [(a0, .inl (cI, 12, .inl u))]) := by
  refine MV.of (by decide) (Nat.le_of_ble_eq_true rfl) ?_
  intro p e s m below meth c Q ls A X hin hN hP hK hD hA hl ret
  have hS : va_S A s.heap s.heap [] := va_S.rf
  obtain ⟨hx, hb, hml, hown, htb⟩ := id X
  have hl : lv_has ls 4 [(0, .ref a0), (1, .int v)] := hl
  refine lv_iconst (v := 0) hx hb dJ7_fill_53178_0 (by decide) ?_
  refine lv_istore_n (lv' := [(2, .int 0), (0, .ref a0), (1, .int v)]) hx hb dJ7_fill_53178_1 rfl hl (by decide) rfl (fun ls hl => ?_)
  refine lv_aload_n hx hb dJ7_fill_53178_2 rfl (lv_at hl 1 rfl) ?_
  refine va_alen hx hb hK hP 0 0 rfl rfl (v := 12) rfl dJ7_fill_53178_3 ?_
  refine lv_istore_n (lv' := [(3, .int 12), (2, .int 0), (0, .ref a0), (1, .int v)]) hx hb dJ7_fill_53178_4 rfl hl (by decide) rfl (fun ls hl => ?_)
  have loop_5 : ∀ (n i : Nat) (fa : Nat → Int32), n + i = 12 → (∀ j, j < i → fa j = v) → ∀ (H : Heap) (locs : List Loc), va_P D vwCl [(a0, .inl (cI, 12, .inl fa))] H → va_D A [(a0, .inl (cI, 12, .inl fa))] → va_S A s.heap H locs → ∀ (ls : Array Slot), lv_has ls 4 [(0, .ref a0), (1, .int v), (2, .int (nI i)), (3, .int 12)] → W p l e (rm 0 0) s m ([.ref a0, .int v] : List Value).toArray below meth c H locs 0 0 Q (F0 m 5 ls []) := by
    intro n
    induction n with
    | zero =>
      intro i fa hni hfa H locs hP hD hS ls hl
      have hni_5 := hni
      have hi : i = 12 := by omega
      refine lv_iload_n hx hb dJ7_fill_53178_5 rfl (lv_at hl 2 rfl) ?_
      refine lv_iload_n hx hb dJ7_fill_53178_6 rfl (lv_at hl 3 rfl) ?_
      refine lv_icmp_ge (tgt := 20) hx hb dJ7_fill_53178_7 (by decide) (fun _ => ?_) (fun c_7 => absurd (by rw [hi]; decide) c_7)
      exact ret _ _ _ _ fa dJ7_fill_53178_20 (by rw [hi] at hfa; exact hfa) (hP.sub [0] rfl) (hD.sub [0] (by decide) rfl) hS
    | succ n ih_5 =>
      intro i fa hni hfa H locs hP hD hS ls hl
      have hni_5 := hni
      have hi : i < 12 := by omega
      refine lv_iload_n hx hb dJ7_fill_53178_5 rfl (lv_at hl 2 rfl) ?_
      refine lv_iload_n hx hb dJ7_fill_53178_6 rfl (lv_at hl 3 rfl) ?_
      refine lv_icmp_ge (tgt := 20) hx hb dJ7_fill_53178_7 (by decide) (fun c_7 => absurd c_7 (nI_ge hi (by decide))) (fun _ => ?_)
      refine lv_aload_n hx hb dJ7_fill_53178_10 rfl (lv_at hl 0 rfl) ?_
      refine lv_iload_n hx hb dJ7_fill_53178_11 rfl (lv_at hl 2 rfl) ?_
      refine lv_iload_n hx hb dJ7_fill_53178_12 rfl (lv_at hl 1 rfl) ?_
      refine va_iast hx hb hK hP hD hS 0 0 rfl rfl (vp_in_nI (by omega) (by decide)) dJ7_fill_53178_13 (fun H locs hP hD hS => ?_)
      obtain ⟨f_1, ef_1⟩ : ∃ g : Nat → Int32, g = upd fa (Int32.toNatClampNeg (nI i)) v := ⟨_, rfl⟩
      rw [← ef_1] at hP hD
      have hP : va_P D vwCl [(a0, .inl (cI, 12, .inl f_1))] H := hP
      have hD : va_D A [(a0, .inl (cI, 12, .inl f_1))] := hD
      refine lv_iinc (v := (nI (i + 1))) (lv' := [(2, .int (nI (i + 1))), (0, .ref a0), (1, .int v), (3, .int 12)]) hx hb dJ7_fill_53178_14 hl (k := 2) rfl (nI_1 i) (by decide) rfl (fun ls hl => ?_)
      refine lv_goto (tgt := 5) hx hb dJ7_fill_53178_17 (by decide) ?_
      exact ih_5 (i + 1) f_1 (by omega) (by rw [ef_1, nI_clamp (by omega)]; exact updS hfa) _ _ (hP.sub [0] rfl) (hD.sub [0] (by decide) rfl) hS _ (lv_sub hl [1, 2, 0, 3] rfl)
  exact loop_5 12 0 ff (by omega) (fun j hj => absurd hj (Nat.not_lt_zero j)) _ _ (hP.sub [0] rfl) (hD.sub [0] (by decide) rfl) hS _ (lv_sub hl [2, 3, 1, 0] rfl)

set_option maxRecDepth 100000 in
set_option maxHeartbeats 4000000 in
theorem c_X0_readRow (l : Launch) (D : va_G) (cI cB : ClassId) (sz : Nat) (h0 : Nat) (rw : Nat) (rl : Nat) (ln : Int32) (tx : Nat) (tp : Nat) (ed : Int32) (pl : Int32) (fa : Int32) (by_ : Nat) (T : Nat) (fb : Nat → Int32) (frw : Nat → Int32) (frl : Nat → Int32) (k : Nat) (hT : T ≤ 260) (hk9 : k < 12) (hrg : RG frl) : MV (S := ((Int32) × (Int32) × (Nat → Int32) × (Nat → Int32))) l D cI cB yX0_readRow cX0_readRow 6 (rm 2 42) [.ref h0, .int (nI k)] [(h0, .inr (0, [.ref tx, .ref rw, .ref rl, .int ln])), (tx, .inr (6, [.ref tp, .int ed, .int pl, .int fa])), (tp, .inr (5, [.ref by_, .int (nI T)])), (by_, .inl (cI, 260, .inl fb)), (rw, .inl (cI, 120, .inl frw)), (rl, .inl (cI, 12, .inl frl))] sz (fun u => RG u.2.2.2) (fun u : ((Int32) × (Int32) × (Nat → Int32) × (Nat → Int32)) => [(h0, .inr (0, [.ref tx, .ref rw, .ref rl, .int ln])), (tx, .inr (6, [.ref tp, .int ed, .int u.1, .int u.2.1])), (tp, .inr (5, [.ref by_, .int (nI T)])), (by_, .inl (cI, 260, .inl fb)), (rw, .inl (cI, 120, .inl u.2.2.1)), (rl, .inl (cI, 12, .inl u.2.2.2))]) := by
  refine MV.of (by decide) (Nat.le_of_ble_eq_true rfl) ?_
  intro p e s m below meth c Q ls A X hin hN hP hK hD hA hl ret
  have hS : va_S A s.heap s.heap [] := va_S.rf
  obtain ⟨hx, hb, hml, hown, htb⟩ := id X
  have hl : lv_has ls 6 [(0, .ref h0), (1, .int (nI k))] := hl
  refine lv_iconst (v := 0) hx hb dX0_readRow_0 (by decide) ?_
  refine lv_istore_n (lv' := [(2, .int 0), (0, .ref h0), (1, .int (nI k))]) hx hb dX0_readRow_1 rfl hl (by decide) rfl (fun ls hl => ?_)
  refine lv_iconst (v := 0) hx hb dX0_readRow_2 (by decide) ?_
  refine lv_istore_n (lv' := [(3, .int 0), (2, .int 0), (0, .ref h0), (1, .int (nI k))]) hx hb dX0_readRow_3 rfl hl (by decide) rfl (fun ls hl => ?_)
  refine lv_iconst (v := 0) hx hb dX0_readRow_4 (by decide) ?_
  refine lv_istore (lv' := [(4, .int 0), (3, .int 0), (2, .int 0), (0, .ref h0), (1, .int (nI k))]) hx hb dX0_readRow_5 hl (by decide) rfl (fun ls hl => ?_)
  have loop_7 : ∀ (n i : Nat) (sv : Int32) (t : Nat) (b50 : Nat → Int32) (b51 : Int32) (b52 : Int32), n + i = 11 → (t ≤ 10) → ∀ (H : Heap) (locs : List Loc), va_P D vwCl [(h0, .inr (0, [.ref tx, .ref rw, .ref rl, .int ln])), (tx, .inr (6, [.ref tp, .int ed, .int b51, .int b52])), (tp, .inr (5, [.ref by_, .int (nI T)])), (by_, .inl (cI, 260, .inl fb)), (rw, .inl (cI, 120, .inl b50)), (rl, .inl (cI, 12, .inl frl))] H → va_D A [(h0, .inr (0, [.ref tx, .ref rw, .ref rl, .int ln])), (tx, .inr (6, [.ref tp, .int ed, .int b51, .int b52])), (tp, .inr (5, [.ref by_, .int (nI T)])), (by_, .inl (cI, 260, .inl fb)), (rw, .inl (cI, 120, .inl b50)), (rl, .inl (cI, 12, .inl frl))] → va_S A s.heap H locs → ∀ (ls : Array Slot), lv_has ls 6 [(0, .ref h0), (1, .int (nI k)), (2, .int sv), (3, .int (nI t)), (4, .int (nI i))] → W p l e (rm 2 42) s m ([.ref h0, .int (nI k)] : List Value).toArray below meth c H locs 0 0 Q (F0 m 7 ls []) := by
    intro n
    induction n with
    | zero =>
      intro i sv t b50 b51 b52 hni ht H locs hP hD hS ls hl
      have hni_7 := hni
      have hi : i = 11 := by omega
      refine lv_iload hx hb dX0_readRow_7 (lv_at hl 4 rfl) ?_
      refine lv_bipush (v := 10) hx hb dX0_readRow_9 (by decide) ?_
      refine lv_icmp_gt (tgt := 110) hx hb dX0_readRow_11 (by decide) (fun _ => ?_) (fun c_11 => absurd (by rw [hi]; decide) c_11)
      refine lv_iload_n hx hb dX0_readRow_110 rfl (lv_at hl 3 rfl) ?_
      refine lv_if_ne (tgt := 129) hx hb dX0_readRow_111 (by decide) (fun c_111 => ?_) (fun c_111 => ?_)
      · refine lv_aload_n hx hb dX0_readRow_129 rfl (lv_at hl 0 rfl) ?_
        refine va_get (D := D) (ci := 0) (v := .ref rl) (C := RX0) (T := TX0) (N := 4) hx hb htb itX0 hown hK hP 0 rfl rfl 2 (by decide) (htb _ k_304) (fun _ h9 => h9) rfl dX0_readRow_130 ?_
        refine lv_iload_n hx hb dX0_readRow_133 rfl (lv_at hl 1 rfl) ?_
        refine lv_iload_n hx hb dX0_readRow_134 rfl (lv_at hl 3 rfl) ?_
        refine va_iast hx hb hK hP hD hS 5 0 rfl rfl (by have a0 := mt Int32.toInt_inj.mp c_111; have a1 : (0 : Int32).toInt = 0 := (by decide); have a2 := nI_toInt (n := t) (by omega); exact vp_in_nI (by omega) (by decide)) dX0_readRow_135 (fun H locs hP hD hS => ?_)
        obtain ⟨f_1, ef_1⟩ : ∃ g : Nat → Int32, g = upd frl (Int32.toNatClampNeg (nI k)) (nI t) := ⟨_, rfl⟩
        rw [← ef_1] at hP hD
        have hP : va_P D vwCl [(h0, .inr (0, [.ref tx, .ref rw, .ref rl, .int ln])), (tx, .inr (6, [.ref tp, .int ed, .int b51, .int b52])), (tp, .inr (5, [.ref by_, .int (nI T)])), (by_, .inl (cI, 260, .inl fb)), (rw, .inl (cI, 120, .inl b50)), (rl, .inl (cI, 12, .inl f_1))] H := hP
        have hD : va_D A [(h0, .inr (0, [.ref tx, .ref rw, .ref rl, .int ln])), (tx, .inr (6, [.ref tp, .int ed, .int b51, .int b52])), (tp, .inr (5, [.ref by_, .int (nI T)])), (by_, .inl (cI, 260, .inl fb)), (rw, .inl (cI, 120, .inl b50)), (rl, .inl (cI, 12, .inl f_1))] := hD
        exact ret _ _ _ _ (b51, b52, b50, f_1) dX0_readRow_136 (by rw [ef_1]; exact RG.upd _ hrg (nI10 ht)) (hP.sub [0, 1, 2, 3, 4, 5] rfl) (hD.sub [0, 1, 2, 3, 4, 5] (by decide) rfl) hS
      · refine lv_aload_n hx hb dX0_readRow_114 rfl (lv_at hl 0 rfl) ?_
        refine va_get (D := D) (ci := 0) (v := .ref tx) (C := RX0) (T := TX0) (N := 4) hx hb htb itX0 hown hK hP 0 rfl rfl 0 (by decide) (htb _ k_302) (fun _ h9 => h9) rfl dX0_readRow_115 ?_
        refine lv_iconst (v := 1) hx hb dX0_readRow_118 (by decide) ?_
        refine lv_aload_n hx hb dX0_readRow_119 rfl (lv_at hl 0 rfl) ?_
        refine va_get (D := D) (ci := 0) (v := .ref tx) (C := RX0) (T := TX0) (N := 4) hx hb htb itX0 hown hK hP 0 rfl rfl 0 (by decide) (htb _ k_302) (fun _ h9 => h9) rfl dX0_readRow_120 ?_
        refine va_getN (D := D) (ci := 6) (v := .int b51) (C := RX6) (T := TX6) (N := 4) hx hb htb itX6 hown hK hP 1 rfl rfl 2 (by decide) (va_Nw.use rfl (hN _ n_265 rfl)) (fun _ h9 => h9) rfl dX0_readRow_123 ?_
        refine cVV (As := [.int 1, .int b51]) (rest := []) (n := 2) (ci := 6) (q0 := 0) (wr := [(h0, .inr (0, [.ref tx, .ref rw, .ref rl, .int ln])), (tp, .inr (5, [.ref by_, .int (nI T)])), (by_, .inl (cI, 260, .inl fb)), (rw, .inl (cI, 120, .inl b50)), (rl, .inl (cI, 12, .inl frl))]) X hN hK hP hD hS hA (c_X6_fail l D cI cB _ tx tp ed b51 b52 1 b51) (gV k_684 k_574 k_575 k_98 k_576) (by decide +kernel) ⟨Nat.le_of_ble_eq_true rfl, Nat.le_of_ble_eq_true rfl⟩ ⟨rfl, rfl⟩ [1] [0, 2, 3, 4, 5] rfl rfl (by decide) (by decide) rfl rfl rfl rfl rfl hl.1 (Nat.le_of_ble_eq_true rfl) dX0_readRow_126 ⟨Nat.le_of_ble_eq_true rfl, Nat.le_of_ble_eq_true rfl⟩ (fun u H locs hw_4 hP hD hS => ?_)
        obtain ⟨h0_3o_3, rfl⟩ : ∃ z, z = u := ⟨_, rfl⟩
        try dsimp only at hw_4
        have hP : va_P D vwCl [(h0, .inr (0, [.ref tx, .ref rw, .ref rl, .int ln])), (tp, .inr (5, [.ref by_, .int (nI T)])), (by_, .inl (cI, 260, .inl fb)), (rw, .inl (cI, 120, .inl b50)), (rl, .inl (cI, 12, .inl frl)), (tx, .inr (6, [.ref tp, .int ed, .int b51, .int h0_3o_3]))] H := hP
        have hD : va_D A [(h0, .inr (0, [.ref tx, .ref rw, .ref rl, .int ln])), (tp, .inr (5, [.ref by_, .int (nI T)])), (by_, .inl (cI, 260, .inl fb)), (rw, .inl (cI, 120, .inl b50)), (rl, .inl (cI, 12, .inl frl)), (tx, .inr (6, [.ref tp, .int ed, .int b51, .int h0_3o_3]))] := hD
        refine lv_aload_n hx hb dX0_readRow_129 rfl (lv_at hl 0 rfl) ?_
        refine va_get (D := D) (ci := 0) (v := .ref rl) (C := RX0) (T := TX0) (N := 4) hx hb htb itX0 hown hK hP 0 rfl rfl 2 (by decide) (htb _ k_304) (fun _ h9 => h9) rfl dX0_readRow_130 ?_
        refine lv_iload_n hx hb dX0_readRow_133 rfl (lv_at hl 1 rfl) ?_
        refine lv_iload_n hx hb dX0_readRow_134 rfl (lv_at hl 3 rfl) ?_
        refine va_iast hx hb hK hP hD hS 4 0 rfl rfl (by have a0 := congrArg Int32.toInt c_111; have a1 : (0 : Int32).toInt = 0 := (by decide); have a2 := nI_toInt (n := t) (by omega); exact vp_in_nI (by omega) (by decide)) dX0_readRow_135 (fun H locs hP hD hS => ?_)
        obtain ⟨f_5, ef_5⟩ : ∃ g : Nat → Int32, g = upd frl (Int32.toNatClampNeg (nI k)) (nI t) := ⟨_, rfl⟩
        rw [← ef_5] at hP hD
        have hP : va_P D vwCl [(h0, .inr (0, [.ref tx, .ref rw, .ref rl, .int ln])), (tp, .inr (5, [.ref by_, .int (nI T)])), (by_, .inl (cI, 260, .inl fb)), (rw, .inl (cI, 120, .inl b50)), (rl, .inl (cI, 12, .inl f_5)), (tx, .inr (6, [.ref tp, .int ed, .int b51, .int h0_3o_3]))] H := hP
        have hD : va_D A [(h0, .inr (0, [.ref tx, .ref rw, .ref rl, .int ln])), (tp, .inr (5, [.ref by_, .int (nI T)])), (by_, .inl (cI, 260, .inl fb)), (rw, .inl (cI, 120, .inl b50)), (rl, .inl (cI, 12, .inl f_5)), (tx, .inr (6, [.ref tp, .int ed, .int b51, .int h0_3o_3]))] := hD
        exact ret _ _ _ _ (b51, h0_3o_3, b50, f_5) dX0_readRow_136 (by rw [ef_5]; exact RG.upd _ hrg (nI10 ht)) (hP.sub [0, 5, 1, 2, 3, 4] rfl) (hD.sub [0, 5, 1, 2, 3, 4] (by decide) rfl) hS
    | succ n ih_7 =>
      intro i sv t b50 b51 b52 hni ht H locs hP hD hS ls hl
      have hni_7 := hni
      have hi : i < 11 := by omega
      refine lv_iload hx hb dX0_readRow_7 (lv_at hl 4 rfl) ?_
      refine lv_bipush (v := 10) hx hb dX0_readRow_9 (by decide) ?_
      refine lv_icmp_gt (tgt := 110) hx hb dX0_readRow_11 (by decide) (fun c_11 => absurd c_11 (nI_nlt (a := 10) (by omega) (by decide))) (fun _ => ?_)
      refine lv_aload_n hx hb dX0_readRow_14 rfl (lv_at hl 0 rfl) ?_
      refine va_get (D := D) (ci := 0) (v := .ref tx) (C := RX0) (T := TX0) (N := 4) hx hb htb itX0 hown hK hP 0 rfl rfl 0 (by decide) (htb _ k_302) (fun _ h9 => h9) rfl dX0_readRow_15 ?_
      refine cVR (As := []) (rest := []) (n := 0) (ci := 6) (q0 := 0) X hN hK hP (c_X6_personHere l D cI cB tx tp ed b51 b52 by_ T fb hT) (gV k_691 k_692 k_693 k_98 k_694) (by decide +kernel) ⟨Nat.le_of_ble_eq_true rfl, Nat.le_of_ble_eq_true rfl⟩ ⟨rfl, rfl⟩ [1, 2, 3] rfl rfl rfl rfl rfl rfl hl.1 (Nat.le_of_ble_eq_true rfl) dX0_readRow_18 ⟨Nat.le_of_ble_eq_true rfl, Nat.le_of_ble_eq_true rfl⟩ (fun r_6 hr_6 => ?_)
      refine lv_iconst (v := (-1)) hx hb dX0_readRow_21 (by decide) ?_
      refine lv_icmp_eq (tgt := 110) hx hb dX0_readRow_22 (by decide) (fun c_22 => ?_) (fun c_22 => ?_)
      · refine lv_iload_n hx hb dX0_readRow_110 rfl (lv_at hl 3 rfl) ?_
        refine lv_if_ne (tgt := 129) hx hb dX0_readRow_111 (by decide) (fun c_111 => ?_) (fun c_111 => ?_)
        · refine lv_aload_n hx hb dX0_readRow_129 rfl (lv_at hl 0 rfl) ?_
          refine va_get (D := D) (ci := 0) (v := .ref rl) (C := RX0) (T := TX0) (N := 4) hx hb htb itX0 hown hK hP 0 rfl rfl 2 (by decide) (htb _ k_304) (fun _ h9 => h9) rfl dX0_readRow_130 ?_
          refine lv_iload_n hx hb dX0_readRow_133 rfl (lv_at hl 1 rfl) ?_
          refine lv_iload_n hx hb dX0_readRow_134 rfl (lv_at hl 3 rfl) ?_
          refine va_iast hx hb hK hP hD hS 5 0 rfl rfl (by have a0 := congrArg Int32.toInt c_22; have a1 := mt Int32.toInt_inj.mp c_111; have a2 : ((-1) : Int32).toInt = (-1) := (by decide); have a3 : (0 : Int32).toInt = 0 := (by decide); have a4 := nI_toInt (n := t) (by omega); exact vp_in_nI (by omega) (by decide)) dX0_readRow_135 (fun H locs hP hD hS => ?_)
          obtain ⟨f_7, ef_7⟩ : ∃ g : Nat → Int32, g = upd frl (Int32.toNatClampNeg (nI k)) (nI t) := ⟨_, rfl⟩
          rw [← ef_7] at hP hD
          have hP : va_P D vwCl [(h0, .inr (0, [.ref tx, .ref rw, .ref rl, .int ln])), (tx, .inr (6, [.ref tp, .int ed, .int b51, .int b52])), (tp, .inr (5, [.ref by_, .int (nI T)])), (by_, .inl (cI, 260, .inl fb)), (rw, .inl (cI, 120, .inl b50)), (rl, .inl (cI, 12, .inl f_7))] H := hP
          have hD : va_D A [(h0, .inr (0, [.ref tx, .ref rw, .ref rl, .int ln])), (tx, .inr (6, [.ref tp, .int ed, .int b51, .int b52])), (tp, .inr (5, [.ref by_, .int (nI T)])), (by_, .inl (cI, 260, .inl fb)), (rw, .inl (cI, 120, .inl b50)), (rl, .inl (cI, 12, .inl f_7))] := hD
          exact ret _ _ _ _ (b51, b52, b50, f_7) dX0_readRow_136 (by rw [ef_7]; exact RG.upd _ hrg (nI10 ht)) (hP.sub [0, 1, 2, 3, 4, 5] rfl) (hD.sub [0, 1, 2, 3, 4, 5] (by decide) rfl) hS
        · refine lv_aload_n hx hb dX0_readRow_114 rfl (lv_at hl 0 rfl) ?_
          refine va_get (D := D) (ci := 0) (v := .ref tx) (C := RX0) (T := TX0) (N := 4) hx hb htb itX0 hown hK hP 0 rfl rfl 0 (by decide) (htb _ k_302) (fun _ h9 => h9) rfl dX0_readRow_115 ?_
          refine lv_iconst (v := 1) hx hb dX0_readRow_118 (by decide) ?_
          refine lv_aload_n hx hb dX0_readRow_119 rfl (lv_at hl 0 rfl) ?_
          refine va_get (D := D) (ci := 0) (v := .ref tx) (C := RX0) (T := TX0) (N := 4) hx hb htb itX0 hown hK hP 0 rfl rfl 0 (by decide) (htb _ k_302) (fun _ h9 => h9) rfl dX0_readRow_120 ?_
          refine va_getN (D := D) (ci := 6) (v := .int b51) (C := RX6) (T := TX6) (N := 4) hx hb htb itX6 hown hK hP 1 rfl rfl 2 (by decide) (va_Nw.use rfl (hN _ n_265 rfl)) (fun _ h9 => h9) rfl dX0_readRow_123 ?_
          refine cVV (As := [.int 1, .int b51]) (rest := []) (n := 2) (ci := 6) (q0 := 0) (wr := [(h0, .inr (0, [.ref tx, .ref rw, .ref rl, .int ln])), (tp, .inr (5, [.ref by_, .int (nI T)])), (by_, .inl (cI, 260, .inl fb)), (rw, .inl (cI, 120, .inl b50)), (rl, .inl (cI, 12, .inl frl))]) X hN hK hP hD hS hA (c_X6_fail l D cI cB _ tx tp ed b51 b52 1 b51) (gV k_684 k_574 k_575 k_98 k_576) (by decide +kernel) ⟨Nat.le_of_ble_eq_true rfl, Nat.le_of_ble_eq_true rfl⟩ ⟨rfl, rfl⟩ [1] [0, 2, 3, 4, 5] rfl rfl (by decide) (by decide) rfl rfl rfl rfl rfl hl.1 (Nat.le_of_ble_eq_true rfl) dX0_readRow_126 ⟨Nat.le_of_ble_eq_true rfl, Nat.le_of_ble_eq_true rfl⟩ (fun u H locs hw_10 hP hD hS => ?_)
          obtain ⟨h0_3o_9, rfl⟩ : ∃ z, z = u := ⟨_, rfl⟩
          try dsimp only at hw_10
          have hP : va_P D vwCl [(h0, .inr (0, [.ref tx, .ref rw, .ref rl, .int ln])), (tp, .inr (5, [.ref by_, .int (nI T)])), (by_, .inl (cI, 260, .inl fb)), (rw, .inl (cI, 120, .inl b50)), (rl, .inl (cI, 12, .inl frl)), (tx, .inr (6, [.ref tp, .int ed, .int b51, .int h0_3o_9]))] H := hP
          have hD : va_D A [(h0, .inr (0, [.ref tx, .ref rw, .ref rl, .int ln])), (tp, .inr (5, [.ref by_, .int (nI T)])), (by_, .inl (cI, 260, .inl fb)), (rw, .inl (cI, 120, .inl b50)), (rl, .inl (cI, 12, .inl frl)), (tx, .inr (6, [.ref tp, .int ed, .int b51, .int h0_3o_9]))] := hD
          refine lv_aload_n hx hb dX0_readRow_129 rfl (lv_at hl 0 rfl) ?_
          refine va_get (D := D) (ci := 0) (v := .ref rl) (C := RX0) (T := TX0) (N := 4) hx hb htb itX0 hown hK hP 0 rfl rfl 2 (by decide) (htb _ k_304) (fun _ h9 => h9) rfl dX0_readRow_130 ?_
          refine lv_iload_n hx hb dX0_readRow_133 rfl (lv_at hl 1 rfl) ?_
          refine lv_iload_n hx hb dX0_readRow_134 rfl (lv_at hl 3 rfl) ?_
          refine va_iast hx hb hK hP hD hS 4 0 rfl rfl (by have a0 := congrArg Int32.toInt c_22; have a1 := congrArg Int32.toInt c_111; have a2 : ((-1) : Int32).toInt = (-1) := (by decide); have a3 : (0 : Int32).toInt = 0 := (by decide); have a4 := nI_toInt (n := t) (by omega); exact vp_in_nI (by omega) (by decide)) dX0_readRow_135 (fun H locs hP hD hS => ?_)
          obtain ⟨f_11, ef_11⟩ : ∃ g : Nat → Int32, g = upd frl (Int32.toNatClampNeg (nI k)) (nI t) := ⟨_, rfl⟩
          rw [← ef_11] at hP hD
          have hP : va_P D vwCl [(h0, .inr (0, [.ref tx, .ref rw, .ref rl, .int ln])), (tp, .inr (5, [.ref by_, .int (nI T)])), (by_, .inl (cI, 260, .inl fb)), (rw, .inl (cI, 120, .inl b50)), (rl, .inl (cI, 12, .inl f_11)), (tx, .inr (6, [.ref tp, .int ed, .int b51, .int h0_3o_9]))] H := hP
          have hD : va_D A [(h0, .inr (0, [.ref tx, .ref rw, .ref rl, .int ln])), (tp, .inr (5, [.ref by_, .int (nI T)])), (by_, .inl (cI, 260, .inl fb)), (rw, .inl (cI, 120, .inl b50)), (rl, .inl (cI, 12, .inl f_11)), (tx, .inr (6, [.ref tp, .int ed, .int b51, .int h0_3o_9]))] := hD
          exact ret _ _ _ _ (b51, h0_3o_9, b50, f_11) dX0_readRow_136 (by rw [ef_11]; exact RG.upd _ hrg (nI10 ht)) (hP.sub [0, 5, 1, 2, 3, 4] rfl) (hD.sub [0, 5, 1, 2, 3, 4] (by decide) rfl) hS
      · refine lv_aload_n hx hb dX0_readRow_25 rfl (lv_at hl 0 rfl) ?_
        refine va_get (D := D) (ci := 0) (v := .ref tx) (C := RX0) (T := TX0) (N := 4) hx hb htb itX0 hown hK hP 0 rfl rfl 0 (by decide) (htb _ k_302) (fun _ h9 => h9) rfl dX0_readRow_26 ?_
        refine cVR (As := []) (rest := []) (n := 0) (ci := 6) (q0 := 0) X hN hK hP (c_X6_personHere l D cI cB tx tp ed b51 b52 by_ T fb hT) (gV k_691 k_692 k_693 k_98 k_694) (by decide +kernel) ⟨Nat.le_of_ble_eq_true rfl, Nat.le_of_ble_eq_true rfl⟩ ⟨rfl, rfl⟩ [1, 2, 3] rfl rfl rfl rfl rfl rfl hl.1 (Nat.le_of_ble_eq_true rfl) dX0_readRow_29 ⟨Nat.le_of_ble_eq_true rfl, Nat.le_of_ble_eq_true rfl⟩ (fun r_12 hr_12 => ?_)
        refine lv_istore (lv' := [(5, .int r_12), (0, .ref h0), (1, .int (nI k)), (2, .int sv), (3, .int (nI t)), (4, .int (nI i))]) hx hb dX0_readRow_32 hl (by decide) rfl (fun ls hl => ?_)
        refine lv_iload_n hx hb dX0_readRow_34 rfl (lv_at hl 3 rfl) ?_
        refine lv_iload hx hb dX0_readRow_35 (lv_at hl 0 rfl) ?_
        refine cSNR (As := [.int sv, .int r_12]) (rest := []) (n := 2) X hN hK hP (c_X9_isIn l D cI cB sv r_12) n_695 k_696 k_92 k_697 (by decide +kernel) ⟨Nat.le_of_ble_eq_true rfl, Nat.le_of_ble_eq_true rfl⟩ ⟨rfl, rfl⟩ [] rfl rfl rfl hl.1 (Nat.le_of_ble_eq_true rfl) dX0_readRow_37 ⟨Nat.le_of_ble_eq_true rfl, Nat.le_of_ble_eq_true rfl⟩ (fun r_13 hr_13 => ?_)
        refine lv_if_ne (tgt := 49) hx hb dX0_readRow_40 (by decide) (fun c_40 => ?_) (fun c_40 => ?_)
        · refine lv_aload_n hx hb dX0_readRow_49 rfl (lv_at hl 1 rfl) ?_
          refine va_get (D := D) (ci := 0) (v := .ref tx) (C := RX0) (T := TX0) (N := 4) hx hb htb itX0 hown hK hP 0 rfl rfl 0 (by decide) (htb _ k_302) (fun _ h9 => h9) rfl dX0_readRow_50 ?_
          refine lv_bipush (v := 6) hx hb dX0_readRow_53 (by decide) ?_
          refine lv_aload_n hx hb dX0_readRow_55 rfl (lv_at hl 1 rfl) ?_
          refine va_get (D := D) (ci := 0) (v := .ref tx) (C := RX0) (T := TX0) (N := 4) hx hb htb itX0 hown hK hP 0 rfl rfl 0 (by decide) (htb _ k_302) (fun _ h9 => h9) rfl dX0_readRow_56 ?_
          refine va_getN (D := D) (ci := 6) (v := .int b51) (C := RX6) (T := TX6) (N := 4) hx hb htb itX6 hown hK hP 1 rfl rfl 2 (by decide) (va_Nw.use rfl (hN _ n_265 rfl)) (fun _ h9 => h9) rfl dX0_readRow_59 ?_
          refine cVV (As := [.int 6, .int b51]) (rest := []) (n := 2) (ci := 6) (q0 := 0) (wr := [(h0, .inr (0, [.ref tx, .ref rw, .ref rl, .int ln])), (tp, .inr (5, [.ref by_, .int (nI T)])), (by_, .inl (cI, 260, .inl fb)), (rw, .inl (cI, 120, .inl b50)), (rl, .inl (cI, 12, .inl frl))]) X hN hK hP hD hS hA (c_X6_fail l D cI cB _ tx tp ed b51 b52 6 b51) (gV k_684 k_574 k_575 k_98 k_576) (by decide +kernel) ⟨Nat.le_of_ble_eq_true rfl, Nat.le_of_ble_eq_true rfl⟩ ⟨rfl, rfl⟩ [1] [0, 2, 3, 4, 5] rfl rfl (by decide) (by decide) rfl rfl rfl rfl rfl hl.1 (Nat.le_of_ble_eq_true rfl) dX0_readRow_62 ⟨Nat.le_of_ble_eq_true rfl, Nat.le_of_ble_eq_true rfl⟩ (fun u H locs hw_16 hP hD hS => ?_)
          obtain ⟨h0_3o_15, rfl⟩ : ∃ z, z = u := ⟨_, rfl⟩
          try dsimp only at hw_16
          have hP : va_P D vwCl [(h0, .inr (0, [.ref tx, .ref rw, .ref rl, .int ln])), (tp, .inr (5, [.ref by_, .int (nI T)])), (by_, .inl (cI, 260, .inl fb)), (rw, .inl (cI, 120, .inl b50)), (rl, .inl (cI, 12, .inl frl)), (tx, .inr (6, [.ref tp, .int ed, .int b51, .int h0_3o_15]))] H := hP
          have hD : va_D A [(h0, .inr (0, [.ref tx, .ref rw, .ref rl, .int ln])), (tp, .inr (5, [.ref by_, .int (nI T)])), (by_, .inl (cI, 260, .inl fb)), (rw, .inl (cI, 120, .inl b50)), (rl, .inl (cI, 12, .inl frl)), (tx, .inr (6, [.ref tp, .int ed, .int b51, .int h0_3o_15]))] := hD
          refine lv_goto (tgt := 104) hx hb dX0_readRow_65 (by decide) ?_
          refine lv_iinc (v := (nI (i + 1))) (lv' := [(4, .int (nI (i + 1))), (5, .int r_12), (0, .ref h0), (1, .int (nI k)), (2, .int sv), (3, .int (nI t))]) hx hb dX0_readRow_104 hl (k := 5) rfl (nI_1 i) (by decide) rfl (fun ls hl => ?_)
          refine lv_goto (tgt := 7) hx hb dX0_readRow_107 (by decide) ?_
          exact ih_7 (i + 1) sv t b50 b51 h0_3o_15 (by omega) (by have a0 := mt Int32.toInt_inj.mp c_22; have a1 := mt Int32.toInt_inj.mp c_40; have a2 : ((-1) : Int32).toInt = (-1) := (by decide); have a3 : (0 : Int32).toInt = 0 := (by decide); omega) _ _ (hP.sub [0, 5, 1, 2, 3, 4] rfl) (hD.sub [0, 5, 1, 2, 3, 4] (by decide) rfl) hS _ (lv_sub hl [2, 3, 4, 5, 0] rfl)
        · refine lv_iload_n hx hb dX0_readRow_43 rfl (lv_at hl 4 rfl) ?_
          refine lv_bipush (v := 10) hx hb dX0_readRow_44 (by decide) ?_
          refine lv_icmp_lt (tgt := 68) hx hb dX0_readRow_46 (by decide) (fun c_46 => ?_) (fun c_46 => ?_)
          · refine lv_iload_n hx hb dX0_readRow_68 rfl (lv_at hl 3 rfl) ?_
            refine lv_iconst (v := 1) hx hb dX0_readRow_69 (by decide) ?_
            refine lv_iload hx hb dX0_readRow_70 (lv_at hl 0 rfl) ?_
            refine lv_ishl hx hb dX0_readRow_72 ?_
            refine lv_ior hx hb dX0_readRow_73 ?_
            refine lv_topi (fun x_17 ex_17 => ?_)
            refine lv_istore_n (lv' := [(2, .int x_17), (5, .int r_12), (0, .ref h0), (1, .int (nI k)), (3, .int (nI t)), (4, .int (nI i))]) hx hb dX0_readRow_74 rfl hl (by decide) rfl (fun ls hl => ?_)
            refine lv_aload_n hx hb dX0_readRow_75 rfl (lv_at hl 2 rfl) ?_
            refine va_get (D := D) (ci := 0) (v := .ref rw) (C := RX0) (T := TX0) (N := 4) hx hb htb itX0 hown hK hP 0 rfl rfl 1 (by decide) (htb _ k_303) (fun _ h9 => h9) rfl dX0_readRow_76 ?_
            refine lv_iload_n hx hb dX0_readRow_79 rfl (lv_at hl 3 rfl) ?_
            refine lv_bipush (v := 10) hx hb dX0_readRow_80 (by decide) ?_
            refine lv_imul hx hb dX0_readRow_82 ?_
            refine lv_iload_n hx hb dX0_readRow_83 rfl (lv_at hl 4 rfl) ?_
            refine lv_iadd hx hb dX0_readRow_84 ?_
            refine tv (z := (nI (10 * k + t))) (ix10 k t) ?_
            refine lv_iload hx hb dX0_readRow_85 (lv_at hl 1 rfl) ?_
            refine va_iast hx hb hK hP hD hS 4 0 rfl rfl (by have a0 := mt Int32.toInt_inj.mp c_22; have a1 := congrArg Int32.toInt c_40; have a2 := Int32.lt_iff_toInt_lt.mp c_46; have a3 : ((-1) : Int32).toInt = (-1) := (by decide); have a4 : (0 : Int32).toInt = 0 := (by decide); have a5 : (10 : Int32).toInt = 10 := (by decide); have a6 := nI_toInt (n := t) (by omega); exact vp_in_nI (by omega) (by decide)) dX0_readRow_87 (fun H locs hP hD hS => ?_)
            obtain ⟨f_18, ef_18⟩ : ∃ g : Nat → Int32, g = upd b50 (Int32.toNatClampNeg (nI (10 * k + t))) r_12 := ⟨_, rfl⟩
            rw [← ef_18] at hP hD
            have hP : va_P D vwCl [(h0, .inr (0, [.ref tx, .ref rw, .ref rl, .int ln])), (tx, .inr (6, [.ref tp, .int ed, .int b51, .int b52])), (tp, .inr (5, [.ref by_, .int (nI T)])), (by_, .inl (cI, 260, .inl fb)), (rw, .inl (cI, 120, .inl f_18)), (rl, .inl (cI, 12, .inl frl))] H := hP
            have hD : va_D A [(h0, .inr (0, [.ref tx, .ref rw, .ref rl, .int ln])), (tx, .inr (6, [.ref tp, .int ed, .int b51, .int b52])), (tp, .inr (5, [.ref by_, .int (nI T)])), (by_, .inl (cI, 260, .inl fb)), (rw, .inl (cI, 120, .inl f_18)), (rl, .inl (cI, 12, .inl frl))] := hD
            refine lv_iinc (v := (nI (t + 1))) (lv' := [(3, .int (nI (t + 1))), (2, .int x_17), (5, .int r_12), (0, .ref h0), (1, .int (nI k)), (4, .int (nI i))]) hx hb dX0_readRow_88 hl (k := 4) rfl (nI_1 t) (by decide) rfl (fun ls hl => ?_)
            refine lv_aload_n hx hb dX0_readRow_91 rfl (lv_at hl 3 rfl) ?_
            refine va_get (D := D) (ci := 0) (v := .ref tx) (C := RX0) (T := TX0) (N := 4) hx hb htb itX0 hown hK hP 0 rfl rfl 0 (by decide) (htb _ k_302) (fun _ h9 => h9) rfl dX0_readRow_92 ?_
            refine lv_dup hx hb dX0_readRow_95 rfl ?_
            refine va_getN (D := D) (ci := 6) (v := .int b51) (C := RX6) (T := TX6) (N := 4) hx hb htb itX6 hown hK hP 1 rfl rfl 2 (by decide) (va_Nw.use rfl (hN _ n_265 rfl)) (fun _ h9 => h9) rfl dX0_readRow_96 ?_
            refine lv_iconst (v := 1) hx hb dX0_readRow_99 (by decide) ?_
            refine lv_iadd hx hb dX0_readRow_100 ?_
            refine lv_topi (fun x_19 ex_19 => ?_)
            refine va_putN (D := D) (ci := 6) (v := .int x_19) (ty := .int) (C := RX6) (T := TX6) (N := 4) hx hb htb itX6 tyX6 tyX6_ok nmX6 hown hK hP hD hS 1 rfl rfl 2 (by decide) (va_Nw.use rfl (hN _ n_265 rfl)) (fun _ h9 => h9) rfl (tyX6_ok 2 (by decide)) rfl rfl (Nat.le_of_ble_eq_true rfl) dX0_readRow_101 (fun H locs hP hD hS => ?_)
            have hP : va_P D vwCl [(h0, .inr (0, [.ref tx, .ref rw, .ref rl, .int ln])), (tx, .inr (6, [.ref tp, .int ed, .int x_19, .int b52])), (tp, .inr (5, [.ref by_, .int (nI T)])), (by_, .inl (cI, 260, .inl fb)), (rw, .inl (cI, 120, .inl f_18)), (rl, .inl (cI, 12, .inl frl))] H := hP
            have hD : va_D A [(h0, .inr (0, [.ref tx, .ref rw, .ref rl, .int ln])), (tx, .inr (6, [.ref tp, .int ed, .int x_19, .int b52])), (tp, .inr (5, [.ref by_, .int (nI T)])), (by_, .inl (cI, 260, .inl fb)), (rw, .inl (cI, 120, .inl f_18)), (rl, .inl (cI, 12, .inl frl))] := hD
            refine lv_iinc (v := (nI (i + 1))) (lv' := [(4, .int (nI (i + 1))), (3, .int (nI (t + 1))), (2, .int x_17), (5, .int r_12), (0, .ref h0), (1, .int (nI k))]) hx hb dX0_readRow_104 hl (k := 5) rfl (nI_1 i) (by decide) rfl (fun ls hl => ?_)
            refine lv_goto (tgt := 7) hx hb dX0_readRow_107 (by decide) ?_
            exact ih_7 (i + 1) x_17 (t + 1) f_18 x_19 b52 (by omega) (by have a0 := mt Int32.toInt_inj.mp c_22; have a1 := congrArg Int32.toInt c_40; have a2 := Int32.lt_iff_toInt_lt.mp c_46; have a3 : ((-1) : Int32).toInt = (-1) := (by decide); have a4 : (0 : Int32).toInt = 0 := (by decide); have a5 : (10 : Int32).toInt = 10 := (by decide); have a6 := nI_toInt (n := t) (by omega); omega) _ _ (hP.sub [0, 1, 2, 3, 4, 5] rfl) (hD.sub [0, 1, 2, 3, 4, 5] (by decide) rfl) hS _ (lv_sub hl [4, 5, 2, 1, 0] rfl)
          · refine lv_aload_n hx hb dX0_readRow_49 rfl (lv_at hl 1 rfl) ?_
            refine va_get (D := D) (ci := 0) (v := .ref tx) (C := RX0) (T := TX0) (N := 4) hx hb htb itX0 hown hK hP 0 rfl rfl 0 (by decide) (htb _ k_302) (fun _ h9 => h9) rfl dX0_readRow_50 ?_
            refine lv_bipush (v := 6) hx hb dX0_readRow_53 (by decide) ?_
            refine lv_aload_n hx hb dX0_readRow_55 rfl (lv_at hl 1 rfl) ?_
            refine va_get (D := D) (ci := 0) (v := .ref tx) (C := RX0) (T := TX0) (N := 4) hx hb htb itX0 hown hK hP 0 rfl rfl 0 (by decide) (htb _ k_302) (fun _ h9 => h9) rfl dX0_readRow_56 ?_
            refine va_getN (D := D) (ci := 6) (v := .int b51) (C := RX6) (T := TX6) (N := 4) hx hb htb itX6 hown hK hP 1 rfl rfl 2 (by decide) (va_Nw.use rfl (hN _ n_265 rfl)) (fun _ h9 => h9) rfl dX0_readRow_59 ?_
            refine cVV (As := [.int 6, .int b51]) (rest := []) (n := 2) (ci := 6) (q0 := 0) (wr := [(h0, .inr (0, [.ref tx, .ref rw, .ref rl, .int ln])), (tp, .inr (5, [.ref by_, .int (nI T)])), (by_, .inl (cI, 260, .inl fb)), (rw, .inl (cI, 120, .inl b50)), (rl, .inl (cI, 12, .inl frl))]) X hN hK hP hD hS hA (c_X6_fail l D cI cB _ tx tp ed b51 b52 6 b51) (gV k_684 k_574 k_575 k_98 k_576) (by decide +kernel) ⟨Nat.le_of_ble_eq_true rfl, Nat.le_of_ble_eq_true rfl⟩ ⟨rfl, rfl⟩ [1] [0, 2, 3, 4, 5] rfl rfl (by decide) (by decide) rfl rfl rfl rfl rfl hl.1 (Nat.le_of_ble_eq_true rfl) dX0_readRow_62 ⟨Nat.le_of_ble_eq_true rfl, Nat.le_of_ble_eq_true rfl⟩ (fun u H locs hw_22 hP hD hS => ?_)
            obtain ⟨h0_3o_21, rfl⟩ : ∃ z, z = u := ⟨_, rfl⟩
            try dsimp only at hw_22
            have hP : va_P D vwCl [(h0, .inr (0, [.ref tx, .ref rw, .ref rl, .int ln])), (tp, .inr (5, [.ref by_, .int (nI T)])), (by_, .inl (cI, 260, .inl fb)), (rw, .inl (cI, 120, .inl b50)), (rl, .inl (cI, 12, .inl frl)), (tx, .inr (6, [.ref tp, .int ed, .int b51, .int h0_3o_21]))] H := hP
            have hD : va_D A [(h0, .inr (0, [.ref tx, .ref rw, .ref rl, .int ln])), (tp, .inr (5, [.ref by_, .int (nI T)])), (by_, .inl (cI, 260, .inl fb)), (rw, .inl (cI, 120, .inl b50)), (rl, .inl (cI, 12, .inl frl)), (tx, .inr (6, [.ref tp, .int ed, .int b51, .int h0_3o_21]))] := hD
            refine lv_goto (tgt := 104) hx hb dX0_readRow_65 (by decide) ?_
            refine lv_iinc (v := (nI (i + 1))) (lv' := [(4, .int (nI (i + 1))), (5, .int r_12), (0, .ref h0), (1, .int (nI k)), (2, .int sv), (3, .int (nI t))]) hx hb dX0_readRow_104 hl (k := 5) rfl (nI_1 i) (by decide) rfl (fun ls hl => ?_)
            refine lv_goto (tgt := 7) hx hb dX0_readRow_107 (by decide) ?_
            exact ih_7 (i + 1) sv t b50 b51 h0_3o_21 (by omega) (by have a0 := mt Int32.toInt_inj.mp c_22; have a1 := congrArg Int32.toInt c_40; have a2 := mt Int32.lt_iff_toInt_lt.mpr c_46; have a3 : ((-1) : Int32).toInt = (-1) := (by decide); have a4 : (0 : Int32).toInt = 0 := (by decide); have a5 : (10 : Int32).toInt = 10 := (by decide); have a6 := nI_toInt (n := t) (by omega); omega) _ _ (hP.sub [0, 5, 1, 2, 3, 4] rfl) (hD.sub [0, 5, 1, 2, 3, 4] (by decide) rfl) hS _ (lv_sub hl [2, 3, 4, 5, 0] rfl)
  exact loop_7 11 0 0 0 frw pl fa (by omega) (by decide) _ _ (hP.sub [0, 1, 2, 3, 4, 5] rfl) (hD.sub [0, 1, 2, 3, 4, 5] (by decide) rfl) hS _ (lv_sub hl [3, 4, 2, 1, 0] rfl)

set_option maxRecDepth 100000 in
set_option maxHeartbeats 4000000 in
theorem c_X0_readLine (l : Launch) (D : va_G) (cI cB : ClassId) (sz : Nat) (h0 : Nat) (rw : Nat) (rl : Nat) (ln : Int32) (tx : Nat) (tp : Nat) (ed : Int32) (pl : Int32) (fa : Int32) (by_ : Nat) (T : Nat) (fb : Nat → Int32) (frw : Nat → Int32) (frl : Nat → Int32) (hT : T ≤ 260) (hrg : RG frl) : MV (S := ((Int32) × (Int32) × (Int32) × (Nat → Int32) × (Nat → Int32))) l D cI cB yX0_readLine cX0_readLine 3 (rm 3 67) [.ref h0] [(h0, .inr (0, [.ref tx, .ref rw, .ref rl, .int ln])), (tx, .inr (6, [.ref tp, .int ed, .int pl, .int fa])), (tp, .inr (5, [.ref by_, .int (nI T)])), (by_, .inl (cI, 260, .inl fb)), (rw, .inl (cI, 120, .inl frw)), (rl, .inl (cI, 12, .inl frl))] sz (fun u => RG u.2.2.2.2) (fun u : ((Int32) × (Int32) × (Int32) × (Nat → Int32) × (Nat → Int32)) => [(h0, .inr (0, [.ref tx, .ref rw, .ref rl, .int u.1])), (tx, .inr (6, [.ref tp, .int ed, .int u.2.1, .int u.2.2.1])), (tp, .inr (5, [.ref by_, .int (nI T)])), (by_, .inl (cI, 260, .inl fb)), (rw, .inl (cI, 120, .inl u.2.2.2.1)), (rl, .inl (cI, 12, .inl u.2.2.2.2))]) := by
  refine MV.of (by decide) (Nat.le_of_ble_eq_true rfl) ?_
  intro p e s m below meth c Q ls A X hin hN hP hK hD hA hl ret
  have hS : va_S A s.heap s.heap [] := va_S.rf
  obtain ⟨hx, hb, hml, hown, htb⟩ := id X
  have hl : lv_has ls 3 [(0, .ref h0)] := hl
  refine lv_aload_n hx hb dX0_readLine_0 rfl (lv_at hl 0 rfl) ?_
  refine va_get (D := D) (ci := 0) (v := .ref tx) (C := RX0) (T := TX0) (N := 4) hx hb htb itX0 hown hK hP 0 rfl rfl 0 (by decide) (htb _ k_302) (fun _ h9 => h9) rfl dX0_readLine_1 ?_
  refine cVR (As := []) (rest := []) (n := 0) (ci := 6) (q0 := 0) X hN hK hP (c_X6_isDigit l D cI cB tx tp ed pl fa by_ T fb hT) (gV k_683 k_617 k_618 k_98 k_619) (by decide +kernel) ⟨Nat.le_of_ble_eq_true rfl, Nat.le_of_ble_eq_true rfl⟩ ⟨rfl, rfl⟩ [1, 2, 3] rfl rfl rfl rfl rfl rfl hl.1 (Nat.le_of_ble_eq_true rfl) dX0_readLine_4 ⟨Nat.le_of_ble_eq_true rfl, Nat.le_of_ble_eq_true rfl⟩ (fun r_1 hr_1 => ?_)
  subst hr_1
  refine lv_if_ne (tgt := 28) hx hb dX0_readLine_7 (by decide) (fun c_7 => ?_) (fun c_7 => ?_)
  · refine lv_aload_n hx hb dX0_readLine_28 rfl (lv_at hl 0 rfl) ?_
    refine va_get (D := D) (ci := 0) (v := .int ln) (C := RX0) (T := TX0) (N := 4) hx hb htb itX0 hown hK hP 0 rfl rfl 3 (by decide) (htb _ k_305) (fun _ h9 => h9) rfl dX0_readLine_29 ?_
    refine lv_bipush (v := 12) hx hb dX0_readLine_32 (by decide) ?_
    refine lv_icmp_ne (tgt := 55) hx hb dX0_readLine_34 (by decide) (fun c_34 => ?_) (fun c_34 => ?_)
    · refine lv_aload_n hx hb dX0_readLine_55 rfl (lv_at hl 0 rfl) ?_
      refine va_get (D := D) (ci := 0) (v := .ref tx) (C := RX0) (T := TX0) (N := 4) hx hb htb itX0 hown hK hP 0 rfl rfl 0 (by decide) (htb _ k_302) (fun _ h9 => h9) rfl dX0_readLine_56 ?_
      refine va_getN (D := D) (ci := 6) (v := .int pl) (C := RX6) (T := TX6) (N := 4) hx hb htb itX6 hown hK hP 1 rfl rfl 2 (by decide) (va_Nw.use rfl (hN _ n_265 rfl)) (fun _ h9 => h9) rfl dX0_readLine_59 ?_
      refine lv_istore_n (lv' := [(1, .int pl), (0, .ref h0)]) hx hb dX0_readLine_62 rfl hl (by decide) rfl (fun ls hl => ?_)
      refine lv_aload_n hx hb dX0_readLine_63 rfl (lv_at hl 1 rfl) ?_
      refine va_get (D := D) (ci := 0) (v := .ref tx) (C := RX0) (T := TX0) (N := 4) hx hb htb itX0 hown hK hP 0 rfl rfl 0 (by decide) (htb _ k_302) (fun _ h9 => h9) rfl dX0_readLine_64 ?_
      refine lv_iconst (v := 2) hx hb dX0_readLine_67 (by decide) ?_
      refine lv_iconst (v := 0) hx hb dX0_readLine_68 (by decide) ?_
      refine cVI (As := [.int 2, .int 0]) (rest := []) (n := 2) (ci := 6) (q0 := 0) (wr := [(h0, .inr (0, [.ref tx, .ref rw, .ref rl, .int ln])), (rw, .inl (cI, 120, .inl frw)), (rl, .inl (cI, 12, .inl frl))]) X hN hK hP hD hS hA (c_X6_number l D cI cB _ tx tp ed pl fa by_ T fb 2 0 hT (by decide)) (gV k_685 k_613 k_614 k_98 k_615) (by decide +kernel) ⟨Nat.le_of_ble_eq_true rfl, Nat.le_of_ble_eq_true rfl⟩ ⟨rfl, rfl⟩ [1, 2, 3] [0, 4, 5] rfl rfl (by decide) (by decide) rfl rfl rfl rfl rfl hl.1 (Nat.le_of_ble_eq_true rfl) dX0_readLine_69 ⟨Nat.le_of_ble_eq_true rfl, Nat.le_of_ble_eq_true rfl⟩ (fun r_2 u H locs hw_5 hP hD hS => ?_)
      obtain ⟨h0_2o_3, h0_3o_4⟩ := u
      try dsimp only at hw_5
      have hP : va_P D vwCl [(h0, .inr (0, [.ref tx, .ref rw, .ref rl, .int ln])), (rw, .inl (cI, 120, .inl frw)), (rl, .inl (cI, 12, .inl frl)), (tx, .inr (6, [.ref tp, .int ed, .int h0_2o_3, .int h0_3o_4])), (tp, .inr (5, [.ref by_, .int (nI T)])), (by_, .inl (cI, 260, .inl fb))] H := hP
      have hD : va_D A [(h0, .inr (0, [.ref tx, .ref rw, .ref rl, .int ln])), (rw, .inl (cI, 120, .inl frw)), (rl, .inl (cI, 12, .inl frl)), (tx, .inr (6, [.ref tp, .int ed, .int h0_2o_3, .int h0_3o_4])), (tp, .inr (5, [.ref by_, .int (nI T)])), (by_, .inl (cI, 260, .inl fb))] := hD
      refine lv_istore_n (lv' := [(2, .int r_2), (1, .int pl), (0, .ref h0)]) hx hb dX0_readLine_72 rfl hl (by decide) rfl (fun ls hl => ?_)
      refine lv_iload_n hx hb dX0_readLine_73 rfl (lv_at hl 0 rfl) ?_
      refine lv_bipush (v := 12) hx hb dX0_readLine_74 (by decide) ?_
      refine lv_icmp_lt (tgt := 91) hx hb dX0_readLine_76 (by decide) (fun c_76 => ?_) (fun c_76 => ?_)
      · refine lv_aload_n hx hb dX0_readLine_91 rfl (lv_at hl 2 rfl) ?_
        refine va_get (D := D) (ci := 0) (v := .ref tx) (C := RX0) (T := TX0) (N := 4) hx hb htb itX0 hown hK hP 0 rfl rfl 0 (by decide) (htb _ k_302) (fun _ h9 => h9) rfl dX0_readLine_92 ?_
        refine lv_bipush (v := 58) hx hb dX0_readLine_95 (by decide) ?_
        refine cVV (As := [.int 58]) (rest := []) (n := 1) (ci := 6) (q0 := 0) (wr := [(h0, .inr (0, [.ref tx, .ref rw, .ref rl, .int ln])), (rw, .inl (cI, 120, .inl frw)), (rl, .inl (cI, 12, .inl frl))]) X hN hK hP hD hS hA (c_X6_expect l D cI cB _ tx tp ed h0_2o_3 h0_3o_4 by_ T fb 58 hT) (gV k_686 k_603 k_604 k_98 k_605) (by decide +kernel) ⟨Nat.le_of_ble_eq_true rfl, Nat.le_of_ble_eq_true rfl⟩ ⟨rfl, rfl⟩ [3, 4, 5] [0, 1, 2] rfl rfl (by decide) (by decide) rfl rfl rfl rfl rfl hl.1 (Nat.le_of_ble_eq_true rfl) dX0_readLine_97 ⟨Nat.le_of_ble_eq_true rfl, Nat.le_of_ble_eq_true rfl⟩ (fun u H locs hw_9 hP hD hS => ?_)
        obtain ⟨h0_2o_7, h0_3o_8⟩ := u
        try dsimp only at hw_9
        have hP : va_P D vwCl [(h0, .inr (0, [.ref tx, .ref rw, .ref rl, .int ln])), (rw, .inl (cI, 120, .inl frw)), (rl, .inl (cI, 12, .inl frl)), (tx, .inr (6, [.ref tp, .int ed, .int h0_2o_7, .int h0_3o_8])), (tp, .inr (5, [.ref by_, .int (nI T)])), (by_, .inl (cI, 260, .inl fb))] H := hP
        have hD : va_D A [(h0, .inr (0, [.ref tx, .ref rw, .ref rl, .int ln])), (rw, .inl (cI, 120, .inl frw)), (rl, .inl (cI, 12, .inl frl)), (tx, .inr (6, [.ref tp, .int ed, .int h0_2o_7, .int h0_3o_8])), (tp, .inr (5, [.ref by_, .int (nI T)])), (by_, .inl (cI, 260, .inl fb))] := hD
        refine lv_aload_n hx hb dX0_readLine_100 rfl (lv_at hl 2 rfl) ?_
        refine lv_iload_n hx hb dX0_readLine_101 rfl (lv_at hl 0 rfl) ?_
        obtain ⟨kc_10, hkc_10, ekc_10⟩ := toN (x := r_2) (n := 12) (hw_5.1) (by have a0 := mt Int32.toInt_inj.mp c_7; have a1 := mt Int32.toInt_inj.mp c_34; have a2 := Int32.lt_iff_toInt_lt.mp c_76; have a3 : (0 : Int32).toInt = 0 := (by decide); have a4 : (12 : Int32).toInt = 12 := (by decide); omega) (by decide)
        refine tv (z := nI kc_10) ekc_10 ?_
        refine cVV (As := [.int (nI kc_10)]) (rest := []) (n := 1) (ci := 0) (q0 := 0) (wr := []) X hN hK hP hD hS hA (c_X0_readRow l D cI cB _ h0 rw rl ln tx tp ed h0_2o_7 h0_3o_8 by_ T fb frw frl kc_10 hT (by assumption) hrg) (gV k_687 k_689 k_12 k_100 k_690) (by decide +kernel) ⟨Nat.le_of_ble_eq_true rfl, Nat.le_of_ble_eq_true rfl⟩ ⟨rfl, rfl⟩ [0, 3, 4, 5, 1, 2] [] rfl rfl (by decide) (by decide) rfl rfl rfl rfl rfl hl.1 (Nat.le_of_ble_eq_true rfl) dX0_readLine_102 ⟨Nat.le_of_ble_eq_true rfl, Nat.le_of_ble_eq_true rfl⟩ (fun u H locs hw_16 hP hD hS => ?_)
        obtain ⟨tx_2o_12, tx_3o_13, rw_fo_14, rl_fo_15⟩ := u
        try dsimp only at hw_16
        have hP : va_P D vwCl [(h0, .inr (0, [.ref tx, .ref rw, .ref rl, .int ln])), (tx, .inr (6, [.ref tp, .int ed, .int tx_2o_12, .int tx_3o_13])), (tp, .inr (5, [.ref by_, .int (nI T)])), (by_, .inl (cI, 260, .inl fb)), (rw, .inl (cI, 120, .inl rw_fo_14)), (rl, .inl (cI, 12, .inl rl_fo_15))] H := hP
        have hD : va_D A [(h0, .inr (0, [.ref tx, .ref rw, .ref rl, .int ln])), (tx, .inr (6, [.ref tp, .int ed, .int tx_2o_12, .int tx_3o_13])), (tp, .inr (5, [.ref by_, .int (nI T)])), (by_, .inl (cI, 260, .inl fb)), (rw, .inl (cI, 120, .inl rw_fo_14)), (rl, .inl (cI, 12, .inl rl_fo_15))] := hD
        refine lv_aload_n hx hb dX0_readLine_105 rfl (lv_at hl 2 rfl) ?_
        refine lv_dup hx hb dX0_readLine_106 rfl ?_
        refine va_get (D := D) (ci := 0) (v := .int ln) (C := RX0) (T := TX0) (N := 4) hx hb htb itX0 hown hK hP 0 rfl rfl 3 (by decide) (htb _ k_305) (fun _ h9 => h9) rfl dX0_readLine_107 ?_
        refine lv_iconst (v := 1) hx hb dX0_readLine_110 (by decide) ?_
        refine lv_iadd hx hb dX0_readLine_111 ?_
        refine lv_topi (fun x_17 ex_17 => ?_)
        refine va_put (D := D) (ci := 0) (v := .int x_17) (ty := .int) (C := RX0) (T := TX0) (N := 4) hx hb htb itX0 tyX0 tyX0_ok nmX0 hown hK hP hD hS 0 rfl rfl 3 (by decide) (htb _ k_305) (fun _ h9 => h9) rfl (tyX0_ok 3 (by decide)) rfl rfl (Nat.le_of_ble_eq_true rfl) dX0_readLine_112 (fun H locs hP hD hS => ?_)
        have hP : va_P D vwCl [(h0, .inr (0, [.ref tx, .ref rw, .ref rl, .int x_17])), (tx, .inr (6, [.ref tp, .int ed, .int tx_2o_12, .int tx_3o_13])), (tp, .inr (5, [.ref by_, .int (nI T)])), (by_, .inl (cI, 260, .inl fb)), (rw, .inl (cI, 120, .inl rw_fo_14)), (rl, .inl (cI, 12, .inl rl_fo_15))] H := hP
        have hD : va_D A [(h0, .inr (0, [.ref tx, .ref rw, .ref rl, .int x_17])), (tx, .inr (6, [.ref tp, .int ed, .int tx_2o_12, .int tx_3o_13])), (tp, .inr (5, [.ref by_, .int (nI T)])), (by_, .inl (cI, 260, .inl fb)), (rw, .inl (cI, 120, .inl rw_fo_14)), (rl, .inl (cI, 12, .inl rl_fo_15))] := hD
        exact ret _ _ _ _ (x_17, tx_2o_12, tx_3o_13, rw_fo_14, rl_fo_15) dX0_readLine_115 hw_16 (hP.sub [0, 1, 2, 3, 4, 5] rfl) (hD.sub [0, 1, 2, 3, 4, 5] (by decide) rfl) hS
      · refine lv_aload_n hx hb dX0_readLine_79 rfl (lv_at hl 2 rfl) ?_
        refine va_get (D := D) (ci := 0) (v := .ref tx) (C := RX0) (T := TX0) (N := 4) hx hb htb itX0 hown hK hP 0 rfl rfl 0 (by decide) (htb _ k_302) (fun _ h9 => h9) rfl dX0_readLine_80 ?_
        refine lv_iconst (v := 3) hx hb dX0_readLine_83 (by decide) ?_
        refine lv_iload_n hx hb dX0_readLine_84 rfl (lv_at hl 1 rfl) ?_
        refine cVV (As := [.int 3, .int pl]) (rest := []) (n := 2) (ci := 6) (q0 := 0) (wr := [(h0, .inr (0, [.ref tx, .ref rw, .ref rl, .int ln])), (rw, .inl (cI, 120, .inl frw)), (rl, .inl (cI, 12, .inl frl)), (tp, .inr (5, [.ref by_, .int (nI T)])), (by_, .inl (cI, 260, .inl fb))]) X hN hK hP hD hS hA (c_X6_fail l D cI cB _ tx tp ed h0_2o_3 h0_3o_4 3 pl) (gV k_684 k_574 k_575 k_98 k_576) (by decide +kernel) ⟨Nat.le_of_ble_eq_true rfl, Nat.le_of_ble_eq_true rfl⟩ ⟨rfl, rfl⟩ [3] [0, 1, 2, 4, 5] rfl rfl (by decide) (by decide) rfl rfl rfl rfl rfl hl.1 (Nat.le_of_ble_eq_true rfl) dX0_readLine_85 ⟨Nat.le_of_ble_eq_true rfl, Nat.le_of_ble_eq_true rfl⟩ (fun u H locs hw_20 hP hD hS => ?_)
        obtain ⟨h0_3o_19, rfl⟩ : ∃ z, z = u := ⟨_, rfl⟩
        try dsimp only at hw_20
        have hP : va_P D vwCl [(h0, .inr (0, [.ref tx, .ref rw, .ref rl, .int ln])), (rw, .inl (cI, 120, .inl frw)), (rl, .inl (cI, 12, .inl frl)), (tp, .inr (5, [.ref by_, .int (nI T)])), (by_, .inl (cI, 260, .inl fb)), (tx, .inr (6, [.ref tp, .int ed, .int h0_2o_3, .int h0_3o_19]))] H := hP
        have hD : va_D A [(h0, .inr (0, [.ref tx, .ref rw, .ref rl, .int ln])), (rw, .inl (cI, 120, .inl frw)), (rl, .inl (cI, 12, .inl frl)), (tp, .inr (5, [.ref by_, .int (nI T)])), (by_, .inl (cI, 260, .inl fb)), (tx, .inr (6, [.ref tp, .int ed, .int h0_2o_3, .int h0_3o_19]))] := hD
        refine lv_goto (tgt := 115) hx hb dX0_readLine_88 (by decide) ?_
        exact ret _ _ _ _ (ln, h0_2o_3, h0_3o_19, frw, frl) dX0_readLine_115 hrg (hP.sub [0, 5, 3, 4, 1, 2] rfl) (hD.sub [0, 5, 3, 4, 1, 2] (by decide) rfl) hS
    · refine lv_aload_n hx hb dX0_readLine_37 rfl (lv_at hl 0 rfl) ?_
      refine va_get (D := D) (ci := 0) (v := .ref tx) (C := RX0) (T := TX0) (N := 4) hx hb htb itX0 hown hK hP 0 rfl rfl 0 (by decide) (htb _ k_302) (fun _ h9 => h9) rfl dX0_readLine_38 ?_
      refine lv_iconst (v := 4) hx hb dX0_readLine_41 (by decide) ?_
      refine lv_aload_n hx hb dX0_readLine_42 rfl (lv_at hl 0 rfl) ?_
      refine va_get (D := D) (ci := 0) (v := .ref tx) (C := RX0) (T := TX0) (N := 4) hx hb htb itX0 hown hK hP 0 rfl rfl 0 (by decide) (htb _ k_302) (fun _ h9 => h9) rfl dX0_readLine_43 ?_
      refine va_getN (D := D) (ci := 6) (v := .int pl) (C := RX6) (T := TX6) (N := 4) hx hb htb itX6 hown hK hP 1 rfl rfl 2 (by decide) (va_Nw.use rfl (hN _ n_265 rfl)) (fun _ h9 => h9) rfl dX0_readLine_46 ?_
      refine cVV (As := [.int 4, .int pl]) (rest := []) (n := 2) (ci := 6) (q0 := 0) (wr := [(h0, .inr (0, [.ref tx, .ref rw, .ref rl, .int ln])), (tp, .inr (5, [.ref by_, .int (nI T)])), (by_, .inl (cI, 260, .inl fb)), (rw, .inl (cI, 120, .inl frw)), (rl, .inl (cI, 12, .inl frl))]) X hN hK hP hD hS hA (c_X6_fail l D cI cB _ tx tp ed pl fa 4 pl) (gV k_684 k_574 k_575 k_98 k_576) (by decide +kernel) ⟨Nat.le_of_ble_eq_true rfl, Nat.le_of_ble_eq_true rfl⟩ ⟨rfl, rfl⟩ [1] [0, 2, 3, 4, 5] rfl rfl (by decide) (by decide) rfl rfl rfl rfl rfl hl.1 (Nat.le_of_ble_eq_true rfl) dX0_readLine_49 ⟨Nat.le_of_ble_eq_true rfl, Nat.le_of_ble_eq_true rfl⟩ (fun u H locs hw_23 hP hD hS => ?_)
      obtain ⟨h0_3o_22, rfl⟩ : ∃ z, z = u := ⟨_, rfl⟩
      try dsimp only at hw_23
      have hP : va_P D vwCl [(h0, .inr (0, [.ref tx, .ref rw, .ref rl, .int ln])), (tp, .inr (5, [.ref by_, .int (nI T)])), (by_, .inl (cI, 260, .inl fb)), (rw, .inl (cI, 120, .inl frw)), (rl, .inl (cI, 12, .inl frl)), (tx, .inr (6, [.ref tp, .int ed, .int pl, .int h0_3o_22]))] H := hP
      have hD : va_D A [(h0, .inr (0, [.ref tx, .ref rw, .ref rl, .int ln])), (tp, .inr (5, [.ref by_, .int (nI T)])), (by_, .inl (cI, 260, .inl fb)), (rw, .inl (cI, 120, .inl frw)), (rl, .inl (cI, 12, .inl frl)), (tx, .inr (6, [.ref tp, .int ed, .int pl, .int h0_3o_22]))] := hD
      refine lv_goto (tgt := 115) hx hb dX0_readLine_52 (by decide) ?_
      exact ret _ _ _ _ (ln, pl, h0_3o_22, frw, frl) dX0_readLine_115 hrg (hP.sub [0, 5, 1, 2, 3, 4] rfl) (hD.sub [0, 5, 1, 2, 3, 4] (by decide) rfl) hS
  · refine lv_aload_n hx hb dX0_readLine_10 rfl (lv_at hl 0 rfl) ?_
    refine va_get (D := D) (ci := 0) (v := .ref tx) (C := RX0) (T := TX0) (N := 4) hx hb htb itX0 hown hK hP 0 rfl rfl 0 (by decide) (htb _ k_302) (fun _ h9 => h9) rfl dX0_readLine_11 ?_
    refine lv_iconst (v := 1) hx hb dX0_readLine_14 (by decide) ?_
    refine lv_aload_n hx hb dX0_readLine_15 rfl (lv_at hl 0 rfl) ?_
    refine va_get (D := D) (ci := 0) (v := .ref tx) (C := RX0) (T := TX0) (N := 4) hx hb htb itX0 hown hK hP 0 rfl rfl 0 (by decide) (htb _ k_302) (fun _ h9 => h9) rfl dX0_readLine_16 ?_
    refine va_getN (D := D) (ci := 6) (v := .int pl) (C := RX6) (T := TX6) (N := 4) hx hb htb itX6 hown hK hP 1 rfl rfl 2 (by decide) (va_Nw.use rfl (hN _ n_265 rfl)) (fun _ h9 => h9) rfl dX0_readLine_19 ?_
    refine cVV (As := [.int 1, .int pl]) (rest := []) (n := 2) (ci := 6) (q0 := 0) (wr := [(h0, .inr (0, [.ref tx, .ref rw, .ref rl, .int ln])), (tp, .inr (5, [.ref by_, .int (nI T)])), (by_, .inl (cI, 260, .inl fb)), (rw, .inl (cI, 120, .inl frw)), (rl, .inl (cI, 12, .inl frl))]) X hN hK hP hD hS hA (c_X6_fail l D cI cB _ tx tp ed pl fa 1 pl) (gV k_684 k_574 k_575 k_98 k_576) (by decide +kernel) ⟨Nat.le_of_ble_eq_true rfl, Nat.le_of_ble_eq_true rfl⟩ ⟨rfl, rfl⟩ [1] [0, 2, 3, 4, 5] rfl rfl (by decide) (by decide) rfl rfl rfl rfl rfl hl.1 (Nat.le_of_ble_eq_true rfl) dX0_readLine_22 ⟨Nat.le_of_ble_eq_true rfl, Nat.le_of_ble_eq_true rfl⟩ (fun u H locs hw_26 hP hD hS => ?_)
    obtain ⟨h0_3o_25, rfl⟩ : ∃ z, z = u := ⟨_, rfl⟩
    try dsimp only at hw_26
    have hP : va_P D vwCl [(h0, .inr (0, [.ref tx, .ref rw, .ref rl, .int ln])), (tp, .inr (5, [.ref by_, .int (nI T)])), (by_, .inl (cI, 260, .inl fb)), (rw, .inl (cI, 120, .inl frw)), (rl, .inl (cI, 12, .inl frl)), (tx, .inr (6, [.ref tp, .int ed, .int pl, .int h0_3o_25]))] H := hP
    have hD : va_D A [(h0, .inr (0, [.ref tx, .ref rw, .ref rl, .int ln])), (tp, .inr (5, [.ref by_, .int (nI T)])), (by_, .inl (cI, 260, .inl fb)), (rw, .inl (cI, 120, .inl frw)), (rl, .inl (cI, 12, .inl frl)), (tx, .inr (6, [.ref tp, .int ed, .int pl, .int h0_3o_25]))] := hD
    refine lv_goto (tgt := 115) hx hb dX0_readLine_25 (by decide) ?_
    exact ret _ _ _ _ (ln, pl, h0_3o_25, frw, frl) dX0_readLine_115 hrg (hP.sub [0, 5, 1, 2, 3, 4] rfl) (hD.sub [0, 5, 1, 2, 3, 4] (by decide) rfl) hS

set_option maxRecDepth 100000 in
set_option maxHeartbeats 4000000 in
theorem c_X0_read (l : Launch) (D : va_G) (cI cB : ClassId) (sz : Nat) (h0 : Nat) (rw : Nat) (rl : Nat) (ln : Int32) (tx : Nat) (tp : Nat) (ed : Int32) (pl : Int32) (fa : Int32) (by_ : Nat) (T : Nat) (fb : Nat → Int32) (frw : Nat → Int32) (frl : Nat → Int32) (nn : Int32) (hT : T ≤ 260) : MI (S := ((Int32) × (Int32) × (Int32) × (Int32) × (Nat → Int32) × (Nat → Int32))) l D cI cB yX0_read cX0_read 3 .int (rm 4 89) [.ref h0, .int nn] [(h0, .inr (0, [.ref tx, .ref rw, .ref rl, .int ln])), (tx, .inr (6, [.ref tp, .int ed, .int pl, .int fa])), (tp, .inr (5, [.ref by_, .int (nI T)])), (by_, .inl (cI, 260, .inl fb)), (rw, .inl (cI, 120, .inl frw)), (rl, .inl (cI, 12, .inl frl))] sz (fun r u => RG u.2.2.2.2.2) (fun u : ((Int32) × (Int32) × (Int32) × (Int32) × (Nat → Int32) × (Nat → Int32)) => [(h0, .inr (0, [.ref tx, .ref rw, .ref rl, .int u.1])), (tx, .inr (6, [.ref tp, .int u.2.1, .int u.2.2.1, .int u.2.2.2.1])), (tp, .inr (5, [.ref by_, .int (nI T)])), (by_, .inl (cI, 260, .inl fb)), (rw, .inl (cI, 120, .inl u.2.2.2.2.1)), (rl, .inl (cI, 12, .inl u.2.2.2.2.2))]) := by
  refine MI.of (by decide) (Nat.le_of_ble_eq_true rfl) ?_
  intro p e s m below meth c Q ls A X hin hN hP hK hD hA hl ret
  have hS : va_S A s.heap s.heap [] := va_S.rf
  obtain ⟨hx, hb, hml, hown, htb⟩ := id X
  have hl : lv_has ls 3 [(0, .ref h0), (1, .int nn)] := hl
  refine lv_aload_n hx hb dX0_read_0 rfl (lv_at hl 0 rfl) ?_
  refine va_get (D := D) (ci := 0) (v := .ref tx) (C := RX0) (T := TX0) (N := 4) hx hb htb itX0 hown hK hP 0 rfl rfl 0 (by decide) (htb _ k_302) (fun _ h9 => h9) rfl dX0_read_1 ?_
  refine lv_iload_n hx hb dX0_read_4 rfl (lv_at hl 1 rfl) ?_
  refine cVV (As := [.int nn]) (rest := []) (n := 1) (ci := 6) (q0 := 0) (wr := [(h0, .inr (0, [.ref tx, .ref rw, .ref rl, .int ln])), (tp, .inr (5, [.ref by_, .int (nI T)])), (by_, .inl (cI, 260, .inl fb)), (rw, .inl (cI, 120, .inl frw)), (rl, .inl (cI, 12, .inl frl))]) X hN hK hP hD hS hA (c_X6_begin l D cI cB _ tx tp ed pl fa nn) (gV k_677 k_467 k_468 k_98 k_469) (by decide +kernel) ⟨Nat.le_of_ble_eq_true rfl, Nat.le_of_ble_eq_true rfl⟩ ⟨rfl, rfl⟩ [1] [0, 2, 3, 4, 5] rfl rfl (by decide) (by decide) rfl rfl rfl rfl rfl hl.1 (Nat.le_of_ble_eq_true rfl) dX0_read_5 ⟨Nat.le_of_ble_eq_true rfl, Nat.le_of_ble_eq_true rfl⟩ (fun u H locs hw_5 hP hD hS => ?_)
  obtain ⟨h0_1o_2, h0_2o_3, h0_3o_4⟩ := u
  try dsimp only at hw_5
  have hP : va_P D vwCl [(h0, .inr (0, [.ref tx, .ref rw, .ref rl, .int ln])), (tp, .inr (5, [.ref by_, .int (nI T)])), (by_, .inl (cI, 260, .inl fb)), (rw, .inl (cI, 120, .inl frw)), (rl, .inl (cI, 12, .inl frl)), (tx, .inr (6, [.ref tp, .int h0_1o_2, .int h0_2o_3, .int h0_3o_4]))] H := hP
  have hD : va_D A [(h0, .inr (0, [.ref tx, .ref rw, .ref rl, .int ln])), (tp, .inr (5, [.ref by_, .int (nI T)])), (by_, .inl (cI, 260, .inl fb)), (rw, .inl (cI, 120, .inl frw)), (rl, .inl (cI, 12, .inl frl)), (tx, .inr (6, [.ref tp, .int h0_1o_2, .int h0_2o_3, .int h0_3o_4]))] := hD
  refine lv_aload_n hx hb dX0_read_8 rfl (lv_at hl 0 rfl) ?_
  refine va_get (D := D) (ci := 0) (v := .ref rl) (C := RX0) (T := TX0) (N := 4) hx hb htb itX0 hown hK hP 0 rfl rfl 2 (by decide) (htb _ k_304) (fun _ h9 => h9) rfl dX0_read_9 ?_
  refine lv_iconst (v := 0) hx hb dX0_read_12 (by decide) ?_
  refine cSV (As := [.ref rl, .int 0]) (rest := []) (n := 2) (wr := [(h0, .inr (0, [.ref tx, .ref rw, .ref rl, .int ln])), (tp, .inr (5, [.ref by_, .int (nI T)])), (by_, .inl (cI, 260, .inl fb)), (rw, .inl (cI, 120, .inl frw)), (tx, .inr (6, [.ref tp, .int h0_1o_2, .int h0_2o_3, .int h0_3o_4]))]) X hN hK hP hD hS hA (c_fill12 l D cI cB _ rl 0 frl) k_678 k_187 k_96 k_188 (by decide +kernel) ⟨Nat.le_of_ble_eq_true rfl, Nat.le_of_ble_eq_true rfl⟩ ⟨rfl, rfl⟩ [4] [0, 1, 2, 3, 5] rfl rfl (by decide) (by decide) rfl rfl hl.1 (Nat.le_of_ble_eq_true rfl) dX0_read_13 ⟨Nat.le_of_ble_eq_true rfl, Nat.le_of_ble_eq_true rfl⟩ (fun u H locs hw_8 hP hD hS => ?_)
  obtain ⟨a0_fo_7, rfl⟩ : ∃ z, z = u := ⟨_, rfl⟩
  try dsimp only at hw_8
  have hP : va_P D vwCl [(h0, .inr (0, [.ref tx, .ref rw, .ref rl, .int ln])), (tp, .inr (5, [.ref by_, .int (nI T)])), (by_, .inl (cI, 260, .inl fb)), (rw, .inl (cI, 120, .inl frw)), (tx, .inr (6, [.ref tp, .int h0_1o_2, .int h0_2o_3, .int h0_3o_4])), (rl, .inl (cI, 12, .inl a0_fo_7))] H := hP
  have hD : va_D A [(h0, .inr (0, [.ref tx, .ref rw, .ref rl, .int ln])), (tp, .inr (5, [.ref by_, .int (nI T)])), (by_, .inl (cI, 260, .inl fb)), (rw, .inl (cI, 120, .inl frw)), (tx, .inr (6, [.ref tp, .int h0_1o_2, .int h0_2o_3, .int h0_3o_4])), (rl, .inl (cI, 12, .inl a0_fo_7))] := hD
  refine lv_aload_n hx hb dX0_read_16 rfl (lv_at hl 0 rfl) ?_
  refine lv_iconst (v := 0) hx hb dX0_read_17 (by decide) ?_
  refine va_put (D := D) (ci := 0) (v := .int 0) (ty := .int) (C := RX0) (T := TX0) (N := 4) hx hb htb itX0 tyX0 tyX0_ok nmX0 hown hK hP hD hS 0 rfl rfl 3 (by decide) (htb _ k_305) (fun _ h9 => h9) rfl (tyX0_ok 3 (by decide)) rfl rfl (Nat.le_of_ble_eq_true rfl) dX0_read_18 (fun H locs hP hD hS => ?_)
  have hP : va_P D vwCl [(h0, .inr (0, [.ref tx, .ref rw, .ref rl, .int 0])), (tp, .inr (5, [.ref by_, .int (nI T)])), (by_, .inl (cI, 260, .inl fb)), (rw, .inl (cI, 120, .inl frw)), (tx, .inr (6, [.ref tp, .int h0_1o_2, .int h0_2o_3, .int h0_3o_4])), (rl, .inl (cI, 12, .inl a0_fo_7))] H := hP
  have hD : va_D A [(h0, .inr (0, [.ref tx, .ref rw, .ref rl, .int 0])), (tp, .inr (5, [.ref by_, .int (nI T)])), (by_, .inl (cI, 260, .inl fb)), (rw, .inl (cI, 120, .inl frw)), (tx, .inr (6, [.ref tp, .int h0_1o_2, .int h0_2o_3, .int h0_3o_4])), (rl, .inl (cI, 12, .inl a0_fo_7))] := hD
  refine lv_aload_n hx hb dX0_read_21 rfl (lv_at hl 0 rfl) ?_
  refine cVV (As := []) (rest := []) (n := 0) (ci := 0) (q0 := 0) (wr := []) X hN hK hP hD hS hA (c_X0_readLine l D cI cB _ h0 rw rl 0 tx tp h0_1o_2 h0_2o_3 h0_3o_4 by_ T fb frw a0_fo_7 hT (RG.zero hw_8)) (gV k_679 k_681 k_11 k_100 k_682) (by decide +kernel) ⟨Nat.le_of_ble_eq_true rfl, Nat.le_of_ble_eq_true rfl⟩ ⟨rfl, rfl⟩ [0, 4, 1, 2, 3, 5] [] rfl rfl (by decide) (by decide) rfl rfl rfl rfl rfl hl.1 (Nat.le_of_ble_eq_true rfl) dX0_read_22 ⟨Nat.le_of_ble_eq_true rfl, Nat.le_of_ble_eq_true rfl⟩ (fun u H locs hw_15 hP hD hS => ?_)
  obtain ⟨h0_3o_10, tx_2o_11, tx_3o_12, rw_fo_13, rl_fo_14⟩ := u
  try dsimp only at hw_15
  have hP : va_P D vwCl [(h0, .inr (0, [.ref tx, .ref rw, .ref rl, .int h0_3o_10])), (tx, .inr (6, [.ref tp, .int h0_1o_2, .int tx_2o_11, .int tx_3o_12])), (tp, .inr (5, [.ref by_, .int (nI T)])), (by_, .inl (cI, 260, .inl fb)), (rw, .inl (cI, 120, .inl rw_fo_13)), (rl, .inl (cI, 12, .inl rl_fo_14))] H := hP
  have hD : va_D A [(h0, .inr (0, [.ref tx, .ref rw, .ref rl, .int h0_3o_10])), (tx, .inr (6, [.ref tp, .int h0_1o_2, .int tx_2o_11, .int tx_3o_12])), (tp, .inr (5, [.ref by_, .int (nI T)])), (by_, .inl (cI, 260, .inl fb)), (rw, .inl (cI, 120, .inl rw_fo_13)), (rl, .inl (cI, 12, .inl rl_fo_14))] := hD
  refine lv_iconst (v := 0) hx hb dX0_read_25 (by decide) ?_
  refine lv_istore_n (lv' := [(2, .int 0), (0, .ref h0), (1, .int nn)]) hx hb dX0_read_26 rfl hl (by decide) rfl (fun ls hl => ?_)
  have loop_27 : ∀ (n i : Nat) (b60 : Nat → Int32) (b61 : Nat → Int32) (b62 : Int32) (b63 : Int32) (b64 : Int32), nn.toNatClampNeg ≤ n + i → (i < 2147483648) → (RG b61) → ∀ (H : Heap) (locs : List Loc), va_P D vwCl [(h0, .inr (0, [.ref tx, .ref rw, .ref rl, .int b62])), (tx, .inr (6, [.ref tp, .int h0_1o_2, .int b63, .int b64])), (tp, .inr (5, [.ref by_, .int (nI T)])), (by_, .inl (cI, 260, .inl fb)), (rw, .inl (cI, 120, .inl b60)), (rl, .inl (cI, 12, .inl b61))] H → va_D A [(h0, .inr (0, [.ref tx, .ref rw, .ref rl, .int b62])), (tx, .inr (6, [.ref tp, .int h0_1o_2, .int b63, .int b64])), (tp, .inr (5, [.ref by_, .int (nI T)])), (by_, .inl (cI, 260, .inl fb)), (rw, .inl (cI, 120, .inl b60)), (rl, .inl (cI, 12, .inl b61))] → va_S A s.heap H locs → ∀ (ls : Array Slot), lv_has ls 3 [(0, .ref h0), (1, .int nn), (2, .int (nI i))] → W p l e (rm 4 89) s m ([.ref h0, .int nn] : List Value).toArray below meth c H locs 0 0 Q (F0 m 27 ls []) := by
    intro n
    induction n with
    | zero =>
      intro i b60 b61 b62 b63 b64 hni hib hrl H locs hP hD hS ls hl
      have hni_27 := hni
      have hi : nn.toNatClampNeg ≤ i := by omega
      refine lv_iload_n hx hb dX0_read_27 rfl (lv_at hl 2 rfl) ?_
      refine lv_iload_n hx hb dX0_read_28 rfl (lv_at hl 1 rfl) ?_
      refine lv_icmp_ge (tgt := 61) hx hb dX0_read_29 (by decide) (fun _ => ?_) (fun c_29 => absurd (geN hi hib) c_29)
      refine lv_aload_n hx hb dX0_read_61 rfl (lv_at hl 0 rfl) ?_
      refine va_get (D := D) (ci := 0) (v := .ref tx) (C := RX0) (T := TX0) (N := 4) hx hb htb itX0 hown hK hP 0 rfl rfl 0 (by decide) (htb _ k_302) (fun _ h9 => h9) rfl dX0_read_62 ?_
      refine cVR (As := []) (rest := []) (n := 0) (ci := 6) (q0 := 0) X hN hK hP (c_X6_isRight l D cI cB tx tp h0_1o_2 b63 b64) (gV k_699 k_658 k_659 k_98 k_660) (by decide +kernel) ⟨Nat.le_of_ble_eq_true rfl, Nat.le_of_ble_eq_true rfl⟩ ⟨rfl, rfl⟩ [1] rfl rfl rfl rfl rfl rfl hl.1 (Nat.le_of_ble_eq_true rfl) dX0_read_65 ⟨Nat.le_of_ble_eq_true rfl, Nat.le_of_ble_eq_true rfl⟩ (fun r_16 hr_16 => ?_)
      subst hr_16
      refine lv_if_eq (tgt := 78) hx hb dX0_read_68 (by decide) (fun c_68 => ?_) (fun c_68 => ?_)
      · refine lv_aload_n hx hb dX0_read_78 rfl (lv_at hl 0 rfl) ?_
        refine va_get (D := D) (ci := 0) (v := .ref tx) (C := RX0) (T := TX0) (N := 4) hx hb htb itX0 hown hK hP 0 rfl rfl 0 (by decide) (htb _ k_302) (fun _ h9 => h9) rfl dX0_read_79 ?_
        refine va_getN (D := D) (ci := 6) (v := .int b64) (C := RX6) (T := TX6) (N := 4) hx hb htb itX6 hown hK hP 1 rfl rfl 3 (by decide) (va_Nw.use rfl (hN _ n_270 rfl)) (fun _ h9 => h9) rfl dX0_read_82 ?_
        exact ret _ _ _ _ b64 (b62, h0_1o_2, b63, b64, b60, b61) dX0_read_85 rfl hrl (hP.sub [0, 1, 2, 3, 4, 5] rfl) (hD.sub [0, 1, 2, 3, 4, 5] (by decide) rfl) hS
      · refine lv_aload_n hx hb dX0_read_71 rfl (lv_at hl 0 rfl) ?_
        refine va_get (D := D) (ci := 0) (v := .int b62) (C := RX0) (T := TX0) (N := 4) hx hb htb itX0 hown hK hP 0 rfl rfl 3 (by decide) (htb _ k_305) (fun _ h9 => h9) rfl dX0_read_72 ?_
        refine lv_goto (tgt := 85) hx hb dX0_read_75 (by decide) ?_
        exact ret _ _ _ _ b62 (b62, h0_1o_2, b63, b64, b60, b61) dX0_read_85 rfl hrl (hP.sub [0, 1, 2, 3, 4, 5] rfl) (hD.sub [0, 1, 2, 3, 4, 5] (by decide) rfl) hS
    | succ n ih_27 =>
      intro i b60 b61 b62 b63 b64 hni hib hrl H locs hP hD hS ls hl
      have hni_27 := hni
      refine lv_iload_n hx hb dX0_read_27 rfl (lv_at hl 2 rfl) ?_
      refine lv_iload_n hx hb dX0_read_28 rfl (lv_at hl 1 rfl) ?_
      refine lv_icmp_ge (tgt := 61) hx hb dX0_read_29 (by decide) (fun c_29 => ?_) (fun c_29 => ?_)
      · refine lv_aload_n hx hb dX0_read_61 rfl (lv_at hl 0 rfl) ?_
        refine va_get (D := D) (ci := 0) (v := .ref tx) (C := RX0) (T := TX0) (N := 4) hx hb htb itX0 hown hK hP 0 rfl rfl 0 (by decide) (htb _ k_302) (fun _ h9 => h9) rfl dX0_read_62 ?_
        refine cVR (As := []) (rest := []) (n := 0) (ci := 6) (q0 := 0) X hN hK hP (c_X6_isRight l D cI cB tx tp h0_1o_2 b63 b64) (gV k_699 k_658 k_659 k_98 k_660) (by decide +kernel) ⟨Nat.le_of_ble_eq_true rfl, Nat.le_of_ble_eq_true rfl⟩ ⟨rfl, rfl⟩ [1] rfl rfl rfl rfl rfl rfl hl.1 (Nat.le_of_ble_eq_true rfl) dX0_read_65 ⟨Nat.le_of_ble_eq_true rfl, Nat.le_of_ble_eq_true rfl⟩ (fun r_17 hr_17 => ?_)
        subst hr_17
        refine lv_if_eq (tgt := 78) hx hb dX0_read_68 (by decide) (fun c_68 => ?_) (fun c_68 => ?_)
        · refine lv_aload_n hx hb dX0_read_78 rfl (lv_at hl 0 rfl) ?_
          refine va_get (D := D) (ci := 0) (v := .ref tx) (C := RX0) (T := TX0) (N := 4) hx hb htb itX0 hown hK hP 0 rfl rfl 0 (by decide) (htb _ k_302) (fun _ h9 => h9) rfl dX0_read_79 ?_
          refine va_getN (D := D) (ci := 6) (v := .int b64) (C := RX6) (T := TX6) (N := 4) hx hb htb itX6 hown hK hP 1 rfl rfl 3 (by decide) (va_Nw.use rfl (hN _ n_270 rfl)) (fun _ h9 => h9) rfl dX0_read_82 ?_
          exact ret _ _ _ _ b64 (b62, h0_1o_2, b63, b64, b60, b61) dX0_read_85 rfl hrl (hP.sub [0, 1, 2, 3, 4, 5] rfl) (hD.sub [0, 1, 2, 3, 4, 5] (by decide) rfl) hS
        · refine lv_aload_n hx hb dX0_read_71 rfl (lv_at hl 0 rfl) ?_
          refine va_get (D := D) (ci := 0) (v := .int b62) (C := RX0) (T := TX0) (N := 4) hx hb htb itX0 hown hK hP 0 rfl rfl 3 (by decide) (htb _ k_305) (fun _ h9 => h9) rfl dX0_read_72 ?_
          refine lv_goto (tgt := 85) hx hb dX0_read_75 (by decide) ?_
          exact ret _ _ _ _ b62 (b62, h0_1o_2, b63, b64, b60, b61) dX0_read_85 rfl hrl (hP.sub [0, 1, 2, 3, 4, 5] rfl) (hD.sub [0, 1, 2, 3, 4, 5] (by decide) rfl) hS
      · refine lv_aload_n hx hb dX0_read_32 rfl (lv_at hl 0 rfl) ?_
        refine va_get (D := D) (ci := 0) (v := .ref tx) (C := RX0) (T := TX0) (N := 4) hx hb htb itX0 hown hK hP 0 rfl rfl 0 (by decide) (htb _ k_302) (fun _ h9 => h9) rfl dX0_read_33 ?_
        refine cVR (As := []) (rest := []) (n := 0) (ci := 6) (q0 := 0) X hN hK hP (c_X6_goesOn l D cI cB tx tp h0_1o_2 b63 b64) (gV k_698 k_654 k_655 k_98 k_656) (by decide +kernel) ⟨Nat.le_of_ble_eq_true rfl, Nat.le_of_ble_eq_true rfl⟩ ⟨rfl, rfl⟩ [1] rfl rfl rfl rfl rfl rfl hl.1 (Nat.le_of_ble_eq_true rfl) dX0_read_36 ⟨Nat.le_of_ble_eq_true rfl, Nat.le_of_ble_eq_true rfl⟩ (fun r_18 hr_18 => ?_)
        subst hr_18
        refine lv_if_eq (tgt := 61) hx hb dX0_read_39 (by decide) (fun c_39 => ?_) (fun c_39 => ?_)
        · refine lv_aload_n hx hb dX0_read_61 rfl (lv_at hl 0 rfl) ?_
          refine va_get (D := D) (ci := 0) (v := .ref tx) (C := RX0) (T := TX0) (N := 4) hx hb htb itX0 hown hK hP 0 rfl rfl 0 (by decide) (htb _ k_302) (fun _ h9 => h9) rfl dX0_read_62 ?_
          refine cVR (As := []) (rest := []) (n := 0) (ci := 6) (q0 := 0) X hN hK hP (c_X6_isRight l D cI cB tx tp h0_1o_2 b63 b64) (gV k_699 k_658 k_659 k_98 k_660) (by decide +kernel) ⟨Nat.le_of_ble_eq_true rfl, Nat.le_of_ble_eq_true rfl⟩ ⟨rfl, rfl⟩ [1] rfl rfl rfl rfl rfl rfl hl.1 (Nat.le_of_ble_eq_true rfl) dX0_read_65 ⟨Nat.le_of_ble_eq_true rfl, Nat.le_of_ble_eq_true rfl⟩ (fun r_19 hr_19 => ?_)
          subst hr_19
          refine lv_if_eq (tgt := 78) hx hb dX0_read_68 (by decide) (fun c_68 => ?_) (fun c_68 => ?_)
          · refine lv_aload_n hx hb dX0_read_78 rfl (lv_at hl 0 rfl) ?_
            refine va_get (D := D) (ci := 0) (v := .ref tx) (C := RX0) (T := TX0) (N := 4) hx hb htb itX0 hown hK hP 0 rfl rfl 0 (by decide) (htb _ k_302) (fun _ h9 => h9) rfl dX0_read_79 ?_
            refine va_getN (D := D) (ci := 6) (v := .int b64) (C := RX6) (T := TX6) (N := 4) hx hb htb itX6 hown hK hP 1 rfl rfl 3 (by decide) (va_Nw.use rfl (hN _ n_270 rfl)) (fun _ h9 => h9) rfl dX0_read_82 ?_
            exact ret _ _ _ _ b64 (b62, h0_1o_2, b63, b64, b60, b61) dX0_read_85 rfl hrl (hP.sub [0, 1, 2, 3, 4, 5] rfl) (hD.sub [0, 1, 2, 3, 4, 5] (by decide) rfl) hS
          · refine lv_aload_n hx hb dX0_read_71 rfl (lv_at hl 0 rfl) ?_
            refine va_get (D := D) (ci := 0) (v := .int b62) (C := RX0) (T := TX0) (N := 4) hx hb htb itX0 hown hK hP 0 rfl rfl 3 (by decide) (htb _ k_305) (fun _ h9 => h9) rfl dX0_read_72 ?_
            refine lv_goto (tgt := 85) hx hb dX0_read_75 (by decide) ?_
            exact ret _ _ _ _ b62 (b62, h0_1o_2, b63, b64, b60, b61) dX0_read_85 rfl hrl (hP.sub [0, 1, 2, 3, 4, 5] rfl) (hD.sub [0, 1, 2, 3, 4, 5] (by decide) rfl) hS
        · refine lv_aload_n hx hb dX0_read_42 rfl (lv_at hl 0 rfl) ?_
          refine va_get (D := D) (ci := 0) (v := .ref tx) (C := RX0) (T := TX0) (N := 4) hx hb htb itX0 hown hK hP 0 rfl rfl 0 (by decide) (htb _ k_302) (fun _ h9 => h9) rfl dX0_read_43 ?_
          refine lv_bipush (v := 59) hx hb dX0_read_46 (by decide) ?_
          refine cVV (As := [.int 59]) (rest := []) (n := 1) (ci := 6) (q0 := 0) (wr := [(h0, .inr (0, [.ref tx, .ref rw, .ref rl, .int b62])), (rw, .inl (cI, 120, .inl b60)), (rl, .inl (cI, 12, .inl b61))]) X hN hK hP hD hS hA (c_X6_expect l D cI cB _ tx tp h0_1o_2 b63 b64 by_ T fb 59 hT) (gV k_686 k_603 k_604 k_98 k_605) (by decide +kernel) ⟨Nat.le_of_ble_eq_true rfl, Nat.le_of_ble_eq_true rfl⟩ ⟨rfl, rfl⟩ [1, 2, 3] [0, 4, 5] rfl rfl (by decide) (by decide) rfl rfl rfl rfl rfl hl.1 (Nat.le_of_ble_eq_true rfl) dX0_read_48 ⟨Nat.le_of_ble_eq_true rfl, Nat.le_of_ble_eq_true rfl⟩ (fun u H locs hw_23 hP hD hS => ?_)
          obtain ⟨h0_2o_21, h0_3o_22⟩ := u
          try dsimp only at hw_23
          have hP : va_P D vwCl [(h0, .inr (0, [.ref tx, .ref rw, .ref rl, .int b62])), (rw, .inl (cI, 120, .inl b60)), (rl, .inl (cI, 12, .inl b61)), (tx, .inr (6, [.ref tp, .int h0_1o_2, .int h0_2o_21, .int h0_3o_22])), (tp, .inr (5, [.ref by_, .int (nI T)])), (by_, .inl (cI, 260, .inl fb))] H := hP
          have hD : va_D A [(h0, .inr (0, [.ref tx, .ref rw, .ref rl, .int b62])), (rw, .inl (cI, 120, .inl b60)), (rl, .inl (cI, 12, .inl b61)), (tx, .inr (6, [.ref tp, .int h0_1o_2, .int h0_2o_21, .int h0_3o_22])), (tp, .inr (5, [.ref by_, .int (nI T)])), (by_, .inl (cI, 260, .inl fb))] := hD
          refine lv_aload_n hx hb dX0_read_51 rfl (lv_at hl 0 rfl) ?_
          refine cVV (As := []) (rest := []) (n := 0) (ci := 0) (q0 := 0) (wr := []) X hN hK hP hD hS hA (c_X0_readLine l D cI cB _ h0 rw rl b62 tx tp h0_1o_2 h0_2o_21 h0_3o_22 by_ T fb b60 b61 hT hrl) (gV k_679 k_681 k_11 k_100 k_682) (by decide +kernel) ⟨Nat.le_of_ble_eq_true rfl, Nat.le_of_ble_eq_true rfl⟩ ⟨rfl, rfl⟩ [0, 3, 4, 5, 1, 2] [] rfl rfl (by decide) (by decide) rfl rfl rfl rfl rfl hl.1 (Nat.le_of_ble_eq_true rfl) dX0_read_52 ⟨Nat.le_of_ble_eq_true rfl, Nat.le_of_ble_eq_true rfl⟩ (fun u H locs hw_30 hP hD hS => ?_)
          obtain ⟨h0_3o_25, tx_2o_26, tx_3o_27, rw_fo_28, rl_fo_29⟩ := u
          try dsimp only at hw_30
          have hP : va_P D vwCl [(h0, .inr (0, [.ref tx, .ref rw, .ref rl, .int h0_3o_25])), (tx, .inr (6, [.ref tp, .int h0_1o_2, .int tx_2o_26, .int tx_3o_27])), (tp, .inr (5, [.ref by_, .int (nI T)])), (by_, .inl (cI, 260, .inl fb)), (rw, .inl (cI, 120, .inl rw_fo_28)), (rl, .inl (cI, 12, .inl rl_fo_29))] H := hP
          have hD : va_D A [(h0, .inr (0, [.ref tx, .ref rw, .ref rl, .int h0_3o_25])), (tx, .inr (6, [.ref tp, .int h0_1o_2, .int tx_2o_26, .int tx_3o_27])), (tp, .inr (5, [.ref by_, .int (nI T)])), (by_, .inl (cI, 260, .inl fb)), (rw, .inl (cI, 120, .inl rw_fo_28)), (rl, .inl (cI, 12, .inl rl_fo_29))] := hD
          refine lv_iinc (v := (nI (i + 1))) (lv' := [(2, .int (nI (i + 1))), (0, .ref h0), (1, .int nn)]) hx hb dX0_read_55 hl (k := 2) rfl (nI_1 i) (by decide) rfl (fun ls hl => ?_)
          refine lv_goto (tgt := 27) hx hb dX0_read_58 (by decide) ?_
          exact ih_27 (i + 1) rw_fo_28 rl_fo_29 h0_3o_25 tx_2o_26 tx_3o_27 (by omega) (by have a0 := mt Int32.le_iff_toInt_le.mpr c_29; have a1 := mt Int32.toInt_inj.mp c_39; have a2 := Int32.toInt_lt nn; have a3 : (0 : Int32).toInt = 0 := (by decide); have a4 := nI_toInt (n := i) (by omega); omega) hw_30 _ _ (hP.sub [0, 1, 2, 3, 4, 5] rfl) (hD.sub [0, 1, 2, 3, 4, 5] (by decide) rfl) hS _ (lv_sub hl [1, 2, 0] rfl)
  exact loop_27 nn.toNatClampNeg 0 rw_fo_13 rl_fo_14 h0_3o_10 tx_2o_11 tx_3o_12 (by omega) (by decide) hw_15 _ _ (hP.sub [0, 1, 2, 3, 4, 5] rfl) (hD.sub [0, 1, 2, 3, 4, 5] (by decide) rfl) hS _ (lv_sub hl [1, 2, 0] rfl)

set_option maxRecDepth 100000 in
set_option maxHeartbeats 4000000 in
theorem c_X0_giveTo (l : Launch) (D : va_G) (cI cB : ClassId) (sz : Nat) (h0 : Nat) (tx : Nat) (rw : Nat) (rl : Nat) (ln : Int32) (tw : Nat) (pe : Int32) (ch : Int32) (rt : Int32) (t1 : Nat) (t2 : Nat) (t3 : Nat) (t4 : Nat) (frw : Nat → Int32) (frl : Nat → Int32) (ft3 : Nat → Int32) (ft4 : Nat → Int32) (hrg : RG frl) (hr4 : RG ft4) : MV (S := ((Nat → Int32) × (Nat → Int32))) l D cI cB yX0_giveTo cX0_giveTo 3 (rm 1 60) [.ref h0, .ref tw] [(h0, .inr (0, [.ref tx, .ref rw, .ref rl, .int ln])), (rw, .inl (cI, 120, .inl frw)), (rl, .inl (cI, 12, .inl frl)), (tw, .inr (7, [.int pe, .int ch, .int rt, .ref t1, .ref t2, .ref t3, .ref t4])), (t3, .inl (cI, 120, .inl ft3)), (t4, .inl (cI, 12, .inl ft4))] sz (fun u => RG u.2) (fun u : ((Nat → Int32) × (Nat → Int32)) => [(h0, .inr (0, [.ref tx, .ref rw, .ref rl, .int ln])), (rw, .inl (cI, 120, .inl frw)), (rl, .inl (cI, 12, .inl frl)), (tw, .inr (7, [.int pe, .int ch, .int rt, .ref t1, .ref t2, .ref t3, .ref t4])), (t3, .inl (cI, 120, .inl u.1)), (t4, .inl (cI, 12, .inl u.2))]) := by
  refine MV.of (by decide) (Nat.le_of_ble_eq_true rfl) ?_
  intro p e s m below meth c Q ls A X hin hN hP hK hD hA hl ret
  have hS : va_S A s.heap s.heap [] := va_S.rf
  obtain ⟨hx, hb, hml, hown, htb⟩ := id X
  have hl : lv_has ls 3 [(0, .ref h0), (1, .ref tw)] := hl
  refine lv_iconst (v := 0) hx hb dX0_giveTo_0 (by decide) ?_
  refine lv_istore_n (lv' := [(2, .int 0), (0, .ref h0), (1, .ref tw)]) hx hb dX0_giveTo_1 rfl hl (by decide) rfl (fun ls hl => ?_)
  have loop_2 : ∀ (n i : Nat) (b70 : Nat → Int32) (b71 : Nat → Int32), n + i = 12 → (RG b71) → ∀ (H : Heap) (locs : List Loc), va_P D vwCl [(h0, .inr (0, [.ref tx, .ref rw, .ref rl, .int ln])), (rw, .inl (cI, 120, .inl frw)), (rl, .inl (cI, 12, .inl frl)), (tw, .inr (7, [.int pe, .int ch, .int rt, .ref t1, .ref t2, .ref t3, .ref t4])), (t3, .inl (cI, 120, .inl b70)), (t4, .inl (cI, 12, .inl b71))] H → va_D A [(h0, .inr (0, [.ref tx, .ref rw, .ref rl, .int ln])), (rw, .inl (cI, 120, .inl frw)), (rl, .inl (cI, 12, .inl frl)), (tw, .inr (7, [.int pe, .int ch, .int rt, .ref t1, .ref t2, .ref t3, .ref t4])), (t3, .inl (cI, 120, .inl b70)), (t4, .inl (cI, 12, .inl b71))] → va_S A s.heap H locs → ∀ (ls : Array Slot), lv_has ls 3 [(0, .ref h0), (1, .ref tw), (2, .int (nI i))] → W p l e (rm 1 60) s m ([.ref h0, .ref tw] : List Value).toArray below meth c H locs 0 0 Q (F0 m 2 ls []) := by
    intro n
    induction n with
    | zero =>
      intro i b70 b71 hni hq4 H locs hP hD hS ls hl
      have hni_2 := hni
      have hi : i = 12 := by omega
      refine lv_iload_n hx hb dX0_giveTo_2 rfl (lv_at hl 2 rfl) ?_
      refine lv_bipush (v := 12) hx hb dX0_giveTo_3 (by decide) ?_
      refine lv_icmp_ge (tgt := 56) hx hb dX0_giveTo_5 (by decide) (fun _ => ?_) (fun c_5 => absurd (by rw [hi]; decide) c_5)
      exact ret _ _ _ _ (b70, b71) dX0_giveTo_56 hq4 (hP.sub [0, 1, 2, 3, 4, 5] rfl) (hD.sub [0, 1, 2, 3, 4, 5] (by decide) rfl) hS
    | succ n ih_2 =>
      intro i b70 b71 hni hq4 H locs hP hD hS ls hl
      have hni_2 := hni
      have hi : i < 12 := by omega
      refine lv_iload_n hx hb dX0_giveTo_2 rfl (lv_at hl 2 rfl) ?_
      refine lv_bipush (v := 12) hx hb dX0_giveTo_3 (by decide) ?_
      refine lv_icmp_ge (tgt := 56) hx hb dX0_giveTo_5 (by decide) (fun c_5 => absurd c_5 (nI_ge hi (by decide))) (fun _ => ?_)
      refine lv_aload_n hx hb dX0_giveTo_8 rfl (lv_at hl 0 rfl) ?_
      refine va_get (D := D) (ci := 0) (v := .ref rl) (C := RX0) (T := TX0) (N := 4) hx hb htb itX0 hown hK hP 0 rfl rfl 2 (by decide) (htb _ k_304) (fun _ h9 => h9) rfl dX0_giveTo_9 ?_
      refine lv_iload_n hx hb dX0_giveTo_12 rfl (lv_at hl 2 rfl) ?_
      refine va_iald hx hb hK hP 2 0 rfl rfl (vp_in_nI (by omega) (by decide)) dX0_giveTo_13 ?_
      refine lv_if_le (tgt := 50) hx hb dX0_giveTo_14 (by decide) (fun c_14 => ?_) (fun c_14 => ?_)
      · refine lv_iinc (v := (nI (i + 1))) (lv' := [(2, .int (nI (i + 1))), (0, .ref h0), (1, .ref tw)]) hx hb dX0_giveTo_50 hl (k := 2) rfl (nI_1 i) (by decide) rfl (fun ls hl => ?_)
        refine lv_goto (tgt := 2) hx hb dX0_giveTo_53 (by decide) ?_
        exact ih_2 (i + 1) b70 b71 (by omega) hq4 _ _ (hP.sub [0, 1, 2, 3, 4, 5] rfl) (hD.sub [0, 1, 2, 3, 4, 5] (by decide) rfl) hS _ (lv_sub hl [1, 2, 0] rfl)
      · refine lv_aload_n hx hb dX0_giveTo_17 rfl (lv_at hl 0 rfl) ?_
        refine va_get (D := D) (ci := 0) (v := .ref rw) (C := RX0) (T := TX0) (N := 4) hx hb htb itX0 hown hK hP 0 rfl rfl 1 (by decide) (htb _ k_303) (fun _ h9 => h9) rfl dX0_giveTo_18 ?_
        refine lv_iload_n hx hb dX0_giveTo_21 rfl (lv_at hl 2 rfl) ?_
        refine lv_bipush (v := 10) hx hb dX0_giveTo_22 (by decide) ?_
        refine lv_imul hx hb dX0_giveTo_24 ?_
        refine tv (z := (nI (10 * i))) (m10 i) ?_
        refine lv_aload_n hx hb dX0_giveTo_25 rfl (lv_at hl 1 rfl) ?_
        refine va_getN (D := D) (ci := 7) (v := .ref t3) (C := RX7) (T := TX7) (N := 7) hx hb htb itX7 hown hK hP 3 rfl rfl 5 (by decide) (va_Nw.use rfl (hN _ n_158 rfl)) (fun _ h9 => h9) rfl dX0_giveTo_26 ?_
        refine lv_iload_n hx hb dX0_giveTo_29 rfl (lv_at hl 2 rfl) ?_
        refine lv_bipush (v := 10) hx hb dX0_giveTo_30 (by decide) ?_
        refine lv_imul hx hb dX0_giveTo_32 ?_
        refine tv (z := (nI (10 * i))) (m10 i) ?_
        refine lv_bipush (v := 10) hx hb dX0_giveTo_33 (by decide) ?_
        refine va_copyi (rest := []) hx hb (by rw [hml]; exact hl.1.symm) hown (htb _ k_704) (htb _ k_667) (htb _ k_666) (htb _ k_110) hK hP hD hS 1 4 0 0 rfl rfl rfl rfl rfl (nI_pos (by omega)) (nI_pos (by omega)) (by decide) (by rw [nI_clamp (by omega)]; show _ + 10 ≤ 120; omega) (by rw [nI_clamp (by omega)]; show _ + 10 ≤ 120; omega) (fun _ _ => rfl) (Nat.le_of_ble_eq_true rfl) (by decide) dX0_giveTo_35 (fun H locs hP hD hS => ?_)
        obtain ⟨f_1, ef_1⟩ : ∃ g : Nat → Int32, g = va_cpy frw b70 (Int32.toNatClampNeg (nI (10 * i))) (Int32.toNatClampNeg (nI (10 * i))) (Int32.toNatClampNeg 10) := ⟨_, rfl⟩
        rw [← ef_1] at hP hD
        have hP : va_P D vwCl [(h0, .inr (0, [.ref tx, .ref rw, .ref rl, .int ln])), (rw, .inl (cI, 120, .inl frw)), (rl, .inl (cI, 12, .inl frl)), (tw, .inr (7, [.int pe, .int ch, .int rt, .ref t1, .ref t2, .ref t3, .ref t4])), (t3, .inl (cI, 120, .inl f_1)), (t4, .inl (cI, 12, .inl b71))] H := hP
        have hD : va_D A [(h0, .inr (0, [.ref tx, .ref rw, .ref rl, .int ln])), (rw, .inl (cI, 120, .inl frw)), (rl, .inl (cI, 12, .inl frl)), (tw, .inr (7, [.int pe, .int ch, .int rt, .ref t1, .ref t2, .ref t3, .ref t4])), (t3, .inl (cI, 120, .inl f_1)), (t4, .inl (cI, 12, .inl b71))] := hD
        refine lv_aload_n hx hb dX0_giveTo_38 rfl (lv_at hl 1 rfl) ?_
        refine va_getN (D := D) (ci := 7) (v := .ref t4) (C := RX7) (T := TX7) (N := 7) hx hb htb itX7 hown hK hP 3 rfl rfl 6 (by decide) (va_Nw.use rfl (hN _ n_162 rfl)) (fun _ h9 => h9) rfl dX0_giveTo_39 ?_
        refine lv_iload_n hx hb dX0_giveTo_42 rfl (lv_at hl 2 rfl) ?_
        refine lv_aload_n hx hb dX0_giveTo_43 rfl (lv_at hl 0 rfl) ?_
        refine va_get (D := D) (ci := 0) (v := .ref rl) (C := RX0) (T := TX0) (N := 4) hx hb htb itX0 hown hK hP 0 rfl rfl 2 (by decide) (htb _ k_304) (fun _ h9 => h9) rfl dX0_giveTo_44 ?_
        refine lv_iload_n hx hb dX0_giveTo_47 rfl (lv_at hl 2 rfl) ?_
        refine va_iald hx hb hK hP 2 0 rfl rfl (by have a0 := mt Int32.le_iff_toInt_le.mpr c_14; have a1 : (0 : Int32).toInt = 0 := (by decide); exact vp_in_nI (by omega) (by decide)) dX0_giveTo_48 ?_
        refine lv_topi (fun x_2 ex_2 => ?_)
        refine va_iast hx hb hK hP hD hS 5 0 rfl rfl (by have a0 := mt Int32.le_iff_toInt_le.mpr c_14; have a1 : (0 : Int32).toInt = 0 := (by decide); exact vp_in_nI (by omega) (by decide)) dX0_giveTo_49 (fun H locs hP hD hS => ?_)
        obtain ⟨f_3, ef_3⟩ : ∃ g : Nat → Int32, g = upd b71 (Int32.toNatClampNeg (nI i)) x_2 := ⟨_, rfl⟩
        rw [← ef_3] at hP hD
        have hP : va_P D vwCl [(h0, .inr (0, [.ref tx, .ref rw, .ref rl, .int ln])), (rw, .inl (cI, 120, .inl frw)), (rl, .inl (cI, 12, .inl frl)), (tw, .inr (7, [.int pe, .int ch, .int rt, .ref t1, .ref t2, .ref t3, .ref t4])), (t3, .inl (cI, 120, .inl f_1)), (t4, .inl (cI, 12, .inl f_3))] H := hP
        have hD : va_D A [(h0, .inr (0, [.ref tx, .ref rw, .ref rl, .int ln])), (rw, .inl (cI, 120, .inl frw)), (rl, .inl (cI, 12, .inl frl)), (tw, .inr (7, [.int pe, .int ch, .int rt, .ref t1, .ref t2, .ref t3, .ref t4])), (t3, .inl (cI, 120, .inl f_1)), (t4, .inl (cI, 12, .inl f_3))] := hD
        refine lv_iinc (v := (nI (i + 1))) (lv' := [(2, .int (nI (i + 1))), (0, .ref h0), (1, .ref tw)]) hx hb dX0_giveTo_50 hl (k := 2) rfl (nI_1 i) (by decide) rfl (fun ls hl => ?_)
        refine lv_goto (tgt := 2) hx hb dX0_giveTo_53 (by decide) ?_
        exact ih_2 (i + 1) f_1 f_3 (by omega) (by rw [ef_3]; exact RG.upd _ hq4 (by rw [ex_2, nI_clamp (by omega)]; exact hrg i hi)) _ _ (hP.sub [0, 1, 2, 3, 4, 5] rfl) (hD.sub [0, 1, 2, 3, 4, 5] (by decide) rfl) hS _ (lv_sub hl [1, 2, 0] rfl)
  exact loop_2 12 0 ft3 ft4 (by omega) hr4 _ _ (hP.sub [0, 1, 2, 3, 4, 5] rfl) (hD.sub [0, 1, 2, 3, 4, 5] (by decide) rfl) hS _ (lv_sub hl [1, 2, 0] rfl)

set_option maxRecDepth 100000 in
set_option maxHeartbeats 4000000 in
theorem c_X3_readDays (l : Launch) (D : va_G) (cI cB : ClassId) (sz : Nat) (h0 : Nat) (lf_ : Nat) (ll_ : Nat) (sn : Int32) (ln : Int32) (tx : Nat) (tp : Nat) (ed : Int32) (pl : Int32) (fa : Int32) (by_ : Nat) (T : Nat) (fb : Nat → Int32) (flf : Nat → Int32) (fll : Nat → Int32) (k : Nat) (hT : T ≤ 260) (hk9 : k < 10) : MV (S := ((Int32) × (Int32) × (Nat → Int32) × (Nat → Int32))) l D cI cB yX3_readDays cX3_readDays 3 (rm 3 66) [.ref h0, .int (nI k)] [(h0, .inr (3, [.ref tx, .ref lf_, .ref ll_, .int sn, .int ln])), (tx, .inr (6, [.ref tp, .int ed, .int pl, .int fa])), (tp, .inr (5, [.ref by_, .int (nI T)])), (by_, .inl (cI, 260, .inl fb)), (lf_, .inl (cI, 10, .inl flf)), (ll_, .inl (cI, 10, .inl fll))] sz (fun u => True) (fun u : ((Int32) × (Int32) × (Nat → Int32) × (Nat → Int32)) => [(h0, .inr (3, [.ref tx, .ref lf_, .ref ll_, .int sn, .int ln])), (tx, .inr (6, [.ref tp, .int ed, .int u.1, .int u.2.1])), (tp, .inr (5, [.ref by_, .int (nI T)])), (by_, .inl (cI, 260, .inl fb)), (lf_, .inl (cI, 10, .inl u.2.2.1)), (ll_, .inl (cI, 10, .inl u.2.2.2))]) := by
  refine MV.of (by decide) (Nat.le_of_ble_eq_true rfl) ?_
  intro p e s m below meth c Q ls A X hin hN hP hK hD hA hl ret
  have hS : va_S A s.heap s.heap [] := va_S.rf
  obtain ⟨hx, hb, hml, hown, htb⟩ := id X
  have hl : lv_has ls 3 [(0, .ref h0), (1, .int (nI k))] := hl
  refine lv_aload_n hx hb dX3_readDays_0 rfl (lv_at hl 0 rfl) ?_
  refine va_get (D := D) (ci := 3) (v := .ref lf_) (C := RX3) (T := TX3) (N := 5) hx hb htb itX3 hown hK hP 0 rfl rfl 1 (by decide) (htb _ k_322) (fun _ h9 => h9) rfl dX3_readDays_1 ?_
  refine lv_iload_n hx hb dX3_readDays_4 rfl (lv_at hl 1 rfl) ?_
  refine lv_aload_n hx hb dX3_readDays_5 rfl (lv_at hl 0 rfl) ?_
  refine va_get (D := D) (ci := 3) (v := .ref tx) (C := RX3) (T := TX3) (N := 5) hx hb htb itX3 hown hK hP 0 rfl rfl 0 (by decide) (htb _ k_321) (fun _ h9 => h9) rfl dX3_readDays_6 ?_
  refine lv_iconst (v := 3) hx hb dX3_readDays_9 (by decide) ?_
  refine lv_iconst (v := 1) hx hb dX3_readDays_10 (by decide) ?_
  refine cVI (As := [.int 3, .int 1]) (rest := [.int (nI k), .ref lf_]) (n := 2) (ci := 6) (q0 := 0) (wr := [(h0, .inr (3, [.ref tx, .ref lf_, .ref ll_, .int sn, .int ln])), (lf_, .inl (cI, 10, .inl flf)), (ll_, .inl (cI, 10, .inl fll))]) X hN hK hP hD hS hA (c_X6_number l D cI cB _ tx tp ed pl fa by_ T fb 3 1 hT (by decide)) (gV k_725 k_613 k_614 k_98 k_615) (by decide +kernel) ⟨Nat.le_of_ble_eq_true rfl, Nat.le_of_ble_eq_true rfl⟩ ⟨rfl, rfl⟩ [1, 2, 3] [0, 4, 5] rfl rfl (by decide) (by decide) rfl rfl rfl rfl rfl hl.1 (Nat.le_of_ble_eq_true rfl) dX3_readDays_11 ⟨Nat.le_of_ble_eq_true rfl, Nat.le_of_ble_eq_true rfl⟩ (fun r_1 u H locs hw_4 hP hD hS => ?_)
  obtain ⟨h0_2o_2, h0_3o_3⟩ := u
  try dsimp only at hw_4
  have hP : va_P D vwCl [(h0, .inr (3, [.ref tx, .ref lf_, .ref ll_, .int sn, .int ln])), (lf_, .inl (cI, 10, .inl flf)), (ll_, .inl (cI, 10, .inl fll)), (tx, .inr (6, [.ref tp, .int ed, .int h0_2o_2, .int h0_3o_3])), (tp, .inr (5, [.ref by_, .int (nI T)])), (by_, .inl (cI, 260, .inl fb))] H := hP
  have hD : va_D A [(h0, .inr (3, [.ref tx, .ref lf_, .ref ll_, .int sn, .int ln])), (lf_, .inl (cI, 10, .inl flf)), (ll_, .inl (cI, 10, .inl fll)), (tx, .inr (6, [.ref tp, .int ed, .int h0_2o_2, .int h0_3o_3])), (tp, .inr (5, [.ref by_, .int (nI T)])), (by_, .inl (cI, 260, .inl fb))] := hD
  refine va_iast hx hb hK hP hD hS 1 0 rfl rfl (vp_in_nI (by omega) (by decide)) dX3_readDays_14 (fun H locs hP hD hS => ?_)
  obtain ⟨f_5, ef_5⟩ : ∃ g : Nat → Int32, g = upd flf (Int32.toNatClampNeg (nI k)) r_1 := ⟨_, rfl⟩
  rw [← ef_5] at hP hD
  have hP : va_P D vwCl [(h0, .inr (3, [.ref tx, .ref lf_, .ref ll_, .int sn, .int ln])), (lf_, .inl (cI, 10, .inl f_5)), (ll_, .inl (cI, 10, .inl fll)), (tx, .inr (6, [.ref tp, .int ed, .int h0_2o_2, .int h0_3o_3])), (tp, .inr (5, [.ref by_, .int (nI T)])), (by_, .inl (cI, 260, .inl fb))] H := hP
  have hD : va_D A [(h0, .inr (3, [.ref tx, .ref lf_, .ref ll_, .int sn, .int ln])), (lf_, .inl (cI, 10, .inl f_5)), (ll_, .inl (cI, 10, .inl fll)), (tx, .inr (6, [.ref tp, .int ed, .int h0_2o_2, .int h0_3o_3])), (tp, .inr (5, [.ref by_, .int (nI T)])), (by_, .inl (cI, 260, .inl fb))] := hD
  refine lv_aload_n hx hb dX3_readDays_15 rfl (lv_at hl 0 rfl) ?_
  refine va_get (D := D) (ci := 3) (v := .ref tx) (C := RX3) (T := TX3) (N := 5) hx hb htb itX3 hown hK hP 0 rfl rfl 0 (by decide) (htb _ k_321) (fun _ h9 => h9) rfl dX3_readDays_16 ?_
  refine lv_bipush (v := 45) hx hb dX3_readDays_19 (by decide) ?_
  refine cVV (As := [.int 45]) (rest := []) (n := 1) (ci := 6) (q0 := 0) (wr := [(h0, .inr (3, [.ref tx, .ref lf_, .ref ll_, .int sn, .int ln])), (lf_, .inl (cI, 10, .inl f_5)), (ll_, .inl (cI, 10, .inl fll))]) X hN hK hP hD hS hA (c_X6_expect l D cI cB _ tx tp ed h0_2o_2 h0_3o_3 by_ T fb 45 hT) (gV k_726 k_603 k_604 k_98 k_605) (by decide +kernel) ⟨Nat.le_of_ble_eq_true rfl, Nat.le_of_ble_eq_true rfl⟩ ⟨rfl, rfl⟩ [3, 4, 5] [0, 1, 2] rfl rfl (by decide) (by decide) rfl rfl rfl rfl rfl hl.1 (Nat.le_of_ble_eq_true rfl) dX3_readDays_21 ⟨Nat.le_of_ble_eq_true rfl, Nat.le_of_ble_eq_true rfl⟩ (fun u H locs hw_9 hP hD hS => ?_)
  obtain ⟨h0_2o_7, h0_3o_8⟩ := u
  try dsimp only at hw_9
  have hP : va_P D vwCl [(h0, .inr (3, [.ref tx, .ref lf_, .ref ll_, .int sn, .int ln])), (lf_, .inl (cI, 10, .inl f_5)), (ll_, .inl (cI, 10, .inl fll)), (tx, .inr (6, [.ref tp, .int ed, .int h0_2o_7, .int h0_3o_8])), (tp, .inr (5, [.ref by_, .int (nI T)])), (by_, .inl (cI, 260, .inl fb))] H := hP
  have hD : va_D A [(h0, .inr (3, [.ref tx, .ref lf_, .ref ll_, .int sn, .int ln])), (lf_, .inl (cI, 10, .inl f_5)), (ll_, .inl (cI, 10, .inl fll)), (tx, .inr (6, [.ref tp, .int ed, .int h0_2o_7, .int h0_3o_8])), (tp, .inr (5, [.ref by_, .int (nI T)])), (by_, .inl (cI, 260, .inl fb))] := hD
  refine lv_aload_n hx hb dX3_readDays_24 rfl (lv_at hl 0 rfl) ?_
  refine va_get (D := D) (ci := 3) (v := .ref tx) (C := RX3) (T := TX3) (N := 5) hx hb htb itX3 hown hK hP 0 rfl rfl 0 (by decide) (htb _ k_321) (fun _ h9 => h9) rfl dX3_readDays_25 ?_
  refine va_getN (D := D) (ci := 6) (v := .int h0_2o_7) (C := RX6) (T := TX6) (N := 4) hx hb htb itX6 hown hK hP 3 rfl rfl 2 (by decide) (va_Nw.use rfl (hN _ n_266 rfl)) (fun _ h9 => h9) rfl dX3_readDays_28 ?_
  refine lv_istore_n (lv' := [(2, .int h0_2o_7), (0, .ref h0), (1, .int (nI k))]) hx hb dX3_readDays_31 rfl hl (by decide) rfl (fun ls hl => ?_)
  refine lv_aload_n hx hb dX3_readDays_32 rfl (lv_at hl 1 rfl) ?_
  refine va_get (D := D) (ci := 3) (v := .ref ll_) (C := RX3) (T := TX3) (N := 5) hx hb htb itX3 hown hK hP 0 rfl rfl 2 (by decide) (htb _ k_323) (fun _ h9 => h9) rfl dX3_readDays_33 ?_
  refine lv_iload_n hx hb dX3_readDays_36 rfl (lv_at hl 2 rfl) ?_
  refine lv_aload_n hx hb dX3_readDays_37 rfl (lv_at hl 1 rfl) ?_
  refine va_get (D := D) (ci := 3) (v := .ref tx) (C := RX3) (T := TX3) (N := 5) hx hb htb itX3 hown hK hP 0 rfl rfl 0 (by decide) (htb _ k_321) (fun _ h9 => h9) rfl dX3_readDays_38 ?_
  refine lv_iconst (v := 3) hx hb dX3_readDays_41 (by decide) ?_
  refine lv_iconst (v := 1) hx hb dX3_readDays_42 (by decide) ?_
  refine cVI (As := [.int 3, .int 1]) (rest := [.int (nI k), .ref ll_]) (n := 2) (ci := 6) (q0 := 0) (wr := [(h0, .inr (3, [.ref tx, .ref lf_, .ref ll_, .int sn, .int ln])), (lf_, .inl (cI, 10, .inl f_5)), (ll_, .inl (cI, 10, .inl fll))]) X hN hK hP hD hS hA (c_X6_number l D cI cB _ tx tp ed h0_2o_7 h0_3o_8 by_ T fb 3 1 hT (by decide)) (gV k_725 k_613 k_614 k_98 k_615) (by decide +kernel) ⟨Nat.le_of_ble_eq_true rfl, Nat.le_of_ble_eq_true rfl⟩ ⟨rfl, rfl⟩ [3, 4, 5] [0, 1, 2] rfl rfl (by decide) (by decide) rfl rfl rfl rfl rfl hl.1 (Nat.le_of_ble_eq_true rfl) dX3_readDays_43 ⟨Nat.le_of_ble_eq_true rfl, Nat.le_of_ble_eq_true rfl⟩ (fun r_10 u H locs hw_13 hP hD hS => ?_)
  obtain ⟨h0_2o_11, h0_3o_12⟩ := u
  try dsimp only at hw_13
  have hP : va_P D vwCl [(h0, .inr (3, [.ref tx, .ref lf_, .ref ll_, .int sn, .int ln])), (lf_, .inl (cI, 10, .inl f_5)), (ll_, .inl (cI, 10, .inl fll)), (tx, .inr (6, [.ref tp, .int ed, .int h0_2o_11, .int h0_3o_12])), (tp, .inr (5, [.ref by_, .int (nI T)])), (by_, .inl (cI, 260, .inl fb))] H := hP
  have hD : va_D A [(h0, .inr (3, [.ref tx, .ref lf_, .ref ll_, .int sn, .int ln])), (lf_, .inl (cI, 10, .inl f_5)), (ll_, .inl (cI, 10, .inl fll)), (tx, .inr (6, [.ref tp, .int ed, .int h0_2o_11, .int h0_3o_12])), (tp, .inr (5, [.ref by_, .int (nI T)])), (by_, .inl (cI, 260, .inl fb))] := hD
  refine va_iast hx hb hK hP hD hS 2 0 rfl rfl (vp_in_nI (by omega) (by decide)) dX3_readDays_46 (fun H locs hP hD hS => ?_)
  obtain ⟨f_14, ef_14⟩ : ∃ g : Nat → Int32, g = upd fll (Int32.toNatClampNeg (nI k)) r_10 := ⟨_, rfl⟩
  rw [← ef_14] at hP hD
  have hP : va_P D vwCl [(h0, .inr (3, [.ref tx, .ref lf_, .ref ll_, .int sn, .int ln])), (lf_, .inl (cI, 10, .inl f_5)), (ll_, .inl (cI, 10, .inl f_14)), (tx, .inr (6, [.ref tp, .int ed, .int h0_2o_11, .int h0_3o_12])), (tp, .inr (5, [.ref by_, .int (nI T)])), (by_, .inl (cI, 260, .inl fb))] H := hP
  have hD : va_D A [(h0, .inr (3, [.ref tx, .ref lf_, .ref ll_, .int sn, .int ln])), (lf_, .inl (cI, 10, .inl f_5)), (ll_, .inl (cI, 10, .inl f_14)), (tx, .inr (6, [.ref tp, .int ed, .int h0_2o_11, .int h0_3o_12])), (tp, .inr (5, [.ref by_, .int (nI T)])), (by_, .inl (cI, 260, .inl fb))] := hD
  refine lv_aload_n hx hb dX3_readDays_47 rfl (lv_at hl 1 rfl) ?_
  refine va_get (D := D) (ci := 3) (v := .ref ll_) (C := RX3) (T := TX3) (N := 5) hx hb htb itX3 hown hK hP 0 rfl rfl 2 (by decide) (htb _ k_323) (fun _ h9 => h9) rfl dX3_readDays_48 ?_
  refine lv_iload_n hx hb dX3_readDays_51 rfl (lv_at hl 2 rfl) ?_
  refine va_iald hx hb hK hP 2 0 rfl rfl (vp_in_nI (by omega) (by decide)) dX3_readDays_52 ?_
  refine lv_aload_n hx hb dX3_readDays_53 rfl (lv_at hl 1 rfl) ?_
  refine va_get (D := D) (ci := 3) (v := .ref lf_) (C := RX3) (T := TX3) (N := 5) hx hb htb itX3 hown hK hP 0 rfl rfl 1 (by decide) (htb _ k_322) (fun _ h9 => h9) rfl dX3_readDays_54 ?_
  refine lv_iload_n hx hb dX3_readDays_57 rfl (lv_at hl 2 rfl) ?_
  refine va_iald hx hb hK hP 1 0 rfl rfl (vp_in_nI (by omega) (by decide)) dX3_readDays_58 ?_
  refine lv_icmp_ge (tgt := 72) hx hb dX3_readDays_59 (by decide) (fun c_59 => ?_) (fun c_59 => ?_)
  · exact ret _ _ _ _ (h0_2o_11, h0_3o_12, f_5, f_14) dX3_readDays_72 trivial (hP.sub [0, 3, 4, 5, 1, 2] rfl) (hD.sub [0, 3, 4, 5, 1, 2] (by decide) rfl) hS
  · refine lv_aload_n hx hb dX3_readDays_62 rfl (lv_at hl 1 rfl) ?_
    refine va_get (D := D) (ci := 3) (v := .ref tx) (C := RX3) (T := TX3) (N := 5) hx hb htb itX3 hown hK hP 0 rfl rfl 0 (by decide) (htb _ k_321) (fun _ h9 => h9) rfl dX3_readDays_63 ?_
    refine lv_bipush (v := 7) hx hb dX3_readDays_66 (by decide) ?_
    refine lv_iload_n hx hb dX3_readDays_68 rfl (lv_at hl 0 rfl) ?_
    refine cVV (As := [.int 7, .int h0_2o_7]) (rest := []) (n := 2) (ci := 6) (q0 := 0) (wr := [(h0, .inr (3, [.ref tx, .ref lf_, .ref ll_, .int sn, .int ln])), (lf_, .inl (cI, 10, .inl f_5)), (ll_, .inl (cI, 10, .inl f_14)), (tp, .inr (5, [.ref by_, .int (nI T)])), (by_, .inl (cI, 260, .inl fb))]) X hN hK hP hD hS hA (c_X6_fail l D cI cB _ tx tp ed h0_2o_11 h0_3o_12 7 h0_2o_7) (gV k_719 k_574 k_575 k_98 k_576) (by decide +kernel) ⟨Nat.le_of_ble_eq_true rfl, Nat.le_of_ble_eq_true rfl⟩ ⟨rfl, rfl⟩ [3] [0, 1, 2, 4, 5] rfl rfl (by decide) (by decide) rfl rfl rfl rfl rfl hl.1 (Nat.le_of_ble_eq_true rfl) dX3_readDays_69 ⟨Nat.le_of_ble_eq_true rfl, Nat.le_of_ble_eq_true rfl⟩ (fun u H locs hw_17 hP hD hS => ?_)
    obtain ⟨h0_3o_16, rfl⟩ : ∃ z, z = u := ⟨_, rfl⟩
    try dsimp only at hw_17
    have hP : va_P D vwCl [(h0, .inr (3, [.ref tx, .ref lf_, .ref ll_, .int sn, .int ln])), (lf_, .inl (cI, 10, .inl f_5)), (ll_, .inl (cI, 10, .inl f_14)), (tp, .inr (5, [.ref by_, .int (nI T)])), (by_, .inl (cI, 260, .inl fb)), (tx, .inr (6, [.ref tp, .int ed, .int h0_2o_11, .int h0_3o_16]))] H := hP
    have hD : va_D A [(h0, .inr (3, [.ref tx, .ref lf_, .ref ll_, .int sn, .int ln])), (lf_, .inl (cI, 10, .inl f_5)), (ll_, .inl (cI, 10, .inl f_14)), (tp, .inr (5, [.ref by_, .int (nI T)])), (by_, .inl (cI, 260, .inl fb)), (tx, .inr (6, [.ref tp, .int ed, .int h0_2o_11, .int h0_3o_16]))] := hD
    exact ret _ _ _ _ (h0_2o_11, h0_3o_16, f_5, f_14) dX3_readDays_72 trivial (hP.sub [0, 5, 3, 4, 1, 2] rfl) (hD.sub [0, 5, 3, 4, 1, 2] (by decide) rfl) hS

set_option maxRecDepth 100000 in
set_option maxHeartbeats 4000000 in
theorem c_X3_readLine (l : Launch) (D : va_G) (cI cB : ClassId) (sz : Nat) (h0 : Nat) (lf_ : Nat) (ll_ : Nat) (sn : Int32) (ln : Int32) (tx : Nat) (tp : Nat) (ed : Int32) (pl : Int32) (fa : Int32) (by_ : Nat) (T : Nat) (fb : Nat → Int32) (flf : Nat → Int32) (fll : Nat → Int32) (hT : T ≤ 260) : MV (S := ((Int32) × (Int32) × (Int32) × (Int32) × (Nat → Int32) × (Nat → Int32))) l D cI cB yX3_readLine cX3_readLine 2 (rm 4 88) [.ref h0] [(h0, .inr (3, [.ref tx, .ref lf_, .ref ll_, .int sn, .int ln])), (tx, .inr (6, [.ref tp, .int ed, .int pl, .int fa])), (tp, .inr (5, [.ref by_, .int (nI T)])), (by_, .inl (cI, 260, .inl fb)), (lf_, .inl (cI, 10, .inl flf)), (ll_, .inl (cI, 10, .inl fll))] sz (fun u => True) (fun u : ((Int32) × (Int32) × (Int32) × (Int32) × (Nat → Int32) × (Nat → Int32)) => [(h0, .inr (3, [.ref tx, .ref lf_, .ref ll_, .int u.1, .int u.2.1])), (tx, .inr (6, [.ref tp, .int ed, .int u.2.2.1, .int u.2.2.2.1])), (tp, .inr (5, [.ref by_, .int (nI T)])), (by_, .inl (cI, 260, .inl fb)), (lf_, .inl (cI, 10, .inl u.2.2.2.2.1)), (ll_, .inl (cI, 10, .inl u.2.2.2.2.2))]) := by
  refine MV.of (by decide) (Nat.le_of_ble_eq_true rfl) ?_
  intro p e s m below meth c Q ls A X hin hN hP hK hD hA hl ret
  have hS : va_S A s.heap s.heap [] := va_S.rf
  obtain ⟨hx, hb, hml, hown, htb⟩ := id X
  have hl : lv_has ls 2 [(0, .ref h0)] := hl
  refine lv_aload_n hx hb dX3_readLine_0 rfl (lv_at hl 0 rfl) ?_
  refine va_get (D := D) (ci := 3) (v := .ref tx) (C := RX3) (T := TX3) (N := 5) hx hb htb itX3 hown hK hP 0 rfl rfl 0 (by decide) (htb _ k_321) (fun _ h9 => h9) rfl dX3_readLine_1 ?_
  refine cVR (As := []) (rest := []) (n := 0) (ci := 6) (q0 := 0) X hN hK hP (c_X6_personHere l D cI cB tx tp ed pl fa by_ T fb hT) (gV k_718 k_692 k_693 k_98 k_694) (by decide +kernel) ⟨Nat.le_of_ble_eq_true rfl, Nat.le_of_ble_eq_true rfl⟩ ⟨rfl, rfl⟩ [1, 2, 3] rfl rfl rfl rfl rfl rfl hl.1 (Nat.le_of_ble_eq_true rfl) dX3_readLine_4 ⟨Nat.le_of_ble_eq_true rfl, Nat.le_of_ble_eq_true rfl⟩ (fun rp hrp => ?_)
  refine lv_istore_n (lv' := [(1, .int rp), (0, .ref h0)]) hx hb dX3_readLine_7 rfl hl (by decide) rfl (fun ls hl => ?_)
  refine lv_iload_n hx hb dX3_readLine_8 rfl (lv_at hl 0 rfl) ?_
  refine lv_iconst (v := (-1)) hx hb dX3_readLine_9 (by decide) ?_
  refine lv_icmp_ne (tgt := 31) hx hb dX3_readLine_10 (by decide) (fun c_10 => ?_) (fun c_10 => ?_)
  · refine lv_aload_n hx hb dX3_readLine_31 rfl (lv_at hl 1 rfl) ?_
    refine va_get (D := D) (ci := 3) (v := .int ln) (C := RX3) (T := TX3) (N := 5) hx hb htb itX3 hown hK hP 0 rfl rfl 4 (by decide) (htb _ k_325) (fun _ h9 => h9) rfl dX3_readLine_32 ?_
    refine lv_bipush (v := 10) hx hb dX3_readLine_35 (by decide) ?_
    refine lv_icmp_ne (tgt := 58) hx hb dX3_readLine_37 (by decide) (fun c_37 => ?_) (fun c_37 => ?_)
    · refine lv_aload_n hx hb dX3_readLine_58 rfl (lv_at hl 1 rfl) ?_
      refine va_get (D := D) (ci := 3) (v := .int sn) (C := RX3) (T := TX3) (N := 5) hx hb htb itX3 hown hK hP 0 rfl rfl 3 (by decide) (htb _ k_324) (fun _ h9 => h9) rfl dX3_readLine_59 ?_
      refine lv_iload_n hx hb dX3_readLine_62 rfl (lv_at hl 0 rfl) ?_
      refine cSNR (As := [.int sn, .int rp]) (rest := []) (n := 2) X hN hK hP (c_X9_isIn l D cI cB sn rp) n_720 k_696 k_92 k_697 (by decide +kernel) ⟨Nat.le_of_ble_eq_true rfl, Nat.le_of_ble_eq_true rfl⟩ ⟨rfl, rfl⟩ [] rfl rfl rfl hl.1 (Nat.le_of_ble_eq_true rfl) dX3_readLine_63 ⟨Nat.le_of_ble_eq_true rfl, Nat.le_of_ble_eq_true rfl⟩ (fun r_1 hr_1 => ?_)
      refine lv_if_eq (tgt := 88) hx hb dX3_readLine_66 (by decide) (fun c_66 => ?_) (fun c_66 => ?_)
      · refine lv_aload_n hx hb dX3_readLine_88 rfl (lv_at hl 1 rfl) ?_
        refine va_get (D := D) (ci := 3) (v := .ref tx) (C := RX3) (T := TX3) (N := 5) hx hb htb itX3 hown hK hP 0 rfl rfl 0 (by decide) (htb _ k_321) (fun _ h9 => h9) rfl dX3_readLine_89 ?_
        refine lv_dup hx hb dX3_readLine_92 rfl ?_
        refine va_getN (D := D) (ci := 6) (v := .int pl) (C := RX6) (T := TX6) (N := 4) hx hb htb itX6 hown hK hP 1 rfl rfl 2 (by decide) (va_Nw.use rfl (hN _ n_266 rfl)) (fun _ h9 => h9) rfl dX3_readLine_93 ?_
        refine lv_iconst (v := 1) hx hb dX3_readLine_96 (by decide) ?_
        refine lv_iadd hx hb dX3_readLine_97 ?_
        refine lv_topi (fun x_2 ex_2 => ?_)
        refine va_putN (D := D) (ci := 6) (v := .int x_2) (ty := .int) (C := RX6) (T := TX6) (N := 4) hx hb htb itX6 tyX6 tyX6_ok nmX6 hown hK hP hD hS 1 rfl rfl 2 (by decide) (va_Nw.use rfl (hN _ n_266 rfl)) (fun _ h9 => h9) rfl (tyX6_ok 2 (by decide)) rfl rfl (Nat.le_of_ble_eq_true rfl) dX3_readLine_98 (fun H locs hP hD hS => ?_)
        have hP : va_P D vwCl [(h0, .inr (3, [.ref tx, .ref lf_, .ref ll_, .int sn, .int ln])), (tx, .inr (6, [.ref tp, .int ed, .int x_2, .int fa])), (tp, .inr (5, [.ref by_, .int (nI T)])), (by_, .inl (cI, 260, .inl fb)), (lf_, .inl (cI, 10, .inl flf)), (ll_, .inl (cI, 10, .inl fll))] H := hP
        have hD : va_D A [(h0, .inr (3, [.ref tx, .ref lf_, .ref ll_, .int sn, .int ln])), (tx, .inr (6, [.ref tp, .int ed, .int x_2, .int fa])), (tp, .inr (5, [.ref by_, .int (nI T)])), (by_, .inl (cI, 260, .inl fb)), (lf_, .inl (cI, 10, .inl flf)), (ll_, .inl (cI, 10, .inl fll))] := hD
        refine lv_aload_n hx hb dX3_readLine_101 rfl (lv_at hl 1 rfl) ?_
        refine lv_dup hx hb dX3_readLine_102 rfl ?_
        refine va_get (D := D) (ci := 3) (v := .int sn) (C := RX3) (T := TX3) (N := 5) hx hb htb itX3 hown hK hP 0 rfl rfl 3 (by decide) (htb _ k_324) (fun _ h9 => h9) rfl dX3_readLine_103 ?_
        refine lv_iconst (v := 1) hx hb dX3_readLine_106 (by decide) ?_
        refine lv_iload_n hx hb dX3_readLine_107 rfl (lv_at hl 0 rfl) ?_
        refine lv_ishl hx hb dX3_readLine_108 ?_
        refine lv_ior hx hb dX3_readLine_109 ?_
        refine lv_topi (fun x_3 ex_3 => ?_)
        refine va_put (D := D) (ci := 3) (v := .int x_3) (ty := .int) (C := RX3) (T := TX3) (N := 5) hx hb htb itX3 tyX3 tyX3_ok nmX3 hown hK hP hD hS 0 rfl rfl 3 (by decide) (htb _ k_324) (fun _ h9 => h9) rfl (tyX3_ok 3 (by decide)) rfl rfl (Nat.le_of_ble_eq_true rfl) dX3_readLine_110 (fun H locs hP hD hS => ?_)
        have hP : va_P D vwCl [(h0, .inr (3, [.ref tx, .ref lf_, .ref ll_, .int x_3, .int ln])), (tx, .inr (6, [.ref tp, .int ed, .int x_2, .int fa])), (tp, .inr (5, [.ref by_, .int (nI T)])), (by_, .inl (cI, 260, .inl fb)), (lf_, .inl (cI, 10, .inl flf)), (ll_, .inl (cI, 10, .inl fll))] H := hP
        have hD : va_D A [(h0, .inr (3, [.ref tx, .ref lf_, .ref ll_, .int x_3, .int ln])), (tx, .inr (6, [.ref tp, .int ed, .int x_2, .int fa])), (tp, .inr (5, [.ref by_, .int (nI T)])), (by_, .inl (cI, 260, .inl fb)), (lf_, .inl (cI, 10, .inl flf)), (ll_, .inl (cI, 10, .inl fll))] := hD
        refine lv_aload_n hx hb dX3_readLine_113 rfl (lv_at hl 1 rfl) ?_
        refine lv_dup hx hb dX3_readLine_114 rfl ?_
        refine va_get (D := D) (ci := 3) (v := .int ln) (C := RX3) (T := TX3) (N := 5) hx hb htb itX3 hown hK hP 0 rfl rfl 4 (by decide) (htb _ k_325) (fun _ h9 => h9) rfl dX3_readLine_115 ?_
        refine lv_iconst (v := 1) hx hb dX3_readLine_118 (by decide) ?_
        refine lv_iadd hx hb dX3_readLine_119 ?_
        refine lv_topi (fun x_4 ex_4 => ?_)
        refine va_put (D := D) (ci := 3) (v := .int x_4) (ty := .int) (C := RX3) (T := TX3) (N := 5) hx hb htb itX3 tyX3 tyX3_ok nmX3 hown hK hP hD hS 0 rfl rfl 4 (by decide) (htb _ k_325) (fun _ h9 => h9) rfl (tyX3_ok 4 (by decide)) rfl rfl (Nat.le_of_ble_eq_true rfl) dX3_readLine_120 (fun H locs hP hD hS => ?_)
        have hP : va_P D vwCl [(h0, .inr (3, [.ref tx, .ref lf_, .ref ll_, .int x_3, .int x_4])), (tx, .inr (6, [.ref tp, .int ed, .int x_2, .int fa])), (tp, .inr (5, [.ref by_, .int (nI T)])), (by_, .inl (cI, 260, .inl fb)), (lf_, .inl (cI, 10, .inl flf)), (ll_, .inl (cI, 10, .inl fll))] H := hP
        have hD : va_D A [(h0, .inr (3, [.ref tx, .ref lf_, .ref ll_, .int x_3, .int x_4])), (tx, .inr (6, [.ref tp, .int ed, .int x_2, .int fa])), (tp, .inr (5, [.ref by_, .int (nI T)])), (by_, .inl (cI, 260, .inl fb)), (lf_, .inl (cI, 10, .inl flf)), (ll_, .inl (cI, 10, .inl fll))] := hD
        refine lv_aload_n hx hb dX3_readLine_123 rfl (lv_at hl 1 rfl) ?_
        refine lv_iload_n hx hb dX3_readLine_124 rfl (lv_at hl 0 rfl) ?_
        obtain ⟨kp_5, hkp_5, ekp_5⟩ := inN (k := 9) (by decide) (hrp.resolve_left c_10)
        have hkp_5 : kp_5 < 10 := by omega
        refine tv (z := nI kp_5) ekp_5 ?_
        refine cVV (As := [.int (nI kp_5)]) (rest := []) (n := 1) (ci := 3) (q0 := 0) (wr := []) X hN hK hP hD hS hA (c_X3_readDays l D cI cB _ h0 lf_ ll_ x_3 x_4 tx tp ed x_2 fa by_ T fb flf fll kp_5 hT (by assumption)) (gV k_721 k_723 k_14 k_101 k_724) (by decide +kernel) ⟨Nat.le_of_ble_eq_true rfl, Nat.le_of_ble_eq_true rfl⟩ ⟨rfl, rfl⟩ [0, 1, 2, 3, 4, 5] [] rfl rfl (by decide) (by decide) rfl rfl rfl rfl rfl hl.1 (Nat.le_of_ble_eq_true rfl) dX3_readLine_125 ⟨Nat.le_of_ble_eq_true rfl, Nat.le_of_ble_eq_true rfl⟩ (fun u H locs hw_11 hP hD hS => ?_)
        obtain ⟨tx_2o_7, tx_3o_8, lf__fo_9, ll__fo_10⟩ := u
        try dsimp only at hw_11
        have hP : va_P D vwCl [(h0, .inr (3, [.ref tx, .ref lf_, .ref ll_, .int x_3, .int x_4])), (tx, .inr (6, [.ref tp, .int ed, .int tx_2o_7, .int tx_3o_8])), (tp, .inr (5, [.ref by_, .int (nI T)])), (by_, .inl (cI, 260, .inl fb)), (lf_, .inl (cI, 10, .inl lf__fo_9)), (ll_, .inl (cI, 10, .inl ll__fo_10))] H := hP
        have hD : va_D A [(h0, .inr (3, [.ref tx, .ref lf_, .ref ll_, .int x_3, .int x_4])), (tx, .inr (6, [.ref tp, .int ed, .int tx_2o_7, .int tx_3o_8])), (tp, .inr (5, [.ref by_, .int (nI T)])), (by_, .inl (cI, 260, .inl fb)), (lf_, .inl (cI, 10, .inl lf__fo_9)), (ll_, .inl (cI, 10, .inl ll__fo_10))] := hD
        exact ret _ _ _ _ (x_3, x_4, tx_2o_7, tx_3o_8, lf__fo_9, ll__fo_10) dX3_readLine_128 trivial (hP.sub [0, 1, 2, 3, 4, 5] rfl) (hD.sub [0, 1, 2, 3, 4, 5] (by decide) rfl) hS
      · refine lv_aload_n hx hb dX3_readLine_69 rfl (lv_at hl 1 rfl) ?_
        refine va_get (D := D) (ci := 3) (v := .ref tx) (C := RX3) (T := TX3) (N := 5) hx hb htb itX3 hown hK hP 0 rfl rfl 0 (by decide) (htb _ k_321) (fun _ h9 => h9) rfl dX3_readLine_70 ?_
        refine lv_bipush (v := 6) hx hb dX3_readLine_73 (by decide) ?_
        refine lv_aload_n hx hb dX3_readLine_75 rfl (lv_at hl 1 rfl) ?_
        refine va_get (D := D) (ci := 3) (v := .ref tx) (C := RX3) (T := TX3) (N := 5) hx hb htb itX3 hown hK hP 0 rfl rfl 0 (by decide) (htb _ k_321) (fun _ h9 => h9) rfl dX3_readLine_76 ?_
        refine va_getN (D := D) (ci := 6) (v := .int pl) (C := RX6) (T := TX6) (N := 4) hx hb htb itX6 hown hK hP 1 rfl rfl 2 (by decide) (va_Nw.use rfl (hN _ n_266 rfl)) (fun _ h9 => h9) rfl dX3_readLine_79 ?_
        refine cVV (As := [.int 6, .int pl]) (rest := []) (n := 2) (ci := 6) (q0 := 0) (wr := [(h0, .inr (3, [.ref tx, .ref lf_, .ref ll_, .int sn, .int ln])), (tp, .inr (5, [.ref by_, .int (nI T)])), (by_, .inl (cI, 260, .inl fb)), (lf_, .inl (cI, 10, .inl flf)), (ll_, .inl (cI, 10, .inl fll))]) X hN hK hP hD hS hA (c_X6_fail l D cI cB _ tx tp ed pl fa 6 pl) (gV k_719 k_574 k_575 k_98 k_576) (by decide +kernel) ⟨Nat.le_of_ble_eq_true rfl, Nat.le_of_ble_eq_true rfl⟩ ⟨rfl, rfl⟩ [1] [0, 2, 3, 4, 5] rfl rfl (by decide) (by decide) rfl rfl rfl rfl rfl hl.1 (Nat.le_of_ble_eq_true rfl) dX3_readLine_82 ⟨Nat.le_of_ble_eq_true rfl, Nat.le_of_ble_eq_true rfl⟩ (fun u H locs hw_14 hP hD hS => ?_)
        obtain ⟨h0_3o_13, rfl⟩ : ∃ z, z = u := ⟨_, rfl⟩
        try dsimp only at hw_14
        have hP : va_P D vwCl [(h0, .inr (3, [.ref tx, .ref lf_, .ref ll_, .int sn, .int ln])), (tp, .inr (5, [.ref by_, .int (nI T)])), (by_, .inl (cI, 260, .inl fb)), (lf_, .inl (cI, 10, .inl flf)), (ll_, .inl (cI, 10, .inl fll)), (tx, .inr (6, [.ref tp, .int ed, .int pl, .int h0_3o_13]))] H := hP
        have hD : va_D A [(h0, .inr (3, [.ref tx, .ref lf_, .ref ll_, .int sn, .int ln])), (tp, .inr (5, [.ref by_, .int (nI T)])), (by_, .inl (cI, 260, .inl fb)), (lf_, .inl (cI, 10, .inl flf)), (ll_, .inl (cI, 10, .inl fll)), (tx, .inr (6, [.ref tp, .int ed, .int pl, .int h0_3o_13]))] := hD
        refine lv_goto (tgt := 128) hx hb dX3_readLine_85 (by decide) ?_
        exact ret _ _ _ _ (sn, ln, pl, h0_3o_13, flf, fll) dX3_readLine_128 trivial (hP.sub [0, 5, 1, 2, 3, 4] rfl) (hD.sub [0, 5, 1, 2, 3, 4] (by decide) rfl) hS
    · refine lv_aload_n hx hb dX3_readLine_40 rfl (lv_at hl 1 rfl) ?_
      refine va_get (D := D) (ci := 3) (v := .ref tx) (C := RX3) (T := TX3) (N := 5) hx hb htb itX3 hown hK hP 0 rfl rfl 0 (by decide) (htb _ k_321) (fun _ h9 => h9) rfl dX3_readLine_41 ?_
      refine lv_iconst (v := 4) hx hb dX3_readLine_44 (by decide) ?_
      refine lv_aload_n hx hb dX3_readLine_45 rfl (lv_at hl 1 rfl) ?_
      refine va_get (D := D) (ci := 3) (v := .ref tx) (C := RX3) (T := TX3) (N := 5) hx hb htb itX3 hown hK hP 0 rfl rfl 0 (by decide) (htb _ k_321) (fun _ h9 => h9) rfl dX3_readLine_46 ?_
      refine va_getN (D := D) (ci := 6) (v := .int pl) (C := RX6) (T := TX6) (N := 4) hx hb htb itX6 hown hK hP 1 rfl rfl 2 (by decide) (va_Nw.use rfl (hN _ n_266 rfl)) (fun _ h9 => h9) rfl dX3_readLine_49 ?_
      refine cVV (As := [.int 4, .int pl]) (rest := []) (n := 2) (ci := 6) (q0 := 0) (wr := [(h0, .inr (3, [.ref tx, .ref lf_, .ref ll_, .int sn, .int ln])), (tp, .inr (5, [.ref by_, .int (nI T)])), (by_, .inl (cI, 260, .inl fb)), (lf_, .inl (cI, 10, .inl flf)), (ll_, .inl (cI, 10, .inl fll))]) X hN hK hP hD hS hA (c_X6_fail l D cI cB _ tx tp ed pl fa 4 pl) (gV k_719 k_574 k_575 k_98 k_576) (by decide +kernel) ⟨Nat.le_of_ble_eq_true rfl, Nat.le_of_ble_eq_true rfl⟩ ⟨rfl, rfl⟩ [1] [0, 2, 3, 4, 5] rfl rfl (by decide) (by decide) rfl rfl rfl rfl rfl hl.1 (Nat.le_of_ble_eq_true rfl) dX3_readLine_52 ⟨Nat.le_of_ble_eq_true rfl, Nat.le_of_ble_eq_true rfl⟩ (fun u H locs hw_17 hP hD hS => ?_)
      obtain ⟨h0_3o_16, rfl⟩ : ∃ z, z = u := ⟨_, rfl⟩
      try dsimp only at hw_17
      have hP : va_P D vwCl [(h0, .inr (3, [.ref tx, .ref lf_, .ref ll_, .int sn, .int ln])), (tp, .inr (5, [.ref by_, .int (nI T)])), (by_, .inl (cI, 260, .inl fb)), (lf_, .inl (cI, 10, .inl flf)), (ll_, .inl (cI, 10, .inl fll)), (tx, .inr (6, [.ref tp, .int ed, .int pl, .int h0_3o_16]))] H := hP
      have hD : va_D A [(h0, .inr (3, [.ref tx, .ref lf_, .ref ll_, .int sn, .int ln])), (tp, .inr (5, [.ref by_, .int (nI T)])), (by_, .inl (cI, 260, .inl fb)), (lf_, .inl (cI, 10, .inl flf)), (ll_, .inl (cI, 10, .inl fll)), (tx, .inr (6, [.ref tp, .int ed, .int pl, .int h0_3o_16]))] := hD
      refine lv_goto (tgt := 128) hx hb dX3_readLine_55 (by decide) ?_
      exact ret _ _ _ _ (sn, ln, pl, h0_3o_16, flf, fll) dX3_readLine_128 trivial (hP.sub [0, 5, 1, 2, 3, 4] rfl) (hD.sub [0, 5, 1, 2, 3, 4] (by decide) rfl) hS
  · refine lv_aload_n hx hb dX3_readLine_13 rfl (lv_at hl 1 rfl) ?_
    refine va_get (D := D) (ci := 3) (v := .ref tx) (C := RX3) (T := TX3) (N := 5) hx hb htb itX3 hown hK hP 0 rfl rfl 0 (by decide) (htb _ k_321) (fun _ h9 => h9) rfl dX3_readLine_14 ?_
    refine lv_iconst (v := 1) hx hb dX3_readLine_17 (by decide) ?_
    refine lv_aload_n hx hb dX3_readLine_18 rfl (lv_at hl 1 rfl) ?_
    refine va_get (D := D) (ci := 3) (v := .ref tx) (C := RX3) (T := TX3) (N := 5) hx hb htb itX3 hown hK hP 0 rfl rfl 0 (by decide) (htb _ k_321) (fun _ h9 => h9) rfl dX3_readLine_19 ?_
    refine va_getN (D := D) (ci := 6) (v := .int pl) (C := RX6) (T := TX6) (N := 4) hx hb htb itX6 hown hK hP 1 rfl rfl 2 (by decide) (va_Nw.use rfl (hN _ n_266 rfl)) (fun _ h9 => h9) rfl dX3_readLine_22 ?_
    refine cVV (As := [.int 1, .int pl]) (rest := []) (n := 2) (ci := 6) (q0 := 0) (wr := [(h0, .inr (3, [.ref tx, .ref lf_, .ref ll_, .int sn, .int ln])), (tp, .inr (5, [.ref by_, .int (nI T)])), (by_, .inl (cI, 260, .inl fb)), (lf_, .inl (cI, 10, .inl flf)), (ll_, .inl (cI, 10, .inl fll))]) X hN hK hP hD hS hA (c_X6_fail l D cI cB _ tx tp ed pl fa 1 pl) (gV k_719 k_574 k_575 k_98 k_576) (by decide +kernel) ⟨Nat.le_of_ble_eq_true rfl, Nat.le_of_ble_eq_true rfl⟩ ⟨rfl, rfl⟩ [1] [0, 2, 3, 4, 5] rfl rfl (by decide) (by decide) rfl rfl rfl rfl rfl hl.1 (Nat.le_of_ble_eq_true rfl) dX3_readLine_25 ⟨Nat.le_of_ble_eq_true rfl, Nat.le_of_ble_eq_true rfl⟩ (fun u H locs hw_20 hP hD hS => ?_)
    obtain ⟨h0_3o_19, rfl⟩ : ∃ z, z = u := ⟨_, rfl⟩
    try dsimp only at hw_20
    have hP : va_P D vwCl [(h0, .inr (3, [.ref tx, .ref lf_, .ref ll_, .int sn, .int ln])), (tp, .inr (5, [.ref by_, .int (nI T)])), (by_, .inl (cI, 260, .inl fb)), (lf_, .inl (cI, 10, .inl flf)), (ll_, .inl (cI, 10, .inl fll)), (tx, .inr (6, [.ref tp, .int ed, .int pl, .int h0_3o_19]))] H := hP
    have hD : va_D A [(h0, .inr (3, [.ref tx, .ref lf_, .ref ll_, .int sn, .int ln])), (tp, .inr (5, [.ref by_, .int (nI T)])), (by_, .inl (cI, 260, .inl fb)), (lf_, .inl (cI, 10, .inl flf)), (ll_, .inl (cI, 10, .inl fll)), (tx, .inr (6, [.ref tp, .int ed, .int pl, .int h0_3o_19]))] := hD
    refine lv_goto (tgt := 128) hx hb dX3_readLine_28 (by decide) ?_
    exact ret _ _ _ _ (sn, ln, pl, h0_3o_19, flf, fll) dX3_readLine_128 trivial (hP.sub [0, 5, 1, 2, 3, 4] rfl) (hD.sub [0, 5, 1, 2, 3, 4] (by decide) rfl) hS

set_option maxRecDepth 100000 in
set_option maxHeartbeats 4000000 in
theorem c_X3_read (l : Launch) (D : va_G) (cI cB : ClassId) (sz : Nat) (h0 : Nat) (lf_ : Nat) (ll_ : Nat) (sn : Int32) (ln : Int32) (tx : Nat) (tp : Nat) (ed : Int32) (pl : Int32) (fa : Int32) (by_ : Nat) (T : Nat) (fb : Nat → Int32) (flf : Nat → Int32) (fll : Nat → Int32) (nn : Int32) (hT : T ≤ 260) : MI (S := ((Int32) × (Int32) × (Int32) × (Int32) × (Int32) × (Nat → Int32) × (Nat → Int32))) l D cI cB yX3_read cX3_read 3 .int (rm 5 109) [.ref h0, .int nn] [(h0, .inr (3, [.ref tx, .ref lf_, .ref ll_, .int sn, .int ln])), (tx, .inr (6, [.ref tp, .int ed, .int pl, .int fa])), (tp, .inr (5, [.ref by_, .int (nI T)])), (by_, .inl (cI, 260, .inl fb)), (lf_, .inl (cI, 10, .inl flf)), (ll_, .inl (cI, 10, .inl fll))] sz (fun r u => True) (fun u : ((Int32) × (Int32) × (Int32) × (Int32) × (Int32) × (Nat → Int32) × (Nat → Int32)) => [(h0, .inr (3, [.ref tx, .ref lf_, .ref ll_, .int u.1, .int u.2.1])), (tx, .inr (6, [.ref tp, .int u.2.2.1, .int u.2.2.2.1, .int u.2.2.2.2.1])), (tp, .inr (5, [.ref by_, .int (nI T)])), (by_, .inl (cI, 260, .inl fb)), (lf_, .inl (cI, 10, .inl u.2.2.2.2.2.1)), (ll_, .inl (cI, 10, .inl u.2.2.2.2.2.2))]) := by
  refine MI.of (by decide) (Nat.le_of_ble_eq_true rfl) ?_
  intro p e s m below meth c Q ls A X hin hN hP hK hD hA hl ret
  have hS : va_S A s.heap s.heap [] := va_S.rf
  obtain ⟨hx, hb, hml, hown, htb⟩ := id X
  have hl : lv_has ls 3 [(0, .ref h0), (1, .int nn)] := hl
  refine lv_aload_n hx hb dX3_read_0 rfl (lv_at hl 0 rfl) ?_
  refine va_get (D := D) (ci := 3) (v := .ref tx) (C := RX3) (T := TX3) (N := 5) hx hb htb itX3 hown hK hP 0 rfl rfl 0 (by decide) (htb _ k_321) (fun _ h9 => h9) rfl dX3_read_1 ?_
  refine lv_iload_n hx hb dX3_read_4 rfl (lv_at hl 1 rfl) ?_
  refine cVV (As := [.int nn]) (rest := []) (n := 1) (ci := 6) (q0 := 0) (wr := [(h0, .inr (3, [.ref tx, .ref lf_, .ref ll_, .int sn, .int ln])), (tp, .inr (5, [.ref by_, .int (nI T)])), (by_, .inl (cI, 260, .inl fb)), (lf_, .inl (cI, 10, .inl flf)), (ll_, .inl (cI, 10, .inl fll))]) X hN hK hP hD hS hA (c_X6_begin l D cI cB _ tx tp ed pl fa nn) (gV k_713 k_467 k_468 k_98 k_469) (by decide +kernel) ⟨Nat.le_of_ble_eq_true rfl, Nat.le_of_ble_eq_true rfl⟩ ⟨rfl, rfl⟩ [1] [0, 2, 3, 4, 5] rfl rfl (by decide) (by decide) rfl rfl rfl rfl rfl hl.1 (Nat.le_of_ble_eq_true rfl) dX3_read_5 ⟨Nat.le_of_ble_eq_true rfl, Nat.le_of_ble_eq_true rfl⟩ (fun u H locs hw_5 hP hD hS => ?_)
  obtain ⟨h0_1o_2, h0_2o_3, h0_3o_4⟩ := u
  try dsimp only at hw_5
  have hP : va_P D vwCl [(h0, .inr (3, [.ref tx, .ref lf_, .ref ll_, .int sn, .int ln])), (tp, .inr (5, [.ref by_, .int (nI T)])), (by_, .inl (cI, 260, .inl fb)), (lf_, .inl (cI, 10, .inl flf)), (ll_, .inl (cI, 10, .inl fll)), (tx, .inr (6, [.ref tp, .int h0_1o_2, .int h0_2o_3, .int h0_3o_4]))] H := hP
  have hD : va_D A [(h0, .inr (3, [.ref tx, .ref lf_, .ref ll_, .int sn, .int ln])), (tp, .inr (5, [.ref by_, .int (nI T)])), (by_, .inl (cI, 260, .inl fb)), (lf_, .inl (cI, 10, .inl flf)), (ll_, .inl (cI, 10, .inl fll)), (tx, .inr (6, [.ref tp, .int h0_1o_2, .int h0_2o_3, .int h0_3o_4]))] := hD
  refine lv_aload_n hx hb dX3_read_8 rfl (lv_at hl 0 rfl) ?_
  refine lv_iconst (v := 0) hx hb dX3_read_9 (by decide) ?_
  refine va_put (D := D) (ci := 3) (v := .int 0) (ty := .int) (C := RX3) (T := TX3) (N := 5) hx hb htb itX3 tyX3 tyX3_ok nmX3 hown hK hP hD hS 0 rfl rfl 3 (by decide) (htb _ k_324) (fun _ h9 => h9) rfl (tyX3_ok 3 (by decide)) rfl rfl (Nat.le_of_ble_eq_true rfl) dX3_read_10 (fun H locs hP hD hS => ?_)
  have hP : va_P D vwCl [(h0, .inr (3, [.ref tx, .ref lf_, .ref ll_, .int 0, .int ln])), (tp, .inr (5, [.ref by_, .int (nI T)])), (by_, .inl (cI, 260, .inl fb)), (lf_, .inl (cI, 10, .inl flf)), (ll_, .inl (cI, 10, .inl fll)), (tx, .inr (6, [.ref tp, .int h0_1o_2, .int h0_2o_3, .int h0_3o_4]))] H := hP
  have hD : va_D A [(h0, .inr (3, [.ref tx, .ref lf_, .ref ll_, .int 0, .int ln])), (tp, .inr (5, [.ref by_, .int (nI T)])), (by_, .inl (cI, 260, .inl fb)), (lf_, .inl (cI, 10, .inl flf)), (ll_, .inl (cI, 10, .inl fll)), (tx, .inr (6, [.ref tp, .int h0_1o_2, .int h0_2o_3, .int h0_3o_4]))] := hD
  refine lv_aload_n hx hb dX3_read_13 rfl (lv_at hl 0 rfl) ?_
  refine lv_iconst (v := 0) hx hb dX3_read_14 (by decide) ?_
  refine va_put (D := D) (ci := 3) (v := .int 0) (ty := .int) (C := RX3) (T := TX3) (N := 5) hx hb htb itX3 tyX3 tyX3_ok nmX3 hown hK hP hD hS 0 rfl rfl 4 (by decide) (htb _ k_325) (fun _ h9 => h9) rfl (tyX3_ok 4 (by decide)) rfl rfl (Nat.le_of_ble_eq_true rfl) dX3_read_15 (fun H locs hP hD hS => ?_)
  have hP : va_P D vwCl [(h0, .inr (3, [.ref tx, .ref lf_, .ref ll_, .int 0, .int 0])), (tp, .inr (5, [.ref by_, .int (nI T)])), (by_, .inl (cI, 260, .inl fb)), (lf_, .inl (cI, 10, .inl flf)), (ll_, .inl (cI, 10, .inl fll)), (tx, .inr (6, [.ref tp, .int h0_1o_2, .int h0_2o_3, .int h0_3o_4]))] H := hP
  have hD : va_D A [(h0, .inr (3, [.ref tx, .ref lf_, .ref ll_, .int 0, .int 0])), (tp, .inr (5, [.ref by_, .int (nI T)])), (by_, .inl (cI, 260, .inl fb)), (lf_, .inl (cI, 10, .inl flf)), (ll_, .inl (cI, 10, .inl fll)), (tx, .inr (6, [.ref tp, .int h0_1o_2, .int h0_2o_3, .int h0_3o_4]))] := hD
  refine lv_aload_n hx hb dX3_read_18 rfl (lv_at hl 0 rfl) ?_
  refine cVV (As := []) (rest := []) (n := 0) (ci := 3) (q0 := 0) (wr := []) X hN hK hP hD hS hA (c_X3_readLine l D cI cB _ h0 lf_ ll_ 0 0 tx tp h0_1o_2 h0_2o_3 h0_3o_4 by_ T fb flf fll hT) (gV k_714 k_716 k_13 k_101 k_717) (by decide +kernel) ⟨Nat.le_of_ble_eq_true rfl, Nat.le_of_ble_eq_true rfl⟩ ⟨rfl, rfl⟩ [0, 5, 1, 2, 3, 4] [] rfl rfl (by decide) (by decide) rfl rfl rfl rfl rfl hl.1 (Nat.le_of_ble_eq_true rfl) dX3_read_19 ⟨Nat.le_of_ble_eq_true rfl, Nat.le_of_ble_eq_true rfl⟩ (fun u H locs hw_13 hP hD hS => ?_)
  obtain ⟨h0_3o_7, h0_4o_8, tx_2o_9, tx_3o_10, lf__fo_11, ll__fo_12⟩ := u
  try dsimp only at hw_13
  have hP : va_P D vwCl [(h0, .inr (3, [.ref tx, .ref lf_, .ref ll_, .int h0_3o_7, .int h0_4o_8])), (tx, .inr (6, [.ref tp, .int h0_1o_2, .int tx_2o_9, .int tx_3o_10])), (tp, .inr (5, [.ref by_, .int (nI T)])), (by_, .inl (cI, 260, .inl fb)), (lf_, .inl (cI, 10, .inl lf__fo_11)), (ll_, .inl (cI, 10, .inl ll__fo_12))] H := hP
  have hD : va_D A [(h0, .inr (3, [.ref tx, .ref lf_, .ref ll_, .int h0_3o_7, .int h0_4o_8])), (tx, .inr (6, [.ref tp, .int h0_1o_2, .int tx_2o_9, .int tx_3o_10])), (tp, .inr (5, [.ref by_, .int (nI T)])), (by_, .inl (cI, 260, .inl fb)), (lf_, .inl (cI, 10, .inl lf__fo_11)), (ll_, .inl (cI, 10, .inl ll__fo_12))] := hD
  refine lv_iconst (v := 0) hx hb dX3_read_22 (by decide) ?_
  refine lv_istore_n (lv' := [(2, .int 0), (0, .ref h0), (1, .int nn)]) hx hb dX3_read_23 rfl hl (by decide) rfl (fun ls hl => ?_)
  have loop_24 : ∀ (n i : Nat) (b80 : Nat → Int32) (b81 : Nat → Int32) (b82 : Int32) (b83 : Int32) (b84 : Int32) (b85 : Int32), nn.toNatClampNeg ≤ n + i → (i < 2147483648) → ∀ (H : Heap) (locs : List Loc), va_P D vwCl [(h0, .inr (3, [.ref tx, .ref lf_, .ref ll_, .int b82, .int b83])), (tx, .inr (6, [.ref tp, .int h0_1o_2, .int b84, .int b85])), (tp, .inr (5, [.ref by_, .int (nI T)])), (by_, .inl (cI, 260, .inl fb)), (lf_, .inl (cI, 10, .inl b80)), (ll_, .inl (cI, 10, .inl b81))] H → va_D A [(h0, .inr (3, [.ref tx, .ref lf_, .ref ll_, .int b82, .int b83])), (tx, .inr (6, [.ref tp, .int h0_1o_2, .int b84, .int b85])), (tp, .inr (5, [.ref by_, .int (nI T)])), (by_, .inl (cI, 260, .inl fb)), (lf_, .inl (cI, 10, .inl b80)), (ll_, .inl (cI, 10, .inl b81))] → va_S A s.heap H locs → ∀ (ls : Array Slot), lv_has ls 3 [(0, .ref h0), (1, .int nn), (2, .int (nI i))] → W p l e (rm 5 109) s m ([.ref h0, .int nn] : List Value).toArray below meth c H locs 0 0 Q (F0 m 24 ls []) := by
    intro n
    induction n with
    | zero =>
      intro i b80 b81 b82 b83 b84 b85 hni hib H locs hP hD hS ls hl
      have hni_24 := hni
      have hi : nn.toNatClampNeg ≤ i := by omega
      refine lv_iload_n hx hb dX3_read_24 rfl (lv_at hl 2 rfl) ?_
      refine lv_iload_n hx hb dX3_read_25 rfl (lv_at hl 1 rfl) ?_
      refine lv_icmp_ge (tgt := 58) hx hb dX3_read_26 (by decide) (fun _ => ?_) (fun c_26 => absurd (geN hi hib) c_26)
      refine lv_aload_n hx hb dX3_read_58 rfl (lv_at hl 0 rfl) ?_
      refine va_get (D := D) (ci := 3) (v := .ref tx) (C := RX3) (T := TX3) (N := 5) hx hb htb itX3 hown hK hP 0 rfl rfl 0 (by decide) (htb _ k_321) (fun _ h9 => h9) rfl dX3_read_59 ?_
      refine cVR (As := []) (rest := []) (n := 0) (ci := 6) (q0 := 0) X hN hK hP (c_X6_isRight l D cI cB tx tp h0_1o_2 b84 b85) (gV k_728 k_658 k_659 k_98 k_660) (by decide +kernel) ⟨Nat.le_of_ble_eq_true rfl, Nat.le_of_ble_eq_true rfl⟩ ⟨rfl, rfl⟩ [1] rfl rfl rfl rfl rfl rfl hl.1 (Nat.le_of_ble_eq_true rfl) dX3_read_62 ⟨Nat.le_of_ble_eq_true rfl, Nat.le_of_ble_eq_true rfl⟩ (fun r_14 hr_14 => ?_)
      subst hr_14
      refine lv_if_eq (tgt := 75) hx hb dX3_read_65 (by decide) (fun c_65 => ?_) (fun c_65 => ?_)
      · refine lv_aload_n hx hb dX3_read_75 rfl (lv_at hl 0 rfl) ?_
        refine va_get (D := D) (ci := 3) (v := .ref tx) (C := RX3) (T := TX3) (N := 5) hx hb htb itX3 hown hK hP 0 rfl rfl 0 (by decide) (htb _ k_321) (fun _ h9 => h9) rfl dX3_read_76 ?_
        refine va_getN (D := D) (ci := 6) (v := .int b85) (C := RX6) (T := TX6) (N := 4) hx hb htb itX6 hown hK hP 1 rfl rfl 3 (by decide) (va_Nw.use rfl (hN _ n_269 rfl)) (fun _ h9 => h9) rfl dX3_read_79 ?_
        exact ret _ _ _ _ b85 (b82, b83, h0_1o_2, b84, b85, b80, b81) dX3_read_82 rfl trivial (hP.sub [0, 1, 2, 3, 4, 5] rfl) (hD.sub [0, 1, 2, 3, 4, 5] (by decide) rfl) hS
      · refine lv_aload_n hx hb dX3_read_68 rfl (lv_at hl 0 rfl) ?_
        refine va_get (D := D) (ci := 3) (v := .int b83) (C := RX3) (T := TX3) (N := 5) hx hb htb itX3 hown hK hP 0 rfl rfl 4 (by decide) (htb _ k_325) (fun _ h9 => h9) rfl dX3_read_69 ?_
        refine lv_goto (tgt := 82) hx hb dX3_read_72 (by decide) ?_
        exact ret _ _ _ _ b83 (b82, b83, h0_1o_2, b84, b85, b80, b81) dX3_read_82 rfl trivial (hP.sub [0, 1, 2, 3, 4, 5] rfl) (hD.sub [0, 1, 2, 3, 4, 5] (by decide) rfl) hS
    | succ n ih_24 =>
      intro i b80 b81 b82 b83 b84 b85 hni hib H locs hP hD hS ls hl
      have hni_24 := hni
      refine lv_iload_n hx hb dX3_read_24 rfl (lv_at hl 2 rfl) ?_
      refine lv_iload_n hx hb dX3_read_25 rfl (lv_at hl 1 rfl) ?_
      refine lv_icmp_ge (tgt := 58) hx hb dX3_read_26 (by decide) (fun c_26 => ?_) (fun c_26 => ?_)
      · refine lv_aload_n hx hb dX3_read_58 rfl (lv_at hl 0 rfl) ?_
        refine va_get (D := D) (ci := 3) (v := .ref tx) (C := RX3) (T := TX3) (N := 5) hx hb htb itX3 hown hK hP 0 rfl rfl 0 (by decide) (htb _ k_321) (fun _ h9 => h9) rfl dX3_read_59 ?_
        refine cVR (As := []) (rest := []) (n := 0) (ci := 6) (q0 := 0) X hN hK hP (c_X6_isRight l D cI cB tx tp h0_1o_2 b84 b85) (gV k_728 k_658 k_659 k_98 k_660) (by decide +kernel) ⟨Nat.le_of_ble_eq_true rfl, Nat.le_of_ble_eq_true rfl⟩ ⟨rfl, rfl⟩ [1] rfl rfl rfl rfl rfl rfl hl.1 (Nat.le_of_ble_eq_true rfl) dX3_read_62 ⟨Nat.le_of_ble_eq_true rfl, Nat.le_of_ble_eq_true rfl⟩ (fun r_15 hr_15 => ?_)
        subst hr_15
        refine lv_if_eq (tgt := 75) hx hb dX3_read_65 (by decide) (fun c_65 => ?_) (fun c_65 => ?_)
        · refine lv_aload_n hx hb dX3_read_75 rfl (lv_at hl 0 rfl) ?_
          refine va_get (D := D) (ci := 3) (v := .ref tx) (C := RX3) (T := TX3) (N := 5) hx hb htb itX3 hown hK hP 0 rfl rfl 0 (by decide) (htb _ k_321) (fun _ h9 => h9) rfl dX3_read_76 ?_
          refine va_getN (D := D) (ci := 6) (v := .int b85) (C := RX6) (T := TX6) (N := 4) hx hb htb itX6 hown hK hP 1 rfl rfl 3 (by decide) (va_Nw.use rfl (hN _ n_269 rfl)) (fun _ h9 => h9) rfl dX3_read_79 ?_
          exact ret _ _ _ _ b85 (b82, b83, h0_1o_2, b84, b85, b80, b81) dX3_read_82 rfl trivial (hP.sub [0, 1, 2, 3, 4, 5] rfl) (hD.sub [0, 1, 2, 3, 4, 5] (by decide) rfl) hS
        · refine lv_aload_n hx hb dX3_read_68 rfl (lv_at hl 0 rfl) ?_
          refine va_get (D := D) (ci := 3) (v := .int b83) (C := RX3) (T := TX3) (N := 5) hx hb htb itX3 hown hK hP 0 rfl rfl 4 (by decide) (htb _ k_325) (fun _ h9 => h9) rfl dX3_read_69 ?_
          refine lv_goto (tgt := 82) hx hb dX3_read_72 (by decide) ?_
          exact ret _ _ _ _ b83 (b82, b83, h0_1o_2, b84, b85, b80, b81) dX3_read_82 rfl trivial (hP.sub [0, 1, 2, 3, 4, 5] rfl) (hD.sub [0, 1, 2, 3, 4, 5] (by decide) rfl) hS
      · refine lv_aload_n hx hb dX3_read_29 rfl (lv_at hl 0 rfl) ?_
        refine va_get (D := D) (ci := 3) (v := .ref tx) (C := RX3) (T := TX3) (N := 5) hx hb htb itX3 hown hK hP 0 rfl rfl 0 (by decide) (htb _ k_321) (fun _ h9 => h9) rfl dX3_read_30 ?_
        refine cVR (As := []) (rest := []) (n := 0) (ci := 6) (q0 := 0) X hN hK hP (c_X6_goesOn l D cI cB tx tp h0_1o_2 b84 b85) (gV k_727 k_654 k_655 k_98 k_656) (by decide +kernel) ⟨Nat.le_of_ble_eq_true rfl, Nat.le_of_ble_eq_true rfl⟩ ⟨rfl, rfl⟩ [1] rfl rfl rfl rfl rfl rfl hl.1 (Nat.le_of_ble_eq_true rfl) dX3_read_33 ⟨Nat.le_of_ble_eq_true rfl, Nat.le_of_ble_eq_true rfl⟩ (fun r_16 hr_16 => ?_)
        subst hr_16
        refine lv_if_eq (tgt := 58) hx hb dX3_read_36 (by decide) (fun c_36 => ?_) (fun c_36 => ?_)
        · refine lv_aload_n hx hb dX3_read_58 rfl (lv_at hl 0 rfl) ?_
          refine va_get (D := D) (ci := 3) (v := .ref tx) (C := RX3) (T := TX3) (N := 5) hx hb htb itX3 hown hK hP 0 rfl rfl 0 (by decide) (htb _ k_321) (fun _ h9 => h9) rfl dX3_read_59 ?_
          refine cVR (As := []) (rest := []) (n := 0) (ci := 6) (q0 := 0) X hN hK hP (c_X6_isRight l D cI cB tx tp h0_1o_2 b84 b85) (gV k_728 k_658 k_659 k_98 k_660) (by decide +kernel) ⟨Nat.le_of_ble_eq_true rfl, Nat.le_of_ble_eq_true rfl⟩ ⟨rfl, rfl⟩ [1] rfl rfl rfl rfl rfl rfl hl.1 (Nat.le_of_ble_eq_true rfl) dX3_read_62 ⟨Nat.le_of_ble_eq_true rfl, Nat.le_of_ble_eq_true rfl⟩ (fun r_17 hr_17 => ?_)
          subst hr_17
          refine lv_if_eq (tgt := 75) hx hb dX3_read_65 (by decide) (fun c_65 => ?_) (fun c_65 => ?_)
          · refine lv_aload_n hx hb dX3_read_75 rfl (lv_at hl 0 rfl) ?_
            refine va_get (D := D) (ci := 3) (v := .ref tx) (C := RX3) (T := TX3) (N := 5) hx hb htb itX3 hown hK hP 0 rfl rfl 0 (by decide) (htb _ k_321) (fun _ h9 => h9) rfl dX3_read_76 ?_
            refine va_getN (D := D) (ci := 6) (v := .int b85) (C := RX6) (T := TX6) (N := 4) hx hb htb itX6 hown hK hP 1 rfl rfl 3 (by decide) (va_Nw.use rfl (hN _ n_269 rfl)) (fun _ h9 => h9) rfl dX3_read_79 ?_
            exact ret _ _ _ _ b85 (b82, b83, h0_1o_2, b84, b85, b80, b81) dX3_read_82 rfl trivial (hP.sub [0, 1, 2, 3, 4, 5] rfl) (hD.sub [0, 1, 2, 3, 4, 5] (by decide) rfl) hS
          · refine lv_aload_n hx hb dX3_read_68 rfl (lv_at hl 0 rfl) ?_
            refine va_get (D := D) (ci := 3) (v := .int b83) (C := RX3) (T := TX3) (N := 5) hx hb htb itX3 hown hK hP 0 rfl rfl 4 (by decide) (htb _ k_325) (fun _ h9 => h9) rfl dX3_read_69 ?_
            refine lv_goto (tgt := 82) hx hb dX3_read_72 (by decide) ?_
            exact ret _ _ _ _ b83 (b82, b83, h0_1o_2, b84, b85, b80, b81) dX3_read_82 rfl trivial (hP.sub [0, 1, 2, 3, 4, 5] rfl) (hD.sub [0, 1, 2, 3, 4, 5] (by decide) rfl) hS
        · refine lv_aload_n hx hb dX3_read_39 rfl (lv_at hl 0 rfl) ?_
          refine va_get (D := D) (ci := 3) (v := .ref tx) (C := RX3) (T := TX3) (N := 5) hx hb htb itX3 hown hK hP 0 rfl rfl 0 (by decide) (htb _ k_321) (fun _ h9 => h9) rfl dX3_read_40 ?_
          refine lv_bipush (v := 44) hx hb dX3_read_43 (by decide) ?_
          refine cVV (As := [.int 44]) (rest := []) (n := 1) (ci := 6) (q0 := 0) (wr := [(h0, .inr (3, [.ref tx, .ref lf_, .ref ll_, .int b82, .int b83])), (lf_, .inl (cI, 10, .inl b80)), (ll_, .inl (cI, 10, .inl b81))]) X hN hK hP hD hS hA (c_X6_expect l D cI cB _ tx tp h0_1o_2 b84 b85 by_ T fb 44 hT) (gV k_726 k_603 k_604 k_98 k_605) (by decide +kernel) ⟨Nat.le_of_ble_eq_true rfl, Nat.le_of_ble_eq_true rfl⟩ ⟨rfl, rfl⟩ [1, 2, 3] [0, 4, 5] rfl rfl (by decide) (by decide) rfl rfl rfl rfl rfl hl.1 (Nat.le_of_ble_eq_true rfl) dX3_read_45 ⟨Nat.le_of_ble_eq_true rfl, Nat.le_of_ble_eq_true rfl⟩ (fun u H locs hw_21 hP hD hS => ?_)
          obtain ⟨h0_2o_19, h0_3o_20⟩ := u
          try dsimp only at hw_21
          have hP : va_P D vwCl [(h0, .inr (3, [.ref tx, .ref lf_, .ref ll_, .int b82, .int b83])), (lf_, .inl (cI, 10, .inl b80)), (ll_, .inl (cI, 10, .inl b81)), (tx, .inr (6, [.ref tp, .int h0_1o_2, .int h0_2o_19, .int h0_3o_20])), (tp, .inr (5, [.ref by_, .int (nI T)])), (by_, .inl (cI, 260, .inl fb))] H := hP
          have hD : va_D A [(h0, .inr (3, [.ref tx, .ref lf_, .ref ll_, .int b82, .int b83])), (lf_, .inl (cI, 10, .inl b80)), (ll_, .inl (cI, 10, .inl b81)), (tx, .inr (6, [.ref tp, .int h0_1o_2, .int h0_2o_19, .int h0_3o_20])), (tp, .inr (5, [.ref by_, .int (nI T)])), (by_, .inl (cI, 260, .inl fb))] := hD
          refine lv_aload_n hx hb dX3_read_48 rfl (lv_at hl 0 rfl) ?_
          refine cVV (As := []) (rest := []) (n := 0) (ci := 3) (q0 := 0) (wr := []) X hN hK hP hD hS hA (c_X3_readLine l D cI cB _ h0 lf_ ll_ b82 b83 tx tp h0_1o_2 h0_2o_19 h0_3o_20 by_ T fb b80 b81 hT) (gV k_714 k_716 k_13 k_101 k_717) (by decide +kernel) ⟨Nat.le_of_ble_eq_true rfl, Nat.le_of_ble_eq_true rfl⟩ ⟨rfl, rfl⟩ [0, 3, 4, 5, 1, 2] [] rfl rfl (by decide) (by decide) rfl rfl rfl rfl rfl hl.1 (Nat.le_of_ble_eq_true rfl) dX3_read_49 ⟨Nat.le_of_ble_eq_true rfl, Nat.le_of_ble_eq_true rfl⟩ (fun u H locs hw_29 hP hD hS => ?_)
          obtain ⟨h0_3o_23, h0_4o_24, tx_2o_25, tx_3o_26, lf__fo_27, ll__fo_28⟩ := u
          try dsimp only at hw_29
          have hP : va_P D vwCl [(h0, .inr (3, [.ref tx, .ref lf_, .ref ll_, .int h0_3o_23, .int h0_4o_24])), (tx, .inr (6, [.ref tp, .int h0_1o_2, .int tx_2o_25, .int tx_3o_26])), (tp, .inr (5, [.ref by_, .int (nI T)])), (by_, .inl (cI, 260, .inl fb)), (lf_, .inl (cI, 10, .inl lf__fo_27)), (ll_, .inl (cI, 10, .inl ll__fo_28))] H := hP
          have hD : va_D A [(h0, .inr (3, [.ref tx, .ref lf_, .ref ll_, .int h0_3o_23, .int h0_4o_24])), (tx, .inr (6, [.ref tp, .int h0_1o_2, .int tx_2o_25, .int tx_3o_26])), (tp, .inr (5, [.ref by_, .int (nI T)])), (by_, .inl (cI, 260, .inl fb)), (lf_, .inl (cI, 10, .inl lf__fo_27)), (ll_, .inl (cI, 10, .inl ll__fo_28))] := hD
          refine lv_iinc (v := (nI (i + 1))) (lv' := [(2, .int (nI (i + 1))), (0, .ref h0), (1, .int nn)]) hx hb dX3_read_52 hl (k := 2) rfl (nI_1 i) (by decide) rfl (fun ls hl => ?_)
          refine lv_goto (tgt := 24) hx hb dX3_read_55 (by decide) ?_
          exact ih_24 (i + 1) lf__fo_27 ll__fo_28 h0_3o_23 h0_4o_24 tx_2o_25 tx_3o_26 (by omega) (by have a0 := mt Int32.le_iff_toInt_le.mpr c_26; have a1 := mt Int32.toInt_inj.mp c_36; have a2 := Int32.toInt_lt nn; have a3 : (0 : Int32).toInt = 0 := (by decide); have a4 := nI_toInt (n := i) (by omega); omega) _ _ (hP.sub [0, 1, 2, 3, 4, 5] rfl) (hD.sub [0, 1, 2, 3, 4, 5] (by decide) rfl) hS _ (lv_sub hl [1, 2, 0] rfl)
  exact loop_24 nn.toNatClampNeg 0 lf__fo_11 ll__fo_12 h0_3o_7 h0_4o_8 tx_2o_9 tx_3o_10 (by omega) (by decide) _ _ (hP.sub [0, 1, 2, 3, 4, 5] rfl) (hD.sub [0, 1, 2, 3, 4, 5] (by decide) rfl) hS _ (lv_sub hl [1, 2, 0] rfl)

set_option maxRecDepth 100000 in
set_option maxHeartbeats 4000000 in
theorem c_X3_giveTo (l : Launch) (D : va_G) (cI cB : ClassId) (sz : Nat) (h0 : Nat) (tx : Nat) (lf_ : Nat) (ll_ : Nat) (sn : Int32) (ln : Int32) (st : Nat) (u1 : Nat) (f1 : Nat) (g1 : Nat) (ms : Int32) (dy : Int32) (dr : Int32) (flf : Nat → Int32) (fll : Nat → Int32) (ff : Nat → Int32) (fg : Nat → Int32)  : MV (S := ((Nat → Int32) × (Nat → Int32))) l D cI cB yX3_giveTo cX3_giveTo 3 (rm 2 43) [.ref h0, .ref st] [(h0, .inr (3, [.ref tx, .ref lf_, .ref ll_, .int sn, .int ln])), (lf_, .inl (cI, 10, .inl flf)), (ll_, .inl (cI, 10, .inl fll)), (st, .inr (4, [.ref u1, .ref f1, .ref g1, .int ms, .int dy, .int dr])), (f1, .inl (cI, 10, .inl ff)), (g1, .inl (cI, 10, .inl fg))] sz (fun u => True) (fun u : ((Nat → Int32) × (Nat → Int32)) => [(h0, .inr (3, [.ref tx, .ref lf_, .ref ll_, .int sn, .int ln])), (lf_, .inl (cI, 10, .inl flf)), (ll_, .inl (cI, 10, .inl fll)), (st, .inr (4, [.ref u1, .ref f1, .ref g1, .int ms, .int dy, .int dr])), (f1, .inl (cI, 10, .inl u.1)), (g1, .inl (cI, 10, .inl u.2))]) := by
  refine MV.of (by decide) (Nat.le_of_ble_eq_true rfl) ?_
  intro p e s m below meth c Q ls A X hin hN hP hK hD hA hl ret
  have hS : va_S A s.heap s.heap [] := va_S.rf
  obtain ⟨hx, hb, hml, hown, htb⟩ := id X
  have hl : lv_has ls 3 [(0, .ref h0), (1, .ref st)] := hl
  refine lv_aload_n hx hb dX3_giveTo_0 rfl (lv_at hl 1 rfl) ?_
  refine lv_sipush (v := 1023) hx hb dX3_giveTo_1 (by decide) ?_
  refine cVV (As := [.int 1023]) (rest := []) (n := 1) (ci := 4) (q0 := 0) (wr := [(h0, .inr (3, [.ref tx, .ref lf_, .ref ll_, .int sn, .int ln])), (lf_, .inl (cI, 10, .inl flf)), (ll_, .inl (cI, 10, .inl fll))]) X hN hK hP hD hS hA (c_X4_endLeaves l D cI cB _ st u1 f1 g1 ms dy dr 1023 ff fg) (gV k_733 k_734 k_735 k_95 k_736) (by decide +kernel) ⟨Nat.le_of_ble_eq_true rfl, Nat.le_of_ble_eq_true rfl⟩ ⟨rfl, rfl⟩ [3, 4, 5] [0, 1, 2] rfl rfl (by decide) (by decide) rfl rfl rfl rfl rfl hl.1 (Nat.le_of_ble_eq_true rfl) dX3_giveTo_4 ⟨Nat.le_of_ble_eq_true rfl, Nat.le_of_ble_eq_true rfl⟩ (fun u H locs hw_4 hP hD hS => ?_)
  obtain ⟨f1_fo_2, g1_fo_3⟩ := u
  try dsimp only at hw_4
  have hP : va_P D vwCl [(h0, .inr (3, [.ref tx, .ref lf_, .ref ll_, .int sn, .int ln])), (lf_, .inl (cI, 10, .inl flf)), (ll_, .inl (cI, 10, .inl fll)), (st, .inr (4, [.ref u1, .ref f1, .ref g1, .int ms, .int dy, .int dr])), (f1, .inl (cI, 10, .inl f1_fo_2)), (g1, .inl (cI, 10, .inl g1_fo_3))] H := hP
  have hD : va_D A [(h0, .inr (3, [.ref tx, .ref lf_, .ref ll_, .int sn, .int ln])), (lf_, .inl (cI, 10, .inl flf)), (ll_, .inl (cI, 10, .inl fll)), (st, .inr (4, [.ref u1, .ref f1, .ref g1, .int ms, .int dy, .int dr])), (f1, .inl (cI, 10, .inl f1_fo_2)), (g1, .inl (cI, 10, .inl g1_fo_3))] := hD
  refine lv_iconst (v := 0) hx hb dX3_giveTo_7 (by decide) ?_
  refine lv_istore_n (lv' := [(2, .int 0), (0, .ref h0), (1, .ref st)]) hx hb dX3_giveTo_8 rfl hl (by decide) rfl (fun ls hl => ?_)
  have loop_9 : ∀ (n i : Nat) (b90 : Nat → Int32) (b91 : Nat → Int32), n + i = 10 → ∀ (H : Heap) (locs : List Loc), va_P D vwCl [(h0, .inr (3, [.ref tx, .ref lf_, .ref ll_, .int sn, .int ln])), (lf_, .inl (cI, 10, .inl flf)), (ll_, .inl (cI, 10, .inl fll)), (st, .inr (4, [.ref u1, .ref f1, .ref g1, .int ms, .int dy, .int dr])), (f1, .inl (cI, 10, .inl b90)), (g1, .inl (cI, 10, .inl b91))] H → va_D A [(h0, .inr (3, [.ref tx, .ref lf_, .ref ll_, .int sn, .int ln])), (lf_, .inl (cI, 10, .inl flf)), (ll_, .inl (cI, 10, .inl fll)), (st, .inr (4, [.ref u1, .ref f1, .ref g1, .int ms, .int dy, .int dr])), (f1, .inl (cI, 10, .inl b90)), (g1, .inl (cI, 10, .inl b91))] → va_S A s.heap H locs → ∀ (ls : Array Slot), lv_has ls 3 [(0, .ref h0), (1, .ref st), (2, .int (nI i))] → W p l e (rm 2 43) s m ([.ref h0, .ref st] : List Value).toArray below meth c H locs 0 0 Q (F0 m 9 ls []) := by
    intro n
    induction n with
    | zero =>
      intro i b90 b91 hni H locs hP hD hS ls hl
      have hni_9 := hni
      have hi : i = 10 := by omega
      refine lv_iload_n hx hb dX3_giveTo_9 rfl (lv_at hl 2 rfl) ?_
      refine lv_bipush (v := 10) hx hb dX3_giveTo_10 (by decide) ?_
      refine lv_icmp_ge (tgt := 49) hx hb dX3_giveTo_12 (by decide) (fun _ => ?_) (fun c_12 => absurd (by rw [hi]; decide) c_12)
      exact ret _ _ _ _ (b90, b91) dX3_giveTo_49 trivial (hP.sub [0, 1, 2, 3, 4, 5] rfl) (hD.sub [0, 1, 2, 3, 4, 5] (by decide) rfl) hS
    | succ n ih_9 =>
      intro i b90 b91 hni H locs hP hD hS ls hl
      have hni_9 := hni
      have hi : i < 10 := by omega
      refine lv_iload_n hx hb dX3_giveTo_9 rfl (lv_at hl 2 rfl) ?_
      refine lv_bipush (v := 10) hx hb dX3_giveTo_10 (by decide) ?_
      refine lv_icmp_ge (tgt := 49) hx hb dX3_giveTo_12 (by decide) (fun c_12 => absurd c_12 (nI_ge hi (by decide))) (fun _ => ?_)
      refine lv_aload_n hx hb dX3_giveTo_15 rfl (lv_at hl 0 rfl) ?_
      refine va_get (D := D) (ci := 3) (v := .int sn) (C := RX3) (T := TX3) (N := 5) hx hb htb itX3 hown hK hP 0 rfl rfl 3 (by decide) (htb _ k_324) (fun _ h9 => h9) rfl dX3_giveTo_16 ?_
      refine lv_iload_n hx hb dX3_giveTo_19 rfl (lv_at hl 2 rfl) ?_
      refine cSNR (As := [.int sn, .int (nI i)]) (rest := []) (n := 2) X hN hK hP (c_X9_isIn l D cI cB sn (nI i)) n_720 k_696 k_92 k_697 (by decide +kernel) ⟨Nat.le_of_ble_eq_true rfl, Nat.le_of_ble_eq_true rfl⟩ ⟨rfl, rfl⟩ [] rfl rfl rfl hl.1 (Nat.le_of_ble_eq_true rfl) dX3_giveTo_20 ⟨Nat.le_of_ble_eq_true rfl, Nat.le_of_ble_eq_true rfl⟩ (fun r_5 hr_5 => ?_)
      refine lv_if_eq (tgt := 43) hx hb dX3_giveTo_23 (by decide) (fun c_23 => ?_) (fun c_23 => ?_)
      · refine lv_iinc (v := (nI (i + 1))) (lv' := [(2, .int (nI (i + 1))), (0, .ref h0), (1, .ref st)]) hx hb dX3_giveTo_43 hl (k := 2) rfl (nI_1 i) (by decide) rfl (fun ls hl => ?_)
        refine lv_goto (tgt := 9) hx hb dX3_giveTo_46 (by decide) ?_
        exact ih_9 (i + 1) b90 b91 (by omega) _ _ (hP.sub [0, 1, 2, 3, 4, 5] rfl) (hD.sub [0, 1, 2, 3, 4, 5] (by decide) rfl) hS _ (lv_sub hl [1, 2, 0] rfl)
      · refine lv_aload_n hx hb dX3_giveTo_26 rfl (lv_at hl 1 rfl) ?_
        refine lv_iload_n hx hb dX3_giveTo_27 rfl (lv_at hl 2 rfl) ?_
        refine lv_aload_n hx hb dX3_giveTo_28 rfl (lv_at hl 0 rfl) ?_
        refine va_get (D := D) (ci := 3) (v := .ref lf_) (C := RX3) (T := TX3) (N := 5) hx hb htb itX3 hown hK hP 0 rfl rfl 1 (by decide) (htb _ k_322) (fun _ h9 => h9) rfl dX3_giveTo_29 ?_
        refine lv_iload_n hx hb dX3_giveTo_32 rfl (lv_at hl 2 rfl) ?_
        refine va_iald hx hb hK hP 1 0 rfl rfl (by have a0 := mt Int32.toInt_inj.mp c_23; have a1 : (0 : Int32).toInt = 0 := (by decide); exact vp_in_nI (by omega) (by decide)) dX3_giveTo_33 ?_
        refine lv_aload_n hx hb dX3_giveTo_34 rfl (lv_at hl 0 rfl) ?_
        refine va_get (D := D) (ci := 3) (v := .ref ll_) (C := RX3) (T := TX3) (N := 5) hx hb htb itX3 hown hK hP 0 rfl rfl 2 (by decide) (htb _ k_323) (fun _ h9 => h9) rfl dX3_giveTo_35 ?_
        refine lv_iload_n hx hb dX3_giveTo_38 rfl (lv_at hl 2 rfl) ?_
        refine va_iald hx hb hK hP 2 0 rfl rfl (by have a0 := mt Int32.toInt_inj.mp c_23; have a1 : (0 : Int32).toInt = 0 := (by decide); exact vp_in_nI (by omega) (by decide)) dX3_giveTo_39 ?_
        refine cVV (As := [.int (nI i), .int (flf (Int32.toNatClampNeg (nI i))), .int (fll (Int32.toNatClampNeg (nI i)))]) (rest := []) (n := 3) (ci := 4) (q0 := 0) (wr := [(h0, .inr (3, [.ref tx, .ref lf_, .ref ll_, .int sn, .int ln])), (lf_, .inl (cI, 10, .inl flf)), (ll_, .inl (cI, 10, .inl fll))]) X hN hK hP hD hS hA (c_X4_giveLeave l D cI cB _ st u1 f1 g1 ms dy dr (nI i) (flf (Int32.toNatClampNeg (nI i))) (fll (Int32.toNatClampNeg (nI i))) b90 b91) (gV k_738 k_739 k_740 k_95 k_741) (by decide +kernel) ⟨Nat.le_of_ble_eq_true rfl, Nat.le_of_ble_eq_true rfl⟩ ⟨rfl, rfl⟩ [3, 4, 5] [0, 1, 2] rfl rfl (by decide) (by decide) rfl rfl rfl rfl rfl hl.1 (Nat.le_of_ble_eq_true rfl) dX3_giveTo_40 ⟨Nat.le_of_ble_eq_true rfl, Nat.le_of_ble_eq_true rfl⟩ (fun u H locs hw_9 hP hD hS => ?_)
        obtain ⟨f1_fo_7, g1_fo_8⟩ := u
        try dsimp only at hw_9
        have hP : va_P D vwCl [(h0, .inr (3, [.ref tx, .ref lf_, .ref ll_, .int sn, .int ln])), (lf_, .inl (cI, 10, .inl flf)), (ll_, .inl (cI, 10, .inl fll)), (st, .inr (4, [.ref u1, .ref f1, .ref g1, .int ms, .int dy, .int dr])), (f1, .inl (cI, 10, .inl f1_fo_7)), (g1, .inl (cI, 10, .inl g1_fo_8))] H := hP
        have hD : va_D A [(h0, .inr (3, [.ref tx, .ref lf_, .ref ll_, .int sn, .int ln])), (lf_, .inl (cI, 10, .inl flf)), (ll_, .inl (cI, 10, .inl fll)), (st, .inr (4, [.ref u1, .ref f1, .ref g1, .int ms, .int dy, .int dr])), (f1, .inl (cI, 10, .inl f1_fo_7)), (g1, .inl (cI, 10, .inl g1_fo_8))] := hD
        refine lv_iinc (v := (nI (i + 1))) (lv' := [(2, .int (nI (i + 1))), (0, .ref h0), (1, .ref st)]) hx hb dX3_giveTo_43 hl (k := 2) rfl (nI_1 i) (by decide) rfl (fun ls hl => ?_)
        refine lv_goto (tgt := 9) hx hb dX3_giveTo_46 (by decide) ?_
        exact ih_9 (i + 1) f1_fo_7 g1_fo_8 (by omega) _ _ (hP.sub [0, 1, 2, 3, 4, 5] rfl) (hD.sub [0, 1, 2, 3, 4, 5] (by decide) rfl) hS _ (lv_sub hl [1, 2, 0] rfl)
  exact loop_9 10 0 f1_fo_2 g1_fo_3 (by omega) _ _ (hP.sub [0, 1, 2, 3, 4, 5] rfl) (hD.sub [0, 1, 2, 3, 4, 5] (by decide) rfl) hS _ (lv_sub hl [1, 2, 0] rfl)
