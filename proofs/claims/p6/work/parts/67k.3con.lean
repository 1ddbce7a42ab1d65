set_option maxRecDepth 100000 in
set_option maxHeartbeats 4000000 in
theorem c_giveToD (l : Launch) (D : va_G) (cI cB : ClassId) (sz : Nat) (h0 : Nat) (tx : Nat) (rw : Nat) (rl : Nat) (ln : Int32) (tw : Nat) (pe : Int32) (ch : Int32) (rt : Int32) (t1 : Nat) (t2 : Nat) (t3 : Nat) (t4 : Nat) (frw : Nat → Int32) (frl : Nat → Int32) (ft3 : Nat → Int32) (ft4 : Nat → Int32) (hrg : RG frl) (hr4 : RG ft4) : MV (S := ((Nat → Int32) × (Nat → Int32))) l D cI cB yX0_giveTo cX0_giveTo 3 (rm 1 60) [.ref h0, .ref tw] [(h0, .inr (0, [.ref tx, .ref rw, .ref rl, .int ln])), (rw, .inl (cI, 120, .inl frw)), (rl, .inl (cI, 12, .inl frl)), (tw, .inr (7, [.int pe, .int ch, .int rt, .ref t1, .ref t2, .ref t3, .ref t4])), (t3, .inl (cI, 120, .inl ft3)), (t4, .inl (cI, 12, .inl ft4))] sz (fun u => RG u.2 ∧ DGV frw frl ft3 ft4 u.1 u.2) (fun u : ((Nat → Int32) × (Nat → Int32)) => [(h0, .inr (0, [.ref tx, .ref rw, .ref rl, .int ln])), (rw, .inl (cI, 120, .inl frw)), (rl, .inl (cI, 12, .inl frl)), (tw, .inr (7, [.int pe, .int ch, .int rt, .ref t1, .ref t2, .ref t3, .ref t4])), (t3, .inl (cI, 120, .inl u.1)), (t4, .inl (cI, 12, .inl u.2))]) := by
  refine MV.of (by decide) (Nat.le_of_ble_eq_true rfl) ?_
  intro p e s m below meth c Q ls A X hin hN hP hK hD hA hl ret
  have hS : va_S A s.heap s.heap [] := va_S.rf
  obtain ⟨hx, hb, hml, hown, htb⟩ := id X
  have hl : lv_has ls 3 [(0, .ref h0), (1, .ref tw)] := hl
  refine lv_iconst (v := 0) hx hb dX0_giveTo_0 (by decide) ?_
  refine lv_istore_n (lv' := [(2, .int 0), (0, .ref h0), (1, .ref tw)]) hx hb dX0_giveTo_1 rfl hl (by decide) rfl (fun ls hl => ?_)
  have loop_2 : ∀ (n i : Nat) (b70 : Nat → Int32) (b71 : Nat → Int32), n + i = 12 → (RG b71) → (DGI i frw frl ft3 ft4 b70 b71) → ∀ (H : Heap) (locs : List Loc), va_P D vwCl [(h0, .inr (0, [.ref tx, .ref rw, .ref rl, .int ln])), (rw, .inl (cI, 120, .inl frw)), (rl, .inl (cI, 12, .inl frl)), (tw, .inr (7, [.int pe, .int ch, .int rt, .ref t1, .ref t2, .ref t3, .ref t4])), (t3, .inl (cI, 120, .inl b70)), (t4, .inl (cI, 12, .inl b71))] H → va_D A [(h0, .inr (0, [.ref tx, .ref rw, .ref rl, .int ln])), (rw, .inl (cI, 120, .inl frw)), (rl, .inl (cI, 12, .inl frl)), (tw, .inr (7, [.int pe, .int ch, .int rt, .ref t1, .ref t2, .ref t3, .ref t4])), (t3, .inl (cI, 120, .inl b70)), (t4, .inl (cI, 12, .inl b71))] → va_S A s.heap H locs → ∀ (ls : Array Slot), lv_has ls 3 [(0, .ref h0), (1, .ref tw), (2, .int (nI i))] → W p l e (rm 1 60) s m ([.ref h0, .ref tw] : List Value).toArray below meth c H locs 0 0 Q (F0 m 2 ls []) := by
    intro n
    induction n with
    | zero =>
      intro i b70 b71 hni hq4 hgi H locs hP hD hS ls hl
      have hni_2 := hni
      have hi : i = 12 := by omega
      refine lv_iload_n hx hb dX0_giveTo_2 rfl (lv_at hl 2 rfl) ?_
      refine lv_bipush (v := 12) hx hb dX0_giveTo_3 (by decide) ?_
      refine lv_icmp_ge (tgt := 56) hx hb dX0_giveTo_5 (by decide) (fun _ => ?_) (fun c_5 => absurd (by rw [hi]; decide) c_5)
      exact ret _ _ _ _ (b70, b71) dX0_giveTo_56 (⟨hq4, by rw [hi] at hgi; exact hgi.all⟩) (hP.sub [0, 1, 2, 3, 4, 5] rfl) (hD.sub [0, 1, 2, 3, 4, 5] (by decide) rfl) hS
    | succ n ih_2 =>
      intro i b70 b71 hni hq4 hgi H locs hP hD hS ls hl
      have hni_2 := hni
      have hi : i < 12 := by omega
      refine lv_iload_n hx hb dX0_giveTo_2 rfl (lv_at hl 2 rfl) ?_
      refine lv_bipush (v := 12) hx hb dX0_giveTo_3 (by decide) ?_
      refine lv_icmp_ge (tgt := 56) hx hb dX0_giveTo_5 (by decide) (fun c_5 => absurd c_5 (nI_ge hi (by decide))) (fun _ => ?_)
      refine lv_aload_n hx hb dX0_giveTo_8 rfl (lv_at hl 0 rfl) ?_
      refine va_get (D := D) (ci := 0) (v := .ref rl) (C := RX0) (T := TX0) (N := 4) hx hb htb itX0 hown hK hP 0 rfl rfl 2 (by decide) (htb _ k_304) (fun _ h9 => h9) rfl dX0_giveTo_9 ?_
      refine lv_iload_n hx hb dX0_giveTo_12 rfl (lv_at hl 2 rfl) ?_
      refine va_iald hx hb hK hP 2 0 rfl rfl (vp_in_nI (by omega) (by decide)) dX0_giveTo_13 ?_
      refine lv_if_le (tgt := 50) hx hb dX0_giveTo_14 (by decide) (fun c_14 => ?_) (fun c_14 => ?_)
      · refine lv_iinc (v := (nI (i + 1))) (lv' := [(2, .int (nI (i + 1))), (0, .ref h0), (1, .ref tw)]) hx hb dX0_giveTo_50 hl (k := 2) rfl (nI_1 i) (by decide) rfl (fun ls hl => ?_)
        refine lv_goto (tgt := 2) hx hb dX0_giveTo_53 (by decide) ?_
        exact ih_2 (i + 1) b70 b71 (by omega) hq4 (hgi.no (by rw [nI_clamp (by omega)] at c_14; exact Int32.not_lt.mpr c_14)) _ _ (hP.sub [0, 1, 2, 3, 4, 5] rfl) (hD.sub [0, 1, 2, 3, 4, 5] (by decide) rfl) hS _ (lv_sub hl [1, 2, 0] rfl)
      · refine lv_aload_n hx hb dX0_giveTo_17 rfl (lv_at hl 0 rfl) ?_
        refine va_get (D := D) (ci := 0) (v := .ref rw) (C := RX0) (T := TX0) (N := 4) hx hb htb itX0 hown hK hP 0 rfl rfl 1 (by decide) (htb _ k_303) (fun _ h9 => h9) rfl dX0_giveTo_18 ?_
        refine lv_iload_n hx hb dX0_giveTo_21 rfl (lv_at hl 2 rfl) ?_
        refine lv_bipush (v := 10) hx hb dX0_giveTo_22 (by decide) ?_
        refine lv_imul hx hb dX0_giveTo_24 ?_
        refine tv (z := (nI (10 * i))) (m10 i) ?_
        refine lv_aload_n hx hb dX0_giveTo_25 rfl (lv_at hl 1 rfl) ?_
        refine va_getN (D := D) (ci := 7) (v := .ref t3) (C := RX7) (T := TX7) (N := 7) hx hb htb itX7 hown hK hP 3 rfl rfl 5 (by decide) (va_Nw.use rfl (hN _ n_158 rfl)) (fun _ h9 => h9) rfl dX0_giveTo_26 ?_
        refine lv_iload_n hx hb dX0_giveTo_29 rfl (lv_at hl 2 rfl) ?_
        refine lv_bipush (v := 10) hx hb dX0_giveTo_30 (by decide) ?_
        refine lv_imul hx hb dX0_giveTo_32 ?_
        refine tv (z := (nI (10 * i))) (m10 i) ?_
        refine lv_bipush (v := 10) hx hb dX0_giveTo_33 (by decide) ?_
        refine va_copyi (rest := []) hx hb (by rw [hml]; exact hl.1.symm) hown (htb _ k_704) (htb _ k_667) (htb _ k_666) (htb _ k_110) hK hP hD hS 1 4 0 0 rfl rfl rfl rfl rfl (nI_pos (by omega)) (nI_pos (by omega)) (by decide) (by rw [nI_clamp (by omega)]; show _ + 10 ≤ 120; omega) (by rw [nI_clamp (by omega)]; show _ + 10 ≤ 120; omega) (fun _ _ => rfl) (Nat.le_of_ble_eq_true rfl) (by decide) dX0_giveTo_35 (fun H locs hP hD hS => ?_)
        obtain ⟨f_1, ef_1⟩ : ∃ g : Nat → Int32, g = va_cpy frw b70 (Int32.toNatClampNeg (nI (10 * i))) (Int32.toNatClampNeg (nI (10 * i))) (Int32.toNatClampNeg 10) := ⟨_, rfl⟩
        rw [← ef_1] at hP hD
        have hP : va_P D vwCl [(h0, .inr (0, [.ref tx, .ref rw, .ref rl, .int ln])), (rw, .inl (cI, 120, .inl frw)), (rl, .inl (cI, 12, .inl frl)), (tw, .inr (7, [.int pe, .int ch, .int rt, .ref t1, .ref t2, .ref t3, .ref t4])), (t3, .inl (cI, 120, .inl f_1)), (t4, .inl (cI, 12, .inl b71))] H := hP
        have hD : va_D A [(h0, .inr (0, [.ref tx, .ref rw, .ref rl, .int ln])), (rw, .inl (cI, 120, .inl frw)), (rl, .inl (cI, 12, .inl frl)), (tw, .inr (7, [.int pe, .int ch, .int rt, .ref t1, .ref t2, .ref t3, .ref t4])), (t3, .inl (cI, 120, .inl f_1)), (t4, .inl (cI, 12, .inl b71))] := hD
        refine lv_aload_n hx hb dX0_giveTo_38 rfl (lv_at hl 1 rfl) ?_
        refine va_getN (D := D) (ci := 7) (v := .ref t4) (C := RX7) (T := TX7) (N := 7) hx hb htb itX7 hown hK hP 3 rfl rfl 6 (by decide) (va_Nw.use rfl (hN _ n_162 rfl)) (fun _ h9 => h9) rfl dX0_giveTo_39 ?_
        refine lv_iload_n hx hb dX0_giveTo_42 rfl (lv_at hl 2 rfl) ?_
        refine lv_aload_n hx hb dX0_giveTo_43 rfl (lv_at hl 0 rfl) ?_
        refine va_get (D := D) (ci := 0) (v := .ref rl) (C := RX0) (T := TX0) (N := 4) hx hb htb itX0 hown hK hP 0 rfl rfl 2 (by decide) (htb _ k_304) (fun _ h9 => h9) rfl dX0_giveTo_44 ?_
        refine lv_iload_n hx hb dX0_giveTo_47 rfl (lv_at hl 2 rfl) ?_
        refine va_iald hx hb hK hP 2 0 rfl rfl (by have a0 := mt Int32.le_iff_toInt_le.mpr c_14; have a1 : (0 : Int32).toInt = 0 := (by decide); exact vp_in_nI (by omega) (by decide)) dX0_giveTo_48 ?_
        refine lv_topi (fun x_2 ex_2 => ?_)
        refine va_iast hx hb hK hP hD hS 5 0 rfl rfl (by have a0 := mt Int32.le_iff_toInt_le.mpr c_14; have a1 : (0 : Int32).toInt = 0 := (by decide); exact vp_in_nI (by omega) (by decide)) dX0_giveTo_49 (fun H locs hP hD hS => ?_)
        obtain ⟨f_3, ef_3⟩ : ∃ g : Nat → Int32, g = upd b71 (Int32.toNatClampNeg (nI i)) x_2 := ⟨_, rfl⟩
        rw [← ef_3] at hP hD
        have hP : va_P D vwCl [(h0, .inr (0, [.ref tx, .ref rw, .ref rl, .int ln])), (rw, .inl (cI, 120, .inl frw)), (rl, .inl (cI, 12, .inl frl)), (tw, .inr (7, [.int pe, .int ch, .int rt, .ref t1, .ref t2, .ref t3, .ref t4])), (t3, .inl (cI, 120, .inl f_1)), (t4, .inl (cI, 12, .inl f_3))] H := hP
        have hD : va_D A [(h0, .inr (0, [.ref tx, .ref rw, .ref rl, .int ln])), (rw, .inl (cI, 120, .inl frw)), (rl, .inl (cI, 12, .inl frl)), (tw, .inr (7, [.int pe, .int ch, .int rt, .ref t1, .ref t2, .ref t3, .ref t4])), (t3, .inl (cI, 120, .inl f_1)), (t4, .inl (cI, 12, .inl f_3))] := hD
        refine lv_iinc (v := (nI (i + 1))) (lv' := [(2, .int (nI (i + 1))), (0, .ref h0), (1, .ref tw)]) hx hb dX0_giveTo_50 hl (k := 2) rfl (nI_1 i) (by decide) rfl (fun ls hl => ?_)
        refine lv_goto (tgt := 2) hx hb dX0_giveTo_53 (by decide) ?_
        exact ih_2 (i + 1) f_1 f_3 (by omega) (by rw [ef_3]; exact RG.upd _ hq4 (by rw [ex_2, nI_clamp (by omega)]; exact hrg i hi)) (hgi.yes (by rw [nI_clamp (by omega)] at c_14; exact Int32.not_le.mp c_14) (by rw [ef_1, nI_clamp (by omega)]; rfl) (by rw [ef_3, nI_clamp (by omega), ex_2, nI_clamp (by omega)])) _ _ (hP.sub [0, 1, 2, 3, 4, 5] rfl) (hD.sub [0, 1, 2, 3, 4, 5] (by decide) rfl) hS _ (lv_sub hl [1, 2, 0] rfl)
  exact loop_2 12 0 ft3 ft4 (by omega) hr4 (DGI.z _ _ _ _) _ _ (hP.sub [0, 1, 2, 3, 4, 5] rfl) (hD.sub [0, 1, 2, 3, 4, 5] (by decide) rfl) hS _ (lv_sub hl [1, 2, 0] rfl)

set_option maxRecDepth 100000 in
set_option maxHeartbeats 4000000 in
theorem c_doersX (l : Launch) (D : va_G) (cI cB : ClassId) (sz : Nat) (h0 : Nat) (tp : Nat) (tw : Nat) (nw : Nat) (kp : Nat) (lw : Nat) (lr : Nat) (dd : Nat) (vv : Nat) (tl : Nat) (sc : Nat) (hk : Int32) (by_ : Nat) (T : Nat) (fb : Nat → Int32) (tx : Nat) (ed : Int32) (pl : Int32) (fa : Int32) (rw : Nat) (rl : Nat) (ln : Int32) (frw : Nat → Int32) (frl : Nat → Int32) (pe : Int32) (ch : Int32) (rt : Int32) (t1 : Nat) (t2 : Nat) (t3 : Nat) (t4 : Nat) (ft3 : Nat → Int32) (ft4 : Nat → Int32) (x1 : Int32) (hT : T ≤ 260) (hr4 : RG ft4) : MI (S := ((Nat) × (Int32) × (Int32) × (Int32) × (Int32) × (Nat → Int32) × (Nat → Int32) × (Nat → Int32) × (Nat → Int32))) l D cI cB yX9_doers cX9_doers 3 .int (rm 5 111) [.ref h0, .int x1] [(h0, .inr (9, [.ref tp, .ref tw, .ref nw, .ref kp, .ref lw, .ref lr, .ref dd, .ref vv, .ref tl, .ref sc, .int hk])), (tp, .inr (5, [.ref by_, .int (nI T)])), (by_, .inl (cI, 260, .inl fb)), (tx, .inr (6, [.ref tp, .int ed, .int pl, .int fa])), (dd, .inr (0, [.ref tx, .ref rw, .ref rl, .int ln])), (rw, .inl (cI, 120, .inl frw)), (rl, .inl (cI, 12, .inl frl)), (tw, .inr (7, [.int pe, .int ch, .int rt, .ref t1, .ref t2, .ref t3, .ref t4])), (t3, .inl (cI, 120, .inl ft3)), (t4, .inl (cI, 12, .inl ft4))] sz (fun r u => (u.1 ≤ 260 ∧ (((1 ≤ x1 ∧ x1 ≤ 120) ∧ x1 ≤ nI T) → u.1 = 0) ∧ (¬ ((1 ≤ x1 ∧ x1 ≤ 120) ∧ x1 ≤ nI T) → u.1 = T ∧ r = (-1)) ∧ RG u.2.2.2.2.2.2.2.2) ∧ (((1 ≤ x1 ∧ x1 ≤ 120) ∧ x1 ≤ nI T) → ∃ N : Nat, x1 = nI N ∧ N ≤ T ∧ ((drTot (chF fb N) N frw = .inl r ∧ u.2.2.2.2.2.2.2.1 = ft3 ∧ u.2.2.2.2.2.2.2.2 = ft4) ∨ ∃ (k : Nat) (G M : Nat → Int32), drTot (chF fb N) N frw = .inr (k, G, M) ∧ r = nI k ∧ DGV G M ft3 ft4 u.2.2.2.2.2.2.2.1 u.2.2.2.2.2.2.2.2)) ∧ (¬ ((1 ≤ x1 ∧ x1 ≤ 120) ∧ x1 ≤ nI T) → u.2.2.2.2.2.2.2.1 = ft3 ∧ u.2.2.2.2.2.2.2.2 = ft4)) (fun u : ((Nat) × (Int32) × (Int32) × (Int32) × (Int32) × (Nat → Int32) × (Nat → Int32) × (Nat → Int32) × (Nat → Int32)) => [(h0, .inr (9, [.ref tp, .ref tw, .ref nw, .ref kp, .ref lw, .ref lr, .ref dd, .ref vv, .ref tl, .ref sc, .int hk])), (tp, .inr (5, [.ref by_, .int (nI u.1)])), (by_, .inl (cI, 260, .inl fb)), (tx, .inr (6, [.ref tp, .int u.2.1, .int u.2.2.1, .int u.2.2.2.1])), (dd, .inr (0, [.ref tx, .ref rw, .ref rl, .int u.2.2.2.2.1])), (rw, .inl (cI, 120, .inl u.2.2.2.2.2.1)), (rl, .inl (cI, 12, .inl u.2.2.2.2.2.2.1)), (tw, .inr (7, [.int pe, .int ch, .int rt, .ref t1, .ref t2, .ref t3, .ref t4])), (t3, .inl (cI, 120, .inl u.2.2.2.2.2.2.2.1)), (t4, .inl (cI, 12, .inl u.2.2.2.2.2.2.2.2))]) := by
  refine MI.of (by decide) (Nat.le_of_ble_eq_true rfl) ?_
  intro p e s m below meth c Q ls A X hin hN hP hK hD hA hl ret
  have hS : va_S A s.heap s.heap [] := va_S.rf
  obtain ⟨hx, hb, hml, hown, htb⟩ := id X
  have hl : lv_has ls 3 [(0, .ref h0), (1, .int x1)] := hl
  refine lv_aload_n hx hb dX9_doers_0 rfl (lv_at hl 0 rfl) ?_
  refine va_get (D := D) (ci := 9) (v := .ref tp) (C := RX9) (T := TX9) (N := 11) hx hb htb itX9 hown hK hP 0 rfl rfl 0 (by decide) (htb _ k_393) (fun _ h9 => h9) rfl dX9_doers_1 ?_
  refine lv_iload_n hx hb dX9_doers_4 rfl (lv_at hl 1 rfl) ?_
  refine lv_iconst (v := 1) hx hb dX9_doers_5 (by decide) ?_
  refine lv_bipush (v := 120) hx hb dX9_doers_6 (by decide) ?_
  refine cVR (As := [.int x1, .int 1, .int 120]) (rest := []) (n := 3) (ci := 5) (q0 := 0) X hN hK hP (c_X5_canGive l D cI cB tp by_ T x1 1 120) (gV k_458 k_459 k_460 k_93 k_461) (by decide +kernel) ⟨Nat.le_of_ble_eq_true rfl, Nat.le_of_ble_eq_true rfl⟩ ⟨rfl, rfl⟩ [1] rfl rfl rfl rfl rfl rfl hl.1 (Nat.le_of_ble_eq_true rfl) dX9_doers_8 ⟨Nat.le_of_ble_eq_true rfl, Nat.le_of_ble_eq_true rfl⟩ (fun r_1 hr_1 => ?_)
  subst hr_1
  refine lv_if_ne (tgt := 16) hx hb dX9_doers_11 (by decide) (fun c_11 => ?_) (fun c_11 => ?_)
  · obtain ⟨N, hN120, eN⟩ := dcN (k := 120) (by decide) (bIt c_11).1
    have hl : lv_has ls 3 [(0, .ref h0), (1, .int (nI N))] := by rw [← eN]; exact hl
    have hNT : N ≤ T := (nI_leI (by omega) (by omega)).mp (by rw [← eN]; exact (bIt c_11).2)
    have hN1 : 1 ≤ N := (nI_leI (a := 1) (by omega) (by omega)).mp (by rw [← eN]; exact (bIt c_11).1.1)
    refine lv_aload_n hx hb dX9_doers_16 rfl (lv_at hl 0 rfl) ?_
    refine va_get (D := D) (ci := 9) (v := .ref dd) (C := RX9) (T := TX9) (N := 11) hx hb htb itX9 hown hK hP 0 rfl rfl 6 (by decide) (htb _ k_399) (fun _ h9 => h9) rfl dX9_doers_17 ?_
    refine lv_iload_n hx hb dX9_doers_20 rfl (lv_at hl 1 rfl) ?_
    refine cVI (As := [.int (nI N)]) (rest := []) (n := 1) (ci := 0) (q0 := 0) (wr := [(h0, .inr (9, [.ref tp, .ref tw, .ref nw, .ref kp, .ref lw, .ref lr, .ref dd, .ref vv, .ref tl, .ref sc, .int hk])), (tw, .inr (7, [.int pe, .int ch, .int rt, .ref t1, .ref t2, .ref t3, .ref t4])), (t3, .inl (cI, 120, .inl ft3)), (t4, .inl (cI, 12, .inl ft4))]) X hN hK hP hD hS hA (c_readDo l D cI cB _ dd rw rl tx tp by_ T fb frw frl ed pl fa ln N hT hNT hN1) (gV k_673 k_674 k_675 k_100 k_676) (by decide +kernel) ⟨Nat.le_of_ble_eq_true rfl, Nat.le_of_ble_eq_true rfl⟩ ⟨rfl, rfl⟩ [4, 3, 1, 2, 5, 6] [0, 7, 8, 9] rfl rfl (by decide) (by decide) rfl rfl rfl rfl rfl hl.1 (Nat.le_of_ble_eq_true rfl) dX9_doers_21 ⟨Nat.le_of_ble_eq_true rfl, Nat.le_of_ble_eq_true rfl⟩ (fun r_2 u H locs hw_8 hP hD hS => ?_)
    obtain ⟨Po_3, fo_4, Ko_5, rwo_6, rlo_7⟩ := u
    try dsimp only at hw_8
    have hP : va_P D vwCl [(h0, .inr (9, [.ref tp, .ref tw, .ref nw, .ref kp, .ref lw, .ref lr, .ref dd, .ref vv, .ref tl, .ref sc, .int hk])), (tw, .inr (7, [.int pe, .int ch, .int rt, .ref t1, .ref t2, .ref t3, .ref t4])), (t3, .inl (cI, 120, .inl ft3)), (t4, .inl (cI, 12, .inl ft4)), (dd, .inr (0, [.ref tx, .ref rw, .ref rl, .int (nI Ko_5)])), (tx, .inr (6, [.ref tp, .int (nI N), .int (nI Po_3), .int fo_4])), (tp, .inr (5, [.ref by_, .int (nI T)])), (by_, .inl (cI, 260, .inl fb)), (rw, .inl (cI, 120, .inl rwo_6)), (rl, .inl (cI, 12, .inl rlo_7))] H := hP
    have hD : va_D A [(h0, .inr (9, [.ref tp, .ref tw, .ref nw, .ref kp, .ref lw, .ref lr, .ref dd, .ref vv, .ref tl, .ref sc, .int hk])), (tw, .inr (7, [.int pe, .int ch, .int rt, .ref t1, .ref t2, .ref t3, .ref t4])), (t3, .inl (cI, 120, .inl ft3)), (t4, .inl (cI, 12, .inl ft4)), (dd, .inr (0, [.ref tx, .ref rw, .ref rl, .int (nI Ko_5)])), (tx, .inr (6, [.ref tp, .int (nI N), .int (nI Po_3), .int fo_4])), (tp, .inr (5, [.ref by_, .int (nI T)])), (by_, .inl (cI, 260, .inl fb)), (rw, .inl (cI, 120, .inl rwo_6)), (rl, .inl (cI, 12, .inl rlo_7))] := hD
    refine lv_istore_n (lv' := [(2, .int r_2), (0, .ref h0), (1, .int (nI N))]) hx hb dX9_doers_24 rfl hl (by decide) rfl (fun ls hl => ?_)
    refine lv_iload_n hx hb dX9_doers_25 rfl (lv_at hl 0 rfl) ?_
    refine lv_if_le (tgt := 40) hx hb dX9_doers_26 (by decide) (fun c_26 => ?_) (fun c_26 => ?_)
    · refine lv_aload_n hx hb dX9_doers_40 rfl (lv_at hl 1 rfl) ?_
      refine va_get (D := D) (ci := 9) (v := .ref tp) (C := RX9) (T := TX9) (N := 11) hx hb htb itX9 hown hK hP 0 rfl rfl 0 (by decide) (htb _ k_393) (fun _ h9 => h9) rfl dX9_doers_41 ?_
      refine lv_iconst (v := 0) hx hb dX9_doers_44 (by decide) ?_
      refine va_putN (D := D) (ci := 5) (v := .int 0) (ty := .int) (C := RX5) (T := TX5) (N := 2) hx hb htb itX5 tyX5 tyX5_ok nmX5 hown hK hP hD hS 6 rfl rfl 1 (by decide) (va_Nw.use rfl (hN _ n_130 rfl)) (fun _ h9 => h9) rfl (tyX5_ok 1 (by decide)) rfl rfl (Nat.le_of_ble_eq_true rfl) dX9_doers_45 (fun H locs hP hD hS => ?_)
      have hP : va_P D vwCl [(h0, .inr (9, [.ref tp, .ref tw, .ref nw, .ref kp, .ref lw, .ref lr, .ref dd, .ref vv, .ref tl, .ref sc, .int hk])), (tw, .inr (7, [.int pe, .int ch, .int rt, .ref t1, .ref t2, .ref t3, .ref t4])), (t3, .inl (cI, 120, .inl ft3)), (t4, .inl (cI, 12, .inl ft4)), (dd, .inr (0, [.ref tx, .ref rw, .ref rl, .int (nI Ko_5)])), (tx, .inr (6, [.ref tp, .int (nI N), .int (nI Po_3), .int fo_4])), (tp, .inr (5, [.ref by_, .int 0])), (by_, .inl (cI, 260, .inl fb)), (rw, .inl (cI, 120, .inl rwo_6)), (rl, .inl (cI, 12, .inl rlo_7))] H := hP
      have hD : va_D A [(h0, .inr (9, [.ref tp, .ref tw, .ref nw, .ref kp, .ref lw, .ref lr, .ref dd, .ref vv, .ref tl, .ref sc, .int hk])), (tw, .inr (7, [.int pe, .int ch, .int rt, .ref t1, .ref t2, .ref t3, .ref t4])), (t3, .inl (cI, 120, .inl ft3)), (t4, .inl (cI, 12, .inl ft4)), (dd, .inr (0, [.ref tx, .ref rw, .ref rl, .int (nI Ko_5)])), (tx, .inr (6, [.ref tp, .int (nI N), .int (nI Po_3), .int fo_4])), (tp, .inr (5, [.ref by_, .int 0])), (by_, .inl (cI, 260, .inl fb)), (rw, .inl (cI, 120, .inl rwo_6)), (rl, .inl (cI, 12, .inl rlo_7))] := hD
      refine lv_iload_n hx hb dX9_doers_48 rfl (lv_at hl 0 rfl) ?_
      exact ret _ _ _ _ r_2 (0, (nI N), (nI Po_3), fo_4, (nI Ko_5), rwo_6, rlo_7, ft3, ft4) dX9_doers_49 rfl (⟨⟨Nat.zero_le _, fun _ => rfl, fun h => absurd (bIt c_11) h, hr4⟩, fun _ => ⟨N, eN, hNT, Or.inl ((hw_8.1).elim (fun z => ⟨z.1, rfl, rfl⟩) (fun z => absurd c_26 (Int32.not_le.mpr z.2.2)))⟩, fun h => absurd (bIt c_11) h⟩) (hP.sub [0, 6, 7, 5, 4, 8, 9, 1, 2, 3] rfl) (hD.sub [0, 6, 7, 5, 4, 8, 9, 1, 2, 3] (by decide) rfl) hS
    · have hok := (hw_8.1).resolve_left (fun z => c_26 (Int32.le_of_lt z.2))
      refine lv_aload_n hx hb dX9_doers_29 rfl (lv_at hl 1 rfl) ?_
      refine va_get (D := D) (ci := 9) (v := .ref dd) (C := RX9) (T := TX9) (N := 11) hx hb htb itX9 hown hK hP 0 rfl rfl 6 (by decide) (htb _ k_399) (fun _ h9 => h9) rfl dX9_doers_30 ?_
      refine lv_aload_n hx hb dX9_doers_33 rfl (lv_at hl 1 rfl) ?_
      refine va_get (D := D) (ci := 9) (v := .ref tw) (C := RX9) (T := TX9) (N := 11) hx hb htb itX9 hown hK hP 0 rfl rfl 1 (by decide) (htb _ k_394) (fun _ h9 => h9) rfl dX9_doers_34 ?_
      refine cVV (As := [.ref tw]) (rest := []) (n := 1) (ci := 0) (q0 := 0) (wr := [(h0, .inr (9, [.ref tp, .ref tw, .ref nw, .ref kp, .ref lw, .ref lr, .ref dd, .ref vv, .ref tl, .ref sc, .int hk])), (tx, .inr (6, [.ref tp, .int (nI N), .int (nI Po_3), .int fo_4])), (tp, .inr (5, [.ref by_, .int (nI T)])), (by_, .inl (cI, 260, .inl fb))]) X hN hK hP hD hS hA (c_giveToD l D cI cB _ dd tx rw rl (nI Ko_5) tw pe ch rt t1 t2 t3 t4 rwo_6 rlo_7 ft3 ft4 hw_8.2 hr4) (gV k_700 k_701 k_702 k_100 k_703) (by decide +kernel) ⟨Nat.le_of_ble_eq_true rfl, Nat.le_of_ble_eq_true rfl⟩ ⟨rfl, rfl⟩ [4, 8, 9, 1, 2, 3] [0, 5, 6, 7] rfl rfl (by decide) (by decide) rfl rfl rfl rfl rfl hl.1 (Nat.le_of_ble_eq_true rfl) dX9_doers_37 ⟨Nat.le_of_ble_eq_true rfl, Nat.le_of_ble_eq_true rfl⟩ (fun u H locs hw_12 hP hD hS => ?_)
      obtain ⟨t3_fo_10, t4_fo_11⟩ := u
      try dsimp only at hw_12
      have hP : va_P D vwCl [(h0, .inr (9, [.ref tp, .ref tw, .ref nw, .ref kp, .ref lw, .ref lr, .ref dd, .ref vv, .ref tl, .ref sc, .int hk])), (tx, .inr (6, [.ref tp, .int (nI N), .int (nI Po_3), .int fo_4])), (tp, .inr (5, [.ref by_, .int (nI T)])), (by_, .inl (cI, 260, .inl fb)), (dd, .inr (0, [.ref tx, .ref rw, .ref rl, .int (nI Ko_5)])), (rw, .inl (cI, 120, .inl rwo_6)), (rl, .inl (cI, 12, .inl rlo_7)), (tw, .inr (7, [.int pe, .int ch, .int rt, .ref t1, .ref t2, .ref t3, .ref t4])), (t3, .inl (cI, 120, .inl t3_fo_10)), (t4, .inl (cI, 12, .inl t4_fo_11))] H := hP
      have hD : va_D A [(h0, .inr (9, [.ref tp, .ref tw, .ref nw, .ref kp, .ref lw, .ref lr, .ref dd, .ref vv, .ref tl, .ref sc, .int hk])), (tx, .inr (6, [.ref tp, .int (nI N), .int (nI Po_3), .int fo_4])), (tp, .inr (5, [.ref by_, .int (nI T)])), (by_, .inl (cI, 260, .inl fb)), (dd, .inr (0, [.ref tx, .ref rw, .ref rl, .int (nI Ko_5)])), (rw, .inl (cI, 120, .inl rwo_6)), (rl, .inl (cI, 12, .inl rlo_7)), (tw, .inr (7, [.int pe, .int ch, .int rt, .ref t1, .ref t2, .ref t3, .ref t4])), (t3, .inl (cI, 120, .inl t3_fo_10)), (t4, .inl (cI, 12, .inl t4_fo_11))] := hD
      refine lv_aload_n hx hb dX9_doers_40 rfl (lv_at hl 1 rfl) ?_
      refine va_get (D := D) (ci := 9) (v := .ref tp) (C := RX9) (T := TX9) (N := 11) hx hb htb itX9 hown hK hP 0 rfl rfl 0 (by decide) (htb _ k_393) (fun _ h9 => h9) rfl dX9_doers_41 ?_
      refine lv_iconst (v := 0) hx hb dX9_doers_44 (by decide) ?_
      refine va_putN (D := D) (ci := 5) (v := .int 0) (ty := .int) (C := RX5) (T := TX5) (N := 2) hx hb htb itX5 tyX5 tyX5_ok nmX5 hown hK hP hD hS 2 rfl rfl 1 (by decide) (va_Nw.use rfl (hN _ n_130 rfl)) (fun _ h9 => h9) rfl (tyX5_ok 1 (by decide)) rfl rfl (Nat.le_of_ble_eq_true rfl) dX9_doers_45 (fun H locs hP hD hS => ?_)
      have hP : va_P D vwCl [(h0, .inr (9, [.ref tp, .ref tw, .ref nw, .ref kp, .ref lw, .ref lr, .ref dd, .ref vv, .ref tl, .ref sc, .int hk])), (tx, .inr (6, [.ref tp, .int (nI N), .int (nI Po_3), .int fo_4])), (tp, .inr (5, [.ref by_, .int 0])), (by_, .inl (cI, 260, .inl fb)), (dd, .inr (0, [.ref tx, .ref rw, .ref rl, .int (nI Ko_5)])), (rw, .inl (cI, 120, .inl rwo_6)), (rl, .inl (cI, 12, .inl rlo_7)), (tw, .inr (7, [.int pe, .int ch, .int rt, .ref t1, .ref t2, .ref t3, .ref t4])), (t3, .inl (cI, 120, .inl t3_fo_10)), (t4, .inl (cI, 12, .inl t4_fo_11))] H := hP
      have hD : va_D A [(h0, .inr (9, [.ref tp, .ref tw, .ref nw, .ref kp, .ref lw, .ref lr, .ref dd, .ref vv, .ref tl, .ref sc, .int hk])), (tx, .inr (6, [.ref tp, .int (nI N), .int (nI Po_3), .int fo_4])), (tp, .inr (5, [.ref by_, .int 0])), (by_, .inl (cI, 260, .inl fb)), (dd, .inr (0, [.ref tx, .ref rw, .ref rl, .int (nI Ko_5)])), (rw, .inl (cI, 120, .inl rwo_6)), (rl, .inl (cI, 12, .inl rlo_7)), (tw, .inr (7, [.int pe, .int ch, .int rt, .ref t1, .ref t2, .ref t3, .ref t4])), (t3, .inl (cI, 120, .inl t3_fo_10)), (t4, .inl (cI, 12, .inl t4_fo_11))] := hD
      refine lv_iload_n hx hb dX9_doers_48 rfl (lv_at hl 0 rfl) ?_
      exact ret _ _ _ _ r_2 (0, (nI N), (nI Po_3), fo_4, (nI Ko_5), rwo_6, rlo_7, t3_fo_10, t4_fo_11) dX9_doers_49 rfl (⟨⟨Nat.zero_le _, fun _ => rfl, fun h => absurd (bIt c_11) h, hw_12.1⟩, fun _ => ⟨N, eN, hNT, Or.inr ⟨_, _, _, hok.1, hok.2.1, hw_12.2⟩⟩, fun h => absurd (bIt c_11) h⟩) (hP.sub [0, 2, 3, 1, 4, 5, 6, 7, 8, 9] rfl) (hD.sub [0, 2, 3, 1, 4, 5, 6, 7, 8, 9] (by decide) rfl) hS
  · refine lv_iconst (v := (-1)) hx hb dX9_doers_14 (by decide) ?_
    exact ret _ _ _ _ (-1) (T, ed, pl, fa, ln, frw, frl, ft3, ft4) dX9_doers_15 rfl (⟨⟨hT, fun h => absurd h (bIf c_11), fun _ => ⟨rfl, rfl⟩, hr4⟩, fun h => absurd h (bIf c_11), fun _ => ⟨rfl, rfl⟩⟩) (hP.sub [0, 1, 2, 3, 4, 5, 6, 7, 8, 9] rfl) (hD.sub [0, 1, 2, 3, 4, 5, 6, 7, 8, 9] (by decide) rfl) hS
