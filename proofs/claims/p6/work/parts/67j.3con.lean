set_option maxRecDepth 100000 in
set_option maxHeartbeats 4000000 in
theorem c_readRowP (l : Launch) (D : va_G) (cI cB : ClassId) (sz : Nat) (h0 : Nat) (rw : Nat) (rl : Nat) (K : Nat) (tx : Nat) (tp : Nat) (N : Nat) (P : Nat) (by_ : Nat) (T : Nat) (fb : Nat → Int32) (frw : Nat → Int32) (frl : Nat → Int32) (fa : Int32) (k : Nat) (hT : T ≤ 260) (hNT : N ≤ T) (hPN : P ≤ N) (hk9 : k < 12) (hfa : fa = 0 ∨ fa < 0) (hrg : RG frl) : MV (S := ((Nat) × (Int32) × (Nat → Int32) × (Nat → Int32))) l D cI cB yX0_readRow cX0_readRow 6 (rm 2 42) [.ref h0, .int (nI k)] [(h0, .inr (0, [.ref tx, .ref rw, .ref rl, .int (nI K)])), (tx, .inr (6, [.ref tp, .int (nI N), .int (nI P), .int fa])), (tp, .inr (5, [.ref by_, .int (nI T)])), (by_, .inl (cI, 260, .inl fb)), (rw, .inl (cI, 120, .inl frw)), (rl, .inl (cI, 12, .inl frl))] sz (fun u => (¬ fa = 0 → u.2.1 = fa) ∧ (fa = 0 → (u.2.1 = 0 ∧ drRow (chF fb N) 11 P 0 0 = .inr u.1 ∧ u.2.2.1 = rowG (chF fb N) P (10 * k) (u.1 - P) frw ∧ u.2.2.2 = upd frl k (nI (u.1 - P))) ∨ (u.2.1 < 0 ∧ drRow (chF fb N) 11 P 0 0 = .inl u.2.1)) ∧ P ≤ u.1 ∧ u.1 ≤ N ∧ RG u.2.2.2 ∧ (u.2.1 = 0 ∨ u.2.1 < 0)) (fun u : ((Nat) × (Int32) × (Nat → Int32) × (Nat → Int32)) => [(h0, .inr (0, [.ref tx, .ref rw, .ref rl, .int (nI K)])), (tx, .inr (6, [.ref tp, .int (nI N), .int (nI u.1), .int u.2.1])), (tp, .inr (5, [.ref by_, .int (nI T)])), (by_, .inl (cI, 260, .inl fb)), (rw, .inl (cI, 120, .inl u.2.2.1)), (rl, .inl (cI, 12, .inl u.2.2.2))]) := by
  refine MV.of (by decide) (Nat.le_of_ble_eq_true rfl) ?_
  intro p e s m below meth c Q ls A X hin hN hP hK hD hA hl ret
  have hS : va_S A s.heap s.heap [] := va_S.rf
  obtain ⟨hx, hb, hml, hown, htb⟩ := id X
  have hl : lv_has ls 6 [(0, .ref h0), (1, .int (nI k))] := hl
  refine lv_iconst (v := 0) hx hb dX0_readRow_0 (by decide) ?_
  refine lv_istore_n (lv' := [(2, .int 0), (0, .ref h0), (1, .int (nI k))]) hx hb dX0_readRow_1 rfl hl (by decide) rfl (fun ls hl => ?_)
  refine lv_iconst (v := 0) hx hb dX0_readRow_2 (by decide) ?_
  refine lv_istore_n (lv' := [(3, .int 0), (2, .int 0), (0, .ref h0), (1, .int (nI k))]) hx hb dX0_readRow_3 rfl hl (by decide) rfl (fun ls hl => ?_)
  refine lv_iconst (v := 0) hx hb dX0_readRow_4 (by decide) ?_
  refine lv_istore (lv' := [(4, .int 0), (3, .int 0), (2, .int 0), (0, .ref h0), (1, .int (nI k))]) hx hb dX0_readRow_5 hl (by decide) rfl (fun ls hl => ?_)
  have loop_7 : ∀ (n i : Nat) (sv : Int32) (t : Nat) (Pa : Nat) (fv : Int32) (rwv : Nat → Int32), n + i = 11 → (t ≤ 10) → (P ≤ Pa ∧ Pa ≤ N) → (fv = 0 ∨ fv < 0) → (fv = 0 → fa = 0 ∧ Pa = P + t ∧ t = i ∧ bS sv 10 = t ∧ rwv = rowG (chF fb N) P (10 * k) t frw ∧ drRow (chF fb N) 11 P 0 0 = drRow (chF fb N) n Pa t sv) → (¬ fv = 0 → fa = 0 → drRow (chF fb N) 11 P 0 0 = .inl fv) → (¬ fa = 0 → fv = fa) → ∀ (H : Heap) (locs : List Loc), va_P D vwCl [(h0, .inr (0, [.ref tx, .ref rw, .ref rl, .int (nI K)])), (tx, .inr (6, [.ref tp, .int (nI N), .int (nI Pa), .int fv])), (tp, .inr (5, [.ref by_, .int (nI T)])), (by_, .inl (cI, 260, .inl fb)), (rw, .inl (cI, 120, .inl rwv)), (rl, .inl (cI, 12, .inl frl))] H → va_D A [(h0, .inr (0, [.ref tx, .ref rw, .ref rl, .int (nI K)])), (tx, .inr (6, [.ref tp, .int (nI N), .int (nI Pa), .int fv])), (tp, .inr (5, [.ref by_, .int (nI T)])), (by_, .inl (cI, 260, .inl fb)), (rw, .inl (cI, 120, .inl rwv)), (rl, .inl (cI, 12, .inl frl))] → va_S A s.heap H locs → ∀ (ls : Array Slot), lv_has ls 6 [(0, .ref h0), (1, .int (nI k)), (2, .int sv), (3, .int (nI t)), (4, .int (nI i))] → W p l e (rm 2 42) s m ([.ref h0, .int (nI k)] : List Value).toArray below meth c H locs 0 0 Q (F0 m 7 ls []) := by
    intro n
    induction n with
    | zero =>
      intro i sv t Pa fv rwv hni ht hPa hfv hz hnz hfw H locs hP hD hS ls hl
      have hni_7 := hni
      have hi : i = 11 := by omega
      refine lv_iload hx hb dX0_readRow_7 (lv_at hl 4 rfl) ?_
      refine lv_bipush (v := 10) hx hb dX0_readRow_9 (by decide) ?_
      refine lv_icmp_gt (tgt := 110) hx hb dX0_readRow_11 (by decide) (fun _ => ?_) (fun c_11 => absurd (by rw [hi]; decide) c_11)
      refine lv_iload_n hx hb dX0_readRow_110 rfl (lv_at hl 3 rfl) ?_
      refine lv_if_ne (tgt := 129) hx hb dX0_readRow_111 (by decide) (fun c_111 => ?_) (fun c_111 => ?_)
      · refine lv_aload_n hx hb dX0_readRow_129 rfl (lv_at hl 0 rfl) ?_
        refine va_get (D := D) (ci := 0) (v := .ref rl) (C := RX0) (T := TX0) (N := 4) hx hb htb itX0 hown hK hP 0 rfl rfl 2 (by decide) (htb _ k_304) (fun _ h9 => h9) rfl dX0_readRow_130 ?_
        refine lv_iload_n hx hb dX0_readRow_133 rfl (lv_at hl 1 rfl) ?_
        refine lv_iload_n hx hb dX0_readRow_134 rfl (lv_at hl 3 rfl) ?_
        refine va_iast hx hb hK hP hD hS 5 0 rfl rfl (by have a0 := mt Int32.toInt_inj.mp c_111; have a1 : (0 : Int32).toInt = 0 := (by decide); have a2 := nI_toInt (n := t) (by omega); exact vp_in_nI (by omega) (by decide)) dX0_readRow_135 (fun H locs hP hD hS => ?_)
        obtain ⟨f_1, ef_1⟩ : ∃ g : Nat → Int32, g = upd frl (Int32.toNatClampNeg (nI k)) (nI t) := ⟨_, rfl⟩
        rw [← ef_1] at hP hD
        have hP : va_P D vwCl [(h0, .inr (0, [.ref tx, .ref rw, .ref rl, .int (nI K)])), (tx, .inr (6, [.ref tp, .int (nI N), .int (nI Pa), .int fv])), (tp, .inr (5, [.ref by_, .int (nI T)])), (by_, .inl (cI, 260, .inl fb)), (rw, .inl (cI, 120, .inl rwv)), (rl, .inl (cI, 12, .inl f_1))] H := hP
        have hD : va_D A [(h0, .inr (0, [.ref tx, .ref rw, .ref rl, .int (nI K)])), (tx, .inr (6, [.ref tp, .int (nI N), .int (nI Pa), .int fv])), (tp, .inr (5, [.ref by_, .int (nI T)])), (by_, .inl (cI, 260, .inl fb)), (rw, .inl (cI, 120, .inl rwv)), (rl, .inl (cI, 12, .inl f_1))] := hD
        exact ret _ _ _ _ (Pa, fv, rwv, f_1) dX0_readRow_136 (by exact ⟨hfw, fun w => (Classical.em (fv = 0)).elim (fun z => Or.inl (absurd (hz z) (fun w => by have := bS_b sv 10; have := w.2.2.2.1; have := w.2.2.1; omega))) (fun z => Or.inr ⟨hfv.resolve_left z, hnz z w⟩), by omega, by omega, by rw [ef_1]; exact RG.upd _ hrg (nI10 ht), hfv⟩) (hP.sub [0, 1, 2, 3, 4, 5] rfl) (hD.sub [0, 1, 2, 3, 4, 5] (by decide) rfl) hS
      · refine lv_aload_n hx hb dX0_readRow_114 rfl (lv_at hl 0 rfl) ?_
        refine va_get (D := D) (ci := 0) (v := .ref tx) (C := RX0) (T := TX0) (N := 4) hx hb htb itX0 hown hK hP 0 rfl rfl 0 (by decide) (htb _ k_302) (fun _ h9 => h9) rfl dX0_readRow_115 ?_
        refine lv_iconst (v := 1) hx hb dX0_readRow_118 (by decide) ?_
        refine lv_aload_n hx hb dX0_readRow_119 rfl (lv_at hl 0 rfl) ?_
        refine va_get (D := D) (ci := 0) (v := .ref tx) (C := RX0) (T := TX0) (N := 4) hx hb htb itX0 hown hK hP 0 rfl rfl 0 (by decide) (htb _ k_302) (fun _ h9 => h9) rfl dX0_readRow_120 ?_
        refine va_getN (D := D) (ci := 6) (v := .int (nI Pa)) (C := RX6) (T := TX6) (N := 4) hx hb htb itX6 hown hK hP 1 rfl rfl 2 (by decide) (va_Nw.use rfl (hN _ n_265 rfl)) (fun _ h9 => h9) rfl dX0_readRow_123 ?_
        refine cVV (As := [.int 1, .int (nI Pa)]) (rest := []) (n := 2) (ci := 6) (q0 := 0) (wr := [(h0, .inr (0, [.ref tx, .ref rw, .ref rl, .int (nI K)])), (tp, .inr (5, [.ref by_, .int (nI T)])), (by_, .inl (cI, 260, .inl fb)), (rw, .inl (cI, 120, .inl rwv)), (rl, .inl (cI, 12, .inl frl))]) X hN hK hP hD hS hA (c_failP l D cI cB _ tx tp (nI N) (nI Pa) fv 1 (nI Pa)) (gV k_684 k_574 k_575 k_98 k_576) (by decide +kernel) ⟨Nat.le_of_ble_eq_true rfl, Nat.le_of_ble_eq_true rfl⟩ ⟨rfl, rfl⟩ [1] [0, 2, 3, 4, 5] rfl rfl (by decide) (by decide) rfl rfl rfl rfl rfl hl.1 (Nat.le_of_ble_eq_true rfl) dX0_readRow_126 ⟨Nat.le_of_ble_eq_true rfl, Nat.le_of_ble_eq_true rfl⟩ (fun u H locs hw_4 hP hD hS => ?_)
        obtain ⟨h0_3o_3, rfl⟩ : ∃ z, z = u := ⟨_, rfl⟩
        try dsimp only at hw_4
        have hP : va_P D vwCl [(h0, .inr (0, [.ref tx, .ref rw, .ref rl, .int (nI K)])), (tp, .inr (5, [.ref by_, .int (nI T)])), (by_, .inl (cI, 260, .inl fb)), (rw, .inl (cI, 120, .inl rwv)), (rl, .inl (cI, 12, .inl frl)), (tx, .inr (6, [.ref tp, .int (nI N), .int (nI Pa), .int h0_3o_3]))] H := hP
        have hD : va_D A [(h0, .inr (0, [.ref tx, .ref rw, .ref rl, .int (nI K)])), (tp, .inr (5, [.ref by_, .int (nI T)])), (by_, .inl (cI, 260, .inl fb)), (rw, .inl (cI, 120, .inl rwv)), (rl, .inl (cI, 12, .inl frl)), (tx, .inr (6, [.ref tp, .int (nI N), .int (nI Pa), .int h0_3o_3]))] := hD
        refine lv_aload_n hx hb dX0_readRow_129 rfl (lv_at hl 0 rfl) ?_
        refine va_get (D := D) (ci := 0) (v := .ref rl) (C := RX0) (T := TX0) (N := 4) hx hb htb itX0 hown hK hP 0 rfl rfl 2 (by decide) (htb _ k_304) (fun _ h9 => h9) rfl dX0_readRow_130 ?_
        refine lv_iload_n hx hb dX0_readRow_133 rfl (lv_at hl 1 rfl) ?_
        refine lv_iload_n hx hb dX0_readRow_134 rfl (lv_at hl 3 rfl) ?_
        refine va_iast hx hb hK hP hD hS 4 0 rfl rfl (by have a0 := congrArg Int32.toInt c_111; have a1 : (0 : Int32).toInt = 0 := (by decide); have a2 := nI_toInt (n := t) (by omega); exact vp_in_nI (by omega) (by decide)) dX0_readRow_135 (fun H locs hP hD hS => ?_)
        obtain ⟨f_5, ef_5⟩ : ∃ g : Nat → Int32, g = upd frl (Int32.toNatClampNeg (nI k)) (nI t) := ⟨_, rfl⟩
        rw [← ef_5] at hP hD
        have hP : va_P D vwCl [(h0, .inr (0, [.ref tx, .ref rw, .ref rl, .int (nI K)])), (tp, .inr (5, [.ref by_, .int (nI T)])), (by_, .inl (cI, 260, .inl fb)), (rw, .inl (cI, 120, .inl rwv)), (rl, .inl (cI, 12, .inl f_5)), (tx, .inr (6, [.ref tp, .int (nI N), .int (nI Pa), .int h0_3o_3]))] H := hP
        have hD : va_D A [(h0, .inr (0, [.ref tx, .ref rw, .ref rl, .int (nI K)])), (tp, .inr (5, [.ref by_, .int (nI T)])), (by_, .inl (cI, 260, .inl fb)), (rw, .inl (cI, 120, .inl rwv)), (rl, .inl (cI, 12, .inl f_5)), (tx, .inr (6, [.ref tp, .int (nI N), .int (nI Pa), .int h0_3o_3]))] := hD
        exact ret _ _ _ _ (Pa, h0_3o_3, rwv, f_5) dX0_readRow_136 (by have hlt1 : h0_3o_3 < 0 := (by rw [hw_4]; exact flF_neg (k := 1) rfl (by decide) (by decide) (by omega) hfv); exact ⟨fun w => by rw [hw_4, hfw w]; exact flF_n w, fun w => (Classical.em (fv = 0)).elim (fun z => Or.inr ⟨hlt1, absurd (hz z) (fun w => by have := bS_b sv 10; have := w.2.2.2.1; have := w.2.2.1; omega)⟩) (fun z => Or.inr ⟨hlt1, by rw [hnz z w, hw_4, flF_n z]⟩), by omega, by omega, by rw [ef_5]; exact RG.upd _ hrg (nI10 ht), Or.inr hlt1⟩) (hP.sub [0, 5, 1, 2, 3, 4] rfl) (hD.sub [0, 5, 1, 2, 3, 4] (by decide) rfl) hS
    | succ n ih_7 =>
      intro i sv t Pa fv rwv hni ht hPa hfv hz hnz hfw H locs hP hD hS ls hl
      have hni_7 := hni
      have hi : i < 11 := by omega
      refine lv_iload hx hb dX0_readRow_7 (lv_at hl 4 rfl) ?_
      refine lv_bipush (v := 10) hx hb dX0_readRow_9 (by decide) ?_
      refine lv_icmp_gt (tgt := 110) hx hb dX0_readRow_11 (by decide) (fun c_11 => absurd c_11 (nI_nlt (a := 10) (by omega) (by decide))) (fun _ => ?_)
      refine lv_aload_n hx hb dX0_readRow_14 rfl (lv_at hl 0 rfl) ?_
      refine va_get (D := D) (ci := 0) (v := .ref tx) (C := RX0) (T := TX0) (N := 4) hx hb htb itX0 hown hK hP 0 rfl rfl 0 (by decide) (htb _ k_302) (fun _ h9 => h9) rfl dX0_readRow_15 ?_
      refine cVR (As := []) (rest := []) (n := 0) (ci := 6) (q0 := 0) X hN hK hP (c_personHereP l D cI cB tx tp N Pa fv by_ T fb hT hNT hPa.2) (gV k_691 k_692 k_693 k_98 k_694) (by decide +kernel) ⟨Nat.le_of_ble_eq_true rfl, Nat.le_of_ble_eq_true rfl⟩ ⟨rfl, rfl⟩ [1, 2, 3] rfl rfl rfl rfl rfl rfl hl.1 (Nat.le_of_ble_eq_true rfl) dX0_readRow_18 ⟨Nat.le_of_ble_eq_true rfl, Nat.le_of_ble_eq_true rfl⟩ (fun r_6 hr_6 => ?_)
      subst hr_6
      refine lv_iconst (v := (-1)) hx hb dX0_readRow_21 (by decide) ?_
      refine lv_icmp_eq (tgt := 110) hx hb dX0_readRow_22 (by decide) (fun c_22 => ?_) (fun c_22 => ?_)
      · refine lv_iload_n hx hb dX0_readRow_110 rfl (lv_at hl 3 rfl) ?_
        refine lv_if_ne (tgt := 129) hx hb dX0_readRow_111 (by decide) (fun c_111 => ?_) (fun c_111 => ?_)
        · refine lv_aload_n hx hb dX0_readRow_129 rfl (lv_at hl 0 rfl) ?_
          refine va_get (D := D) (ci := 0) (v := .ref rl) (C := RX0) (T := TX0) (N := 4) hx hb htb itX0 hown hK hP 0 rfl rfl 2 (by decide) (htb _ k_304) (fun _ h9 => h9) rfl dX0_readRow_130 ?_
          refine lv_iload_n hx hb dX0_readRow_133 rfl (lv_at hl 1 rfl) ?_
          refine lv_iload_n hx hb dX0_readRow_134 rfl (lv_at hl 3 rfl) ?_
          refine va_iast hx hb hK hP hD hS 5 0 rfl rfl (by have a0 := congrArg Int32.toInt c_22; have a1 := mt Int32.toInt_inj.mp c_111; have a2 : ((-1) : Int32).toInt = (-1) := (by decide); have a3 : (0 : Int32).toInt = 0 := (by decide); have a4 := nI_toInt (n := t) (by omega); exact vp_in_nI (by omega) (by decide)) dX0_readRow_135 (fun H locs hP hD hS => ?_)
          obtain ⟨f_7, ef_7⟩ : ∃ g : Nat → Int32, g = upd frl (Int32.toNatClampNeg (nI k)) (nI t) := ⟨_, rfl⟩
          rw [← ef_7] at hP hD
          have hP : va_P D vwCl [(h0, .inr (0, [.ref tx, .ref rw, .ref rl, .int (nI K)])), (tx, .inr (6, [.ref tp, .int (nI N), .int (nI Pa), .int fv])), (tp, .inr (5, [.ref by_, .int (nI T)])), (by_, .inl (cI, 260, .inl fb)), (rw, .inl (cI, 120, .inl rwv)), (rl, .inl (cI, 12, .inl f_7))] H := hP
          have hD : va_D A [(h0, .inr (0, [.ref tx, .ref rw, .ref rl, .int (nI K)])), (tx, .inr (6, [.ref tp, .int (nI N), .int (nI Pa), .int fv])), (tp, .inr (5, [.ref by_, .int (nI T)])), (by_, .inl (cI, 260, .inl fb)), (rw, .inl (cI, 120, .inl rwv)), (rl, .inl (cI, 12, .inl f_7))] := hD
          exact ret _ _ _ _ (Pa, fv, rwv, f_7) dX0_readRow_136 (by have hnl : fv = 0 → ¬ (97 ≤ chF fb N Pa ∧ chF fb N Pa ≤ 106) := (fun z => by have w := phZ c_22; rw [z, sQ0] at w; exact w); exact ⟨hfw, fun w => (Classical.em (fv = 0)).elim (fun z => Or.inl ⟨z, by rw [(hz z).2.2.2.2.2, drRow_e (hnl z) (fun y => c_111 (congrArg nI y : nI t = nI 0))], by have e := (hz z).2.1; have e2 := (hz z).2.2.2.2.1; show rwv = rowG (chF fb N) P (10 * k) (Pa - P) frw; rw [e2, show Pa - P = t by omega], by have e := (hz z).2.1; show f_7 = upd frl k (nI (Pa - P)); rw [ef_7, nI_clamp (by omega), show Pa - P = t by omega]⟩) (fun z => Or.inr ⟨hfv.resolve_left z, hnz z w⟩), by omega, by omega, by rw [ef_7]; exact RG.upd _ hrg (nI10 ht), hfv⟩) (hP.sub [0, 1, 2, 3, 4, 5] rfl) (hD.sub [0, 1, 2, 3, 4, 5] (by decide) rfl) hS
        · refine lv_aload_n hx hb dX0_readRow_114 rfl (lv_at hl 0 rfl) ?_
          refine va_get (D := D) (ci := 0) (v := .ref tx) (C := RX0) (T := TX0) (N := 4) hx hb htb itX0 hown hK hP 0 rfl rfl 0 (by decide) (htb _ k_302) (fun _ h9 => h9) rfl dX0_readRow_115 ?_
          refine lv_iconst (v := 1) hx hb dX0_readRow_118 (by decide) ?_
          refine lv_aload_n hx hb dX0_readRow_119 rfl (lv_at hl 0 rfl) ?_
          refine va_get (D := D) (ci := 0) (v := .ref tx) (C := RX0) (T := TX0) (N := 4) hx hb htb itX0 hown hK hP 0 rfl rfl 0 (by decide) (htb _ k_302) (fun _ h9 => h9) rfl dX0_readRow_120 ?_
          refine va_getN (D := D) (ci := 6) (v := .int (nI Pa)) (C := RX6) (T := TX6) (N := 4) hx hb htb itX6 hown hK hP 1 rfl rfl 2 (by decide) (va_Nw.use rfl (hN _ n_265 rfl)) (fun _ h9 => h9) rfl dX0_readRow_123 ?_
          refine cVV (As := [.int 1, .int (nI Pa)]) (rest := []) (n := 2) (ci := 6) (q0 := 0) (wr := [(h0, .inr (0, [.ref tx, .ref rw, .ref rl, .int (nI K)])), (tp, .inr (5, [.ref by_, .int (nI T)])), (by_, .inl (cI, 260, .inl fb)), (rw, .inl (cI, 120, .inl rwv)), (rl, .inl (cI, 12, .inl frl))]) X hN hK hP hD hS hA (c_failP l D cI cB _ tx tp (nI N) (nI Pa) fv 1 (nI Pa)) (gV k_684 k_574 k_575 k_98 k_576) (by decide +kernel) ⟨Nat.le_of_ble_eq_true rfl, Nat.le_of_ble_eq_true rfl⟩ ⟨rfl, rfl⟩ [1] [0, 2, 3, 4, 5] rfl rfl (by decide) (by decide) rfl rfl rfl rfl rfl hl.1 (Nat.le_of_ble_eq_true rfl) dX0_readRow_126 ⟨Nat.le_of_ble_eq_true rfl, Nat.le_of_ble_eq_true rfl⟩ (fun u H locs hw_10 hP hD hS => ?_)
          obtain ⟨h0_3o_9, rfl⟩ : ∃ z, z = u := ⟨_, rfl⟩
          try dsimp only at hw_10
          have hP : va_P D vwCl [(h0, .inr (0, [.ref tx, .ref rw, .ref rl, .int (nI K)])), (tp, .inr (5, [.ref by_, .int (nI T)])), (by_, .inl (cI, 260, .inl fb)), (rw, .inl (cI, 120, .inl rwv)), (rl, .inl (cI, 12, .inl frl)), (tx, .inr (6, [.ref tp, .int (nI N), .int (nI Pa), .int h0_3o_9]))] H := hP
          have hD : va_D A [(h0, .inr (0, [.ref tx, .ref rw, .ref rl, .int (nI K)])), (tp, .inr (5, [.ref by_, .int (nI T)])), (by_, .inl (cI, 260, .inl fb)), (rw, .inl (cI, 120, .inl rwv)), (rl, .inl (cI, 12, .inl frl)), (tx, .inr (6, [.ref tp, .int (nI N), .int (nI Pa), .int h0_3o_9]))] := hD
          refine lv_aload_n hx hb dX0_readRow_129 rfl (lv_at hl 0 rfl) ?_
          refine va_get (D := D) (ci := 0) (v := .ref rl) (C := RX0) (T := TX0) (N := 4) hx hb htb itX0 hown hK hP 0 rfl rfl 2 (by decide) (htb _ k_304) (fun _ h9 => h9) rfl dX0_readRow_130 ?_
          refine lv_iload_n hx hb dX0_readRow_133 rfl (lv_at hl 1 rfl) ?_
          refine lv_iload_n hx hb dX0_readRow_134 rfl (lv_at hl 3 rfl) ?_
          refine va_iast hx hb hK hP hD hS 4 0 rfl rfl (by have a0 := congrArg Int32.toInt c_22; have a1 := congrArg Int32.toInt c_111; have a2 : ((-1) : Int32).toInt = (-1) := (by decide); have a3 : (0 : Int32).toInt = 0 := (by decide); have a4 := nI_toInt (n := t) (by omega); exact vp_in_nI (by omega) (by decide)) dX0_readRow_135 (fun H locs hP hD hS => ?_)
          obtain ⟨f_11, ef_11⟩ : ∃ g : Nat → Int32, g = upd frl (Int32.toNatClampNeg (nI k)) (nI t) := ⟨_, rfl⟩
          rw [← ef_11] at hP hD
          have hP : va_P D vwCl [(h0, .inr (0, [.ref tx, .ref rw, .ref rl, .int (nI K)])), (tp, .inr (5, [.ref by_, .int (nI T)])), (by_, .inl (cI, 260, .inl fb)), (rw, .inl (cI, 120, .inl rwv)), (rl, .inl (cI, 12, .inl f_11)), (tx, .inr (6, [.ref tp, .int (nI N), .int (nI Pa), .int h0_3o_9]))] H := hP
          have hD : va_D A [(h0, .inr (0, [.ref tx, .ref rw, .ref rl, .int (nI K)])), (tp, .inr (5, [.ref by_, .int (nI T)])), (by_, .inl (cI, 260, .inl fb)), (rw, .inl (cI, 120, .inl rwv)), (rl, .inl (cI, 12, .inl f_11)), (tx, .inr (6, [.ref tp, .int (nI N), .int (nI Pa), .int h0_3o_9]))] := hD
          exact ret _ _ _ _ (Pa, h0_3o_9, rwv, f_11) dX0_readRow_136 (by have hnl : fv = 0 → ¬ (97 ≤ chF fb N Pa ∧ chF fb N Pa ≤ 106) := (fun z => by have w := phZ c_22; rw [z, sQ0] at w; exact w); have hlt1 : h0_3o_9 < 0 := (by rw [hw_10]; exact flF_neg (k := 1) rfl (by decide) (by decide) (by omega) hfv); exact ⟨fun w => by rw [hw_10, hfw w]; exact flF_n w, fun w => (Classical.em (fv = 0)).elim (fun z => Or.inr ⟨hlt1, by rw [(hz z).2.2.2.2.2, drRow_1 (hnl z) (nI0 (by omega) c_111), hw_10, z, flF_0]⟩) (fun z => Or.inr ⟨hlt1, by rw [hnz z w, hw_10, flF_n z]⟩), by omega, by omega, by rw [ef_11]; exact RG.upd _ hrg (nI10 ht), Or.inr hlt1⟩) (hP.sub [0, 5, 1, 2, 3, 4] rfl) (hD.sub [0, 5, 1, 2, 3, 4] (by decide) rfl) hS
      · refine lv_aload_n hx hb dX0_readRow_25 rfl (lv_at hl 0 rfl) ?_
        refine va_get (D := D) (ci := 0) (v := .ref tx) (C := RX0) (T := TX0) (N := 4) hx hb htb itX0 hown hK hP 0 rfl rfl 0 (by decide) (htb _ k_302) (fun _ h9 => h9) rfl dX0_readRow_26 ?_
        refine cVR (As := []) (rest := []) (n := 0) (ci := 6) (q0 := 0) X hN hK hP (c_personHereP l D cI cB tx tp N Pa fv by_ T fb hT hNT hPa.2) (gV k_691 k_692 k_693 k_98 k_694) (by decide +kernel) ⟨Nat.le_of_ble_eq_true rfl, Nat.le_of_ble_eq_true rfl⟩ ⟨rfl, rfl⟩ [1, 2, 3] rfl rfl rfl rfl rfl rfl hl.1 (Nat.le_of_ble_eq_true rfl) dX0_readRow_29 ⟨Nat.le_of_ble_eq_true rfl, Nat.le_of_ble_eq_true rfl⟩ (fun r_12 hr_12 => ?_)
        subst hr_12
        refine lv_topi (fun x_13 ex_13 => ?_)
        refine lv_istore (lv' := [(5, .int x_13), (0, .ref h0), (1, .int (nI k)), (2, .int sv), (3, .int (nI t)), (4, .int (nI i))]) hx hb dX0_readRow_32 hl (by decide) rfl (fun ls hl => ?_)
        obtain ⟨j, hj, ej1, hrg, ej2⟩ := phN c_22
        obtain ⟨hf0, hlt⟩ := sQ97 hrg
        subst hf0
        have ex2 := ex_13.trans ej1
        subst ex2
        rw [sQ0] at hrg ej2
        obtain ⟨hfa0, hPt, hti, hbs, hrw, hdr⟩ := hz rfl
        refine lv_iload_n hx hb dX0_readRow_34 rfl (lv_at hl 3 rfl) ?_
        refine lv_iload hx hb dX0_readRow_35 (lv_at hl 0 rfl) ?_
        refine cSNR (As := [.int sv, .int (nI j)]) (rest := []) (n := 2) X hN hK hP (c_isInF l D cI cB sv (nI j)) n_695 k_696 k_92 k_697 (by decide +kernel) ⟨Nat.le_of_ble_eq_true rfl, Nat.le_of_ble_eq_true rfl⟩ ⟨rfl, rfl⟩ [] rfl rfl rfl hl.1 (Nat.le_of_ble_eq_true rfl) dX0_readRow_37 ⟨Nat.le_of_ble_eq_true rfl, Nat.le_of_ble_eq_true rfl⟩ (fun r_14 hr_14 => ?_)
        subst hr_14
        refine lv_if_ne (tgt := 49) hx hb dX0_readRow_40 (by decide) (fun c_40 => ?_) (fun c_40 => ?_)
        · refine lv_aload_n hx hb dX0_readRow_49 rfl (lv_at hl 1 rfl) ?_
          refine va_get (D := D) (ci := 0) (v := .ref tx) (C := RX0) (T := TX0) (N := 4) hx hb htb itX0 hown hK hP 0 rfl rfl 0 (by decide) (htb _ k_302) (fun _ h9 => h9) rfl dX0_readRow_50 ?_
          refine lv_bipush (v := 6) hx hb dX0_readRow_53 (by decide) ?_
          refine lv_aload_n hx hb dX0_readRow_55 rfl (lv_at hl 1 rfl) ?_
          refine va_get (D := D) (ci := 0) (v := .ref tx) (C := RX0) (T := TX0) (N := 4) hx hb htb itX0 hown hK hP 0 rfl rfl 0 (by decide) (htb _ k_302) (fun _ h9 => h9) rfl dX0_readRow_56 ?_
          refine va_getN (D := D) (ci := 6) (v := .int (nI Pa)) (C := RX6) (T := TX6) (N := 4) hx hb htb itX6 hown hK hP 1 rfl rfl 2 (by decide) (va_Nw.use rfl (hN _ n_265 rfl)) (fun _ h9 => h9) rfl dX0_readRow_59 ?_
          refine cVV (As := [.int 6, .int (nI Pa)]) (rest := []) (n := 2) (ci := 6) (q0 := 0) (wr := [(h0, .inr (0, [.ref tx, .ref rw, .ref rl, .int (nI K)])), (tp, .inr (5, [.ref by_, .int (nI T)])), (by_, .inl (cI, 260, .inl fb)), (rw, .inl (cI, 120, .inl rwv)), (rl, .inl (cI, 12, .inl frl))]) X hN hK hP hD hS hA (c_failP l D cI cB _ tx tp (nI N) (nI Pa) 0 6 (nI Pa)) (gV k_684 k_574 k_575 k_98 k_576) (by decide +kernel) ⟨Nat.le_of_ble_eq_true rfl, Nat.le_of_ble_eq_true rfl⟩ ⟨rfl, rfl⟩ [1] [0, 2, 3, 4, 5] rfl rfl (by decide) (by decide) rfl rfl rfl rfl rfl hl.1 (Nat.le_of_ble_eq_true rfl) dX0_readRow_62 ⟨Nat.le_of_ble_eq_true rfl, Nat.le_of_ble_eq_true rfl⟩ (fun u H locs hw_17 hP hD hS => ?_)
          obtain ⟨h0_3o_16, rfl⟩ : ∃ z, z = u := ⟨_, rfl⟩
          try dsimp only at hw_17
          have hP : va_P D vwCl [(h0, .inr (0, [.ref tx, .ref rw, .ref rl, .int (nI K)])), (tp, .inr (5, [.ref by_, .int (nI T)])), (by_, .inl (cI, 260, .inl fb)), (rw, .inl (cI, 120, .inl rwv)), (rl, .inl (cI, 12, .inl frl)), (tx, .inr (6, [.ref tp, .int (nI N), .int (nI Pa), .int h0_3o_16]))] H := hP
          have hD : va_D A [(h0, .inr (0, [.ref tx, .ref rw, .ref rl, .int (nI K)])), (tp, .inr (5, [.ref by_, .int (nI T)])), (by_, .inl (cI, 260, .inl fb)), (rw, .inl (cI, 120, .inl rwv)), (rl, .inl (cI, 12, .inl frl)), (tx, .inr (6, [.ref tp, .int (nI N), .int (nI Pa), .int h0_3o_16]))] := hD
          refine lv_goto (tgt := 104) hx hb dX0_readRow_65 (by decide) ?_
          refine lv_iinc (v := (nI (i + 1))) (lv' := [(4, .int (nI (i + 1))), (5, .int (nI j)), (0, .ref h0), (1, .int (nI k)), (2, .int sv), (3, .int (nI t))]) hx hb dX0_readRow_104 hl (k := 5) rfl (nI_1 i) (by decide) rfl (fun ls hl => ?_)
          refine lv_goto (tgt := 7) hx hb dX0_readRow_107 (by decide) ?_
          have hn6 : h0_3o_16 < 0 := by rw [hw_17]; exact flF_neg (k := 6) rfl (by decide) (by decide) (by omega) (Or.inl rfl)
          exact ih_7 (i + 1) sv t Pa h0_3o_16 rwv (by omega) ht hPa (Or.inr hn6) (fun z => absurd z (neg_nz hn6)) (fun _ _ => by rw [hdr, drRow_6 hrg ej2 (bIt c_40).2, hw_17, flF_0]) (fun z => absurd hfa0 z) _ _ (hP.sub [0, 5, 1, 2, 3, 4] rfl) (hD.sub [0, 5, 1, 2, 3, 4] (by decide) rfl) hS _ (lv_sub hl [2, 3, 4, 5, 0] rfl)
        · have hnb : ¬ sv >>> (nI j &&& 31) &&& 1 = 1 := fun z => bIf c_40 ⟨bfr rfl (by omega), z⟩
          obtain ⟨hbn, hb9⟩ := bS_new hj (if_neg hnb)
          refine lv_iload_n hx hb dX0_readRow_43 rfl (lv_at hl 4 rfl) ?_
          refine lv_bipush (v := 10) hx hb dX0_readRow_44 (by decide) ?_
          refine lv_icmp_lt (tgt := 68) hx hb dX0_readRow_46 (by decide) (fun _ => ?_) (fun c_46 => absurd (nI_lt (b := 10) (by omega) (by decide)) c_46)
          refine lv_iload_n hx hb dX0_readRow_68 rfl (lv_at hl 3 rfl) ?_
          refine lv_iconst (v := 1) hx hb dX0_readRow_69 (by decide) ?_
          refine lv_iload hx hb dX0_readRow_70 (lv_at hl 0 rfl) ?_
          refine lv_ishl hx hb dX0_readRow_72 ?_
          refine lv_ior hx hb dX0_readRow_73 ?_
          refine lv_topi (fun x_18 ex_18 => ?_)
          refine lv_istore_n (lv' := [(2, .int x_18), (5, .int (nI j)), (0, .ref h0), (1, .int (nI k)), (3, .int (nI t)), (4, .int (nI i))]) hx hb dX0_readRow_74 rfl hl (by decide) rfl (fun ls hl => ?_)
          refine lv_aload_n hx hb dX0_readRow_75 rfl (lv_at hl 2 rfl) ?_
          refine va_get (D := D) (ci := 0) (v := .ref rw) (C := RX0) (T := TX0) (N := 4) hx hb htb itX0 hown hK hP 0 rfl rfl 1 (by decide) (htb _ k_303) (fun _ h9 => h9) rfl dX0_readRow_76 ?_
          refine lv_iload_n hx hb dX0_readRow_79 rfl (lv_at hl 3 rfl) ?_
          refine lv_bipush (v := 10) hx hb dX0_readRow_80 (by decide) ?_
          refine lv_imul hx hb dX0_readRow_82 ?_
          refine lv_iload_n hx hb dX0_readRow_83 rfl (lv_at hl 4 rfl) ?_
          refine lv_iadd hx hb dX0_readRow_84 ?_
          refine tv (z := (nI (10 * k + t))) (ix10 k t) ?_
          refine lv_iload hx hb dX0_readRow_85 (lv_at hl 1 rfl) ?_
          refine va_iast hx hb hK hP hD hS 4 0 rfl rfl (by have a0 := mt Int32.toInt_inj.mp c_22; have a1 := congrArg Int32.toInt c_40; have a2 : ((-1) : Int32).toInt = (-1) := (by decide); have a3 : (0 : Int32).toInt = 0 := (by decide); exact vp_in_nI (by omega) (by decide)) dX0_readRow_87 (fun H locs hP hD hS => ?_)
          obtain ⟨f_19, ef_19⟩ : ∃ g : Nat → Int32, g = upd rwv (Int32.toNatClampNeg (nI (10 * k + t))) (nI j) := ⟨_, rfl⟩
          rw [← ef_19] at hP hD
          have hP : va_P D vwCl [(h0, .inr (0, [.ref tx, .ref rw, .ref rl, .int (nI K)])), (tx, .inr (6, [.ref tp, .int (nI N), .int (nI Pa), .int 0])), (tp, .inr (5, [.ref by_, .int (nI T)])), (by_, .inl (cI, 260, .inl fb)), (rw, .inl (cI, 120, .inl f_19)), (rl, .inl (cI, 12, .inl frl))] H := hP
          have hD : va_D A [(h0, .inr (0, [.ref tx, .ref rw, .ref rl, .int (nI K)])), (tx, .inr (6, [.ref tp, .int (nI N), .int (nI Pa), .int 0])), (tp, .inr (5, [.ref by_, .int (nI T)])), (by_, .inl (cI, 260, .inl fb)), (rw, .inl (cI, 120, .inl f_19)), (rl, .inl (cI, 12, .inl frl))] := hD
          refine lv_iinc (v := (nI (t + 1))) (lv' := [(3, .int (nI (t + 1))), (2, .int x_18), (5, .int (nI j)), (0, .ref h0), (1, .int (nI k)), (4, .int (nI i))]) hx hb dX0_readRow_88 hl (k := 4) rfl (nI_1 t) (by decide) rfl (fun ls hl => ?_)
          refine lv_aload_n hx hb dX0_readRow_91 rfl (lv_at hl 3 rfl) ?_
          refine va_get (D := D) (ci := 0) (v := .ref tx) (C := RX0) (T := TX0) (N := 4) hx hb htb itX0 hown hK hP 0 rfl rfl 0 (by decide) (htb _ k_302) (fun _ h9 => h9) rfl dX0_readRow_92 ?_
          refine lv_dup hx hb dX0_readRow_95 rfl ?_
          refine va_getN (D := D) (ci := 6) (v := .int (nI Pa)) (C := RX6) (T := TX6) (N := 4) hx hb htb itX6 hown hK hP 1 rfl rfl 2 (by decide) (va_Nw.use rfl (hN _ n_265 rfl)) (fun _ h9 => h9) rfl dX0_readRow_96 ?_
          refine lv_iconst (v := 1) hx hb dX0_readRow_99 (by decide) ?_
          refine lv_iadd hx hb dX0_readRow_100 ?_
          refine tv (z := (nI (Pa + 1))) (nI_1 Pa) ?_
          refine va_putN (D := D) (ci := 6) (v := .int (nI (Pa + 1))) (ty := .int) (C := RX6) (T := TX6) (N := 4) hx hb htb itX6 tyX6 tyX6_ok nmX6 hown hK hP hD hS 1 rfl rfl 2 (by decide) (va_Nw.use rfl (hN _ n_265 rfl)) (fun _ h9 => h9) rfl (tyX6_ok 2 (by decide)) rfl rfl (Nat.le_of_ble_eq_true rfl) dX0_readRow_101 (fun H locs hP hD hS => ?_)
          have hP : va_P D vwCl [(h0, .inr (0, [.ref tx, .ref rw, .ref rl, .int (nI K)])), (tx, .inr (6, [.ref tp, .int (nI N), .int (nI (Pa + 1)), .int 0])), (tp, .inr (5, [.ref by_, .int (nI T)])), (by_, .inl (cI, 260, .inl fb)), (rw, .inl (cI, 120, .inl f_19)), (rl, .inl (cI, 12, .inl frl))] H := hP
          have hD : va_D A [(h0, .inr (0, [.ref tx, .ref rw, .ref rl, .int (nI K)])), (tx, .inr (6, [.ref tp, .int (nI N), .int (nI (Pa + 1)), .int 0])), (tp, .inr (5, [.ref by_, .int (nI T)])), (by_, .inl (cI, 260, .inl fb)), (rw, .inl (cI, 120, .inl f_19)), (rl, .inl (cI, 12, .inl frl))] := hD
          refine lv_iinc (v := (nI (i + 1))) (lv' := [(4, .int (nI (i + 1))), (3, .int (nI (t + 1))), (2, .int x_18), (5, .int (nI j)), (0, .ref h0), (1, .int (nI k))]) hx hb dX0_readRow_104 hl (k := 5) rfl (nI_1 i) (by decide) rfl (fun ls hl => ?_)
          refine lv_goto (tgt := 7) hx hb dX0_readRow_107 (by decide) ?_
          exact ih_7 (i + 1) x_18 (t + 1) (Pa + 1) 0 f_19 (by omega) (by omega) (by omega) (Or.inl rfl) (fun _ => ⟨hfa0, by omega, by omega, by rw [ex_18, hbn, hbs], by rw [ef_19, nI_clamp (by omega), hrw, ← ej2, hPt]; exact rowG_s _ _ _ _ _, by rw [hdr, drRow_y hrg ej2 hnb, ex_18]⟩) (fun z => absurd rfl z) (fun z => absurd hfa0 z) _ _ (hP.sub [0, 1, 2, 3, 4, 5] rfl) (hD.sub [0, 1, 2, 3, 4, 5] (by decide) rfl) hS _ (lv_sub hl [4, 5, 2, 1, 0] rfl)
  exact loop_7 11 0 0 0 P fa frw (by omega) (by decide) (⟨Nat.le_refl _, hPN⟩) hfa (fun z => ⟨z, rfl, rfl, bS_0 10, (rowG_0 _ _ _ _).symm, rfl⟩) (fun z w => absurd w z) (fun _ => rfl) _ _ (hP.sub [0, 1, 2, 3, 4, 5] rfl) (hD.sub [0, 1, 2, 3, 4, 5] (by decide) rfl) hS _ (lv_sub hl [3, 4, 2, 1, 0] rfl)

set_option maxRecDepth 100000 in
set_option maxHeartbeats 4000000 in
theorem c_readLineD (l : Launch) (D : va_G) (cI cB : ClassId) (sz : Nat) (h0 : Nat) (rw : Nat) (rl : Nat) (K : Nat) (tx : Nat) (tp : Nat) (N : Nat) (P : Nat) (by_ : Nat) (T : Nat) (fb : Nat → Int32) (frw : Nat → Int32) (frl : Nat → Int32) (fa : Int32) (hT : T ≤ 260) (hNT : N ≤ T) (hPN : P ≤ N) (hfa : fa = 0 ∨ fa < 0) (hKL : K ≤ 12) (hrg : RG frl) : MV (S := ((Nat) × (Int32) × (Nat) × (Nat → Int32) × (Nat → Int32))) l D cI cB yX0_readLine cX0_readLine 3 (rm 3 67) [.ref h0] [(h0, .inr (0, [.ref tx, .ref rw, .ref rl, .int (nI K)])), (tx, .inr (6, [.ref tp, .int (nI N), .int (nI P), .int fa])), (tp, .inr (5, [.ref by_, .int (nI T)])), (by_, .inl (cI, 260, .inl fb)), (rw, .inl (cI, 120, .inl frw)), (rl, .inl (cI, 12, .inl frl))] sz (fun u => (u.2.1 = 0 ∨ u.2.1 < 0) ∧ (¬ fa = 0 → u.2.1 = fa) ∧ (fa = 0 → (u.2.1 = 0 ∧ drLine (chF fb N) P K frw frl = .inr (u.1, u.2.2.2.1, u.2.2.2.2) ∧ u.2.2.1 = K + 1 ∧ P < u.1) ∨ (u.2.1 < 0 ∧ drLine (chF fb N) P K frw frl = .inl u.2.1)) ∧ P ≤ u.1 ∧ u.1 ≤ N ∧ RG u.2.2.2.2 ∧ (u.2.1 = 0 → u.2.2.1 ≤ 12)) (fun u : ((Nat) × (Int32) × (Nat) × (Nat → Int32) × (Nat → Int32)) => [(h0, .inr (0, [.ref tx, .ref rw, .ref rl, .int (nI u.2.2.1)])), (tx, .inr (6, [.ref tp, .int (nI N), .int (nI u.1), .int u.2.1])), (tp, .inr (5, [.ref by_, .int (nI T)])), (by_, .inl (cI, 260, .inl fb)), (rw, .inl (cI, 120, .inl u.2.2.2.1)), (rl, .inl (cI, 12, .inl u.2.2.2.2))]) := by
  refine MV.of (by decide) (Nat.le_of_ble_eq_true rfl) ?_
  intro p e s m below meth c Q ls A X hin hN hP hK hD hA hl ret
  have hS : va_S A s.heap s.heap [] := va_S.rf
  obtain ⟨hx, hb, hml, hown, htb⟩ := id X
  have hl : lv_has ls 3 [(0, .ref h0)] := hl
  refine lv_aload_n hx hb dX0_readLine_0 rfl (lv_at hl 0 rfl) ?_
  refine va_get (D := D) (ci := 0) (v := .ref tx) (C := RX0) (T := TX0) (N := 4) hx hb htb itX0 hown hK hP 0 rfl rfl 0 (by decide) (htb _ k_302) (fun _ h9 => h9) rfl dX0_readLine_1 ?_
  refine cVR (As := []) (rest := []) (n := 0) (ci := 6) (q0 := 0) X hN hK hP (c_isDigitP l D cI cB tx tp N P fa by_ T fb hT hNT hPN) (gV k_683 k_617 k_618 k_98 k_619) (by decide +kernel) ⟨Nat.le_of_ble_eq_true rfl, Nat.le_of_ble_eq_true rfl⟩ ⟨rfl, rfl⟩ [1, 2, 3] rfl rfl rfl rfl rfl rfl hl.1 (Nat.le_of_ble_eq_true rfl) dX0_readLine_4 ⟨Nat.le_of_ble_eq_true rfl, Nat.le_of_ble_eq_true rfl⟩ (fun r_1 hr_1 => ?_)
  subst hr_1
  refine lv_if_ne (tgt := 28) hx hb dX0_readLine_7 (by decide) (fun c_7 => ?_) (fun c_7 => ?_)
  · have hdg := bIt c_7
    obtain ⟨hf0, hlt⟩ := sQz (dgz hdg)
    subst hf0
    rw [sQ0] at hdg
    refine lv_aload_n hx hb dX0_readLine_28 rfl (lv_at hl 0 rfl) ?_
    refine va_get (D := D) (ci := 0) (v := .int (nI K)) (C := RX0) (T := TX0) (N := 4) hx hb htb itX0 hown hK hP 0 rfl rfl 3 (by decide) (htb _ k_305) (fun _ h9 => h9) rfl dX0_readLine_29 ?_
    refine lv_bipush (v := 12) hx hb dX0_readLine_32 (by decide) ?_
    refine lv_icmp_ne (tgt := 55) hx hb dX0_readLine_34 (by decide) (fun c_34 => ?_) (fun c_34 => ?_)
    · refine lv_aload_n hx hb dX0_readLine_55 rfl (lv_at hl 0 rfl) ?_
      refine va_get (D := D) (ci := 0) (v := .ref tx) (C := RX0) (T := TX0) (N := 4) hx hb htb itX0 hown hK hP 0 rfl rfl 0 (by decide) (htb _ k_302) (fun _ h9 => h9) rfl dX0_readLine_56 ?_
      refine va_getN (D := D) (ci := 6) (v := .int (nI P)) (C := RX6) (T := TX6) (N := 4) hx hb htb itX6 hown hK hP 1 rfl rfl 2 (by decide) (va_Nw.use rfl (hN _ n_265 rfl)) (fun _ h9 => h9) rfl dX0_readLine_59 ?_
      refine lv_istore_n (lv' := [(1, .int (nI P)), (0, .ref h0)]) hx hb dX0_readLine_62 rfl hl (by decide) rfl (fun ls hl => ?_)
      refine lv_aload_n hx hb dX0_readLine_63 rfl (lv_at hl 1 rfl) ?_
      refine va_get (D := D) (ci := 0) (v := .ref tx) (C := RX0) (T := TX0) (N := 4) hx hb htb itX0 hown hK hP 0 rfl rfl 0 (by decide) (htb _ k_302) (fun _ h9 => h9) rfl dX0_readLine_64 ?_
      refine lv_iconst (v := 2) hx hb dX0_readLine_67 (by decide) ?_
      refine lv_iconst (v := 0) hx hb dX0_readLine_68 (by decide) ?_
      refine cVI (As := [.int 2, .int 0]) (rest := []) (n := 2) (ci := 6) (q0 := 0) (wr := [(h0, .inr (0, [.ref tx, .ref rw, .ref rl, .int (nI K)])), (rw, .inl (cI, 120, .inl frw)), (rl, .inl (cI, 12, .inl frl))]) X hN hK hP hD hS hA (c_numberP l D cI cB _ tx tp N P 0 by_ T fb 2 0 hT hNT hPN (by decide)) (gV k_685 k_613 k_614 k_98 k_615) (by decide +kernel) ⟨Nat.le_of_ble_eq_true rfl, Nat.le_of_ble_eq_true rfl⟩ ⟨rfl, rfl⟩ [1, 2, 3] [0, 4, 5] rfl rfl (by decide) (by decide) rfl rfl rfl rfl rfl hl.1 (Nat.le_of_ble_eq_true rfl) dX0_readLine_69 ⟨Nat.le_of_ble_eq_true rfl, Nat.le_of_ble_eq_true rfl⟩ (fun r_2 u H locs hw_5 hP hD hS => ?_)
      obtain ⟨Po_3, fo_4⟩ := u
      try dsimp only at hw_5
      have hP : va_P D vwCl [(h0, .inr (0, [.ref tx, .ref rw, .ref rl, .int (nI K)])), (rw, .inl (cI, 120, .inl frw)), (rl, .inl (cI, 12, .inl frl)), (tx, .inr (6, [.ref tp, .int (nI N), .int (nI Po_3), .int fo_4])), (tp, .inr (5, [.ref by_, .int (nI T)])), (by_, .inl (cI, 260, .inl fb))] H := hP
      have hD : va_D A [(h0, .inr (0, [.ref tx, .ref rw, .ref rl, .int (nI K)])), (rw, .inl (cI, 120, .inl frw)), (rl, .inl (cI, 12, .inl frl)), (tx, .inr (6, [.ref tp, .int (nI N), .int (nI Po_3), .int fo_4])), (tp, .inr (5, [.ref by_, .int (nI T)])), (by_, .inl (cI, 260, .inl fb))] := hD
      have en1 := hw_5.1
      have en2 := hw_5.2.1
      rw [sQ0] at en1 en2
      have en3 := hw_5.2.2.2
      rw [hw_5.2.2.1.trans (nf2_z (M := 1) hdg)] at hP hD
      have hP : va_P D vwCl [(h0, .inr (0, [.ref tx, .ref rw, .ref rl, .int (nI K)])), (rw, .inl (cI, 120, .inl frw)), (rl, .inl (cI, 12, .inl frl)), (tx, .inr (6, [.ref tp, .int (nI N), .int (nI Po_3), .int 0])), (tp, .inr (5, [.ref by_, .int (nI T)])), (by_, .inl (cI, 260, .inl fb))] H := hP
      have hD : va_D A [(h0, .inr (0, [.ref tx, .ref rw, .ref rl, .int (nI K)])), (rw, .inl (cI, 120, .inl frw)), (rl, .inl (cI, 12, .inl frl)), (tx, .inr (6, [.ref tp, .int (nI N), .int (nI Po_3), .int 0])), (tp, .inr (5, [.ref by_, .int (nI T)])), (by_, .inl (cI, 260, .inl fb))] := hD
      refine lv_istore_n (lv' := [(2, .int r_2), (1, .int (nI P)), (0, .ref h0)]) hx hb dX0_readLine_72 rfl hl (by decide) rfl (fun ls hl => ?_)
      refine lv_iload_n hx hb dX0_readLine_73 rfl (lv_at hl 0 rfl) ?_
      refine lv_bipush (v := 12) hx hb dX0_readLine_74 (by decide) ?_
      refine lv_icmp_lt (tgt := 91) hx hb dX0_readLine_76 (by decide) (fun c_76 => ?_) (fun c_76 => ?_)
      · obtain ⟨vq, hvq, evq⟩ := n9 (n := 12) (x := r_2) ⟨Int32.le_iff_toInt_le.mpr (by rw [en2]; exact nvl_pos (k := 0) (by decide) (by decide)), c_76⟩ (by decide) (by decide)
        subst evq
        refine lv_aload_n hx hb dX0_readLine_91 rfl (lv_at hl 2 rfl) ?_
        refine va_get (D := D) (ci := 0) (v := .ref tx) (C := RX0) (T := TX0) (N := 4) hx hb htb itX0 hown hK hP 0 rfl rfl 0 (by decide) (htb _ k_302) (fun _ h9 => h9) rfl dX0_readLine_92 ?_
        refine lv_bipush (v := 58) hx hb dX0_readLine_95 (by decide) ?_
        refine cVV (As := [.int 58]) (rest := []) (n := 1) (ci := 6) (q0 := 0) (wr := [(h0, .inr (0, [.ref tx, .ref rw, .ref rl, .int (nI K)])), (rw, .inl (cI, 120, .inl frw)), (rl, .inl (cI, 12, .inl frl))]) X hN hK hP hD hS hA (c_expectP l D cI cB _ tx tp N Po_3 0 by_ T fb 58 hT hNT en3 (by decide)) (gV k_686 k_603 k_604 k_98 k_605) (by decide +kernel) ⟨Nat.le_of_ble_eq_true rfl, Nat.le_of_ble_eq_true rfl⟩ ⟨rfl, rfl⟩ [3, 4, 5] [0, 1, 2] rfl rfl (by decide) (by decide) rfl rfl rfl rfl rfl hl.1 (Nat.le_of_ble_eq_true rfl) dX0_readLine_97 ⟨Nat.le_of_ble_eq_true rfl, Nat.le_of_ble_eq_true rfl⟩ (fun u H locs hw_9 hP hD hS => ?_)
        obtain ⟨Po_7, fo_8⟩ := u
        try dsimp only at hw_9
        have hP : va_P D vwCl [(h0, .inr (0, [.ref tx, .ref rw, .ref rl, .int (nI K)])), (rw, .inl (cI, 120, .inl frw)), (rl, .inl (cI, 12, .inl frl)), (tx, .inr (6, [.ref tp, .int (nI N), .int (nI Po_7), .int fo_8])), (tp, .inr (5, [.ref by_, .int (nI T)])), (by_, .inl (cI, 260, .inl fb))] H := hP
        have hD : va_D A [(h0, .inr (0, [.ref tx, .ref rw, .ref rl, .int (nI K)])), (rw, .inl (cI, 120, .inl frw)), (rl, .inl (cI, 12, .inl frl)), (tx, .inr (6, [.ref tp, .int (nI N), .int (nI Po_7), .int fo_8])), (tp, .inr (5, [.ref by_, .int (nI T)])), (by_, .inl (cI, 260, .inl fb))] := hD
        refine lv_aload_n hx hb dX0_readLine_100 rfl (lv_at hl 2 rfl) ?_
        refine lv_iload_n hx hb dX0_readLine_101 rfl (lv_at hl 0 rfl) ?_
        refine cVV (As := [.int (nI vq)]) (rest := []) (n := 1) (ci := 0) (q0 := 0) (wr := []) X hN hK hP hD hS hA (c_readRowP l D cI cB _ h0 rw rl K tx tp N Po_7 by_ T fb frw frl fo_8 vq hT hNT hw_9.2.2.2 hvq (fexp (Or.inl rfl) (by omega) (fun z => (hw_9.1 z).2) (fun z => (hw_9.2.1 z).2)) hrg) (gV k_687 k_689 k_12 k_100 k_690) (by decide +kernel) ⟨Nat.le_of_ble_eq_true rfl, Nat.le_of_ble_eq_true rfl⟩ ⟨rfl, rfl⟩ [0, 3, 4, 5, 1, 2] [] rfl rfl (by decide) (by decide) rfl rfl rfl rfl rfl hl.1 (Nat.le_of_ble_eq_true rfl) dX0_readLine_102 ⟨Nat.le_of_ble_eq_true rfl, Nat.le_of_ble_eq_true rfl⟩ (fun u H locs hw_15 hP hD hS => ?_)
        obtain ⟨Po_11, fo_12, rwo_13, rlo_14⟩ := u
        try dsimp only at hw_15
        have hP : va_P D vwCl [(h0, .inr (0, [.ref tx, .ref rw, .ref rl, .int (nI K)])), (tx, .inr (6, [.ref tp, .int (nI N), .int (nI Po_11), .int fo_12])), (tp, .inr (5, [.ref by_, .int (nI T)])), (by_, .inl (cI, 260, .inl fb)), (rw, .inl (cI, 120, .inl rwo_13)), (rl, .inl (cI, 12, .inl rlo_14))] H := hP
        have hD : va_D A [(h0, .inr (0, [.ref tx, .ref rw, .ref rl, .int (nI K)])), (tx, .inr (6, [.ref tp, .int (nI N), .int (nI Po_11), .int fo_12])), (tp, .inr (5, [.ref by_, .int (nI T)])), (by_, .inl (cI, 260, .inl fb)), (rw, .inl (cI, 120, .inl rwo_13)), (rl, .inl (cI, 12, .inl rlo_14))] := hD
        refine lv_aload_n hx hb dX0_readLine_105 rfl (lv_at hl 2 rfl) ?_
        refine lv_dup hx hb dX0_readLine_106 rfl ?_
        refine va_get (D := D) (ci := 0) (v := .int (nI K)) (C := RX0) (T := TX0) (N := 4) hx hb htb itX0 hown hK hP 0 rfl rfl 3 (by decide) (htb _ k_305) (fun _ h9 => h9) rfl dX0_readLine_107 ?_
        refine lv_iconst (v := 1) hx hb dX0_readLine_110 (by decide) ?_
        refine lv_iadd hx hb dX0_readLine_111 ?_
        refine tv (z := (nI (K + 1))) (nI_1 K) ?_
        refine va_put (D := D) (ci := 0) (v := .int (nI (K + 1))) (ty := .int) (C := RX0) (T := TX0) (N := 4) hx hb htb itX0 tyX0 tyX0_ok nmX0 hown hK hP hD hS 0 rfl rfl 3 (by decide) (htb _ k_305) (fun _ h9 => h9) rfl (tyX0_ok 3 (by decide)) rfl rfl (Nat.le_of_ble_eq_true rfl) dX0_readLine_112 (fun H locs hP hD hS => ?_)
        have hP : va_P D vwCl [(h0, .inr (0, [.ref tx, .ref rw, .ref rl, .int (nI (K + 1))])), (tx, .inr (6, [.ref tp, .int (nI N), .int (nI Po_11), .int fo_12])), (tp, .inr (5, [.ref by_, .int (nI T)])), (by_, .inl (cI, 260, .inl fb)), (rw, .inl (cI, 120, .inl rwo_13)), (rl, .inl (cI, 12, .inl rlo_14))] H := hP
        have hD : va_D A [(h0, .inr (0, [.ref tx, .ref rw, .ref rl, .int (nI (K + 1))])), (tx, .inr (6, [.ref tp, .int (nI N), .int (nI Po_11), .int fo_12])), (tp, .inr (5, [.ref by_, .int (nI T)])), (by_, .inl (cI, 260, .inl fb)), (rw, .inl (cI, 120, .inl rwo_13)), (rl, .inl (cI, 12, .inl rlo_14))] := hD
        exact ret _ _ _ _ (Po_11, fo_12, (K + 1), rwo_13, rlo_14) dX0_readLine_115 (by have hv : nvl (chF fb N) 2 P 0 = nI vq := en2.symm; have A1 := hw_9.1; have A2 := hw_9.2.1; rw [sQ0, en1] at A1 A2; have B := hw_15; have hlt8 : ¬ (chF fb N) (P + ndg (chF fb N) 2 P) = 58 → fo_8 < 0 := (fun hc => by rw [(A2 hc).2]; exact flF_neg (k := 1) rfl (by decide) (by decide) (by omega) (Or.inl rfl)); have hlt9 : ¬ (chF fb N) (P + ndg (chF fb N) 2 P) = 58 → fo_12 < 0 := (fun hc => by rw [B.1 (neg_nz (hlt8 hc))]; exact hlt8 hc); exact ⟨B.2.2.2.2.2, fun z => absurd rfl z, fun _ => (Classical.em ((chF fb N) (P + ndg (chF fb N) 2 P) = 58)).elim (fun hc => (B.2.1 (A1 hc).2).elim (fun g => Or.inl ⟨g.1, by rw [g.2.2.1, g.2.2.2, (A1 hc).1]; exact drLine_y hdg (fun z => c_34 (congrArg nI z : nI K = nI 12)) hv hvq hc (by rw [← (A1 hc).1]; exact g.2.1), rfl, by have := (A1 hc).1; have := B.2.2.1; omega⟩) (fun g => Or.inr ⟨g.1, drLine_f hdg (fun z => c_34 (congrArg nI z : nI K = nI 12)) (by rw [hv]; exact nI_ge (b := 12) hvq (by decide)) hc (by rw [← (A1 hc).1]; exact g.2)⟩)) (fun hc => Or.inr ⟨hlt9 hc, by rw [(B.1 (neg_nz (hlt8 hc))), (A2 hc).2, flF_0]; exact drLine_c hdg (fun z => c_34 (congrArg nI z : nI K = nI 12)) (by rw [hv]; exact nI_ge (b := 12) hvq (by decide)) hc⟩), by have := B.2.2.1; have := hw_9.2.2.1; omega, B.2.2.2.1, B.2.2.2.2.1, fun _ => by show K + 1 ≤ 12; have := (Nat.lt_or_eq_of_le hKL).resolve_right (fun z => c_34 (congrArg nI z : nI K = nI 12)); omega⟩) (hP.sub [0, 1, 2, 3, 4, 5] rfl) (hD.sub [0, 1, 2, 3, 4, 5] (by decide) rfl) hS
      · refine lv_aload_n hx hb dX0_readLine_79 rfl (lv_at hl 2 rfl) ?_
        refine va_get (D := D) (ci := 0) (v := .ref tx) (C := RX0) (T := TX0) (N := 4) hx hb htb itX0 hown hK hP 0 rfl rfl 0 (by decide) (htb _ k_302) (fun _ h9 => h9) rfl dX0_readLine_80 ?_
        refine lv_iconst (v := 3) hx hb dX0_readLine_83 (by decide) ?_
        refine lv_iload_n hx hb dX0_readLine_84 rfl (lv_at hl 1 rfl) ?_
        refine cVV (As := [.int 3, .int (nI P)]) (rest := []) (n := 2) (ci := 6) (q0 := 0) (wr := [(h0, .inr (0, [.ref tx, .ref rw, .ref rl, .int (nI K)])), (rw, .inl (cI, 120, .inl frw)), (rl, .inl (cI, 12, .inl frl)), (tp, .inr (5, [.ref by_, .int (nI T)])), (by_, .inl (cI, 260, .inl fb))]) X hN hK hP hD hS hA (c_failP l D cI cB _ tx tp (nI N) (nI Po_3) 0 3 (nI P)) (gV k_684 k_574 k_575 k_98 k_576) (by decide +kernel) ⟨Nat.le_of_ble_eq_true rfl, Nat.le_of_ble_eq_true rfl⟩ ⟨rfl, rfl⟩ [3] [0, 1, 2, 4, 5] rfl rfl (by decide) (by decide) rfl rfl rfl rfl rfl hl.1 (Nat.le_of_ble_eq_true rfl) dX0_readLine_85 ⟨Nat.le_of_ble_eq_true rfl, Nat.le_of_ble_eq_true rfl⟩ (fun u H locs hw_18 hP hD hS => ?_)
        obtain ⟨h0_3o_17, rfl⟩ : ∃ z, z = u := ⟨_, rfl⟩
        try dsimp only at hw_18
        have hP : va_P D vwCl [(h0, .inr (0, [.ref tx, .ref rw, .ref rl, .int (nI K)])), (rw, .inl (cI, 120, .inl frw)), (rl, .inl (cI, 12, .inl frl)), (tp, .inr (5, [.ref by_, .int (nI T)])), (by_, .inl (cI, 260, .inl fb)), (tx, .inr (6, [.ref tp, .int (nI N), .int (nI Po_3), .int h0_3o_17]))] H := hP
        have hD : va_D A [(h0, .inr (0, [.ref tx, .ref rw, .ref rl, .int (nI K)])), (rw, .inl (cI, 120, .inl frw)), (rl, .inl (cI, 12, .inl frl)), (tp, .inr (5, [.ref by_, .int (nI T)])), (by_, .inl (cI, 260, .inl fb)), (tx, .inr (6, [.ref tp, .int (nI N), .int (nI Po_3), .int h0_3o_17]))] := hD
        refine lv_goto (tgt := 115) hx hb dX0_readLine_88 (by decide) ?_
        exact ret _ _ _ _ (Po_3, h0_3o_17, K, frw, frl) dX0_readLine_115 (by have hn : h0_3o_17 < 0 := (by rw [hw_18]; exact flF_neg (k := 3) rfl (by decide) (by decide) (by omega) hfa); exact ⟨Or.inr hn, fun z => absurd rfl z, fun _ => Or.inr ⟨hn, by rw [hw_18, flF_0]; exact drLine_3 hdg (fun z => c_34 (congrArg nI z : nI K = nI 12)) (by rw [← en2]; exact Int32.not_lt.mp c_76)⟩, by omega, en3, hrg, fun z => absurd z (neg_nz hn)⟩) (hP.sub [0, 5, 3, 4, 1, 2] rfl) (hD.sub [0, 5, 3, 4, 1, 2] (by decide) rfl) hS
    · refine lv_aload_n hx hb dX0_readLine_37 rfl (lv_at hl 0 rfl) ?_
      refine va_get (D := D) (ci := 0) (v := .ref tx) (C := RX0) (T := TX0) (N := 4) hx hb htb itX0 hown hK hP 0 rfl rfl 0 (by decide) (htb _ k_302) (fun _ h9 => h9) rfl dX0_readLine_38 ?_
      refine lv_iconst (v := 4) hx hb dX0_readLine_41 (by decide) ?_
      refine lv_aload_n hx hb dX0_readLine_42 rfl (lv_at hl 0 rfl) ?_
      refine va_get (D := D) (ci := 0) (v := .ref tx) (C := RX0) (T := TX0) (N := 4) hx hb htb itX0 hown hK hP 0 rfl rfl 0 (by decide) (htb _ k_302) (fun _ h9 => h9) rfl dX0_readLine_43 ?_
      refine va_getN (D := D) (ci := 6) (v := .int (nI P)) (C := RX6) (T := TX6) (N := 4) hx hb htb itX6 hown hK hP 1 rfl rfl 2 (by decide) (va_Nw.use rfl (hN _ n_265 rfl)) (fun _ h9 => h9) rfl dX0_readLine_46 ?_
      refine cVV (As := [.int 4, .int (nI P)]) (rest := []) (n := 2) (ci := 6) (q0 := 0) (wr := [(h0, .inr (0, [.ref tx, .ref rw, .ref rl, .int (nI K)])), (tp, .inr (5, [.ref by_, .int (nI T)])), (by_, .inl (cI, 260, .inl fb)), (rw, .inl (cI, 120, .inl frw)), (rl, .inl (cI, 12, .inl frl))]) X hN hK hP hD hS hA (c_failP l D cI cB _ tx tp (nI N) (nI P) 0 4 (nI P)) (gV k_684 k_574 k_575 k_98 k_576) (by decide +kernel) ⟨Nat.le_of_ble_eq_true rfl, Nat.le_of_ble_eq_true rfl⟩ ⟨rfl, rfl⟩ [1] [0, 2, 3, 4, 5] rfl rfl (by decide) (by decide) rfl rfl rfl rfl rfl hl.1 (Nat.le_of_ble_eq_true rfl) dX0_readLine_49 ⟨Nat.le_of_ble_eq_true rfl, Nat.le_of_ble_eq_true rfl⟩ (fun u H locs hw_21 hP hD hS => ?_)
      obtain ⟨h0_3o_20, rfl⟩ : ∃ z, z = u := ⟨_, rfl⟩
      try dsimp only at hw_21
      have hP : va_P D vwCl [(h0, .inr (0, [.ref tx, .ref rw, .ref rl, .int (nI K)])), (tp, .inr (5, [.ref by_, .int (nI T)])), (by_, .inl (cI, 260, .inl fb)), (rw, .inl (cI, 120, .inl frw)), (rl, .inl (cI, 12, .inl frl)), (tx, .inr (6, [.ref tp, .int (nI N), .int (nI P), .int h0_3o_20]))] H := hP
      have hD : va_D A [(h0, .inr (0, [.ref tx, .ref rw, .ref rl, .int (nI K)])), (tp, .inr (5, [.ref by_, .int (nI T)])), (by_, .inl (cI, 260, .inl fb)), (rw, .inl (cI, 120, .inl frw)), (rl, .inl (cI, 12, .inl frl)), (tx, .inr (6, [.ref tp, .int (nI N), .int (nI P), .int h0_3o_20]))] := hD
      refine lv_goto (tgt := 115) hx hb dX0_readLine_52 (by decide) ?_
      exact ret _ _ _ _ (P, h0_3o_20, K, frw, frl) dX0_readLine_115 (by have hn : h0_3o_20 < 0 := (by rw [hw_21]; exact flF_neg (k := 4) rfl (by decide) (by decide) (by omega) hfa); exact ⟨Or.inr hn, fun z => absurd rfl z, fun _ => Or.inr ⟨hn, by rw [hw_21, flF_0]; exact drLine_4 hdg (nIe (k := 12) (by omega) (by decide) c_34)⟩, Nat.le_refl _, hPN, hrg, fun z => absurd z (neg_nz hn)⟩) (hP.sub [0, 5, 1, 2, 3, 4] rfl) (hD.sub [0, 5, 1, 2, 3, 4] (by decide) rfl) hS
  · refine lv_aload_n hx hb dX0_readLine_10 rfl (lv_at hl 0 rfl) ?_
    refine va_get (D := D) (ci := 0) (v := .ref tx) (C := RX0) (T := TX0) (N := 4) hx hb htb itX0 hown hK hP 0 rfl rfl 0 (by decide) (htb _ k_302) (fun _ h9 => h9) rfl dX0_readLine_11 ?_
    refine lv_iconst (v := 1) hx hb dX0_readLine_14 (by decide) ?_
    refine lv_aload_n hx hb dX0_readLine_15 rfl (lv_at hl 0 rfl) ?_
    refine va_get (D := D) (ci := 0) (v := .ref tx) (C := RX0) (T := TX0) (N := 4) hx hb htb itX0 hown hK hP 0 rfl rfl 0 (by decide) (htb _ k_302) (fun _ h9 => h9) rfl dX0_readLine_16 ?_
    refine va_getN (D := D) (ci := 6) (v := .int (nI P)) (C := RX6) (T := TX6) (N := 4) hx hb htb itX6 hown hK hP 1 rfl rfl 2 (by decide) (va_Nw.use rfl (hN _ n_265 rfl)) (fun _ h9 => h9) rfl dX0_readLine_19 ?_
    refine cVV (As := [.int 1, .int (nI P)]) (rest := []) (n := 2) (ci := 6) (q0 := 0) (wr := [(h0, .inr (0, [.ref tx, .ref rw, .ref rl, .int (nI K)])), (tp, .inr (5, [.ref by_, .int (nI T)])), (by_, .inl (cI, 260, .inl fb)), (rw, .inl (cI, 120, .inl frw)), (rl, .inl (cI, 12, .inl frl))]) X hN hK hP hD hS hA (c_failP l D cI cB _ tx tp (nI N) (nI P) fa 1 (nI P)) (gV k_684 k_574 k_575 k_98 k_576) (by decide +kernel) ⟨Nat.le_of_ble_eq_true rfl, Nat.le_of_ble_eq_true rfl⟩ ⟨rfl, rfl⟩ [1] [0, 2, 3, 4, 5] rfl rfl (by decide) (by decide) rfl rfl rfl rfl rfl hl.1 (Nat.le_of_ble_eq_true rfl) dX0_readLine_22 ⟨Nat.le_of_ble_eq_true rfl, Nat.le_of_ble_eq_true rfl⟩ (fun u H locs hw_24 hP hD hS => ?_)
    obtain ⟨h0_3o_23, rfl⟩ : ∃ z, z = u := ⟨_, rfl⟩
    try dsimp only at hw_24
    have hP : va_P D vwCl [(h0, .inr (0, [.ref tx, .ref rw, .ref rl, .int (nI K)])), (tp, .inr (5, [.ref by_, .int (nI T)])), (by_, .inl (cI, 260, .inl fb)), (rw, .inl (cI, 120, .inl frw)), (rl, .inl (cI, 12, .inl frl)), (tx, .inr (6, [.ref tp, .int (nI N), .int (nI P), .int h0_3o_23]))] H := hP
    have hD : va_D A [(h0, .inr (0, [.ref tx, .ref rw, .ref rl, .int (nI K)])), (tp, .inr (5, [.ref by_, .int (nI T)])), (by_, .inl (cI, 260, .inl fb)), (rw, .inl (cI, 120, .inl frw)), (rl, .inl (cI, 12, .inl frl)), (tx, .inr (6, [.ref tp, .int (nI N), .int (nI P), .int h0_3o_23]))] := hD
    refine lv_goto (tgt := 115) hx hb dX0_readLine_25 (by decide) ?_
    exact ret _ _ _ _ (P, h0_3o_23, K, frw, frl) dX0_readLine_115 (by have hn : h0_3o_23 < 0 := (by rw [hw_24]; exact flF_neg (k := 1) rfl (by decide) (by decide) (by omega) hfa); exact ⟨Or.inr hn, fun z => by rw [hw_24]; exact flF_n z, fun z => Or.inr ⟨hn, by rw [hw_24, z, flF_0]; exact drLine_1 (by have w := bIf c_7; rw [z, sQ0] at w; exact w)⟩, Nat.le_refl _, hPN, hrg, fun z => absurd z (neg_nz hn)⟩) (hP.sub [0, 5, 1, 2, 3, 4] rfl) (hD.sub [0, 5, 1, 2, 3, 4] (by decide) rfl) hS

set_option maxRecDepth 100000 in
set_option maxHeartbeats 4000000 in
theorem c_readDo (l : Launch) (D : va_G) (cI cB : ClassId) (sz : Nat) (h0 : Nat) (rw : Nat) (rl : Nat) (tx : Nat) (tp : Nat) (by_ : Nat) (T : Nat) (fb : Nat → Int32) (frw : Nat → Int32) (frl : Nat → Int32) (ed : Int32) (pl : Int32) (fa : Int32) (ln : Int32) (N : Nat) (hT : T ≤ 260) (hNT : N ≤ T) (hN1 : 1 ≤ N) : MI (S := ((Nat) × (Int32) × (Nat) × (Nat → Int32) × (Nat → Int32))) l D cI cB yX0_read cX0_read 3 .int (rm 4 89) [.ref h0, .int (nI N)] [(h0, .inr (0, [.ref tx, .ref rw, .ref rl, .int ln])), (tx, .inr (6, [.ref tp, .int ed, .int pl, .int fa])), (tp, .inr (5, [.ref by_, .int (nI T)])), (by_, .inl (cI, 260, .inl fb)), (rw, .inl (cI, 120, .inl frw)), (rl, .inl (cI, 12, .inl frl))] sz (fun r u => (((drTot (chF fb N) N frw) = .inl r ∧ r < 0) ∨ ((drTot (chF fb N) N frw) = .inr (u.2.2.1, u.2.2.2.1, u.2.2.2.2) ∧ r = nI u.2.2.1 ∧ 0 < r)) ∧ RG u.2.2.2.2) (fun u : ((Nat) × (Int32) × (Nat) × (Nat → Int32) × (Nat → Int32)) => [(h0, .inr (0, [.ref tx, .ref rw, .ref rl, .int (nI u.2.2.1)])), (tx, .inr (6, [.ref tp, .int (nI N), .int (nI u.1), .int u.2.1])), (tp, .inr (5, [.ref by_, .int (nI T)])), (by_, .inl (cI, 260, .inl fb)), (rw, .inl (cI, 120, .inl u.2.2.2.1)), (rl, .inl (cI, 12, .inl u.2.2.2.2))]) := by
  refine MI.of (by decide) (Nat.le_of_ble_eq_true rfl) ?_
  intro p e s m below meth c Q ls A X hin hN hP hK hD hA hl ret
  have hS : va_S A s.heap s.heap [] := va_S.rf
  obtain ⟨hx, hb, hml, hown, htb⟩ := id X
  have hl : lv_has ls 3 [(0, .ref h0), (1, .int (nI N))] := hl
  refine lv_aload_n hx hb dX0_read_0 rfl (lv_at hl 0 rfl) ?_
  refine va_get (D := D) (ci := 0) (v := .ref tx) (C := RX0) (T := TX0) (N := 4) hx hb htb itX0 hown hK hP 0 rfl rfl 0 (by decide) (htb _ k_302) (fun _ h9 => h9) rfl dX0_read_1 ?_
  refine lv_iload_n hx hb dX0_read_4 rfl (lv_at hl 1 rfl) ?_
  refine cVV (As := [.int (nI N)]) (rest := []) (n := 1) (ci := 6) (q0 := 0) (wr := [(h0, .inr (0, [.ref tx, .ref rw, .ref rl, .int ln])), (tp, .inr (5, [.ref by_, .int (nI T)])), (by_, .inl (cI, 260, .inl fb)), (rw, .inl (cI, 120, .inl frw)), (rl, .inl (cI, 12, .inl frl))]) X hN hK hP hD hS hA (c_X6_begin l D cI cB _ tx tp ed pl fa (nI N)) (gV k_677 k_467 k_468 k_98 k_469) (by decide +kernel) ⟨Nat.le_of_ble_eq_true rfl, Nat.le_of_ble_eq_true rfl⟩ ⟨rfl, rfl⟩ [1] [0, 2, 3, 4, 5] rfl rfl (by decide) (by decide) rfl rfl rfl rfl rfl hl.1 (Nat.le_of_ble_eq_true rfl) dX0_read_5 ⟨Nat.le_of_ble_eq_true rfl, Nat.le_of_ble_eq_true rfl⟩ (fun u H locs hw_5 hP hD hS => ?_)
  obtain ⟨h0_1o_2, h0_2o_3, h0_3o_4⟩ := u
  try dsimp only at hw_5
  have hP : va_P D vwCl [(h0, .inr (0, [.ref tx, .ref rw, .ref rl, .int ln])), (tp, .inr (5, [.ref by_, .int (nI T)])), (by_, .inl (cI, 260, .inl fb)), (rw, .inl (cI, 120, .inl frw)), (rl, .inl (cI, 12, .inl frl)), (tx, .inr (6, [.ref tp, .int h0_1o_2, .int h0_2o_3, .int h0_3o_4]))] H := hP
  have hD : va_D A [(h0, .inr (0, [.ref tx, .ref rw, .ref rl, .int ln])), (tp, .inr (5, [.ref by_, .int (nI T)])), (by_, .inl (cI, 260, .inl fb)), (rw, .inl (cI, 120, .inl frw)), (rl, .inl (cI, 12, .inl frl)), (tx, .inr (6, [.ref tp, .int h0_1o_2, .int h0_2o_3, .int h0_3o_4]))] := hD
  rw [hw_5.1, hw_5.2.1, hw_5.2.2] at hP hD
  have hP : va_P D vwCl [(h0, .inr (0, [.ref tx, .ref rw, .ref rl, .int ln])), (tp, .inr (5, [.ref by_, .int (nI T)])), (by_, .inl (cI, 260, .inl fb)), (rw, .inl (cI, 120, .inl frw)), (rl, .inl (cI, 12, .inl frl)), (tx, .inr (6, [.ref tp, .int (nI N), .int (nI 0), .int 0]))] H := hP
  have hD : va_D A [(h0, .inr (0, [.ref tx, .ref rw, .ref rl, .int ln])), (tp, .inr (5, [.ref by_, .int (nI T)])), (by_, .inl (cI, 260, .inl fb)), (rw, .inl (cI, 120, .inl frw)), (rl, .inl (cI, 12, .inl frl)), (tx, .inr (6, [.ref tp, .int (nI N), .int (nI 0), .int 0]))] := hD
  refine lv_aload_n hx hb dX0_read_8 rfl (lv_at hl 0 rfl) ?_
  refine va_get (D := D) (ci := 0) (v := .ref rl) (C := RX0) (T := TX0) (N := 4) hx hb htb itX0 hown hK hP 0 rfl rfl 2 (by decide) (htb _ k_304) (fun _ h9 => h9) rfl dX0_read_9 ?_
  refine lv_iconst (v := 0) hx hb dX0_read_12 (by decide) ?_
  refine cSV (As := [.ref rl, .int 0]) (rest := []) (n := 2) (wr := [(h0, .inr (0, [.ref tx, .ref rw, .ref rl, .int ln])), (tp, .inr (5, [.ref by_, .int (nI T)])), (by_, .inl (cI, 260, .inl fb)), (rw, .inl (cI, 120, .inl frw)), (tx, .inr (6, [.ref tp, .int (nI N), .int (nI 0), .int 0]))]) X hN hK hP hD hS hA (c_fill12 l D cI cB _ rl 0 frl) k_678 k_187 k_96 k_188 (by decide +kernel) ⟨Nat.le_of_ble_eq_true rfl, Nat.le_of_ble_eq_true rfl⟩ ⟨rfl, rfl⟩ [4] [0, 1, 2, 3, 5] rfl rfl (by decide) (by decide) rfl rfl hl.1 (Nat.le_of_ble_eq_true rfl) dX0_read_13 ⟨Nat.le_of_ble_eq_true rfl, Nat.le_of_ble_eq_true rfl⟩ (fun u H locs hw_8 hP hD hS => ?_)
  obtain ⟨a0_fo_7, rfl⟩ : ∃ z, z = u := ⟨_, rfl⟩
  try dsimp only at hw_8
  have hP : va_P D vwCl [(h0, .inr (0, [.ref tx, .ref rw, .ref rl, .int ln])), (tp, .inr (5, [.ref by_, .int (nI T)])), (by_, .inl (cI, 260, .inl fb)), (rw, .inl (cI, 120, .inl frw)), (tx, .inr (6, [.ref tp, .int (nI N), .int (nI 0), .int 0])), (rl, .inl (cI, 12, .inl a0_fo_7))] H := hP
  have hD : va_D A [(h0, .inr (0, [.ref tx, .ref rw, .ref rl, .int ln])), (tp, .inr (5, [.ref by_, .int (nI T)])), (by_, .inl (cI, 260, .inl fb)), (rw, .inl (cI, 120, .inl frw)), (tx, .inr (6, [.ref tp, .int (nI N), .int (nI 0), .int 0])), (rl, .inl (cI, 12, .inl a0_fo_7))] := hD
  refine lv_aload_n hx hb dX0_read_16 rfl (lv_at hl 0 rfl) ?_
  refine lv_iconst (v := 0) hx hb dX0_read_17 (by decide) ?_
  refine va_put (D := D) (ci := 0) (v := .int 0) (ty := .int) (C := RX0) (T := TX0) (N := 4) hx hb htb itX0 tyX0 tyX0_ok nmX0 hown hK hP hD hS 0 rfl rfl 3 (by decide) (htb _ k_305) (fun _ h9 => h9) rfl (tyX0_ok 3 (by decide)) rfl rfl (Nat.le_of_ble_eq_true rfl) dX0_read_18 (fun H locs hP hD hS => ?_)
  have hP : va_P D vwCl [(h0, .inr (0, [.ref tx, .ref rw, .ref rl, .int 0])), (tp, .inr (5, [.ref by_, .int (nI T)])), (by_, .inl (cI, 260, .inl fb)), (rw, .inl (cI, 120, .inl frw)), (tx, .inr (6, [.ref tp, .int (nI N), .int (nI 0), .int 0])), (rl, .inl (cI, 12, .inl a0_fo_7))] H := hP
  have hD : va_D A [(h0, .inr (0, [.ref tx, .ref rw, .ref rl, .int 0])), (tp, .inr (5, [.ref by_, .int (nI T)])), (by_, .inl (cI, 260, .inl fb)), (rw, .inl (cI, 120, .inl frw)), (tx, .inr (6, [.ref tp, .int (nI N), .int (nI 0), .int 0])), (rl, .inl (cI, 12, .inl a0_fo_7))] := hD
  have hP := P_ext 5 (g := fun _ => 0) hP rfl hw_8
  have hD := va_D.set (e := .inl (cI, 12, .inl (fun _ => 0))) hD (p := 5) rfl
  have hP : va_P D vwCl [(h0, .inr (0, [.ref tx, .ref rw, .ref rl, .int (nI 0)])), (tp, .inr (5, [.ref by_, .int (nI T)])), (by_, .inl (cI, 260, .inl fb)), (rw, .inl (cI, 120, .inl frw)), (tx, .inr (6, [.ref tp, .int (nI N), .int (nI 0), .int 0])), (rl, .inl (cI, 12, .inl (fun _ => 0)))] H := hP
  have hD : va_D A [(h0, .inr (0, [.ref tx, .ref rw, .ref rl, .int (nI 0)])), (tp, .inr (5, [.ref by_, .int (nI T)])), (by_, .inl (cI, 260, .inl fb)), (rw, .inl (cI, 120, .inl frw)), (tx, .inr (6, [.ref tp, .int (nI N), .int (nI 0), .int 0])), (rl, .inl (cI, 12, .inl (fun _ => 0)))] := hD
  refine lv_aload_n hx hb dX0_read_21 rfl (lv_at hl 0 rfl) ?_
  refine cVV (As := []) (rest := []) (n := 0) (ci := 0) (q0 := 0) (wr := []) X hN hK hP hD hS hA (c_readLineD l D cI cB _ h0 rw rl 0 tx tp N 0 by_ T fb frw (fun _ => 0) 0 hT hNT (Nat.zero_le _) (Or.inl rfl) (Nat.zero_le _) (RG.zero (fun _ _ => rfl))) (gV k_679 k_681 k_11 k_100 k_682) (by decide +kernel) ⟨Nat.le_of_ble_eq_true rfl, Nat.le_of_ble_eq_true rfl⟩ ⟨rfl, rfl⟩ [0, 4, 1, 2, 3, 5] [] rfl rfl (by decide) (by decide) rfl rfl rfl rfl rfl hl.1 (Nat.le_of_ble_eq_true rfl) dX0_read_22 ⟨Nat.le_of_ble_eq_true rfl, Nat.le_of_ble_eq_true rfl⟩ (fun u H locs hw_15 hP hD hS => ?_)
  obtain ⟨Po_10, fo_11, Ko_12, rwo_13, rlo_14⟩ := u
  try dsimp only at hw_15
  have hP : va_P D vwCl [(h0, .inr (0, [.ref tx, .ref rw, .ref rl, .int (nI Ko_12)])), (tx, .inr (6, [.ref tp, .int (nI N), .int (nI Po_10), .int fo_11])), (tp, .inr (5, [.ref by_, .int (nI T)])), (by_, .inl (cI, 260, .inl fb)), (rw, .inl (cI, 120, .inl rwo_13)), (rl, .inl (cI, 12, .inl rlo_14))] H := hP
  have hD : va_D A [(h0, .inr (0, [.ref tx, .ref rw, .ref rl, .int (nI Ko_12)])), (tx, .inr (6, [.ref tp, .int (nI N), .int (nI Po_10), .int fo_11])), (tp, .inr (5, [.ref by_, .int (nI T)])), (by_, .inl (cI, 260, .inl fb)), (rw, .inl (cI, 120, .inl rwo_13)), (rl, .inl (cI, 12, .inl rlo_14))] := hD
  refine lv_iconst (v := 0) hx hb dX0_read_25 (by decide) ?_
  refine lv_istore_n (lv' := [(2, .int 0), (0, .ref h0), (1, .int (nI N))]) hx hb dX0_read_26 rfl hl (by decide) rfl (fun ls hl => ?_)
  have hgo0 : fo_11 = 0 → Ko_12 = 0 + 1 ∧ 0 < Po_10 := fun z => ((hw_15.2.2.1 rfl).elim (fun g => ⟨g.2.2.1, g.2.2.2⟩) (fun g => absurd z (neg_nz g.1)))
  have loop_27 : ∀ (n i : Nat) (Pa : Nat) (fv : Int32) (Ka : Nat) (rwv : Nat → Int32) (rlv : Nat → Int32), n + i = N → (fv = 0 ∨ fv < 0) → (Pa ≤ N) → (fv = 0 → Ka ≤ 12) → (fv = 0 → i + 1 ≤ Pa ∧ 1 ≤ Ka ∧ (drTot (chF fb N) N frw) = drEnd (chF fb N) N (n + 1) Pa Ka rwv rlv) → (¬ fv = 0 → (drTot (chF fb N) N frw) = .inl fv) → (RG rlv) → ∀ (H : Heap) (locs : List Loc), va_P D vwCl [(h0, .inr (0, [.ref tx, .ref rw, .ref rl, .int (nI Ka)])), (tx, .inr (6, [.ref tp, .int (nI N), .int (nI Pa), .int fv])), (tp, .inr (5, [.ref by_, .int (nI T)])), (by_, .inl (cI, 260, .inl fb)), (rw, .inl (cI, 120, .inl rwv)), (rl, .inl (cI, 12, .inl rlv))] H → va_D A [(h0, .inr (0, [.ref tx, .ref rw, .ref rl, .int (nI Ka)])), (tx, .inr (6, [.ref tp, .int (nI N), .int (nI Pa), .int fv])), (tp, .inr (5, [.ref by_, .int (nI T)])), (by_, .inl (cI, 260, .inl fb)), (rw, .inl (cI, 120, .inl rwv)), (rl, .inl (cI, 12, .inl rlv))] → va_S A s.heap H locs → ∀ (ls : Array Slot), lv_has ls 3 [(0, .ref h0), (1, .int (nI N)), (2, .int (nI i))] → W p l e (rm 4 89) s m ([.ref h0, .int (nI N)] : List Value).toArray below meth c H locs 0 0 Q (F0 m 27 ls []) := by
    intro n
    induction n with
    | zero =>
      intro i Pa fv Ka rwv rlv hni hf hPa hKa hz hnz hrv H locs hP hD hS ls hl
      have hni_27 := hni
      have hi : i = N := by omega
      refine lv_iload_n hx hb dX0_read_27 rfl (lv_at hl 2 rfl) ?_
      refine lv_iload_n hx hb dX0_read_28 rfl (lv_at hl 1 rfl) ?_
      refine lv_icmp_ge (tgt := 61) hx hb dX0_read_29 (by decide) (fun _ => ?_) (fun c_29 => absurd (by rw [hi]; exact nI_le (Nat.le_refl _) (by omega)) c_29)
      refine lv_aload_n hx hb dX0_read_61 rfl (lv_at hl 0 rfl) ?_
      refine va_get (D := D) (ci := 0) (v := .ref tx) (C := RX0) (T := TX0) (N := 4) hx hb htb itX0 hown hK hP 0 rfl rfl 0 (by decide) (htb _ k_302) (fun _ h9 => h9) rfl dX0_read_62 ?_
      refine cVR (As := []) (rest := []) (n := 0) (ci := 6) (q0 := 0) X hN hK hP (c_X6_isRight l D cI cB tx tp (nI N) (nI Pa) fv) (gV k_699 k_658 k_659 k_98 k_660) (by decide +kernel) ⟨Nat.le_of_ble_eq_true rfl, Nat.le_of_ble_eq_true rfl⟩ ⟨rfl, rfl⟩ [1] rfl rfl rfl rfl rfl rfl hl.1 (Nat.le_of_ble_eq_true rfl) dX0_read_65 ⟨Nat.le_of_ble_eq_true rfl, Nat.le_of_ble_eq_true rfl⟩ (fun r_16 hr_16 => ?_)
      subst hr_16
      refine lv_if_eq (tgt := 78) hx hb dX0_read_68 (by decide) (fun c_68 => ?_) (fun c_68 => ?_)
      · refine lv_aload_n hx hb dX0_read_78 rfl (lv_at hl 0 rfl) ?_
        refine va_get (D := D) (ci := 0) (v := .ref tx) (C := RX0) (T := TX0) (N := 4) hx hb htb itX0 hown hK hP 0 rfl rfl 0 (by decide) (htb _ k_302) (fun _ h9 => h9) rfl dX0_read_79 ?_
        refine va_getN (D := D) (ci := 6) (v := .int fv) (C := RX6) (T := TX6) (N := 4) hx hb htb itX6 hown hK hP 1 rfl rfl 3 (by decide) (va_Nw.use rfl (hN _ n_270 rfl)) (fun _ h9 => h9) rfl dX0_read_82 ?_
        exact ret _ _ _ _ fv (Pa, fv, Ka, rwv, rlv) dX0_read_85 rfl (⟨Or.inl ⟨hnz (bIf c_68), hf.resolve_left (bIf c_68)⟩, hrv⟩) (hP.sub [0, 1, 2, 3, 4, 5] rfl) (hD.sub [0, 1, 2, 3, 4, 5] (by decide) rfl) hS
      · refine lv_aload_n hx hb dX0_read_71 rfl (lv_at hl 0 rfl) ?_
        refine va_get (D := D) (ci := 0) (v := .int (nI Ka)) (C := RX0) (T := TX0) (N := 4) hx hb htb itX0 hown hK hP 0 rfl rfl 3 (by decide) (htb _ k_305) (fun _ h9 => h9) rfl dX0_read_72 ?_
        refine lv_goto (tgt := 85) hx hb dX0_read_75 (by decide) ?_
        exact ret _ _ _ _ (nI Ka) (Pa, fv, Ka, rwv, rlv) dX0_read_85 rfl (⟨Or.inr ⟨(hz (bIt c_68)).2.2.trans (drEnd_e (fun w => by have := (hz (bIt c_68)).1; omega)), rfl, nI_lt (a := 0) (hz (bIt c_68)).2.1 (by have := hKa (bIt c_68); omega)⟩, hrv⟩) (hP.sub [0, 1, 2, 3, 4, 5] rfl) (hD.sub [0, 1, 2, 3, 4, 5] (by decide) rfl) hS
    | succ n ih_27 =>
      intro i Pa fv Ka rwv rlv hni hf hPa hKa hz hnz hrv H locs hP hD hS ls hl
      have hni_27 := hni
      have hi : i < N := by omega
      refine lv_iload_n hx hb dX0_read_27 rfl (lv_at hl 2 rfl) ?_
      refine lv_iload_n hx hb dX0_read_28 rfl (lv_at hl 1 rfl) ?_
      refine lv_icmp_ge (tgt := 61) hx hb dX0_read_29 (by decide) (fun c_29 => absurd c_29 (nI_ge hi (by omega))) (fun _ => ?_)
      refine lv_aload_n hx hb dX0_read_32 rfl (lv_at hl 0 rfl) ?_
      refine va_get (D := D) (ci := 0) (v := .ref tx) (C := RX0) (T := TX0) (N := 4) hx hb htb itX0 hown hK hP 0 rfl rfl 0 (by decide) (htb _ k_302) (fun _ h9 => h9) rfl dX0_read_33 ?_
      refine cVR (As := []) (rest := []) (n := 0) (ci := 6) (q0 := 0) X hN hK hP (c_X6_goesOn l D cI cB tx tp (nI N) (nI Pa) fv) (gV k_698 k_654 k_655 k_98 k_656) (by decide +kernel) ⟨Nat.le_of_ble_eq_true rfl, Nat.le_of_ble_eq_true rfl⟩ ⟨rfl, rfl⟩ [1] rfl rfl rfl rfl rfl rfl hl.1 (Nat.le_of_ble_eq_true rfl) dX0_read_36 ⟨Nat.le_of_ble_eq_true rfl, Nat.le_of_ble_eq_true rfl⟩ (fun r_17 hr_17 => ?_)
      subst hr_17
      refine lv_if_eq (tgt := 61) hx hb dX0_read_39 (by decide) (fun c_39 => ?_) (fun c_39 => ?_)
      · refine lv_aload_n hx hb dX0_read_61 rfl (lv_at hl 0 rfl) ?_
        refine va_get (D := D) (ci := 0) (v := .ref tx) (C := RX0) (T := TX0) (N := 4) hx hb htb itX0 hown hK hP 0 rfl rfl 0 (by decide) (htb _ k_302) (fun _ h9 => h9) rfl dX0_read_62 ?_
        refine cVR (As := []) (rest := []) (n := 0) (ci := 6) (q0 := 0) X hN hK hP (c_X6_isRight l D cI cB tx tp (nI N) (nI Pa) fv) (gV k_699 k_658 k_659 k_98 k_660) (by decide +kernel) ⟨Nat.le_of_ble_eq_true rfl, Nat.le_of_ble_eq_true rfl⟩ ⟨rfl, rfl⟩ [1] rfl rfl rfl rfl rfl rfl hl.1 (Nat.le_of_ble_eq_true rfl) dX0_read_65 ⟨Nat.le_of_ble_eq_true rfl, Nat.le_of_ble_eq_true rfl⟩ (fun r_18 hr_18 => ?_)
        subst hr_18
        refine lv_if_eq (tgt := 78) hx hb dX0_read_68 (by decide) (fun c_68 => ?_) (fun c_68 => ?_)
        · refine lv_aload_n hx hb dX0_read_78 rfl (lv_at hl 0 rfl) ?_
          refine va_get (D := D) (ci := 0) (v := .ref tx) (C := RX0) (T := TX0) (N := 4) hx hb htb itX0 hown hK hP 0 rfl rfl 0 (by decide) (htb _ k_302) (fun _ h9 => h9) rfl dX0_read_79 ?_
          refine va_getN (D := D) (ci := 6) (v := .int fv) (C := RX6) (T := TX6) (N := 4) hx hb htb itX6 hown hK hP 1 rfl rfl 3 (by decide) (va_Nw.use rfl (hN _ n_270 rfl)) (fun _ h9 => h9) rfl dX0_read_82 ?_
          exact ret _ _ _ _ fv (Pa, fv, Ka, rwv, rlv) dX0_read_85 rfl (⟨Or.inl ⟨hnz (bIf c_68), hf.resolve_left (bIf c_68)⟩, hrv⟩) (hP.sub [0, 1, 2, 3, 4, 5] rfl) (hD.sub [0, 1, 2, 3, 4, 5] (by decide) rfl) hS
        · refine lv_aload_n hx hb dX0_read_71 rfl (lv_at hl 0 rfl) ?_
          refine va_get (D := D) (ci := 0) (v := .int (nI Ka)) (C := RX0) (T := TX0) (N := 4) hx hb htb itX0 hown hK hP 0 rfl rfl 3 (by decide) (htb _ k_305) (fun _ h9 => h9) rfl dX0_read_72 ?_
          refine lv_goto (tgt := 85) hx hb dX0_read_75 (by decide) ?_
          exact ret _ _ _ _ (nI Ka) (Pa, fv, Ka, rwv, rlv) dX0_read_85 rfl (⟨Or.inr ⟨(hz (bIt c_68)).2.2.trans (drEnd_e (fun w => bIf c_39 ⟨bIt c_68, nI_lt w (by omega)⟩)), rfl, nI_lt (a := 0) (hz (bIt c_68)).2.1 (by have := hKa (bIt c_68); omega)⟩, hrv⟩) (hP.sub [0, 1, 2, 3, 4, 5] rfl) (hD.sub [0, 1, 2, 3, 4, 5] (by decide) rfl) hS
      · have hg39 := bIt c_39
        have hg39b : Pa < N := (nI_ltI (by omega) (by omega)).mp hg39.2
        refine lv_aload_n hx hb dX0_read_42 rfl (lv_at hl 0 rfl) ?_
        refine va_get (D := D) (ci := 0) (v := .ref tx) (C := RX0) (T := TX0) (N := 4) hx hb htb itX0 hown hK hP 0 rfl rfl 0 (by decide) (htb _ k_302) (fun _ h9 => h9) rfl dX0_read_43 ?_
        refine lv_bipush (v := 59) hx hb dX0_read_46 (by decide) ?_
        refine cVV (As := [.int 59]) (rest := []) (n := 1) (ci := 6) (q0 := 0) (wr := [(h0, .inr (0, [.ref tx, .ref rw, .ref rl, .int (nI Ka)])), (rw, .inl (cI, 120, .inl rwv)), (rl, .inl (cI, 12, .inl rlv))]) X hN hK hP hD hS hA (c_expectP l D cI cB _ tx tp N Pa fv by_ T fb 59 hT hNT hPa (by decide)) (gV k_686 k_603 k_604 k_98 k_605) (by decide +kernel) ⟨Nat.le_of_ble_eq_true rfl, Nat.le_of_ble_eq_true rfl⟩ ⟨rfl, rfl⟩ [1, 2, 3] [0, 4, 5] rfl rfl (by decide) (by decide) rfl rfl rfl rfl rfl hl.1 (Nat.le_of_ble_eq_true rfl) dX0_read_48 ⟨Nat.le_of_ble_eq_true rfl, Nat.le_of_ble_eq_true rfl⟩ (fun u H locs hw_22 hP hD hS => ?_)
        obtain ⟨Po_20, fo_21⟩ := u
        try dsimp only at hw_22
        have hP : va_P D vwCl [(h0, .inr (0, [.ref tx, .ref rw, .ref rl, .int (nI Ka)])), (rw, .inl (cI, 120, .inl rwv)), (rl, .inl (cI, 12, .inl rlv)), (tx, .inr (6, [.ref tp, .int (nI N), .int (nI Po_20), .int fo_21])), (tp, .inr (5, [.ref by_, .int (nI T)])), (by_, .inl (cI, 260, .inl fb))] H := hP
        have hD : va_D A [(h0, .inr (0, [.ref tx, .ref rw, .ref rl, .int (nI Ka)])), (rw, .inl (cI, 120, .inl rwv)), (rl, .inl (cI, 12, .inl rlv)), (tx, .inr (6, [.ref tp, .int (nI N), .int (nI Po_20), .int fo_21])), (tp, .inr (5, [.ref by_, .int (nI T)])), (by_, .inl (cI, 260, .inl fb))] := hD
        refine lv_aload_n hx hb dX0_read_51 rfl (lv_at hl 0 rfl) ?_
        refine cVV (As := []) (rest := []) (n := 0) (ci := 0) (q0 := 0) (wr := []) X hN hK hP hD hS hA (c_readLineD l D cI cB _ h0 rw rl Ka tx tp N Po_20 by_ T fb rwv rlv fo_21 hT hNT hw_22.2.2.2 (fexp hf (p := Pa) (by omega) (fun z => (hw_22.1 z).2) (fun z => (hw_22.2.1 z).2)) (hKa hg39.1) hrv) (gV k_679 k_681 k_11 k_100 k_682) (by decide +kernel) ⟨Nat.le_of_ble_eq_true rfl, Nat.le_of_ble_eq_true rfl⟩ ⟨rfl, rfl⟩ [0, 3, 4, 5, 1, 2] [] rfl rfl (by decide) (by decide) rfl rfl rfl rfl rfl hl.1 (Nat.le_of_ble_eq_true rfl) dX0_read_52 ⟨Nat.le_of_ble_eq_true rfl, Nat.le_of_ble_eq_true rfl⟩ (fun u H locs hw_29 hP hD hS => ?_)
        obtain ⟨Po_24, fo_25, Ko_26, rwo_27, rlo_28⟩ := u
        try dsimp only at hw_29
        have hP : va_P D vwCl [(h0, .inr (0, [.ref tx, .ref rw, .ref rl, .int (nI Ko_26)])), (tx, .inr (6, [.ref tp, .int (nI N), .int (nI Po_24), .int fo_25])), (tp, .inr (5, [.ref by_, .int (nI T)])), (by_, .inl (cI, 260, .inl fb)), (rw, .inl (cI, 120, .inl rwo_27)), (rl, .inl (cI, 12, .inl rlo_28))] H := hP
        have hD : va_D A [(h0, .inr (0, [.ref tx, .ref rw, .ref rl, .int (nI Ko_26)])), (tx, .inr (6, [.ref tp, .int (nI N), .int (nI Po_24), .int fo_25])), (tp, .inr (5, [.ref by_, .int (nI T)])), (by_, .inl (cI, 260, .inl fb)), (rw, .inl (cI, 120, .inl rwo_27)), (rl, .inl (cI, 12, .inl rlo_28))] := hD
        refine lv_iinc (v := (nI (i + 1))) (lv' := [(2, .int (nI (i + 1))), (0, .ref h0), (1, .int (nI N))]) hx hb dX0_read_55 hl (k := 2) rfl (nI_1 i) (by decide) rfl (fun ls hl => ?_)
        refine lv_goto (tgt := 27) hx hb dX0_read_58 (by decide) ?_
        have hst := drStep hg39.1 hg39b (hz hg39.1).2.2 (fun z => hw_22.1 z) (fun z => hw_22.2.1 z) (by omega) hw_29.2.1 (fun z => (hw_29.2.2.1 z).elim (fun g => Or.inl ⟨g.1, g.2.1⟩) Or.inr)
        have hgo : fo_25 = 0 → Ko_26 = Ka + 1 ∧ Po_20 < Po_24 := fun z => ((hw_29.2.2.1 (Classical.byContradiction (fun w => w ((hw_29.2.1 w).symm.trans z)))).elim (fun g => ⟨g.2.2.1, g.2.2.2⟩) (fun g => absurd z (neg_nz g.1)))
        exact ih_27 (i + 1) Po_24 fo_25 Ko_26 rwo_27 rlo_28 (by omega) hw_29.1 hw_29.2.2.2.2.1 hw_29.2.2.2.2.2.2 (fun z => ⟨by have := hw_22.2.2.1; have := (hgo z).2; have := (hz hg39.1).1; omega, by have := (hgo z).1; omega, by rw [(hgo z).1]; exact hst.1 z⟩) hst.2 hw_29.2.2.2.2.2.1 _ _ (hP.sub [0, 1, 2, 3, 4, 5] rfl) (hD.sub [0, 1, 2, 3, 4, 5] (by decide) rfl) hS _ (lv_sub hl [1, 2, 0] rfl)
  exact loop_27 N 0 Po_10 fo_11 Ko_12 rwo_13 rlo_14 (by omega) hw_15.1 hw_15.2.2.2.2.1 hw_15.2.2.2.2.2.2 (fun z => ⟨by have := (hgo0 z).2; omega, by have := (hgo0 z).1; omega, by rw [(hgo0 z).1]; exact (drTot_1 ((hw_15.2.2.1 rfl).elim (fun g => Or.inl ⟨g.1, g.2.1⟩) Or.inr)).1 z⟩) ((drTot_1 ((hw_15.2.2.1 rfl).elim (fun g => Or.inl ⟨g.1, g.2.1⟩) Or.inr)).2) hw_15.2.2.2.2.2.1 _ _ (hP.sub [0, 1, 2, 3, 4, 5] rfl) (hD.sub [0, 1, 2, 3, 4, 5] (by decide) rfl) hS _ (lv_sub hl [1, 2, 0] rfl)
