set_option maxRecDepth 100000 in
set_option maxHeartbeats 4000000 in
theorem c_X1_reckon (l : Launch) (D : va_G) (cI cB : ClassId) (sz : Nat) (h0 : Nat) (l1 : Nat) (l2 : Nat) (l3 : Nat) (l4 : Nat) (l5 : Nat) (l6 : Nat) (l7 : Nat) (lz : Int32) (lc : Int32) (a : Int32) (b : Int32) (q1 : Nat → Int32) (q6 : Nat → Int32) (q7 : Nat → Int32)  : MI (S := ((Nat → Int32))) l D cI cB yX1_reckon cX1_reckon 8 .int (rm 1 22) [.ref h0, .int a, .int b] [(h0, .inr (1, [.ref l1, .ref l2, .ref l3, .ref l4, .ref l5, .ref l6, .ref l7, .int lz, .int lc])), (l1, .inl (cI, 240, .inl q1)), (l6, .inl (cI, 8, .inl q6)), (l7, .inl (cI, 32, .inl q7))] sz (fun r u => True) (fun u : ((Nat → Int32)) => [(h0, .inr (1, [.ref l1, .ref l2, .ref l3, .ref l4, .ref l5, .ref l6, .ref l7, .int lz, .int lc])), (l1, .inl (cI, 240, .inl q1)), (l6, .inl (cI, 8, .inl q6)), (l7, .inl (cI, 32, .inl u))]) := by
  refine MI.of (by decide) (Nat.le_of_ble_eq_true rfl) ?_
  intro p e s m below meth c Q ls A X hin hN hP hK hD hA hl ret
  have hS : va_S A s.heap s.heap [] := va_S.rf
  obtain ⟨hx, hb, hml, hown, htb⟩ := id X
  have hl : lv_has ls 8 [(0, .ref h0), (1, .int a), (2, .int b)] := hl
  refine lv_iconst (v := 0) hx hb dX1_reckon_0 (by decide) ?_
  refine lv_istore_n (lv' := [(3, .int 0), (0, .ref h0), (1, .int a), (2, .int b)]) hx hb dX1_reckon_1 rfl hl (by decide) rfl (fun ls hl => ?_)
  refine lv_iload_n hx hb dX1_reckon_2 rfl (lv_at hl 2 rfl) ?_
  refine lv_iconst (v := 0) hx hb dX1_reckon_3 (by decide) ?_
  refine va_mmax (rest := []) hx hb (by rw [hml]; exact hl.1.symm) hown (htb _ k_823) (htb _ k_516) (htb _ k_106) (htb _ k_517) (Nat.le_of_ble_eq_true rfl) (Nat.le_of_ble_eq_true rfl) (Nat.le_of_ble_eq_true rfl) (Nat.le_of_ble_eq_true rfl) dX1_reckon_4 ?_
  refine lv_topi (fun mx_1 emx_1 => ?_)
  obtain ⟨k0, hk0, e_k0⟩ := mx0 emx_1
  refine tv (z := nI k0) e_k0 ?_
  refine lv_istore (lv' := [(4, .int (nI k0)), (3, .int 0), (0, .ref h0), (1, .int a), (2, .int b)]) hx hb dX1_reckon_7 hl (by decide) rfl (fun ls hl => ?_)
  have loop_9 : ∀ (n i : Nat) (t : Nat) (sa : Nat → Int32), 240 ≤ n + i → (i < 2147483648) → (t ≤ 32) → ∀ (H : Heap) (locs : List Loc), va_P D vwCl [(h0, .inr (1, [.ref l1, .ref l2, .ref l3, .ref l4, .ref l5, .ref l6, .ref l7, .int lz, .int lc])), (l1, .inl (cI, 240, .inl q1)), (l6, .inl (cI, 8, .inl q6)), (l7, .inl (cI, 32, .inl sa))] H → va_D A [(h0, .inr (1, [.ref l1, .ref l2, .ref l3, .ref l4, .ref l5, .ref l6, .ref l7, .int lz, .int lc])), (l1, .inl (cI, 240, .inl q1)), (l6, .inl (cI, 8, .inl q6)), (l7, .inl (cI, 32, .inl sa))] → va_S A s.heap H locs → ∀ (ls : Array Slot), lv_has ls 8 [(0, .ref h0), (1, .int a), (2, .int b), (3, .int (nI t)), (4, .int (nI i))] → W p l e (rm 1 22) s m ([.ref h0, .int a, .int b] : List Value).toArray below meth c H locs 0 0 Q (F0 m 9 ls []) := by
    intro n
    induction n with
    | zero =>
      intro i t sa hni hib ht H locs hP hD hS ls hl
      have hni_9 := hni
      have hi : 240 ≤ i := by omega
      refine lv_iload hx hb dX1_reckon_9 (lv_at hl 4 rfl) ?_
      refine lv_iload_n hx hb dX1_reckon_11 rfl (lv_at hl 2 rfl) ?_
      refine lv_icmp_ge (tgt := 264) hx hb dX1_reckon_12 (by decide) (fun c_12 => ?_) (fun c_12 => ?_)
      · refine lv_iload_n hx hb dX1_reckon_264 rfl (lv_at hl 3 rfl) ?_
        refine lv_if_le (tgt := 279) hx hb dX1_reckon_265 (by decide) (fun c_265 => ?_) (fun c_265 => ?_)
        · refine lv_iconst (v := 0) hx hb dX1_reckon_279 (by decide) ?_
          exact ret _ _ _ _ 0 sa dX1_reckon_280 rfl trivial (hP.sub [0, 1, 2, 3] rfl) (hD.sub [0, 1, 2, 3] (by decide) rfl) hS
        · obtain ⟨t_2, rfl⟩ := nzL c_265
          refine lv_aload_n hx hb dX1_reckon_268 rfl (lv_at hl 0 rfl) ?_
          refine va_get (D := D) (ci := 1) (v := .ref l7) (C := RX1) (T := TX1) (N := 9) hx hb htb itX1 hown hK hP 0 rfl rfl 6 (by decide) (htb _ k_230) (fun _ h9 => h9) rfl dX1_reckon_269 ?_
          refine lv_iload_n hx hb dX1_reckon_272 rfl (lv_at hl 3 rfl) ?_
          refine lv_iconst (v := 1) hx hb dX1_reckon_273 (by decide) ?_
          refine lv_isub hx hb dX1_reckon_274 ?_
          refine tv (z := (nI t_2)) (nI_pred t_2) ?_
          refine va_iald hx hb hK hP 3 0 rfl rfl (by have a0 := Int32.le_iff_toInt_le.mp c_12; have a1 := mt Int32.le_iff_toInt_le.mpr c_265; have a2 : (0 : Int32).toInt = 0 := (by decide); have a3 := nI_toInt (n := (t_2 + 1)) (by omega); have a4 := nI_toInt (n := i) (by omega); exact vp_in_nI (by omega) (by decide)) dX1_reckon_275 ?_
          refine lv_goto (tgt := 280) hx hb dX1_reckon_276 (by decide) ?_
          exact ret _ _ _ _ (sa (Int32.toNatClampNeg (nI t_2))) sa dX1_reckon_280 rfl trivial (hP.sub [0, 1, 2, 3] rfl) (hD.sub [0, 1, 2, 3] (by decide) rfl) hS
      · refine lv_iload hx hb dX1_reckon_15 (lv_at hl 4 rfl) ?_
        refine lv_sipush (v := 240) hx hb dX1_reckon_17 (by decide) ?_
        refine lv_icmp_ge (tgt := 264) hx hb dX1_reckon_20 (by decide) (fun _ => ?_) (fun c_20 => absurd (nI_le (a := 240) hi (by omega)) c_20)
        refine lv_iload_n hx hb dX1_reckon_264 rfl (lv_at hl 3 rfl) ?_
        refine lv_if_le (tgt := 279) hx hb dX1_reckon_265 (by decide) (fun c_265 => ?_) (fun c_265 => ?_)
        · refine lv_iconst (v := 0) hx hb dX1_reckon_279 (by decide) ?_
          exact ret _ _ _ _ 0 sa dX1_reckon_280 rfl trivial (hP.sub [0, 1, 2, 3] rfl) (hD.sub [0, 1, 2, 3] (by decide) rfl) hS
        · obtain ⟨t_3, rfl⟩ := nzL c_265
          refine lv_aload_n hx hb dX1_reckon_268 rfl (lv_at hl 0 rfl) ?_
          refine va_get (D := D) (ci := 1) (v := .ref l7) (C := RX1) (T := TX1) (N := 9) hx hb htb itX1 hown hK hP 0 rfl rfl 6 (by decide) (htb _ k_230) (fun _ h9 => h9) rfl dX1_reckon_269 ?_
          refine lv_iload_n hx hb dX1_reckon_272 rfl (lv_at hl 3 rfl) ?_
          refine lv_iconst (v := 1) hx hb dX1_reckon_273 (by decide) ?_
          refine lv_isub hx hb dX1_reckon_274 ?_
          refine tv (z := (nI t_3)) (nI_pred t_3) ?_
          refine va_iald hx hb hK hP 3 0 rfl rfl (by have a0 := mt Int32.le_iff_toInt_le.mpr c_12; have a1 := mt Int32.le_iff_toInt_le.mpr c_265; have a2 : (0 : Int32).toInt = 0 := (by decide); have a3 := nI_toInt (n := (t_3 + 1)) (by omega); have a4 := nI_toInt (n := i) (by omega); exact vp_in_nI (by omega) (by decide)) dX1_reckon_275 ?_
          refine lv_goto (tgt := 280) hx hb dX1_reckon_276 (by decide) ?_
          exact ret _ _ _ _ (sa (Int32.toNatClampNeg (nI t_3))) sa dX1_reckon_280 rfl trivial (hP.sub [0, 1, 2, 3] rfl) (hD.sub [0, 1, 2, 3] (by decide) rfl) hS
    | succ n ih_9 =>
      intro i t sa hni hib ht H locs hP hD hS ls hl
      have hni_9 := hni
      refine lv_iload hx hb dX1_reckon_9 (lv_at hl 4 rfl) ?_
      refine lv_iload_n hx hb dX1_reckon_11 rfl (lv_at hl 2 rfl) ?_
      refine lv_icmp_ge (tgt := 264) hx hb dX1_reckon_12 (by decide) (fun c_12 => ?_) (fun c_12 => ?_)
      · refine lv_iload_n hx hb dX1_reckon_264 rfl (lv_at hl 3 rfl) ?_
        refine lv_if_le (tgt := 279) hx hb dX1_reckon_265 (by decide) (fun c_265 => ?_) (fun c_265 => ?_)
        · refine lv_iconst (v := 0) hx hb dX1_reckon_279 (by decide) ?_
          exact ret _ _ _ _ 0 sa dX1_reckon_280 rfl trivial (hP.sub [0, 1, 2, 3] rfl) (hD.sub [0, 1, 2, 3] (by decide) rfl) hS
        · obtain ⟨t_4, rfl⟩ := nzL c_265
          refine lv_aload_n hx hb dX1_reckon_268 rfl (lv_at hl 0 rfl) ?_
          refine va_get (D := D) (ci := 1) (v := .ref l7) (C := RX1) (T := TX1) (N := 9) hx hb htb itX1 hown hK hP 0 rfl rfl 6 (by decide) (htb _ k_230) (fun _ h9 => h9) rfl dX1_reckon_269 ?_
          refine lv_iload_n hx hb dX1_reckon_272 rfl (lv_at hl 3 rfl) ?_
          refine lv_iconst (v := 1) hx hb dX1_reckon_273 (by decide) ?_
          refine lv_isub hx hb dX1_reckon_274 ?_
          refine tv (z := (nI t_4)) (nI_pred t_4) ?_
          refine va_iald hx hb hK hP 3 0 rfl rfl (by have a0 := Int32.le_iff_toInt_le.mp c_12; have a1 := mt Int32.le_iff_toInt_le.mpr c_265; have a2 : (0 : Int32).toInt = 0 := (by decide); have a3 := nI_toInt (n := (t_4 + 1)) (by omega); have a4 := nI_toInt (n := i) (by omega); exact vp_in_nI (by omega) (by decide)) dX1_reckon_275 ?_
          refine lv_goto (tgt := 280) hx hb dX1_reckon_276 (by decide) ?_
          exact ret _ _ _ _ (sa (Int32.toNatClampNeg (nI t_4))) sa dX1_reckon_280 rfl trivial (hP.sub [0, 1, 2, 3] rfl) (hD.sub [0, 1, 2, 3] (by decide) rfl) hS
      · refine lv_iload hx hb dX1_reckon_15 (lv_at hl 4 rfl) ?_
        refine lv_sipush (v := 240) hx hb dX1_reckon_17 (by decide) ?_
        refine lv_icmp_ge (tgt := 264) hx hb dX1_reckon_20 (by decide) (fun c_20 => ?_) (fun c_20 => ?_)
        · refine lv_iload_n hx hb dX1_reckon_264 rfl (lv_at hl 3 rfl) ?_
          refine lv_if_le (tgt := 279) hx hb dX1_reckon_265 (by decide) (fun c_265 => ?_) (fun c_265 => ?_)
          · refine lv_iconst (v := 0) hx hb dX1_reckon_279 (by decide) ?_
            exact ret _ _ _ _ 0 sa dX1_reckon_280 rfl trivial (hP.sub [0, 1, 2, 3] rfl) (hD.sub [0, 1, 2, 3] (by decide) rfl) hS
          · obtain ⟨t_5, rfl⟩ := nzL c_265
            refine lv_aload_n hx hb dX1_reckon_268 rfl (lv_at hl 0 rfl) ?_
            refine va_get (D := D) (ci := 1) (v := .ref l7) (C := RX1) (T := TX1) (N := 9) hx hb htb itX1 hown hK hP 0 rfl rfl 6 (by decide) (htb _ k_230) (fun _ h9 => h9) rfl dX1_reckon_269 ?_
            refine lv_iload_n hx hb dX1_reckon_272 rfl (lv_at hl 3 rfl) ?_
            refine lv_iconst (v := 1) hx hb dX1_reckon_273 (by decide) ?_
            refine lv_isub hx hb dX1_reckon_274 ?_
            refine tv (z := (nI t_5)) (nI_pred t_5) ?_
            refine va_iald hx hb hK hP 3 0 rfl rfl (by have a0 := mt Int32.le_iff_toInt_le.mpr c_12; have a1 := Int32.le_iff_toInt_le.mp c_20; have a2 := mt Int32.le_iff_toInt_le.mpr c_265; have a3 : (0 : Int32).toInt = 0 := (by decide); have a4 : (240 : Int32).toInt = 240 := (by decide); have a5 := nI_toInt (n := (t_5 + 1)) (by omega); have a6 := nI_toInt (n := i) (by omega); exact vp_in_nI (by omega) (by decide)) dX1_reckon_275 ?_
            refine lv_goto (tgt := 280) hx hb dX1_reckon_276 (by decide) ?_
            exact ret _ _ _ _ (sa (Int32.toNatClampNeg (nI t_5))) sa dX1_reckon_280 rfl trivial (hP.sub [0, 1, 2, 3] rfl) (hD.sub [0, 1, 2, 3] (by decide) rfl) hS
        · refine lv_aload_n hx hb dX1_reckon_23 rfl (lv_at hl 0 rfl) ?_
          refine va_get (D := D) (ci := 1) (v := .ref l1) (C := RX1) (T := TX1) (N := 9) hx hb htb itX1 hown hK hP 0 rfl rfl 0 (by decide) (htb _ k_224) (fun _ h9 => h9) rfl dX1_reckon_24 ?_
          refine lv_iload hx hb dX1_reckon_27 (lv_at hl 4 rfl) ?_
          refine va_iald hx hb hK hP 1 0 rfl rfl (by have a0 := mt Int32.le_iff_toInt_le.mpr c_12; have a1 := mt Int32.le_iff_toInt_le.mpr c_20; have a2 : (240 : Int32).toInt = 240 := (by decide); have a3 := nI_toInt (n := i) (by omega); exact vp_in_nI (by omega) (by decide)) dX1_reckon_29 ?_
          refine lv_bipush (v := 15) hx hb dX1_reckon_30 (by decide) ?_
          refine lv_iand hx hb dX1_reckon_32 ?_
          refine lv_topi (fun x_6 ex_6 => ?_)
          refine lv_istore (lv' := [(5, .int x_6), (0, .ref h0), (1, .int a), (2, .int b), (3, .int (nI t)), (4, .int (nI i))]) hx hb dX1_reckon_33 hl (by decide) rfl (fun ls hl => ?_)
          refine lv_aload_n hx hb dX1_reckon_35 rfl (lv_at hl 1 rfl) ?_
          refine va_get (D := D) (ci := 1) (v := .ref l1) (C := RX1) (T := TX1) (N := 9) hx hb htb itX1 hown hK hP 0 rfl rfl 0 (by decide) (htb _ k_224) (fun _ h9 => h9) rfl dX1_reckon_36 ?_
          refine lv_iload hx hb dX1_reckon_39 (lv_at hl 5 rfl) ?_
          refine va_iald hx hb hK hP 1 0 rfl rfl (by have a0 := mt Int32.le_iff_toInt_le.mpr c_12; have a1 := mt Int32.le_iff_toInt_le.mpr c_20; have a2 : (240 : Int32).toInt = 240 := (by decide); have a3 := nI_toInt (n := i) (by omega); exact vp_in_nI (by omega) (by decide)) dX1_reckon_41 ?_
          refine lv_iconst (v := 4) hx hb dX1_reckon_42 (by decide) ?_
          refine lv_ishr hx hb dX1_reckon_43 ?_
          refine lv_topi (fun x_7 ex_7 => ?_)
          refine lv_istore (lv' := [(6, .int x_7), (5, .int x_6), (0, .ref h0), (1, .int a), (2, .int b), (3, .int (nI t)), (4, .int (nI i))]) hx hb dX1_reckon_44 hl (by decide) rfl (fun ls hl => ?_)
          refine lv_iload hx hb dX1_reckon_46 (lv_at hl 1 rfl) ?_
          refine lv_if_eq (tgt := 57) hx hb dX1_reckon_48 (by decide) (fun c_48 => ?_) (fun c_48 => ?_)
          · refine lv_iload_n hx hb dX1_reckon_57 rfl (lv_at hl 5 rfl) ?_
            refine lv_aload_n hx hb dX1_reckon_58 rfl (lv_at hl 2 rfl) ?_
            refine va_get (D := D) (ci := 1) (v := .ref l7) (C := RX1) (T := TX1) (N := 9) hx hb htb itX1 hown hK hP 0 rfl rfl 6 (by decide) (htb _ k_230) (fun _ h9 => h9) rfl dX1_reckon_59 ?_
            refine va_alen hx hb hK hP 3 0 rfl rfl (v := 32) rfl dX1_reckon_62 ?_
            refine lv_icmp_lt (tgt := 68) hx hb dX1_reckon_63 (by decide) (fun c_63 => ?_) (fun c_63 => ?_)
            · refine lv_aload_n hx hb dX1_reckon_68 rfl (lv_at hl 2 rfl) ?_
              refine va_get (D := D) (ci := 1) (v := .ref l7) (C := RX1) (T := TX1) (N := 9) hx hb htb itX1 hown hK hP 0 rfl rfl 6 (by decide) (htb _ k_230) (fun _ h9 => h9) rfl dX1_reckon_69 ?_
              refine lv_iload_n hx hb dX1_reckon_72 rfl (lv_at hl 5 rfl) ?_
              refine lv_iload hx hb dX1_reckon_73 (lv_at hl 1 rfl) ?_
              refine lv_if_ne (tgt := 83) hx hb dX1_reckon_75 (by decide) (fun c_75 => ?_) (fun c_75 => ?_)
              · refine lv_aload_n hx hb dX1_reckon_83 rfl (lv_at hl 2 rfl) ?_
                refine va_get (D := D) (ci := 1) (v := .ref l6) (C := RX1) (T := TX1) (N := 9) hx hb htb itX1 hown hK hP 0 rfl rfl 5 (by decide) (htb _ k_229) (fun _ h9 => h9) rfl dX1_reckon_84 ?_
                refine lv_iload hx hb dX1_reckon_87 (lv_at hl 0 rfl) ?_
                refine lv_bipush (v := 7) hx hb dX1_reckon_89 (by decide) ?_
                refine lv_iand hx hb dX1_reckon_91 ?_
                refine va_iald hx hb hK hP 2 0 rfl rfl (pk_andIn _ 3 (by decide) (by decide)) dX1_reckon_92 ?_
                refine lv_topi (fun x_8 ex_8 => ?_)
                refine va_iast hx hb hK hP hD hS 3 0 rfl rfl (by have a0 := mt Int32.le_iff_toInt_le.mpr c_12; have a1 := mt Int32.le_iff_toInt_le.mpr c_20; have a2 := congrArg Int32.toInt c_48; have a3 := Int32.lt_iff_toInt_lt.mp c_63; have a4 := mt Int32.toInt_inj.mp c_75; have a5 : (0 : Int32).toInt = 0 := (by decide); have a6 : (240 : Int32).toInt = 240 := (by decide); have a7 : (32 : Int32).toInt = 32 := (by decide); have a8 := nI_toInt (n := i) (by omega); have a9 := nI_toInt (n := t) (by omega); exact vp_in_nI (by omega) (by decide)) dX1_reckon_93 (fun H locs hP hD hS => ?_)
                obtain ⟨f_9, ef_9⟩ : ∃ g : Nat → Int32, g = upd sa (Int32.toNatClampNeg (nI t)) x_8 := ⟨_, rfl⟩
                rw [← ef_9] at hP hD
                have hP : va_P D vwCl [(h0, .inr (1, [.ref l1, .ref l2, .ref l3, .ref l4, .ref l5, .ref l6, .ref l7, .int lz, .int lc])), (l1, .inl (cI, 240, .inl q1)), (l6, .inl (cI, 8, .inl q6)), (l7, .inl (cI, 32, .inl f_9))] H := hP
                have hD : va_D A [(h0, .inr (1, [.ref l1, .ref l2, .ref l3, .ref l4, .ref l5, .ref l6, .ref l7, .int lz, .int lc])), (l1, .inl (cI, 240, .inl q1)), (l6, .inl (cI, 8, .inl q6)), (l7, .inl (cI, 32, .inl f_9))] := hD
                refine lv_iinc (v := (nI (t + 1))) (lv' := [(3, .int (nI (t + 1))), (6, .int x_7), (5, .int x_6), (0, .ref h0), (1, .int a), (2, .int b), (4, .int (nI i))]) hx hb dX1_reckon_94 hl (k := 5) rfl (nI_1 t) (by decide) rfl (fun ls hl => ?_)
                refine lv_goto (tgt := 258) hx hb dX1_reckon_97 (by decide) ?_
                refine lv_iinc (v := (nI (i + 1))) (lv' := [(4, .int (nI (i + 1))), (3, .int (nI (t + 1))), (6, .int x_7), (5, .int x_6), (0, .ref h0), (1, .int a), (2, .int b)]) hx hb dX1_reckon_258 hl (k := 6) rfl (nI_1 i) (by decide) rfl (fun ls hl => ?_)
                refine lv_goto (tgt := 9) hx hb dX1_reckon_261 (by decide) ?_
                exact ih_9 (i + 1) (t + 1) f_9 (by omega) (by have a0 := mt Int32.le_iff_toInt_le.mpr c_12; have a1 := mt Int32.le_iff_toInt_le.mpr c_20; have a2 := congrArg Int32.toInt c_48; have a3 := Int32.lt_iff_toInt_lt.mp c_63; have a4 := mt Int32.toInt_inj.mp c_75; have a5 : (0 : Int32).toInt = 0 := (by decide); have a6 : (240 : Int32).toInt = 240 := (by decide); have a7 : (32 : Int32).toInt = 32 := (by decide); have a8 := nI_toInt (n := i) (by omega); have a9 := nI_toInt (n := t) (by omega); omega) (by have a0 := mt Int32.le_iff_toInt_le.mpr c_12; have a1 := mt Int32.le_iff_toInt_le.mpr c_20; have a2 := congrArg Int32.toInt c_48; have a3 := Int32.lt_iff_toInt_lt.mp c_63; have a4 := mt Int32.toInt_inj.mp c_75; have a5 : (0 : Int32).toInt = 0 := (by decide); have a6 : (240 : Int32).toInt = 240 := (by decide); have a7 : (32 : Int32).toInt = 32 := (by decide); have a8 := nI_toInt (n := i) (by omega); have a9 := nI_toInt (n := t) (by omega); omega) _ _ (hP.sub [0, 1, 2, 3] rfl) (hD.sub [0, 1, 2, 3] (by decide) rfl) hS _ (lv_sub hl [4, 5, 6, 1, 0] rfl)
              · refine lv_iload hx hb dX1_reckon_78 (lv_at hl 0 rfl) ?_
                refine lv_goto (tgt := 93) hx hb dX1_reckon_80 (by decide) ?_
                refine va_iast hx hb hK hP hD hS 3 0 rfl rfl (by have a0 := mt Int32.le_iff_toInt_le.mpr c_12; have a1 := mt Int32.le_iff_toInt_le.mpr c_20; have a2 := congrArg Int32.toInt c_48; have a3 := Int32.lt_iff_toInt_lt.mp c_63; have a4 := congrArg Int32.toInt c_75; have a5 : (0 : Int32).toInt = 0 := (by decide); have a6 : (240 : Int32).toInt = 240 := (by decide); have a7 : (32 : Int32).toInt = 32 := (by decide); have a8 := nI_toInt (n := i) (by omega); have a9 := nI_toInt (n := t) (by omega); exact vp_in_nI (by omega) (by decide)) dX1_reckon_93 (fun H locs hP hD hS => ?_)
                obtain ⟨f_10, ef_10⟩ : ∃ g : Nat → Int32, g = upd sa (Int32.toNatClampNeg (nI t)) x_7 := ⟨_, rfl⟩
                rw [← ef_10] at hP hD
                have hP : va_P D vwCl [(h0, .inr (1, [.ref l1, .ref l2, .ref l3, .ref l4, .ref l5, .ref l6, .ref l7, .int lz, .int lc])), (l1, .inl (cI, 240, .inl q1)), (l6, .inl (cI, 8, .inl q6)), (l7, .inl (cI, 32, .inl f_10))] H := hP
                have hD : va_D A [(h0, .inr (1, [.ref l1, .ref l2, .ref l3, .ref l4, .ref l5, .ref l6, .ref l7, .int lz, .int lc])), (l1, .inl (cI, 240, .inl q1)), (l6, .inl (cI, 8, .inl q6)), (l7, .inl (cI, 32, .inl f_10))] := hD
                refine lv_iinc (v := (nI (t + 1))) (lv' := [(3, .int (nI (t + 1))), (6, .int x_7), (5, .int x_6), (0, .ref h0), (1, .int a), (2, .int b), (4, .int (nI i))]) hx hb dX1_reckon_94 hl (k := 5) rfl (nI_1 t) (by decide) rfl (fun ls hl => ?_)
                refine lv_goto (tgt := 258) hx hb dX1_reckon_97 (by decide) ?_
                refine lv_iinc (v := (nI (i + 1))) (lv' := [(4, .int (nI (i + 1))), (3, .int (nI (t + 1))), (6, .int x_7), (5, .int x_6), (0, .ref h0), (1, .int a), (2, .int b)]) hx hb dX1_reckon_258 hl (k := 6) rfl (nI_1 i) (by decide) rfl (fun ls hl => ?_)
                refine lv_goto (tgt := 9) hx hb dX1_reckon_261 (by decide) ?_
                exact ih_9 (i + 1) (t + 1) f_10 (by omega) (by have a0 := mt Int32.le_iff_toInt_le.mpr c_12; have a1 := mt Int32.le_iff_toInt_le.mpr c_20; have a2 := congrArg Int32.toInt c_48; have a3 := Int32.lt_iff_toInt_lt.mp c_63; have a4 := congrArg Int32.toInt c_75; have a5 : (0 : Int32).toInt = 0 := (by decide); have a6 : (240 : Int32).toInt = 240 := (by decide); have a7 : (32 : Int32).toInt = 32 := (by decide); have a8 := nI_toInt (n := i) (by omega); have a9 := nI_toInt (n := t) (by omega); omega) (by have a0 := mt Int32.le_iff_toInt_le.mpr c_12; have a1 := mt Int32.le_iff_toInt_le.mpr c_20; have a2 := congrArg Int32.toInt c_48; have a3 := Int32.lt_iff_toInt_lt.mp c_63; have a4 := congrArg Int32.toInt c_75; have a5 : (0 : Int32).toInt = 0 := (by decide); have a6 : (240 : Int32).toInt = 240 := (by decide); have a7 : (32 : Int32).toInt = 32 := (by decide); have a8 := nI_toInt (n := i) (by omega); have a9 := nI_toInt (n := t) (by omega); omega) _ _ (hP.sub [0, 1, 2, 3] rfl) (hD.sub [0, 1, 2, 3] (by decide) rfl) hS _ (lv_sub hl [4, 5, 6, 1, 0] rfl)
            · refine lv_iconst (v := 0) hx hb dX1_reckon_66 (by decide) ?_
              exact ret _ _ _ _ 0 sa dX1_reckon_67 rfl trivial (hP.sub [0, 1, 2, 3] rfl) (hD.sub [0, 1, 2, 3] (by decide) rfl) hS
          · refine lv_iload hx hb dX1_reckon_51 (lv_at hl 1 rfl) ?_
            refine lv_iconst (v := 1) hx hb dX1_reckon_53 (by decide) ?_
            refine lv_icmp_ne (tgt := 100) hx hb dX1_reckon_54 (by decide) (fun c_54 => ?_) (fun c_54 => ?_)
            · refine lv_iload_n hx hb dX1_reckon_100 rfl (lv_at hl 5 rfl) ?_
              refine lv_if_ne (tgt := 106) hx hb dX1_reckon_101 (by decide) (fun c_101 => ?_) (fun c_101 => ?_)
              · obtain ⟨t_11, rfl⟩ := nzS c_101
                refine lv_iload hx hb dX1_reckon_106 (lv_at hl 1 rfl) ?_
                refine lv_iconst (v := 2) hx hb dX1_reckon_108 (by decide) ?_
                refine lv_icmp_ne (tgt := 133) hx hb dX1_reckon_109 (by decide) (fun c_109 => ?_) (fun c_109 => ?_)
                · refine lv_iload hx hb dX1_reckon_133 (lv_at hl 1 rfl) ?_
                  refine lv_iconst (v := 3) hx hb dX1_reckon_135 (by decide) ?_
                  refine lv_icmp_eq (tgt := 145) hx hb dX1_reckon_136 (by decide) (fun c_136 => ?_) (fun c_136 => ?_)
                  · refine lv_aload_n hx hb dX1_reckon_145 rfl (lv_at hl 2 rfl) ?_
                    refine va_get (D := D) (ci := 1) (v := .ref l7) (C := RX1) (T := TX1) (N := 9) hx hb htb itX1 hown hK hP 0 rfl rfl 6 (by decide) (htb _ k_230) (fun _ h9 => h9) rfl dX1_reckon_146 ?_
                    refine lv_iload_n hx hb dX1_reckon_149 rfl (lv_at hl 5 rfl) ?_
                    refine lv_iconst (v := 1) hx hb dX1_reckon_150 (by decide) ?_
                    refine lv_isub hx hb dX1_reckon_151 ?_
                    refine tv (z := (nI t_11)) (nI_pred t_11) ?_
                    refine va_iald hx hb hK hP 3 0 rfl rfl (by have a0 := mt Int32.le_iff_toInt_le.mpr c_12; have a1 := mt Int32.le_iff_toInt_le.mpr c_20; have a2 := mt Int32.toInt_inj.mp c_48; have a3 := mt Int32.toInt_inj.mp c_54; have a4 := mt Int32.toInt_inj.mp c_101; have a5 := mt Int32.toInt_inj.mp c_109; have a6 := congrArg Int32.toInt c_136; have a7 : (0 : Int32).toInt = 0 := (by decide); have a8 : (1 : Int32).toInt = 1 := (by decide); have a9 : (2 : Int32).toInt = 2 := (by decide); have a10 : (240 : Int32).toInt = 240 := (by decide); have a11 : (3 : Int32).toInt = 3 := (by decide); have a12 := nI_toInt (n := (t_11 + 1)) (by omega); have a13 := nI_toInt (n := i) (by omega); exact vp_in_nI (by omega) (by decide)) dX1_reckon_152 ?_
                    refine lv_iload hx hb dX1_reckon_153 (lv_at hl 1 rfl) ?_
                    refine lv_iconst (v := 3) hx hb dX1_reckon_155 (by decide) ?_
                    refine lv_icmp_ne (tgt := 163) hx hb dX1_reckon_156 (by decide) (fun c_156 => ?_) (fun c_156 => ?_)
                    · refine lv_iconst (v := 0) hx hb dX1_reckon_163 (by decide) ?_
                      refine lv_icmp_ne (tgt := 181) hx hb dX1_reckon_164 (by decide) (fun c_164 => ?_) (fun c_164 => ?_)
                      · refine lv_iinc (v := (nI t_11)) (lv' := [(3, .int (nI t_11)), (6, .int x_7), (5, .int x_6), (0, .ref h0), (1, .int a), (2, .int b), (4, .int (nI i))]) hx hb dX1_reckon_181 hl (k := 5) rfl (pk_m1 t_11) (by decide) rfl (fun ls hl => ?_)
                        refine lv_goto (tgt := 258) hx hb dX1_reckon_184 (by decide) ?_
                        refine lv_iinc (v := (nI (i + 1))) (lv' := [(4, .int (nI (i + 1))), (3, .int (nI t_11)), (6, .int x_7), (5, .int x_6), (0, .ref h0), (1, .int a), (2, .int b)]) hx hb dX1_reckon_258 hl (k := 6) rfl (nI_1 i) (by decide) rfl (fun ls hl => ?_)
                        refine lv_goto (tgt := 9) hx hb dX1_reckon_261 (by decide) ?_
                        exact ih_9 (i + 1) t_11 sa (by omega) (by have a0 := mt Int32.le_iff_toInt_le.mpr c_12; have a1 := mt Int32.le_iff_toInt_le.mpr c_20; have a2 := mt Int32.toInt_inj.mp c_48; have a3 := mt Int32.toInt_inj.mp c_54; have a4 := mt Int32.toInt_inj.mp c_101; have a5 := mt Int32.toInt_inj.mp c_109; have a6 := congrArg Int32.toInt c_136; have a7 := mt Int32.toInt_inj.mp c_156; have a8 := mt Int32.toInt_inj.mp c_164; have a9 : (0 : Int32).toInt = 0 := (by decide); have a10 : (1 : Int32).toInt = 1 := (by decide); have a11 : (2 : Int32).toInt = 2 := (by decide); have a12 : (240 : Int32).toInt = 240 := (by decide); have a13 : (3 : Int32).toInt = 3 := (by decide); have a14 := nI_toInt (n := (t_11 + 1)) (by omega); have a15 := nI_toInt (n := i) (by omega); omega) (by have a0 := mt Int32.le_iff_toInt_le.mpr c_12; have a1 := mt Int32.le_iff_toInt_le.mpr c_20; have a2 := mt Int32.toInt_inj.mp c_48; have a3 := mt Int32.toInt_inj.mp c_54; have a4 := mt Int32.toInt_inj.mp c_101; have a5 := mt Int32.toInt_inj.mp c_109; have a6 := congrArg Int32.toInt c_136; have a7 := mt Int32.toInt_inj.mp c_156; have a8 := mt Int32.toInt_inj.mp c_164; have a9 : (0 : Int32).toInt = 0 := (by decide); have a10 : (1 : Int32).toInt = 1 := (by decide); have a11 : (2 : Int32).toInt = 2 := (by decide); have a12 : (240 : Int32).toInt = 240 := (by decide); have a13 : (3 : Int32).toInt = 3 := (by decide); have a14 := nI_toInt (n := (t_11 + 1)) (by omega); have a15 := nI_toInt (n := i) (by omega); omega) _ _ (hP.sub [0, 1, 2, 3] rfl) (hD.sub [0, 1, 2, 3] (by decide) rfl) hS _ (lv_sub hl [4, 5, 6, 1, 0] rfl)
                      · refine lv_iload hx hb dX1_reckon_167 (lv_at hl 6 rfl) ?_
                        refine lv_iload hx hb dX1_reckon_169 (lv_at hl 0 rfl) ?_
                        refine lv_iconst (v := 1) hx hb dX1_reckon_171 (by decide) ?_
                        refine lv_isub hx hb dX1_reckon_172 ?_
                        refine va_mmax (rest := []) hx hb (by rw [hml]; exact hl.1.symm) hown (htb _ k_823) (htb _ k_516) (htb _ k_106) (htb _ k_517) (Nat.le_of_ble_eq_true rfl) (Nat.le_of_ble_eq_true rfl) (Nat.le_of_ble_eq_true rfl) (Nat.le_of_ble_eq_true rfl) dX1_reckon_173 ?_
                        refine lv_topi (fun mx_12 emx_12 => ?_)
                        obtain ⟨j_13, hj_13a, hj_13b, ej_13, hj_13c⟩ := mxN emx_12 rfl hib
                        refine tv (z := nI j_13) ej_13 ?_
                        have hj_13d : j_13 < 2147483647 := by have a0 := mt Int32.le_iff_toInt_le.mpr c_12; have a1 := mt Int32.le_iff_toInt_le.mpr c_20; have a2 := mt Int32.toInt_inj.mp c_48; have a3 := mt Int32.toInt_inj.mp c_54; have a4 := mt Int32.toInt_inj.mp c_101; have a5 := mt Int32.toInt_inj.mp c_109; have a6 := congrArg Int32.toInt c_136; have a7 := mt Int32.toInt_inj.mp c_156; have a8 := congrArg Int32.toInt c_164; have a9 : (0 : Int32).toInt = 0 := (by decide); have a10 : (1 : Int32).toInt = 1 := (by decide); have a11 : (2 : Int32).toInt = 2 := (by decide); have a12 : (240 : Int32).toInt = 240 := (by decide); have a13 : (3 : Int32).toInt = 3 := (by decide); have a14 := nI_toInt (n := (t_11 + 1)) (by omega); have a15 := nI_toInt (n := i) (by omega); have w1 := shr4 (q1 (Int32.toNatClampNeg (nI i))); rw [← ex_7] at w1; have w2 : (1 : Int32).toInt = 1 := (by decide); have w3 := subT (x := x_7) (y := 1) (by omega) (by omega); omega
                        refine lv_istore (lv' := [(4, .int (nI j_13)), (6, .int x_7), (5, .int x_6), (0, .ref h0), (1, .int a), (2, .int b), (3, .int (nI (t_11 + 1)))]) hx hb dX1_reckon_176 hl (by decide) rfl (fun ls hl => ?_)
                        refine lv_goto (tgt := 258) hx hb dX1_reckon_178 (by decide) ?_
                        refine lv_iinc (v := (nI (j_13 + 1))) (lv' := [(4, .int (nI (j_13 + 1))), (6, .int x_7), (5, .int x_6), (0, .ref h0), (1, .int a), (2, .int b), (3, .int (nI (t_11 + 1)))]) hx hb dX1_reckon_258 hl (k := 0) rfl (nI_1 j_13) (by decide) rfl (fun ls hl => ?_)
                        refine lv_goto (tgt := 9) hx hb dX1_reckon_261 (by decide) ?_
                        exact ih_9 (j_13 + 1) (t_11 + 1) sa (by omega) (by have a0 := mt Int32.le_iff_toInt_le.mpr c_12; have a1 := mt Int32.le_iff_toInt_le.mpr c_20; have a2 := mt Int32.toInt_inj.mp c_48; have a3 := mt Int32.toInt_inj.mp c_54; have a4 := mt Int32.toInt_inj.mp c_101; have a5 := mt Int32.toInt_inj.mp c_109; have a6 := congrArg Int32.toInt c_136; have a7 := mt Int32.toInt_inj.mp c_156; have a8 := congrArg Int32.toInt c_164; have a9 : (0 : Int32).toInt = 0 := (by decide); have a10 : (1 : Int32).toInt = 1 := (by decide); have a11 : (2 : Int32).toInt = 2 := (by decide); have a12 : (240 : Int32).toInt = 240 := (by decide); have a13 : (3 : Int32).toInt = 3 := (by decide); have a14 := nI_toInt (n := (t_11 + 1)) (by omega); have a15 := nI_toInt (n := i) (by omega); omega) (by have a0 := mt Int32.le_iff_toInt_le.mpr c_12; have a1 := mt Int32.le_iff_toInt_le.mpr c_20; have a2 := mt Int32.toInt_inj.mp c_48; have a3 := mt Int32.toInt_inj.mp c_54; have a4 := mt Int32.toInt_inj.mp c_101; have a5 := mt Int32.toInt_inj.mp c_109; have a6 := congrArg Int32.toInt c_136; have a7 := mt Int32.toInt_inj.mp c_156; have a8 := congrArg Int32.toInt c_164; have a9 : (0 : Int32).toInt = 0 := (by decide); have a10 : (1 : Int32).toInt = 1 := (by decide); have a11 : (2 : Int32).toInt = 2 := (by decide); have a12 : (240 : Int32).toInt = 240 := (by decide); have a13 : (3 : Int32).toInt = 3 := (by decide); have a14 := nI_toInt (n := (t_11 + 1)) (by omega); have a15 := nI_toInt (n := i) (by omega); omega) _ _ (hP.sub [0, 1, 2, 3] rfl) (hD.sub [0, 1, 2, 3] (by decide) rfl) hS _ (lv_sub hl [3, 4, 5, 6, 0] rfl)
                    · refine lv_iconst (v := 1) hx hb dX1_reckon_159 (by decide) ?_
                      refine lv_goto (tgt := 164) hx hb dX1_reckon_160 (by decide) ?_
                      refine lv_icmp_ne (tgt := 181) hx hb dX1_reckon_164 (by decide) (fun c_164 => ?_) (fun c_164 => ?_)
                      · refine lv_iinc (v := (nI t_11)) (lv' := [(3, .int (nI t_11)), (6, .int x_7), (5, .int x_6), (0, .ref h0), (1, .int a), (2, .int b), (4, .int (nI i))]) hx hb dX1_reckon_181 hl (k := 5) rfl (pk_m1 t_11) (by decide) rfl (fun ls hl => ?_)
                        refine lv_goto (tgt := 258) hx hb dX1_reckon_184 (by decide) ?_
                        refine lv_iinc (v := (nI (i + 1))) (lv' := [(4, .int (nI (i + 1))), (3, .int (nI t_11)), (6, .int x_7), (5, .int x_6), (0, .ref h0), (1, .int a), (2, .int b)]) hx hb dX1_reckon_258 hl (k := 6) rfl (nI_1 i) (by decide) rfl (fun ls hl => ?_)
                        refine lv_goto (tgt := 9) hx hb dX1_reckon_261 (by decide) ?_
                        exact ih_9 (i + 1) t_11 sa (by omega) (by have a0 := mt Int32.le_iff_toInt_le.mpr c_12; have a1 := mt Int32.le_iff_toInt_le.mpr c_20; have a2 := mt Int32.toInt_inj.mp c_48; have a3 := mt Int32.toInt_inj.mp c_54; have a4 := mt Int32.toInt_inj.mp c_101; have a5 := mt Int32.toInt_inj.mp c_109; have a6 := congrArg Int32.toInt c_136; have a7 := congrArg Int32.toInt c_156; have a8 := mt Int32.toInt_inj.mp c_164; have a9 : (0 : Int32).toInt = 0 := (by decide); have a10 : (1 : Int32).toInt = 1 := (by decide); have a11 : (2 : Int32).toInt = 2 := (by decide); have a12 : (240 : Int32).toInt = 240 := (by decide); have a13 : (3 : Int32).toInt = 3 := (by decide); have a14 := nI_toInt (n := (t_11 + 1)) (by omega); have a15 := nI_toInt (n := i) (by omega); omega) (by have a0 := mt Int32.le_iff_toInt_le.mpr c_12; have a1 := mt Int32.le_iff_toInt_le.mpr c_20; have a2 := mt Int32.toInt_inj.mp c_48; have a3 := mt Int32.toInt_inj.mp c_54; have a4 := mt Int32.toInt_inj.mp c_101; have a5 := mt Int32.toInt_inj.mp c_109; have a6 := congrArg Int32.toInt c_136; have a7 := congrArg Int32.toInt c_156; have a8 := mt Int32.toInt_inj.mp c_164; have a9 : (0 : Int32).toInt = 0 := (by decide); have a10 : (1 : Int32).toInt = 1 := (by decide); have a11 : (2 : Int32).toInt = 2 := (by decide); have a12 : (240 : Int32).toInt = 240 := (by decide); have a13 : (3 : Int32).toInt = 3 := (by decide); have a14 := nI_toInt (n := (t_11 + 1)) (by omega); have a15 := nI_toInt (n := i) (by omega); omega) _ _ (hP.sub [0, 1, 2, 3] rfl) (hD.sub [0, 1, 2, 3] (by decide) rfl) hS _ (lv_sub hl [4, 5, 6, 1, 0] rfl)
                      · refine lv_iload hx hb dX1_reckon_167 (lv_at hl 6 rfl) ?_
                        refine lv_iload hx hb dX1_reckon_169 (lv_at hl 0 rfl) ?_
                        refine lv_iconst (v := 1) hx hb dX1_reckon_171 (by decide) ?_
                        refine lv_isub hx hb dX1_reckon_172 ?_
                        refine va_mmax (rest := []) hx hb (by rw [hml]; exact hl.1.symm) hown (htb _ k_823) (htb _ k_516) (htb _ k_106) (htb _ k_517) (Nat.le_of_ble_eq_true rfl) (Nat.le_of_ble_eq_true rfl) (Nat.le_of_ble_eq_true rfl) (Nat.le_of_ble_eq_true rfl) dX1_reckon_173 ?_
                        refine lv_topi (fun mx_14 emx_14 => ?_)
                        obtain ⟨j_15, hj_15a, hj_15b, ej_15, hj_15c⟩ := mxN emx_14 rfl hib
                        refine tv (z := nI j_15) ej_15 ?_
                        have hj_15d : j_15 < 2147483647 := by have a0 := mt Int32.le_iff_toInt_le.mpr c_12; have a1 := mt Int32.le_iff_toInt_le.mpr c_20; have a2 := mt Int32.toInt_inj.mp c_48; have a3 := mt Int32.toInt_inj.mp c_54; have a4 := mt Int32.toInt_inj.mp c_101; have a5 := mt Int32.toInt_inj.mp c_109; have a6 := congrArg Int32.toInt c_136; have a7 := congrArg Int32.toInt c_156; have a8 := congrArg Int32.toInt c_164; have a9 : (0 : Int32).toInt = 0 := (by decide); have a10 : (1 : Int32).toInt = 1 := (by decide); have a11 : (2 : Int32).toInt = 2 := (by decide); have a12 : (240 : Int32).toInt = 240 := (by decide); have a13 : (3 : Int32).toInt = 3 := (by decide); have a14 := nI_toInt (n := (t_11 + 1)) (by omega); have a15 := nI_toInt (n := i) (by omega); have w1 := shr4 (q1 (Int32.toNatClampNeg (nI i))); rw [← ex_7] at w1; have w2 : (1 : Int32).toInt = 1 := (by decide); have w3 := subT (x := x_7) (y := 1) (by omega) (by omega); omega
                        refine lv_istore (lv' := [(4, .int (nI j_15)), (6, .int x_7), (5, .int x_6), (0, .ref h0), (1, .int a), (2, .int b), (3, .int (nI (t_11 + 1)))]) hx hb dX1_reckon_176 hl (by decide) rfl (fun ls hl => ?_)
                        refine lv_goto (tgt := 258) hx hb dX1_reckon_178 (by decide) ?_
                        refine lv_iinc (v := (nI (j_15 + 1))) (lv' := [(4, .int (nI (j_15 + 1))), (6, .int x_7), (5, .int x_6), (0, .ref h0), (1, .int a), (2, .int b), (3, .int (nI (t_11 + 1)))]) hx hb dX1_reckon_258 hl (k := 0) rfl (nI_1 j_15) (by decide) rfl (fun ls hl => ?_)
                        refine lv_goto (tgt := 9) hx hb dX1_reckon_261 (by decide) ?_
                        exact ih_9 (j_15 + 1) (t_11 + 1) sa (by omega) (by have a0 := mt Int32.le_iff_toInt_le.mpr c_12; have a1 := mt Int32.le_iff_toInt_le.mpr c_20; have a2 := mt Int32.toInt_inj.mp c_48; have a3 := mt Int32.toInt_inj.mp c_54; have a4 := mt Int32.toInt_inj.mp c_101; have a5 := mt Int32.toInt_inj.mp c_109; have a6 := congrArg Int32.toInt c_136; have a7 := congrArg Int32.toInt c_156; have a8 := congrArg Int32.toInt c_164; have a9 : (0 : Int32).toInt = 0 := (by decide); have a10 : (1 : Int32).toInt = 1 := (by decide); have a11 : (2 : Int32).toInt = 2 := (by decide); have a12 : (240 : Int32).toInt = 240 := (by decide); have a13 : (3 : Int32).toInt = 3 := (by decide); have a14 := nI_toInt (n := (t_11 + 1)) (by omega); have a15 := nI_toInt (n := i) (by omega); omega) (by have a0 := mt Int32.le_iff_toInt_le.mpr c_12; have a1 := mt Int32.le_iff_toInt_le.mpr c_20; have a2 := mt Int32.toInt_inj.mp c_48; have a3 := mt Int32.toInt_inj.mp c_54; have a4 := mt Int32.toInt_inj.mp c_101; have a5 := mt Int32.toInt_inj.mp c_109; have a6 := congrArg Int32.toInt c_136; have a7 := congrArg Int32.toInt c_156; have a8 := congrArg Int32.toInt c_164; have a9 : (0 : Int32).toInt = 0 := (by decide); have a10 : (1 : Int32).toInt = 1 := (by decide); have a11 : (2 : Int32).toInt = 2 := (by decide); have a12 : (240 : Int32).toInt = 240 := (by decide); have a13 : (3 : Int32).toInt = 3 := (by decide); have a14 := nI_toInt (n := (t_11 + 1)) (by omega); have a15 := nI_toInt (n := i) (by omega); omega) _ _ (hP.sub [0, 1, 2, 3] rfl) (hD.sub [0, 1, 2, 3] (by decide) rfl) hS _ (lv_sub hl [3, 4, 5, 6, 0] rfl)
                  · refine lv_iload hx hb dX1_reckon_139 (lv_at hl 1 rfl) ?_
                    refine lv_iconst (v := 4) hx hb dX1_reckon_141 (by decide) ?_
                    refine lv_icmp_ne (tgt := 187) hx hb dX1_reckon_142 (by decide) (fun c_142 => ?_) (fun c_142 => ?_)
                    · refine lv_iinc (v := (nI t_11)) (lv' := [(3, .int (nI t_11)), (6, .int x_7), (5, .int x_6), (0, .ref h0), (1, .int a), (2, .int b), (4, .int (nI i))]) hx hb dX1_reckon_187 hl (k := 5) rfl (pk_m1 t_11) (by decide) rfl (fun ls hl => ?_)
                      refine lv_iload hx hb dX1_reckon_190 (lv_at hl 2 rfl) ?_
                      refine lv_bipush (v := 8) hx hb dX1_reckon_192 (by decide) ?_
                      refine lv_icmp_eq (tgt := 204) hx hb dX1_reckon_194 (by decide) (fun c_194 => ?_) (fun c_194 => ?_)
                      · refine lv_iconst (v := 1) hx hb dX1_reckon_204 (by decide) ?_
                        refine lv_goto (tgt := 209) hx hb dX1_reckon_205 (by decide) ?_
                        refine lv_istore (lv' := [(7, .int 1), (3, .int (nI t_11)), (6, .int x_7), (5, .int x_6), (0, .ref h0), (1, .int a), (2, .int b), (4, .int (nI i))]) hx hb dX1_reckon_209 hl (by decide) rfl (fun ls hl => ?_)
                        refine lv_iload_n hx hb dX1_reckon_211 rfl (lv_at hl 1 rfl) ?_
                        refine lv_if_eq (tgt := 229) hx hb dX1_reckon_212 (by decide) (fun c_212 => ?_) (fun c_212 => ?_)
                        · refine lv_iconst (v := 0) hx hb dX1_reckon_229 (by decide) ?_
                          exact ret _ _ _ _ 0 sa dX1_reckon_230 rfl trivial (hP.sub [0, 1, 2, 3] rfl) (hD.sub [0, 1, 2, 3] (by decide) rfl) hS
                        · refine lv_iload hx hb dX1_reckon_215 (lv_at hl 0 rfl) ?_
                          refine lv_if_eq (tgt := 231) hx hb dX1_reckon_217 (by decide) (fun c_217 => absurd c_217 (by decide)) (fun _ => ?_)
                          refine lv_aload_n hx hb dX1_reckon_220 rfl (lv_at hl 4 rfl) ?_
                          refine va_get (D := D) (ci := 1) (v := .ref l7) (C := RX1) (T := TX1) (N := 9) hx hb htb itX1 hown hK hP 0 rfl rfl 6 (by decide) (htb _ k_230) (fun _ h9 => h9) rfl dX1_reckon_221 ?_
                          refine lv_iload_n hx hb dX1_reckon_224 rfl (lv_at hl 1 rfl) ?_
                          refine va_iald hx hb hK hP 3 0 rfl rfl (by have a0 := mt Int32.le_iff_toInt_le.mpr c_12; have a1 := mt Int32.le_iff_toInt_le.mpr c_20; have a2 := mt Int32.toInt_inj.mp c_48; have a3 := mt Int32.toInt_inj.mp c_54; have a4 := mt Int32.toInt_inj.mp c_101; have a5 := mt Int32.toInt_inj.mp c_109; have a6 := mt Int32.toInt_inj.mp c_136; have a7 := mt Int32.toInt_inj.mp c_142; have a8 := congrArg Int32.toInt c_194; have a9 := mt Int32.toInt_inj.mp c_212; have a10 : (0 : Int32).toInt = 0 := (by decide); have a11 : (1 : Int32).toInt = 1 := (by decide); have a12 : (2 : Int32).toInt = 2 := (by decide); have a13 : (240 : Int32).toInt = 240 := (by decide); have a14 : (3 : Int32).toInt = 3 := (by decide); have a15 : (4 : Int32).toInt = 4 := (by decide); have a16 : (8 : Int32).toInt = 8 := (by decide); have a17 := nI_toInt (n := (t_11 + 1)) (by omega); have a18 := nI_toInt (n := i) (by omega); have a19 := nI_toInt (n := t_11) (by omega); exact vp_in_nI (by omega) (by decide)) dX1_reckon_225 ?_
                          refine lv_if_ne (tgt := 231) hx hb dX1_reckon_226 (by decide) (fun c_226 => ?_) (fun c_226 => ?_)
                          · obtain ⟨t_16, rfl⟩ := nzS c_212
                            refine lv_aload_n hx hb dX1_reckon_231 rfl (lv_at hl 4 rfl) ?_
                            refine va_get (D := D) (ci := 1) (v := .ref l7) (C := RX1) (T := TX1) (N := 9) hx hb htb itX1 hown hK hP 0 rfl rfl 6 (by decide) (htb _ k_230) (fun _ h9 => h9) rfl dX1_reckon_232 ?_
                            refine lv_iload_n hx hb dX1_reckon_235 rfl (lv_at hl 1 rfl) ?_
                            refine lv_iconst (v := 1) hx hb dX1_reckon_236 (by decide) ?_
                            refine lv_isub hx hb dX1_reckon_237 ?_
                            refine tv (z := (nI t_16)) (nI_pred t_16) ?_
                            refine lv_iload hx hb dX1_reckon_238 (lv_at hl 3 rfl) ?_
                            refine lv_aload_n hx hb dX1_reckon_240 rfl (lv_at hl 4 rfl) ?_
                            refine va_get (D := D) (ci := 1) (v := .ref l7) (C := RX1) (T := TX1) (N := 9) hx hb htb itX1 hown hK hP 0 rfl rfl 6 (by decide) (htb _ k_230) (fun _ h9 => h9) rfl dX1_reckon_241 ?_
                            refine lv_iload_n hx hb dX1_reckon_244 rfl (lv_at hl 1 rfl) ?_
                            refine lv_iconst (v := 1) hx hb dX1_reckon_245 (by decide) ?_
                            refine lv_isub hx hb dX1_reckon_246 ?_
                            refine tv (z := (nI t_16)) (nI_pred t_16) ?_
                            refine va_iald hx hb hK hP 3 0 rfl rfl (by have a0 := mt Int32.le_iff_toInt_le.mpr c_12; have a1 := mt Int32.le_iff_toInt_le.mpr c_20; have a2 := mt Int32.toInt_inj.mp c_48; have a3 := mt Int32.toInt_inj.mp c_54; have a4 := mt Int32.toInt_inj.mp c_101; have a5 := mt Int32.toInt_inj.mp c_109; have a6 := mt Int32.toInt_inj.mp c_136; have a7 := mt Int32.toInt_inj.mp c_142; have a8 := congrArg Int32.toInt c_194; have a9 := mt Int32.toInt_inj.mp c_212; have a10 := mt Int32.toInt_inj.mp c_226; have a11 : (0 : Int32).toInt = 0 := (by decide); have a12 : (1 : Int32).toInt = 1 := (by decide); have a13 : (2 : Int32).toInt = 2 := (by decide); have a14 : (240 : Int32).toInt = 240 := (by decide); have a15 : (3 : Int32).toInt = 3 := (by decide); have a16 : (4 : Int32).toInt = 4 := (by decide); have a17 : (8 : Int32).toInt = 8 := (by decide); have a18 := nI_toInt (n := ((t_16 + 1) + 1)) (by omega); have a19 := nI_toInt (n := (t_16 + 1)) (by omega); have a20 := nI_toInt (n := i) (by omega); exact vp_in_nI (by omega) (by decide)) dX1_reckon_247 ?_
                            refine lv_aload_n hx hb dX1_reckon_248 rfl (lv_at hl 4 rfl) ?_
                            refine va_get (D := D) (ci := 1) (v := .ref l7) (C := RX1) (T := TX1) (N := 9) hx hb htb itX1 hown hK hP 0 rfl rfl 6 (by decide) (htb _ k_230) (fun _ h9 => h9) rfl dX1_reckon_249 ?_
                            refine lv_iload_n hx hb dX1_reckon_252 rfl (lv_at hl 1 rfl) ?_
                            refine va_iald hx hb hK hP 3 0 rfl rfl (by have a0 := mt Int32.le_iff_toInt_le.mpr c_12; have a1 := mt Int32.le_iff_toInt_le.mpr c_20; have a2 := mt Int32.toInt_inj.mp c_48; have a3 := mt Int32.toInt_inj.mp c_54; have a4 := mt Int32.toInt_inj.mp c_101; have a5 := mt Int32.toInt_inj.mp c_109; have a6 := mt Int32.toInt_inj.mp c_136; have a7 := mt Int32.toInt_inj.mp c_142; have a8 := congrArg Int32.toInt c_194; have a9 := mt Int32.toInt_inj.mp c_212; have a10 := mt Int32.toInt_inj.mp c_226; have a11 : (0 : Int32).toInt = 0 := (by decide); have a12 : (1 : Int32).toInt = 1 := (by decide); have a13 : (2 : Int32).toInt = 2 := (by decide); have a14 : (240 : Int32).toInt = 240 := (by decide); have a15 : (3 : Int32).toInt = 3 := (by decide); have a16 : (4 : Int32).toInt = 4 := (by decide); have a17 : (8 : Int32).toInt = 8 := (by decide); have a18 := nI_toInt (n := ((t_16 + 1) + 1)) (by omega); have a19 := nI_toInt (n := (t_16 + 1)) (by omega); have a20 := nI_toInt (n := i) (by omega); exact vp_in_nI (by omega) (by decide)) dX1_reckon_253 ?_
                            refine cSR (As := [.int x_6, .int (sa (Int32.toNatClampNeg (nI t_16))), .int (sa (Int32.toNatClampNeg (nI (t_16 + 1))))]) (rest := [.int (nI t_16), .ref l7]) (n := 3) X hN hK hP (c_X1_joined l D cI cB x_6 (sa (Int32.toNatClampNeg (nI t_16))) (sa (Int32.toNatClampNeg (nI (t_16 + 1))))) k_824 k_825 k_97 k_826 (by decide +kernel) ⟨Nat.le_of_ble_eq_true rfl, Nat.le_of_ble_eq_true rfl⟩ ⟨rfl, rfl⟩ [] rfl rfl rfl hl.1 (Nat.le_of_ble_eq_true rfl) dX1_reckon_254 ⟨Nat.le_of_ble_eq_true rfl, Nat.le_of_ble_eq_true rfl⟩ (fun r_17 hr_17 => ?_)
                            refine va_iast hx hb hK hP hD hS 3 0 rfl rfl (by have a0 := mt Int32.le_iff_toInt_le.mpr c_12; have a1 := mt Int32.le_iff_toInt_le.mpr c_20; have a2 := mt Int32.toInt_inj.mp c_48; have a3 := mt Int32.toInt_inj.mp c_54; have a4 := mt Int32.toInt_inj.mp c_101; have a5 := mt Int32.toInt_inj.mp c_109; have a6 := mt Int32.toInt_inj.mp c_136; have a7 := mt Int32.toInt_inj.mp c_142; have a8 := congrArg Int32.toInt c_194; have a9 := mt Int32.toInt_inj.mp c_212; have a10 := mt Int32.toInt_inj.mp c_226; have a11 : (0 : Int32).toInt = 0 := (by decide); have a12 : (1 : Int32).toInt = 1 := (by decide); have a13 : (2 : Int32).toInt = 2 := (by decide); have a14 : (240 : Int32).toInt = 240 := (by decide); have a15 : (3 : Int32).toInt = 3 := (by decide); have a16 : (4 : Int32).toInt = 4 := (by decide); have a17 : (8 : Int32).toInt = 8 := (by decide); have a18 := nI_toInt (n := ((t_16 + 1) + 1)) (by omega); have a19 := nI_toInt (n := (t_16 + 1)) (by omega); have a20 := nI_toInt (n := i) (by omega); exact vp_in_nI (by omega) (by decide)) dX1_reckon_257 (fun H locs hP hD hS => ?_)
                            obtain ⟨f_18, ef_18⟩ : ∃ g : Nat → Int32, g = upd sa (Int32.toNatClampNeg (nI t_16)) r_17 := ⟨_, rfl⟩
                            rw [← ef_18] at hP hD
                            have hP : va_P D vwCl [(h0, .inr (1, [.ref l1, .ref l2, .ref l3, .ref l4, .ref l5, .ref l6, .ref l7, .int lz, .int lc])), (l1, .inl (cI, 240, .inl q1)), (l6, .inl (cI, 8, .inl q6)), (l7, .inl (cI, 32, .inl f_18))] H := hP
                            have hD : va_D A [(h0, .inr (1, [.ref l1, .ref l2, .ref l3, .ref l4, .ref l5, .ref l6, .ref l7, .int lz, .int lc])), (l1, .inl (cI, 240, .inl q1)), (l6, .inl (cI, 8, .inl q6)), (l7, .inl (cI, 32, .inl f_18))] := hD
                            refine lv_iinc (v := (nI (i + 1))) (lv' := [(4, .int (nI (i + 1))), (7, .int 1), (3, .int (nI (t_16 + 1))), (6, .int x_7), (5, .int x_6), (0, .ref h0), (1, .int a), (2, .int b)]) hx hb dX1_reckon_258 hl (k := 7) rfl (nI_1 i) (by decide) rfl (fun ls hl => ?_)
                            refine lv_goto (tgt := 9) hx hb dX1_reckon_261 (by decide) ?_
                            exact ih_9 (i + 1) (t_16 + 1) f_18 (by omega) (by have a0 := mt Int32.le_iff_toInt_le.mpr c_12; have a1 := mt Int32.le_iff_toInt_le.mpr c_20; have a2 := mt Int32.toInt_inj.mp c_48; have a3 := mt Int32.toInt_inj.mp c_54; have a4 := mt Int32.toInt_inj.mp c_101; have a5 := mt Int32.toInt_inj.mp c_109; have a6 := mt Int32.toInt_inj.mp c_136; have a7 := mt Int32.toInt_inj.mp c_142; have a8 := congrArg Int32.toInt c_194; have a9 := mt Int32.toInt_inj.mp c_212; have a10 := mt Int32.toInt_inj.mp c_226; have a11 : (0 : Int32).toInt = 0 := (by decide); have a12 : (1 : Int32).toInt = 1 := (by decide); have a13 : (2 : Int32).toInt = 2 := (by decide); have a14 : (240 : Int32).toInt = 240 := (by decide); have a15 : (3 : Int32).toInt = 3 := (by decide); have a16 : (4 : Int32).toInt = 4 := (by decide); have a17 : (8 : Int32).toInt = 8 := (by decide); have a18 := nI_toInt (n := ((t_16 + 1) + 1)) (by omega); have a19 := nI_toInt (n := (t_16 + 1)) (by omega); have a20 := nI_toInt (n := i) (by omega); omega) (by have a0 := mt Int32.le_iff_toInt_le.mpr c_12; have a1 := mt Int32.le_iff_toInt_le.mpr c_20; have a2 := mt Int32.toInt_inj.mp c_48; have a3 := mt Int32.toInt_inj.mp c_54; have a4 := mt Int32.toInt_inj.mp c_101; have a5 := mt Int32.toInt_inj.mp c_109; have a6 := mt Int32.toInt_inj.mp c_136; have a7 := mt Int32.toInt_inj.mp c_142; have a8 := congrArg Int32.toInt c_194; have a9 := mt Int32.toInt_inj.mp c_212; have a10 := mt Int32.toInt_inj.mp c_226; have a11 : (0 : Int32).toInt = 0 := (by decide); have a12 : (1 : Int32).toInt = 1 := (by decide); have a13 : (2 : Int32).toInt = 2 := (by decide); have a14 : (240 : Int32).toInt = 240 := (by decide); have a15 : (3 : Int32).toInt = 3 := (by decide); have a16 : (4 : Int32).toInt = 4 := (by decide); have a17 : (8 : Int32).toInt = 8 := (by decide); have a18 := nI_toInt (n := ((t_16 + 1) + 1)) (by omega); have a19 := nI_toInt (n := (t_16 + 1)) (by omega); have a20 := nI_toInt (n := i) (by omega); omega) _ _ (hP.sub [0, 1, 2, 3] rfl) (hD.sub [0, 1, 2, 3] (by decide) rfl) hS _ (lv_sub hl [5, 6, 7, 2, 0] rfl)
                          · refine lv_iconst (v := 0) hx hb dX1_reckon_229 (by decide) ?_
                            exact ret _ _ _ _ 0 sa dX1_reckon_230 rfl trivial (hP.sub [0, 1, 2, 3] rfl) (hD.sub [0, 1, 2, 3] (by decide) rfl) hS
                      · refine lv_iload hx hb dX1_reckon_197 (lv_at hl 2 rfl) ?_
                        refine lv_bipush (v := 9) hx hb dX1_reckon_199 (by decide) ?_
                        refine lv_icmp_ne (tgt := 208) hx hb dX1_reckon_201 (by decide) (fun c_201 => ?_) (fun c_201 => ?_)
                        · refine lv_iconst (v := 0) hx hb dX1_reckon_208 (by decide) ?_
                          refine lv_istore (lv' := [(7, .int 0), (3, .int (nI t_11)), (6, .int x_7), (5, .int x_6), (0, .ref h0), (1, .int a), (2, .int b), (4, .int (nI i))]) hx hb dX1_reckon_209 hl (by decide) rfl (fun ls hl => ?_)
                          refine lv_iload_n hx hb dX1_reckon_211 rfl (lv_at hl 1 rfl) ?_
                          refine lv_if_eq (tgt := 229) hx hb dX1_reckon_212 (by decide) (fun c_212 => ?_) (fun c_212 => ?_)
                          · refine lv_iconst (v := 0) hx hb dX1_reckon_229 (by decide) ?_
                            exact ret _ _ _ _ 0 sa dX1_reckon_230 rfl trivial (hP.sub [0, 1, 2, 3] rfl) (hD.sub [0, 1, 2, 3] (by decide) rfl) hS
                          · refine lv_iload hx hb dX1_reckon_215 (lv_at hl 0 rfl) ?_
                            refine lv_if_eq (tgt := 231) hx hb dX1_reckon_217 (by decide) (fun _ => ?_) (fun c_217 => absurd (by decide) c_217)
                            obtain ⟨t_19, rfl⟩ := nzS c_212
                            refine lv_aload_n hx hb dX1_reckon_231 rfl (lv_at hl 4 rfl) ?_
                            refine va_get (D := D) (ci := 1) (v := .ref l7) (C := RX1) (T := TX1) (N := 9) hx hb htb itX1 hown hK hP 0 rfl rfl 6 (by decide) (htb _ k_230) (fun _ h9 => h9) rfl dX1_reckon_232 ?_
                            refine lv_iload_n hx hb dX1_reckon_235 rfl (lv_at hl 1 rfl) ?_
                            refine lv_iconst (v := 1) hx hb dX1_reckon_236 (by decide) ?_
                            refine lv_isub hx hb dX1_reckon_237 ?_
                            refine tv (z := (nI t_19)) (nI_pred t_19) ?_
                            refine lv_iload hx hb dX1_reckon_238 (lv_at hl 3 rfl) ?_
                            refine lv_aload_n hx hb dX1_reckon_240 rfl (lv_at hl 4 rfl) ?_
                            refine va_get (D := D) (ci := 1) (v := .ref l7) (C := RX1) (T := TX1) (N := 9) hx hb htb itX1 hown hK hP 0 rfl rfl 6 (by decide) (htb _ k_230) (fun _ h9 => h9) rfl dX1_reckon_241 ?_
                            refine lv_iload_n hx hb dX1_reckon_244 rfl (lv_at hl 1 rfl) ?_
                            refine lv_iconst (v := 1) hx hb dX1_reckon_245 (by decide) ?_
                            refine lv_isub hx hb dX1_reckon_246 ?_
                            refine tv (z := (nI t_19)) (nI_pred t_19) ?_
                            refine va_iald hx hb hK hP 3 0 rfl rfl (by have a0 := mt Int32.le_iff_toInt_le.mpr c_12; have a1 := mt Int32.le_iff_toInt_le.mpr c_20; have a2 := mt Int32.toInt_inj.mp c_48; have a3 := mt Int32.toInt_inj.mp c_54; have a4 := mt Int32.toInt_inj.mp c_101; have a5 := mt Int32.toInt_inj.mp c_109; have a6 := mt Int32.toInt_inj.mp c_136; have a7 := mt Int32.toInt_inj.mp c_142; have a8 := mt Int32.toInt_inj.mp c_194; have a9 := mt Int32.toInt_inj.mp c_201; have a10 := mt Int32.toInt_inj.mp c_212; have a11 : (0 : Int32).toInt = 0 := (by decide); have a12 : (1 : Int32).toInt = 1 := (by decide); have a13 : (2 : Int32).toInt = 2 := (by decide); have a14 : (240 : Int32).toInt = 240 := (by decide); have a15 : (3 : Int32).toInt = 3 := (by decide); have a16 : (4 : Int32).toInt = 4 := (by decide); have a17 : (8 : Int32).toInt = 8 := (by decide); have a18 : (9 : Int32).toInt = 9 := (by decide); have a19 := nI_toInt (n := ((t_19 + 1) + 1)) (by omega); have a20 := nI_toInt (n := (t_19 + 1)) (by omega); have a21 := nI_toInt (n := i) (by omega); exact vp_in_nI (by omega) (by decide)) dX1_reckon_247 ?_
                            refine lv_aload_n hx hb dX1_reckon_248 rfl (lv_at hl 4 rfl) ?_
                            refine va_get (D := D) (ci := 1) (v := .ref l7) (C := RX1) (T := TX1) (N := 9) hx hb htb itX1 hown hK hP 0 rfl rfl 6 (by decide) (htb _ k_230) (fun _ h9 => h9) rfl dX1_reckon_249 ?_
                            refine lv_iload_n hx hb dX1_reckon_252 rfl (lv_at hl 1 rfl) ?_
                            refine va_iald hx hb hK hP 3 0 rfl rfl (by have a0 := mt Int32.le_iff_toInt_le.mpr c_12; have a1 := mt Int32.le_iff_toInt_le.mpr c_20; have a2 := mt Int32.toInt_inj.mp c_48; have a3 := mt Int32.toInt_inj.mp c_54; have a4 := mt Int32.toInt_inj.mp c_101; have a5 := mt Int32.toInt_inj.mp c_109; have a6 := mt Int32.toInt_inj.mp c_136; have a7 := mt Int32.toInt_inj.mp c_142; have a8 := mt Int32.toInt_inj.mp c_194; have a9 := mt Int32.toInt_inj.mp c_201; have a10 := mt Int32.toInt_inj.mp c_212; have a11 : (0 : Int32).toInt = 0 := (by decide); have a12 : (1 : Int32).toInt = 1 := (by decide); have a13 : (2 : Int32).toInt = 2 := (by decide); have a14 : (240 : Int32).toInt = 240 := (by decide); have a15 : (3 : Int32).toInt = 3 := (by decide); have a16 : (4 : Int32).toInt = 4 := (by decide); have a17 : (8 : Int32).toInt = 8 := (by decide); have a18 : (9 : Int32).toInt = 9 := (by decide); have a19 := nI_toInt (n := ((t_19 + 1) + 1)) (by omega); have a20 := nI_toInt (n := (t_19 + 1)) (by omega); have a21 := nI_toInt (n := i) (by omega); exact vp_in_nI (by omega) (by decide)) dX1_reckon_253 ?_
                            refine cSR (As := [.int x_6, .int (sa (Int32.toNatClampNeg (nI t_19))), .int (sa (Int32.toNatClampNeg (nI (t_19 + 1))))]) (rest := [.int (nI t_19), .ref l7]) (n := 3) X hN hK hP (c_X1_joined l D cI cB x_6 (sa (Int32.toNatClampNeg (nI t_19))) (sa (Int32.toNatClampNeg (nI (t_19 + 1))))) k_824 k_825 k_97 k_826 (by decide +kernel) ⟨Nat.le_of_ble_eq_true rfl, Nat.le_of_ble_eq_true rfl⟩ ⟨rfl, rfl⟩ [] rfl rfl rfl hl.1 (Nat.le_of_ble_eq_true rfl) dX1_reckon_254 ⟨Nat.le_of_ble_eq_true rfl, Nat.le_of_ble_eq_true rfl⟩ (fun r_20 hr_20 => ?_)
                            refine va_iast hx hb hK hP hD hS 3 0 rfl rfl (by have a0 := mt Int32.le_iff_toInt_le.mpr c_12; have a1 := mt Int32.le_iff_toInt_le.mpr c_20; have a2 := mt Int32.toInt_inj.mp c_48; have a3 := mt Int32.toInt_inj.mp c_54; have a4 := mt Int32.toInt_inj.mp c_101; have a5 := mt Int32.toInt_inj.mp c_109; have a6 := mt Int32.toInt_inj.mp c_136; have a7 := mt Int32.toInt_inj.mp c_142; have a8 := mt Int32.toInt_inj.mp c_194; have a9 := mt Int32.toInt_inj.mp c_201; have a10 := mt Int32.toInt_inj.mp c_212; have a11 : (0 : Int32).toInt = 0 := (by decide); have a12 : (1 : Int32).toInt = 1 := (by decide); have a13 : (2 : Int32).toInt = 2 := (by decide); have a14 : (240 : Int32).toInt = 240 := (by decide); have a15 : (3 : Int32).toInt = 3 := (by decide); have a16 : (4 : Int32).toInt = 4 := (by decide); have a17 : (8 : Int32).toInt = 8 := (by decide); have a18 : (9 : Int32).toInt = 9 := (by decide); have a19 := nI_toInt (n := ((t_19 + 1) + 1)) (by omega); have a20 := nI_toInt (n := (t_19 + 1)) (by omega); have a21 := nI_toInt (n := i) (by omega); exact vp_in_nI (by omega) (by decide)) dX1_reckon_257 (fun H locs hP hD hS => ?_)
                            obtain ⟨f_21, ef_21⟩ : ∃ g : Nat → Int32, g = upd sa (Int32.toNatClampNeg (nI t_19)) r_20 := ⟨_, rfl⟩
                            rw [← ef_21] at hP hD
                            have hP : va_P D vwCl [(h0, .inr (1, [.ref l1, .ref l2, .ref l3, .ref l4, .ref l5, .ref l6, .ref l7, .int lz, .int lc])), (l1, .inl (cI, 240, .inl q1)), (l6, .inl (cI, 8, .inl q6)), (l7, .inl (cI, 32, .inl f_21))] H := hP
                            have hD : va_D A [(h0, .inr (1, [.ref l1, .ref l2, .ref l3, .ref l4, .ref l5, .ref l6, .ref l7, .int lz, .int lc])), (l1, .inl (cI, 240, .inl q1)), (l6, .inl (cI, 8, .inl q6)), (l7, .inl (cI, 32, .inl f_21))] := hD
                            refine lv_iinc (v := (nI (i + 1))) (lv' := [(4, .int (nI (i + 1))), (7, .int 0), (3, .int (nI (t_19 + 1))), (6, .int x_7), (5, .int x_6), (0, .ref h0), (1, .int a), (2, .int b)]) hx hb dX1_reckon_258 hl (k := 7) rfl (nI_1 i) (by decide) rfl (fun ls hl => ?_)
                            refine lv_goto (tgt := 9) hx hb dX1_reckon_261 (by decide) ?_
                            exact ih_9 (i + 1) (t_19 + 1) f_21 (by omega) (by have a0 := mt Int32.le_iff_toInt_le.mpr c_12; have a1 := mt Int32.le_iff_toInt_le.mpr c_20; have a2 := mt Int32.toInt_inj.mp c_48; have a3 := mt Int32.toInt_inj.mp c_54; have a4 := mt Int32.toInt_inj.mp c_101; have a5 := mt Int32.toInt_inj.mp c_109; have a6 := mt Int32.toInt_inj.mp c_136; have a7 := mt Int32.toInt_inj.mp c_142; have a8 := mt Int32.toInt_inj.mp c_194; have a9 := mt Int32.toInt_inj.mp c_201; have a10 := mt Int32.toInt_inj.mp c_212; have a11 : (0 : Int32).toInt = 0 := (by decide); have a12 : (1 : Int32).toInt = 1 := (by decide); have a13 : (2 : Int32).toInt = 2 := (by decide); have a14 : (240 : Int32).toInt = 240 := (by decide); have a15 : (3 : Int32).toInt = 3 := (by decide); have a16 : (4 : Int32).toInt = 4 := (by decide); have a17 : (8 : Int32).toInt = 8 := (by decide); have a18 : (9 : Int32).toInt = 9 := (by decide); have a19 := nI_toInt (n := ((t_19 + 1) + 1)) (by omega); have a20 := nI_toInt (n := (t_19 + 1)) (by omega); have a21 := nI_toInt (n := i) (by omega); omega) (by have a0 := mt Int32.le_iff_toInt_le.mpr c_12; have a1 := mt Int32.le_iff_toInt_le.mpr c_20; have a2 := mt Int32.toInt_inj.mp c_48; have a3 := mt Int32.toInt_inj.mp c_54; have a4 := mt Int32.toInt_inj.mp c_101; have a5 := mt Int32.toInt_inj.mp c_109; have a6 := mt Int32.toInt_inj.mp c_136; have a7 := mt Int32.toInt_inj.mp c_142; have a8 := mt Int32.toInt_inj.mp c_194; have a9 := mt Int32.toInt_inj.mp c_201; have a10 := mt Int32.toInt_inj.mp c_212; have a11 : (0 : Int32).toInt = 0 := (by decide); have a12 : (1 : Int32).toInt = 1 := (by decide); have a13 : (2 : Int32).toInt = 2 := (by decide); have a14 : (240 : Int32).toInt = 240 := (by decide); have a15 : (3 : Int32).toInt = 3 := (by decide); have a16 : (4 : Int32).toInt = 4 := (by decide); have a17 : (8 : Int32).toInt = 8 := (by decide); have a18 : (9 : Int32).toInt = 9 := (by decide); have a19 := nI_toInt (n := ((t_19 + 1) + 1)) (by omega); have a20 := nI_toInt (n := (t_19 + 1)) (by omega); have a21 := nI_toInt (n := i) (by omega); omega) _ _ (hP.sub [0, 1, 2, 3] rfl) (hD.sub [0, 1, 2, 3] (by decide) rfl) hS _ (lv_sub hl [5, 6, 7, 2, 0] rfl)
                        · refine lv_iconst (v := 1) hx hb dX1_reckon_204 (by decide) ?_
                          refine lv_goto (tgt := 209) hx hb dX1_reckon_205 (by decide) ?_
                          refine lv_istore (lv' := [(7, .int 1), (3, .int (nI t_11)), (6, .int x_7), (5, .int x_6), (0, .ref h0), (1, .int a), (2, .int b), (4, .int (nI i))]) hx hb dX1_reckon_209 hl (by decide) rfl (fun ls hl => ?_)
                          refine lv_iload_n hx hb dX1_reckon_211 rfl (lv_at hl 1 rfl) ?_
                          refine lv_if_eq (tgt := 229) hx hb dX1_reckon_212 (by decide) (fun c_212 => ?_) (fun c_212 => ?_)
                          · refine lv_iconst (v := 0) hx hb dX1_reckon_229 (by decide) ?_
                            exact ret _ _ _ _ 0 sa dX1_reckon_230 rfl trivial (hP.sub [0, 1, 2, 3] rfl) (hD.sub [0, 1, 2, 3] (by decide) rfl) hS
                          · refine lv_iload hx hb dX1_reckon_215 (lv_at hl 0 rfl) ?_
                            refine lv_if_eq (tgt := 231) hx hb dX1_reckon_217 (by decide) (fun c_217 => absurd c_217 (by decide)) (fun _ => ?_)
                            refine lv_aload_n hx hb dX1_reckon_220 rfl (lv_at hl 4 rfl) ?_
                            refine va_get (D := D) (ci := 1) (v := .ref l7) (C := RX1) (T := TX1) (N := 9) hx hb htb itX1 hown hK hP 0 rfl rfl 6 (by decide) (htb _ k_230) (fun _ h9 => h9) rfl dX1_reckon_221 ?_
                            refine lv_iload_n hx hb dX1_reckon_224 rfl (lv_at hl 1 rfl) ?_
                            refine va_iald hx hb hK hP 3 0 rfl rfl (by have a0 := mt Int32.le_iff_toInt_le.mpr c_12; have a1 := mt Int32.le_iff_toInt_le.mpr c_20; have a2 := mt Int32.toInt_inj.mp c_48; have a3 := mt Int32.toInt_inj.mp c_54; have a4 := mt Int32.toInt_inj.mp c_101; have a5 := mt Int32.toInt_inj.mp c_109; have a6 := mt Int32.toInt_inj.mp c_136; have a7 := mt Int32.toInt_inj.mp c_142; have a8 := mt Int32.toInt_inj.mp c_194; have a9 := congrArg Int32.toInt c_201; have a10 := mt Int32.toInt_inj.mp c_212; have a11 : (0 : Int32).toInt = 0 := (by decide); have a12 : (1 : Int32).toInt = 1 := (by decide); have a13 : (2 : Int32).toInt = 2 := (by decide); have a14 : (240 : Int32).toInt = 240 := (by decide); have a15 : (3 : Int32).toInt = 3 := (by decide); have a16 : (4 : Int32).toInt = 4 := (by decide); have a17 : (8 : Int32).toInt = 8 := (by decide); have a18 : (9 : Int32).toInt = 9 := (by decide); have a19 := nI_toInt (n := (t_11 + 1)) (by omega); have a20 := nI_toInt (n := i) (by omega); have a21 := nI_toInt (n := t_11) (by omega); exact vp_in_nI (by omega) (by decide)) dX1_reckon_225 ?_
                            refine lv_if_ne (tgt := 231) hx hb dX1_reckon_226 (by decide) (fun c_226 => ?_) (fun c_226 => ?_)
                            · obtain ⟨t_22, rfl⟩ := nzS c_212
                              refine lv_aload_n hx hb dX1_reckon_231 rfl (lv_at hl 4 rfl) ?_
                              refine va_get (D := D) (ci := 1) (v := .ref l7) (C := RX1) (T := TX1) (N := 9) hx hb htb itX1 hown hK hP 0 rfl rfl 6 (by decide) (htb _ k_230) (fun _ h9 => h9) rfl dX1_reckon_232 ?_
                              refine lv_iload_n hx hb dX1_reckon_235 rfl (lv_at hl 1 rfl) ?_
                              refine lv_iconst (v := 1) hx hb dX1_reckon_236 (by decide) ?_
                              refine lv_isub hx hb dX1_reckon_237 ?_
                              refine tv (z := (nI t_22)) (nI_pred t_22) ?_
                              refine lv_iload hx hb dX1_reckon_238 (lv_at hl 3 rfl) ?_
                              refine lv_aload_n hx hb dX1_reckon_240 rfl (lv_at hl 4 rfl) ?_
                              refine va_get (D := D) (ci := 1) (v := .ref l7) (C := RX1) (T := TX1) (N := 9) hx hb htb itX1 hown hK hP 0 rfl rfl 6 (by decide) (htb _ k_230) (fun _ h9 => h9) rfl dX1_reckon_241 ?_
                              refine lv_iload_n hx hb dX1_reckon_244 rfl (lv_at hl 1 rfl) ?_
                              refine lv_iconst (v := 1) hx hb dX1_reckon_245 (by decide) ?_
                              refine lv_isub hx hb dX1_reckon_246 ?_
                              refine tv (z := (nI t_22)) (nI_pred t_22) ?_
                              refine va_iald hx hb hK hP 3 0 rfl rfl (by have a0 := mt Int32.le_iff_toInt_le.mpr c_12; have a1 := mt Int32.le_iff_toInt_le.mpr c_20; have a2 := mt Int32.toInt_inj.mp c_48; have a3 := mt Int32.toInt_inj.mp c_54; have a4 := mt Int32.toInt_inj.mp c_101; have a5 := mt Int32.toInt_inj.mp c_109; have a6 := mt Int32.toInt_inj.mp c_136; have a7 := mt Int32.toInt_inj.mp c_142; have a8 := mt Int32.toInt_inj.mp c_194; have a9 := congrArg Int32.toInt c_201; have a10 := mt Int32.toInt_inj.mp c_212; have a11 := mt Int32.toInt_inj.mp c_226; have a12 : (0 : Int32).toInt = 0 := (by decide); have a13 : (1 : Int32).toInt = 1 := (by decide); have a14 : (2 : Int32).toInt = 2 := (by decide); have a15 : (240 : Int32).toInt = 240 := (by decide); have a16 : (3 : Int32).toInt = 3 := (by decide); have a17 : (4 : Int32).toInt = 4 := (by decide); have a18 : (8 : Int32).toInt = 8 := (by decide); have a19 : (9 : Int32).toInt = 9 := (by decide); have a20 := nI_toInt (n := ((t_22 + 1) + 1)) (by omega); have a21 := nI_toInt (n := (t_22 + 1)) (by omega); have a22 := nI_toInt (n := i) (by omega); exact vp_in_nI (by omega) (by decide)) dX1_reckon_247 ?_
                              refine lv_aload_n hx hb dX1_reckon_248 rfl (lv_at hl 4 rfl) ?_
                              refine va_get (D := D) (ci := 1) (v := .ref l7) (C := RX1) (T := TX1) (N := 9) hx hb htb itX1 hown hK hP 0 rfl rfl 6 (by decide) (htb _ k_230) (fun _ h9 => h9) rfl dX1_reckon_249 ?_
                              refine lv_iload_n hx hb dX1_reckon_252 rfl (lv_at hl 1 rfl) ?_
                              refine va_iald hx hb hK hP 3 0 rfl rfl (by have a0 := mt Int32.le_iff_toInt_le.mpr c_12; have a1 := mt Int32.le_iff_toInt_le.mpr c_20; have a2 := mt Int32.toInt_inj.mp c_48; have a3 := mt Int32.toInt_inj.mp c_54; have a4 := mt Int32.toInt_inj.mp c_101; have a5 := mt Int32.toInt_inj.mp c_109; have a6 := mt Int32.toInt_inj.mp c_136; have a7 := mt Int32.toInt_inj.mp c_142; have a8 := mt Int32.toInt_inj.mp c_194; have a9 := congrArg Int32.toInt c_201; have a10 := mt Int32.toInt_inj.mp c_212; have a11 := mt Int32.toInt_inj.mp c_226; have a12 : (0 : Int32).toInt = 0 := (by decide); have a13 : (1 : Int32).toInt = 1 := (by decide); have a14 : (2 : Int32).toInt = 2 := (by decide); have a15 : (240 : Int32).toInt = 240 := (by decide); have a16 : (3 : Int32).toInt = 3 := (by decide); have a17 : (4 : Int32).toInt = 4 := (by decide); have a18 : (8 : Int32).toInt = 8 := (by decide); have a19 : (9 : Int32).toInt = 9 := (by decide); have a20 := nI_toInt (n := ((t_22 + 1) + 1)) (by omega); have a21 := nI_toInt (n := (t_22 + 1)) (by omega); have a22 := nI_toInt (n := i) (by omega); exact vp_in_nI (by omega) (by decide)) dX1_reckon_253 ?_
                              refine cSR (As := [.int x_6, .int (sa (Int32.toNatClampNeg (nI t_22))), .int (sa (Int32.toNatClampNeg (nI (t_22 + 1))))]) (rest := [.int (nI t_22), .ref l7]) (n := 3) X hN hK hP (c_X1_joined l D cI cB x_6 (sa (Int32.toNatClampNeg (nI t_22))) (sa (Int32.toNatClampNeg (nI (t_22 + 1))))) k_824 k_825 k_97 k_826 (by decide +kernel) ⟨Nat.le_of_ble_eq_true rfl, Nat.le_of_ble_eq_true rfl⟩ ⟨rfl, rfl⟩ [] rfl rfl rfl hl.1 (Nat.le_of_ble_eq_true rfl) dX1_reckon_254 ⟨Nat.le_of_ble_eq_true rfl, Nat.le_of_ble_eq_true rfl⟩ (fun r_23 hr_23 => ?_)
                              refine va_iast hx hb hK hP hD hS 3 0 rfl rfl (by have a0 := mt Int32.le_iff_toInt_le.mpr c_12; have a1 := mt Int32.le_iff_toInt_le.mpr c_20; have a2 := mt Int32.toInt_inj.mp c_48; have a3 := mt Int32.toInt_inj.mp c_54; have a4 := mt Int32.toInt_inj.mp c_101; have a5 := mt Int32.toInt_inj.mp c_109; have a6 := mt Int32.toInt_inj.mp c_136; have a7 := mt Int32.toInt_inj.mp c_142; have a8 := mt Int32.toInt_inj.mp c_194; have a9 := congrArg Int32.toInt c_201; have a10 := mt Int32.toInt_inj.mp c_212; have a11 := mt Int32.toInt_inj.mp c_226; have a12 : (0 : Int32).toInt = 0 := (by decide); have a13 : (1 : Int32).toInt = 1 := (by decide); have a14 : (2 : Int32).toInt = 2 := (by decide); have a15 : (240 : Int32).toInt = 240 := (by decide); have a16 : (3 : Int32).toInt = 3 := (by decide); have a17 : (4 : Int32).toInt = 4 := (by decide); have a18 : (8 : Int32).toInt = 8 := (by decide); have a19 : (9 : Int32).toInt = 9 := (by decide); have a20 := nI_toInt (n := ((t_22 + 1) + 1)) (by omega); have a21 := nI_toInt (n := (t_22 + 1)) (by omega); have a22 := nI_toInt (n := i) (by omega); exact vp_in_nI (by omega) (by decide)) dX1_reckon_257 (fun H locs hP hD hS => ?_)
                              obtain ⟨f_24, ef_24⟩ : ∃ g : Nat → Int32, g = upd sa (Int32.toNatClampNeg (nI t_22)) r_23 := ⟨_, rfl⟩
                              rw [← ef_24] at hP hD
                              have hP : va_P D vwCl [(h0, .inr (1, [.ref l1, .ref l2, .ref l3, .ref l4, .ref l5, .ref l6, .ref l7, .int lz, .int lc])), (l1, .inl (cI, 240, .inl q1)), (l6, .inl (cI, 8, .inl q6)), (l7, .inl (cI, 32, .inl f_24))] H := hP
                              have hD : va_D A [(h0, .inr (1, [.ref l1, .ref l2, .ref l3, .ref l4, .ref l5, .ref l6, .ref l7, .int lz, .int lc])), (l1, .inl (cI, 240, .inl q1)), (l6, .inl (cI, 8, .inl q6)), (l7, .inl (cI, 32, .inl f_24))] := hD
                              refine lv_iinc (v := (nI (i + 1))) (lv' := [(4, .int (nI (i + 1))), (7, .int 1), (3, .int (nI (t_22 + 1))), (6, .int x_7), (5, .int x_6), (0, .ref h0), (1, .int a), (2, .int b)]) hx hb dX1_reckon_258 hl (k := 7) rfl (nI_1 i) (by decide) rfl (fun ls hl => ?_)
                              refine lv_goto (tgt := 9) hx hb dX1_reckon_261 (by decide) ?_
                              exact ih_9 (i + 1) (t_22 + 1) f_24 (by omega) (by have a0 := mt Int32.le_iff_toInt_le.mpr c_12; have a1 := mt Int32.le_iff_toInt_le.mpr c_20; have a2 := mt Int32.toInt_inj.mp c_48; have a3 := mt Int32.toInt_inj.mp c_54; have a4 := mt Int32.toInt_inj.mp c_101; have a5 := mt Int32.toInt_inj.mp c_109; have a6 := mt Int32.toInt_inj.mp c_136; have a7 := mt Int32.toInt_inj.mp c_142; have a8 := mt Int32.toInt_inj.mp c_194; have a9 := congrArg Int32.toInt c_201; have a10 := mt Int32.toInt_inj.mp c_212; have a11 := mt Int32.toInt_inj.mp c_226; have a12 : (0 : Int32).toInt = 0 := (by decide); have a13 : (1 : Int32).toInt = 1 := (by decide); have a14 : (2 : Int32).toInt = 2 := (by decide); have a15 : (240 : Int32).toInt = 240 := (by decide); have a16 : (3 : Int32).toInt = 3 := (by decide); have a17 : (4 : Int32).toInt = 4 := (by decide); have a18 : (8 : Int32).toInt = 8 := (by decide); have a19 : (9 : Int32).toInt = 9 := (by decide); have a20 := nI_toInt (n := ((t_22 + 1) + 1)) (by omega); have a21 := nI_toInt (n := (t_22 + 1)) (by omega); have a22 := nI_toInt (n := i) (by omega); omega) (by have a0 := mt Int32.le_iff_toInt_le.mpr c_12; have a1 := mt Int32.le_iff_toInt_le.mpr c_20; have a2 := mt Int32.toInt_inj.mp c_48; have a3 := mt Int32.toInt_inj.mp c_54; have a4 := mt Int32.toInt_inj.mp c_101; have a5 := mt Int32.toInt_inj.mp c_109; have a6 := mt Int32.toInt_inj.mp c_136; have a7 := mt Int32.toInt_inj.mp c_142; have a8 := mt Int32.toInt_inj.mp c_194; have a9 := congrArg Int32.toInt c_201; have a10 := mt Int32.toInt_inj.mp c_212; have a11 := mt Int32.toInt_inj.mp c_226; have a12 : (0 : Int32).toInt = 0 := (by decide); have a13 : (1 : Int32).toInt = 1 := (by decide); have a14 : (2 : Int32).toInt = 2 := (by decide); have a15 : (240 : Int32).toInt = 240 := (by decide); have a16 : (3 : Int32).toInt = 3 := (by decide); have a17 : (4 : Int32).toInt = 4 := (by decide); have a18 : (8 : Int32).toInt = 8 := (by decide); have a19 : (9 : Int32).toInt = 9 := (by decide); have a20 := nI_toInt (n := ((t_22 + 1) + 1)) (by omega); have a21 := nI_toInt (n := (t_22 + 1)) (by omega); have a22 := nI_toInt (n := i) (by omega); omega) _ _ (hP.sub [0, 1, 2, 3] rfl) (hD.sub [0, 1, 2, 3] (by decide) rfl) hS _ (lv_sub hl [5, 6, 7, 2, 0] rfl)
                            · refine lv_iconst (v := 0) hx hb dX1_reckon_229 (by decide) ?_
                              exact ret _ _ _ _ 0 sa dX1_reckon_230 rfl trivial (hP.sub [0, 1, 2, 3] rfl) (hD.sub [0, 1, 2, 3] (by decide) rfl) hS
                    · refine lv_aload_n hx hb dX1_reckon_145 rfl (lv_at hl 2 rfl) ?_
                      refine va_get (D := D) (ci := 1) (v := .ref l7) (C := RX1) (T := TX1) (N := 9) hx hb htb itX1 hown hK hP 0 rfl rfl 6 (by decide) (htb _ k_230) (fun _ h9 => h9) rfl dX1_reckon_146 ?_
                      refine lv_iload_n hx hb dX1_reckon_149 rfl (lv_at hl 5 rfl) ?_
                      refine lv_iconst (v := 1) hx hb dX1_reckon_150 (by decide) ?_
                      refine lv_isub hx hb dX1_reckon_151 ?_
                      refine tv (z := (nI t_11)) (nI_pred t_11) ?_
                      refine va_iald hx hb hK hP 3 0 rfl rfl (by have a0 := mt Int32.le_iff_toInt_le.mpr c_12; have a1 := mt Int32.le_iff_toInt_le.mpr c_20; have a2 := mt Int32.toInt_inj.mp c_48; have a3 := mt Int32.toInt_inj.mp c_54; have a4 := mt Int32.toInt_inj.mp c_101; have a5 := mt Int32.toInt_inj.mp c_109; have a6 := mt Int32.toInt_inj.mp c_136; have a7 := congrArg Int32.toInt c_142; have a8 : (0 : Int32).toInt = 0 := (by decide); have a9 : (1 : Int32).toInt = 1 := (by decide); have a10 : (2 : Int32).toInt = 2 := (by decide); have a11 : (240 : Int32).toInt = 240 := (by decide); have a12 : (3 : Int32).toInt = 3 := (by decide); have a13 : (4 : Int32).toInt = 4 := (by decide); have a14 := nI_toInt (n := (t_11 + 1)) (by omega); have a15 := nI_toInt (n := i) (by omega); exact vp_in_nI (by omega) (by decide)) dX1_reckon_152 ?_
                      refine lv_iload hx hb dX1_reckon_153 (lv_at hl 1 rfl) ?_
                      refine lv_iconst (v := 3) hx hb dX1_reckon_155 (by decide) ?_
                      refine lv_icmp_ne (tgt := 163) hx hb dX1_reckon_156 (by decide) (fun c_156 => ?_) (fun c_156 => ?_)
                      · refine lv_iconst (v := 0) hx hb dX1_reckon_163 (by decide) ?_
                        refine lv_icmp_ne (tgt := 181) hx hb dX1_reckon_164 (by decide) (fun c_164 => ?_) (fun c_164 => ?_)
                        · refine lv_iinc (v := (nI t_11)) (lv' := [(3, .int (nI t_11)), (6, .int x_7), (5, .int x_6), (0, .ref h0), (1, .int a), (2, .int b), (4, .int (nI i))]) hx hb dX1_reckon_181 hl (k := 5) rfl (pk_m1 t_11) (by decide) rfl (fun ls hl => ?_)
                          refine lv_goto (tgt := 258) hx hb dX1_reckon_184 (by decide) ?_
                          refine lv_iinc (v := (nI (i + 1))) (lv' := [(4, .int (nI (i + 1))), (3, .int (nI t_11)), (6, .int x_7), (5, .int x_6), (0, .ref h0), (1, .int a), (2, .int b)]) hx hb dX1_reckon_258 hl (k := 6) rfl (nI_1 i) (by decide) rfl (fun ls hl => ?_)
                          refine lv_goto (tgt := 9) hx hb dX1_reckon_261 (by decide) ?_
                          exact ih_9 (i + 1) t_11 sa (by omega) (by have a0 := mt Int32.le_iff_toInt_le.mpr c_12; have a1 := mt Int32.le_iff_toInt_le.mpr c_20; have a2 := mt Int32.toInt_inj.mp c_48; have a3 := mt Int32.toInt_inj.mp c_54; have a4 := mt Int32.toInt_inj.mp c_101; have a5 := mt Int32.toInt_inj.mp c_109; have a6 := mt Int32.toInt_inj.mp c_136; have a7 := congrArg Int32.toInt c_142; have a8 := mt Int32.toInt_inj.mp c_156; have a9 := mt Int32.toInt_inj.mp c_164; have a10 : (0 : Int32).toInt = 0 := (by decide); have a11 : (1 : Int32).toInt = 1 := (by decide); have a12 : (2 : Int32).toInt = 2 := (by decide); have a13 : (240 : Int32).toInt = 240 := (by decide); have a14 : (3 : Int32).toInt = 3 := (by decide); have a15 : (4 : Int32).toInt = 4 := (by decide); have a16 := nI_toInt (n := (t_11 + 1)) (by omega); have a17 := nI_toInt (n := i) (by omega); omega) (by have a0 := mt Int32.le_iff_toInt_le.mpr c_12; have a1 := mt Int32.le_iff_toInt_le.mpr c_20; have a2 := mt Int32.toInt_inj.mp c_48; have a3 := mt Int32.toInt_inj.mp c_54; have a4 := mt Int32.toInt_inj.mp c_101; have a5 := mt Int32.toInt_inj.mp c_109; have a6 := mt Int32.toInt_inj.mp c_136; have a7 := congrArg Int32.toInt c_142; have a8 := mt Int32.toInt_inj.mp c_156; have a9 := mt Int32.toInt_inj.mp c_164; have a10 : (0 : Int32).toInt = 0 := (by decide); have a11 : (1 : Int32).toInt = 1 := (by decide); have a12 : (2 : Int32).toInt = 2 := (by decide); have a13 : (240 : Int32).toInt = 240 := (by decide); have a14 : (3 : Int32).toInt = 3 := (by decide); have a15 : (4 : Int32).toInt = 4 := (by decide); have a16 := nI_toInt (n := (t_11 + 1)) (by omega); have a17 := nI_toInt (n := i) (by omega); omega) _ _ (hP.sub [0, 1, 2, 3] rfl) (hD.sub [0, 1, 2, 3] (by decide) rfl) hS _ (lv_sub hl [4, 5, 6, 1, 0] rfl)
                        · refine lv_iload hx hb dX1_reckon_167 (lv_at hl 6 rfl) ?_
                          refine lv_iload hx hb dX1_reckon_169 (lv_at hl 0 rfl) ?_
                          refine lv_iconst (v := 1) hx hb dX1_reckon_171 (by decide) ?_
                          refine lv_isub hx hb dX1_reckon_172 ?_
                          refine va_mmax (rest := []) hx hb (by rw [hml]; exact hl.1.symm) hown (htb _ k_823) (htb _ k_516) (htb _ k_106) (htb _ k_517) (Nat.le_of_ble_eq_true rfl) (Nat.le_of_ble_eq_true rfl) (Nat.le_of_ble_eq_true rfl) (Nat.le_of_ble_eq_true rfl) dX1_reckon_173 ?_
                          refine lv_topi (fun mx_25 emx_25 => ?_)
                          obtain ⟨j_26, hj_26a, hj_26b, ej_26, hj_26c⟩ := mxN emx_25 rfl hib
                          refine tv (z := nI j_26) ej_26 ?_
                          have hj_26d : j_26 < 2147483647 := by have a0 := mt Int32.le_iff_toInt_le.mpr c_12; have a1 := mt Int32.le_iff_toInt_le.mpr c_20; have a2 := mt Int32.toInt_inj.mp c_48; have a3 := mt Int32.toInt_inj.mp c_54; have a4 := mt Int32.toInt_inj.mp c_101; have a5 := mt Int32.toInt_inj.mp c_109; have a6 := mt Int32.toInt_inj.mp c_136; have a7 := congrArg Int32.toInt c_142; have a8 := mt Int32.toInt_inj.mp c_156; have a9 := congrArg Int32.toInt c_164; have a10 : (0 : Int32).toInt = 0 := (by decide); have a11 : (1 : Int32).toInt = 1 := (by decide); have a12 : (2 : Int32).toInt = 2 := (by decide); have a13 : (240 : Int32).toInt = 240 := (by decide); have a14 : (3 : Int32).toInt = 3 := (by decide); have a15 : (4 : Int32).toInt = 4 := (by decide); have a16 := nI_toInt (n := (t_11 + 1)) (by omega); have a17 := nI_toInt (n := i) (by omega); have w1 := shr4 (q1 (Int32.toNatClampNeg (nI i))); rw [← ex_7] at w1; have w2 : (1 : Int32).toInt = 1 := (by decide); have w3 := subT (x := x_7) (y := 1) (by omega) (by omega); omega
                          refine lv_istore (lv' := [(4, .int (nI j_26)), (6, .int x_7), (5, .int x_6), (0, .ref h0), (1, .int a), (2, .int b), (3, .int (nI (t_11 + 1)))]) hx hb dX1_reckon_176 hl (by decide) rfl (fun ls hl => ?_)
                          refine lv_goto (tgt := 258) hx hb dX1_reckon_178 (by decide) ?_
                          refine lv_iinc (v := (nI (j_26 + 1))) (lv' := [(4, .int (nI (j_26 + 1))), (6, .int x_7), (5, .int x_6), (0, .ref h0), (1, .int a), (2, .int b), (3, .int (nI (t_11 + 1)))]) hx hb dX1_reckon_258 hl (k := 0) rfl (nI_1 j_26) (by decide) rfl (fun ls hl => ?_)
                          refine lv_goto (tgt := 9) hx hb dX1_reckon_261 (by decide) ?_
                          exact ih_9 (j_26 + 1) (t_11 + 1) sa (by omega) (by have a0 := mt Int32.le_iff_toInt_le.mpr c_12; have a1 := mt Int32.le_iff_toInt_le.mpr c_20; have a2 := mt Int32.toInt_inj.mp c_48; have a3 := mt Int32.toInt_inj.mp c_54; have a4 := mt Int32.toInt_inj.mp c_101; have a5 := mt Int32.toInt_inj.mp c_109; have a6 := mt Int32.toInt_inj.mp c_136; have a7 := congrArg Int32.toInt c_142; have a8 := mt Int32.toInt_inj.mp c_156; have a9 := congrArg Int32.toInt c_164; have a10 : (0 : Int32).toInt = 0 := (by decide); have a11 : (1 : Int32).toInt = 1 := (by decide); have a12 : (2 : Int32).toInt = 2 := (by decide); have a13 : (240 : Int32).toInt = 240 := (by decide); have a14 : (3 : Int32).toInt = 3 := (by decide); have a15 : (4 : Int32).toInt = 4 := (by decide); have a16 := nI_toInt (n := (t_11 + 1)) (by omega); have a17 := nI_toInt (n := i) (by omega); omega) (by have a0 := mt Int32.le_iff_toInt_le.mpr c_12; have a1 := mt Int32.le_iff_toInt_le.mpr c_20; have a2 := mt Int32.toInt_inj.mp c_48; have a3 := mt Int32.toInt_inj.mp c_54; have a4 := mt Int32.toInt_inj.mp c_101; have a5 := mt Int32.toInt_inj.mp c_109; have a6 := mt Int32.toInt_inj.mp c_136; have a7 := congrArg Int32.toInt c_142; have a8 := mt Int32.toInt_inj.mp c_156; have a9 := congrArg Int32.toInt c_164; have a10 : (0 : Int32).toInt = 0 := (by decide); have a11 : (1 : Int32).toInt = 1 := (by decide); have a12 : (2 : Int32).toInt = 2 := (by decide); have a13 : (240 : Int32).toInt = 240 := (by decide); have a14 : (3 : Int32).toInt = 3 := (by decide); have a15 : (4 : Int32).toInt = 4 := (by decide); have a16 := nI_toInt (n := (t_11 + 1)) (by omega); have a17 := nI_toInt (n := i) (by omega); omega) _ _ (hP.sub [0, 1, 2, 3] rfl) (hD.sub [0, 1, 2, 3] (by decide) rfl) hS _ (lv_sub hl [3, 4, 5, 6, 0] rfl)
                      · refine lv_iconst (v := 1) hx hb dX1_reckon_159 (by decide) ?_
                        refine lv_goto (tgt := 164) hx hb dX1_reckon_160 (by decide) ?_
                        refine lv_icmp_ne (tgt := 181) hx hb dX1_reckon_164 (by decide) (fun c_164 => ?_) (fun c_164 => ?_)
                        · refine lv_iinc (v := (nI t_11)) (lv' := [(3, .int (nI t_11)), (6, .int x_7), (5, .int x_6), (0, .ref h0), (1, .int a), (2, .int b), (4, .int (nI i))]) hx hb dX1_reckon_181 hl (k := 5) rfl (pk_m1 t_11) (by decide) rfl (fun ls hl => ?_)
                          refine lv_goto (tgt := 258) hx hb dX1_reckon_184 (by decide) ?_
                          refine lv_iinc (v := (nI (i + 1))) (lv' := [(4, .int (nI (i + 1))), (3, .int (nI t_11)), (6, .int x_7), (5, .int x_6), (0, .ref h0), (1, .int a), (2, .int b)]) hx hb dX1_reckon_258 hl (k := 6) rfl (nI_1 i) (by decide) rfl (fun ls hl => ?_)
                          refine lv_goto (tgt := 9) hx hb dX1_reckon_261 (by decide) ?_
                          exact ih_9 (i + 1) t_11 sa (by omega) (by have a0 := mt Int32.le_iff_toInt_le.mpr c_12; have a1 := mt Int32.le_iff_toInt_le.mpr c_20; have a2 := mt Int32.toInt_inj.mp c_48; have a3 := mt Int32.toInt_inj.mp c_54; have a4 := mt Int32.toInt_inj.mp c_101; have a5 := mt Int32.toInt_inj.mp c_109; have a6 := mt Int32.toInt_inj.mp c_136; have a7 := congrArg Int32.toInt c_142; have a8 := congrArg Int32.toInt c_156; have a9 := mt Int32.toInt_inj.mp c_164; have a10 : (0 : Int32).toInt = 0 := (by decide); have a11 : (1 : Int32).toInt = 1 := (by decide); have a12 : (2 : Int32).toInt = 2 := (by decide); have a13 : (240 : Int32).toInt = 240 := (by decide); have a14 : (3 : Int32).toInt = 3 := (by decide); have a15 : (4 : Int32).toInt = 4 := (by decide); have a16 := nI_toInt (n := (t_11 + 1)) (by omega); have a17 := nI_toInt (n := i) (by omega); omega) (by have a0 := mt Int32.le_iff_toInt_le.mpr c_12; have a1 := mt Int32.le_iff_toInt_le.mpr c_20; have a2 := mt Int32.toInt_inj.mp c_48; have a3 := mt Int32.toInt_inj.mp c_54; have a4 := mt Int32.toInt_inj.mp c_101; have a5 := mt Int32.toInt_inj.mp c_109; have a6 := mt Int32.toInt_inj.mp c_136; have a7 := congrArg Int32.toInt c_142; have a8 := congrArg Int32.toInt c_156; have a9 := mt Int32.toInt_inj.mp c_164; have a10 : (0 : Int32).toInt = 0 := (by decide); have a11 : (1 : Int32).toInt = 1 := (by decide); have a12 : (2 : Int32).toInt = 2 := (by decide); have a13 : (240 : Int32).toInt = 240 := (by decide); have a14 : (3 : Int32).toInt = 3 := (by decide); have a15 : (4 : Int32).toInt = 4 := (by decide); have a16 := nI_toInt (n := (t_11 + 1)) (by omega); have a17 := nI_toInt (n := i) (by omega); omega) _ _ (hP.sub [0, 1, 2, 3] rfl) (hD.sub [0, 1, 2, 3] (by decide) rfl) hS _ (lv_sub hl [4, 5, 6, 1, 0] rfl)
                        · refine lv_iload hx hb dX1_reckon_167 (lv_at hl 6 rfl) ?_
                          refine lv_iload hx hb dX1_reckon_169 (lv_at hl 0 rfl) ?_
                          refine lv_iconst (v := 1) hx hb dX1_reckon_171 (by decide) ?_
                          refine lv_isub hx hb dX1_reckon_172 ?_
                          refine va_mmax (rest := []) hx hb (by rw [hml]; exact hl.1.symm) hown (htb _ k_823) (htb _ k_516) (htb _ k_106) (htb _ k_517) (Nat.le_of_ble_eq_true rfl) (Nat.le_of_ble_eq_true rfl) (Nat.le_of_ble_eq_true rfl) (Nat.le_of_ble_eq_true rfl) dX1_reckon_173 ?_
                          refine lv_topi (fun mx_27 emx_27 => ?_)
                          obtain ⟨j_28, hj_28a, hj_28b, ej_28, hj_28c⟩ := mxN emx_27 rfl hib
                          refine tv (z := nI j_28) ej_28 ?_
                          have hj_28d : j_28 < 2147483647 := by have a0 := mt Int32.le_iff_toInt_le.mpr c_12; have a1 := mt Int32.le_iff_toInt_le.mpr c_20; have a2 := mt Int32.toInt_inj.mp c_48; have a3 := mt Int32.toInt_inj.mp c_54; have a4 := mt Int32.toInt_inj.mp c_101; have a5 := mt Int32.toInt_inj.mp c_109; have a6 := mt Int32.toInt_inj.mp c_136; have a7 := congrArg Int32.toInt c_142; have a8 := congrArg Int32.toInt c_156; have a9 := congrArg Int32.toInt c_164; have a10 : (0 : Int32).toInt = 0 := (by decide); have a11 : (1 : Int32).toInt = 1 := (by decide); have a12 : (2 : Int32).toInt = 2 := (by decide); have a13 : (240 : Int32).toInt = 240 := (by decide); have a14 : (3 : Int32).toInt = 3 := (by decide); have a15 : (4 : Int32).toInt = 4 := (by decide); have a16 := nI_toInt (n := (t_11 + 1)) (by omega); have a17 := nI_toInt (n := i) (by omega); have w1 := shr4 (q1 (Int32.toNatClampNeg (nI i))); rw [← ex_7] at w1; have w2 : (1 : Int32).toInt = 1 := (by decide); have w3 := subT (x := x_7) (y := 1) (by omega) (by omega); omega
                          refine lv_istore (lv' := [(4, .int (nI j_28)), (6, .int x_7), (5, .int x_6), (0, .ref h0), (1, .int a), (2, .int b), (3, .int (nI (t_11 + 1)))]) hx hb dX1_reckon_176 hl (by decide) rfl (fun ls hl => ?_)
                          refine lv_goto (tgt := 258) hx hb dX1_reckon_178 (by decide) ?_
                          refine lv_iinc (v := (nI (j_28 + 1))) (lv' := [(4, .int (nI (j_28 + 1))), (6, .int x_7), (5, .int x_6), (0, .ref h0), (1, .int a), (2, .int b), (3, .int (nI (t_11 + 1)))]) hx hb dX1_reckon_258 hl (k := 0) rfl (nI_1 j_28) (by decide) rfl (fun ls hl => ?_)
                          refine lv_goto (tgt := 9) hx hb dX1_reckon_261 (by decide) ?_
                          exact ih_9 (j_28 + 1) (t_11 + 1) sa (by omega) (by have a0 := mt Int32.le_iff_toInt_le.mpr c_12; have a1 := mt Int32.le_iff_toInt_le.mpr c_20; have a2 := mt Int32.toInt_inj.mp c_48; have a3 := mt Int32.toInt_inj.mp c_54; have a4 := mt Int32.toInt_inj.mp c_101; have a5 := mt Int32.toInt_inj.mp c_109; have a6 := mt Int32.toInt_inj.mp c_136; have a7 := congrArg Int32.toInt c_142; have a8 := congrArg Int32.toInt c_156; have a9 := congrArg Int32.toInt c_164; have a10 : (0 : Int32).toInt = 0 := (by decide); have a11 : (1 : Int32).toInt = 1 := (by decide); have a12 : (2 : Int32).toInt = 2 := (by decide); have a13 : (240 : Int32).toInt = 240 := (by decide); have a14 : (3 : Int32).toInt = 3 := (by decide); have a15 : (4 : Int32).toInt = 4 := (by decide); have a16 := nI_toInt (n := (t_11 + 1)) (by omega); have a17 := nI_toInt (n := i) (by omega); omega) (by have a0 := mt Int32.le_iff_toInt_le.mpr c_12; have a1 := mt Int32.le_iff_toInt_le.mpr c_20; have a2 := mt Int32.toInt_inj.mp c_48; have a3 := mt Int32.toInt_inj.mp c_54; have a4 := mt Int32.toInt_inj.mp c_101; have a5 := mt Int32.toInt_inj.mp c_109; have a6 := mt Int32.toInt_inj.mp c_136; have a7 := congrArg Int32.toInt c_142; have a8 := congrArg Int32.toInt c_156; have a9 := congrArg Int32.toInt c_164; have a10 : (0 : Int32).toInt = 0 := (by decide); have a11 : (1 : Int32).toInt = 1 := (by decide); have a12 : (2 : Int32).toInt = 2 := (by decide); have a13 : (240 : Int32).toInt = 240 := (by decide); have a14 : (3 : Int32).toInt = 3 := (by decide); have a15 : (4 : Int32).toInt = 4 := (by decide); have a16 := nI_toInt (n := (t_11 + 1)) (by omega); have a17 := nI_toInt (n := i) (by omega); omega) _ _ (hP.sub [0, 1, 2, 3] rfl) (hD.sub [0, 1, 2, 3] (by decide) rfl) hS _ (lv_sub hl [3, 4, 5, 6, 0] rfl)
                · refine lv_aload_n hx hb dX1_reckon_112 rfl (lv_at hl 2 rfl) ?_
                  refine va_get (D := D) (ci := 1) (v := .ref l7) (C := RX1) (T := TX1) (N := 9) hx hb htb itX1 hown hK hP 0 rfl rfl 6 (by decide) (htb _ k_230) (fun _ h9 => h9) rfl dX1_reckon_113 ?_
                  refine lv_iload_n hx hb dX1_reckon_116 rfl (lv_at hl 5 rfl) ?_
                  refine lv_iconst (v := 1) hx hb dX1_reckon_117 (by decide) ?_
                  refine lv_isub hx hb dX1_reckon_118 ?_
                  refine tv (z := (nI t_11)) (nI_pred t_11) ?_
                  refine lv_iconst (v := 1) hx hb dX1_reckon_119 (by decide) ?_
                  refine lv_aload_n hx hb dX1_reckon_120 rfl (lv_at hl 2 rfl) ?_
                  refine va_get (D := D) (ci := 1) (v := .ref l7) (C := RX1) (T := TX1) (N := 9) hx hb htb itX1 hown hK hP 0 rfl rfl 6 (by decide) (htb _ k_230) (fun _ h9 => h9) rfl dX1_reckon_121 ?_
                  refine lv_iload_n hx hb dX1_reckon_124 rfl (lv_at hl 5 rfl) ?_
                  refine lv_iconst (v := 1) hx hb dX1_reckon_125 (by decide) ?_
                  refine lv_isub hx hb dX1_reckon_126 ?_
                  refine tv (z := (nI t_11)) (nI_pred t_11) ?_
                  refine va_iald hx hb hK hP 3 0 rfl rfl (by have a0 := mt Int32.le_iff_toInt_le.mpr c_12; have a1 := mt Int32.le_iff_toInt_le.mpr c_20; have a2 := mt Int32.toInt_inj.mp c_48; have a3 := mt Int32.toInt_inj.mp c_54; have a4 := mt Int32.toInt_inj.mp c_101; have a5 := congrArg Int32.toInt c_109; have a6 : (0 : Int32).toInt = 0 := (by decide); have a7 : (1 : Int32).toInt = 1 := (by decide); have a8 : (2 : Int32).toInt = 2 := (by decide); have a9 : (240 : Int32).toInt = 240 := (by decide); have a10 := nI_toInt (n := (t_11 + 1)) (by omega); have a11 := nI_toInt (n := i) (by omega); exact vp_in_nI (by omega) (by decide)) dX1_reckon_127 ?_
                  refine lv_isub hx hb dX1_reckon_128 ?_
                  refine lv_topi (fun x_29 ex_29 => ?_)
                  refine va_iast hx hb hK hP hD hS 3 0 rfl rfl (by have a0 := mt Int32.le_iff_toInt_le.mpr c_12; have a1 := mt Int32.le_iff_toInt_le.mpr c_20; have a2 := mt Int32.toInt_inj.mp c_48; have a3 := mt Int32.toInt_inj.mp c_54; have a4 := mt Int32.toInt_inj.mp c_101; have a5 := congrArg Int32.toInt c_109; have a6 : (0 : Int32).toInt = 0 := (by decide); have a7 : (1 : Int32).toInt = 1 := (by decide); have a8 : (2 : Int32).toInt = 2 := (by decide); have a9 : (240 : Int32).toInt = 240 := (by decide); have a10 := nI_toInt (n := (t_11 + 1)) (by omega); have a11 := nI_toInt (n := i) (by omega); exact vp_in_nI (by omega) (by decide)) dX1_reckon_129 (fun H locs hP hD hS => ?_)
                  obtain ⟨f_30, ef_30⟩ : ∃ g : Nat → Int32, g = upd sa (Int32.toNatClampNeg (nI t_11)) x_29 := ⟨_, rfl⟩
                  rw [← ef_30] at hP hD
                  have hP : va_P D vwCl [(h0, .inr (1, [.ref l1, .ref l2, .ref l3, .ref l4, .ref l5, .ref l6, .ref l7, .int lz, .int lc])), (l1, .inl (cI, 240, .inl q1)), (l6, .inl (cI, 8, .inl q6)), (l7, .inl (cI, 32, .inl f_30))] H := hP
                  have hD : va_D A [(h0, .inr (1, [.ref l1, .ref l2, .ref l3, .ref l4, .ref l5, .ref l6, .ref l7, .int lz, .int lc])), (l1, .inl (cI, 240, .inl q1)), (l6, .inl (cI, 8, .inl q6)), (l7, .inl (cI, 32, .inl f_30))] := hD
                  refine lv_goto (tgt := 258) hx hb dX1_reckon_130 (by decide) ?_
                  refine lv_iinc (v := (nI (i + 1))) (lv' := [(4, .int (nI (i + 1))), (6, .int x_7), (5, .int x_6), (0, .ref h0), (1, .int a), (2, .int b), (3, .int (nI (t_11 + 1)))]) hx hb dX1_reckon_258 hl (k := 6) rfl (nI_1 i) (by decide) rfl (fun ls hl => ?_)
                  refine lv_goto (tgt := 9) hx hb dX1_reckon_261 (by decide) ?_
                  exact ih_9 (i + 1) (t_11 + 1) f_30 (by omega) (by have a0 := mt Int32.le_iff_toInt_le.mpr c_12; have a1 := mt Int32.le_iff_toInt_le.mpr c_20; have a2 := mt Int32.toInt_inj.mp c_48; have a3 := mt Int32.toInt_inj.mp c_54; have a4 := mt Int32.toInt_inj.mp c_101; have a5 := congrArg Int32.toInt c_109; have a6 : (0 : Int32).toInt = 0 := (by decide); have a7 : (1 : Int32).toInt = 1 := (by decide); have a8 : (2 : Int32).toInt = 2 := (by decide); have a9 : (240 : Int32).toInt = 240 := (by decide); have a10 := nI_toInt (n := (t_11 + 1)) (by omega); have a11 := nI_toInt (n := i) (by omega); omega) (by have a0 := mt Int32.le_iff_toInt_le.mpr c_12; have a1 := mt Int32.le_iff_toInt_le.mpr c_20; have a2 := mt Int32.toInt_inj.mp c_48; have a3 := mt Int32.toInt_inj.mp c_54; have a4 := mt Int32.toInt_inj.mp c_101; have a5 := congrArg Int32.toInt c_109; have a6 : (0 : Int32).toInt = 0 := (by decide); have a7 : (1 : Int32).toInt = 1 := (by decide); have a8 : (2 : Int32).toInt = 2 := (by decide); have a9 : (240 : Int32).toInt = 240 := (by decide); have a10 := nI_toInt (n := (t_11 + 1)) (by omega); have a11 := nI_toInt (n := i) (by omega); omega) _ _ (hP.sub [0, 1, 2, 3] rfl) (hD.sub [0, 1, 2, 3] (by decide) rfl) hS _ (lv_sub hl [3, 4, 5, 6, 0] rfl)
              · refine lv_iconst (v := 0) hx hb dX1_reckon_104 (by decide) ?_
                exact ret _ _ _ _ 0 sa dX1_reckon_105 rfl trivial (hP.sub [0, 1, 2, 3] rfl) (hD.sub [0, 1, 2, 3] (by decide) rfl) hS
            · refine lv_iload_n hx hb dX1_reckon_57 rfl (lv_at hl 5 rfl) ?_
              refine lv_aload_n hx hb dX1_reckon_58 rfl (lv_at hl 2 rfl) ?_
              refine va_get (D := D) (ci := 1) (v := .ref l7) (C := RX1) (T := TX1) (N := 9) hx hb htb itX1 hown hK hP 0 rfl rfl 6 (by decide) (htb _ k_230) (fun _ h9 => h9) rfl dX1_reckon_59 ?_
              refine va_alen hx hb hK hP 3 0 rfl rfl (v := 32) rfl dX1_reckon_62 ?_
              refine lv_icmp_lt (tgt := 68) hx hb dX1_reckon_63 (by decide) (fun c_63 => ?_) (fun c_63 => ?_)
              · refine lv_aload_n hx hb dX1_reckon_68 rfl (lv_at hl 2 rfl) ?_
                refine va_get (D := D) (ci := 1) (v := .ref l7) (C := RX1) (T := TX1) (N := 9) hx hb htb itX1 hown hK hP 0 rfl rfl 6 (by decide) (htb _ k_230) (fun _ h9 => h9) rfl dX1_reckon_69 ?_
                refine lv_iload_n hx hb dX1_reckon_72 rfl (lv_at hl 5 rfl) ?_
                refine lv_iload hx hb dX1_reckon_73 (lv_at hl 1 rfl) ?_
                refine lv_if_ne (tgt := 83) hx hb dX1_reckon_75 (by decide) (fun c_75 => ?_) (fun c_75 => ?_)
                · refine lv_aload_n hx hb dX1_reckon_83 rfl (lv_at hl 2 rfl) ?_
                  refine va_get (D := D) (ci := 1) (v := .ref l6) (C := RX1) (T := TX1) (N := 9) hx hb htb itX1 hown hK hP 0 rfl rfl 5 (by decide) (htb _ k_229) (fun _ h9 => h9) rfl dX1_reckon_84 ?_
                  refine lv_iload hx hb dX1_reckon_87 (lv_at hl 0 rfl) ?_
                  refine lv_bipush (v := 7) hx hb dX1_reckon_89 (by decide) ?_
                  refine lv_iand hx hb dX1_reckon_91 ?_
                  refine va_iald hx hb hK hP 2 0 rfl rfl (pk_andIn _ 3 (by decide) (by decide)) dX1_reckon_92 ?_
                  refine lv_topi (fun x_31 ex_31 => ?_)
                  refine va_iast hx hb hK hP hD hS 3 0 rfl rfl (by have a0 := mt Int32.le_iff_toInt_le.mpr c_12; have a1 := mt Int32.le_iff_toInt_le.mpr c_20; have a2 := mt Int32.toInt_inj.mp c_48; have a3 := congrArg Int32.toInt c_54; have a4 := Int32.lt_iff_toInt_lt.mp c_63; have a5 := mt Int32.toInt_inj.mp c_75; have a6 : (0 : Int32).toInt = 0 := (by decide); have a7 : (1 : Int32).toInt = 1 := (by decide); have a8 : (240 : Int32).toInt = 240 := (by decide); have a9 : (32 : Int32).toInt = 32 := (by decide); have a10 := nI_toInt (n := i) (by omega); have a11 := nI_toInt (n := t) (by omega); exact vp_in_nI (by omega) (by decide)) dX1_reckon_93 (fun H locs hP hD hS => ?_)
                  obtain ⟨f_32, ef_32⟩ : ∃ g : Nat → Int32, g = upd sa (Int32.toNatClampNeg (nI t)) x_31 := ⟨_, rfl⟩
                  rw [← ef_32] at hP hD
                  have hP : va_P D vwCl [(h0, .inr (1, [.ref l1, .ref l2, .ref l3, .ref l4, .ref l5, .ref l6, .ref l7, .int lz, .int lc])), (l1, .inl (cI, 240, .inl q1)), (l6, .inl (cI, 8, .inl q6)), (l7, .inl (cI, 32, .inl f_32))] H := hP
                  have hD : va_D A [(h0, .inr (1, [.ref l1, .ref l2, .ref l3, .ref l4, .ref l5, .ref l6, .ref l7, .int lz, .int lc])), (l1, .inl (cI, 240, .inl q1)), (l6, .inl (cI, 8, .inl q6)), (l7, .inl (cI, 32, .inl f_32))] := hD
                  refine lv_iinc (v := (nI (t + 1))) (lv' := [(3, .int (nI (t + 1))), (6, .int x_7), (5, .int x_6), (0, .ref h0), (1, .int a), (2, .int b), (4, .int (nI i))]) hx hb dX1_reckon_94 hl (k := 5) rfl (nI_1 t) (by decide) rfl (fun ls hl => ?_)
                  refine lv_goto (tgt := 258) hx hb dX1_reckon_97 (by decide) ?_
                  refine lv_iinc (v := (nI (i + 1))) (lv' := [(4, .int (nI (i + 1))), (3, .int (nI (t + 1))), (6, .int x_7), (5, .int x_6), (0, .ref h0), (1, .int a), (2, .int b)]) hx hb dX1_reckon_258 hl (k := 6) rfl (nI_1 i) (by decide) rfl (fun ls hl => ?_)
                  refine lv_goto (tgt := 9) hx hb dX1_reckon_261 (by decide) ?_
                  exact ih_9 (i + 1) (t + 1) f_32 (by omega) (by have a0 := mt Int32.le_iff_toInt_le.mpr c_12; have a1 := mt Int32.le_iff_toInt_le.mpr c_20; have a2 := mt Int32.toInt_inj.mp c_48; have a3 := congrArg Int32.toInt c_54; have a4 := Int32.lt_iff_toInt_lt.mp c_63; have a5 := mt Int32.toInt_inj.mp c_75; have a6 : (0 : Int32).toInt = 0 := (by decide); have a7 : (1 : Int32).toInt = 1 := (by decide); have a8 : (240 : Int32).toInt = 240 := (by decide); have a9 : (32 : Int32).toInt = 32 := (by decide); have a10 := nI_toInt (n := i) (by omega); have a11 := nI_toInt (n := t) (by omega); omega) (by have a0 := mt Int32.le_iff_toInt_le.mpr c_12; have a1 := mt Int32.le_iff_toInt_le.mpr c_20; have a2 := mt Int32.toInt_inj.mp c_48; have a3 := congrArg Int32.toInt c_54; have a4 := Int32.lt_iff_toInt_lt.mp c_63; have a5 := mt Int32.toInt_inj.mp c_75; have a6 : (0 : Int32).toInt = 0 := (by decide); have a7 : (1 : Int32).toInt = 1 := (by decide); have a8 : (240 : Int32).toInt = 240 := (by decide); have a9 : (32 : Int32).toInt = 32 := (by decide); have a10 := nI_toInt (n := i) (by omega); have a11 := nI_toInt (n := t) (by omega); omega) _ _ (hP.sub [0, 1, 2, 3] rfl) (hD.sub [0, 1, 2, 3] (by decide) rfl) hS _ (lv_sub hl [4, 5, 6, 1, 0] rfl)
                · refine lv_iload hx hb dX1_reckon_78 (lv_at hl 0 rfl) ?_
                  refine lv_goto (tgt := 93) hx hb dX1_reckon_80 (by decide) ?_
                  refine va_iast hx hb hK hP hD hS 3 0 rfl rfl (by have a0 := mt Int32.le_iff_toInt_le.mpr c_12; have a1 := mt Int32.le_iff_toInt_le.mpr c_20; have a2 := mt Int32.toInt_inj.mp c_48; have a3 := congrArg Int32.toInt c_54; have a4 := Int32.lt_iff_toInt_lt.mp c_63; have a5 := congrArg Int32.toInt c_75; have a6 : (0 : Int32).toInt = 0 := (by decide); have a7 : (1 : Int32).toInt = 1 := (by decide); have a8 : (240 : Int32).toInt = 240 := (by decide); have a9 : (32 : Int32).toInt = 32 := (by decide); have a10 := nI_toInt (n := i) (by omega); have a11 := nI_toInt (n := t) (by omega); exact vp_in_nI (by omega) (by decide)) dX1_reckon_93 (fun H locs hP hD hS => ?_)
                  obtain ⟨f_33, ef_33⟩ : ∃ g : Nat → Int32, g = upd sa (Int32.toNatClampNeg (nI t)) x_7 := ⟨_, rfl⟩
                  rw [← ef_33] at hP hD
                  have hP : va_P D vwCl [(h0, .inr (1, [.ref l1, .ref l2, .ref l3, .ref l4, .ref l5, .ref l6, .ref l7, .int lz, .int lc])), (l1, .inl (cI, 240, .inl q1)), (l6, .inl (cI, 8, .inl q6)), (l7, .inl (cI, 32, .inl f_33))] H := hP
                  have hD : va_D A [(h0, .inr (1, [.ref l1, .ref l2, .ref l3, .ref l4, .ref l5, .ref l6, .ref l7, .int lz, .int lc])), (l1, .inl (cI, 240, .inl q1)), (l6, .inl (cI, 8, .inl q6)), (l7, .inl (cI, 32, .inl f_33))] := hD
                  refine lv_iinc (v := (nI (t + 1))) (lv' := [(3, .int (nI (t + 1))), (6, .int x_7), (5, .int x_6), (0, .ref h0), (1, .int a), (2, .int b), (4, .int (nI i))]) hx hb dX1_reckon_94 hl (k := 5) rfl (nI_1 t) (by decide) rfl (fun ls hl => ?_)
                  refine lv_goto (tgt := 258) hx hb dX1_reckon_97 (by decide) ?_
                  refine lv_iinc (v := (nI (i + 1))) (lv' := [(4, .int (nI (i + 1))), (3, .int (nI (t + 1))), (6, .int x_7), (5, .int x_6), (0, .ref h0), (1, .int a), (2, .int b)]) hx hb dX1_reckon_258 hl (k := 6) rfl (nI_1 i) (by decide) rfl (fun ls hl => ?_)
                  refine lv_goto (tgt := 9) hx hb dX1_reckon_261 (by decide) ?_
                  exact ih_9 (i + 1) (t + 1) f_33 (by omega) (by have a0 := mt Int32.le_iff_toInt_le.mpr c_12; have a1 := mt Int32.le_iff_toInt_le.mpr c_20; have a2 := mt Int32.toInt_inj.mp c_48; have a3 := congrArg Int32.toInt c_54; have a4 := Int32.lt_iff_toInt_lt.mp c_63; have a5 := congrArg Int32.toInt c_75; have a6 : (0 : Int32).toInt = 0 := (by decide); have a7 : (1 : Int32).toInt = 1 := (by decide); have a8 : (240 : Int32).toInt = 240 := (by decide); have a9 : (32 : Int32).toInt = 32 := (by decide); have a10 := nI_toInt (n := i) (by omega); have a11 := nI_toInt (n := t) (by omega); omega) (by have a0 := mt Int32.le_iff_toInt_le.mpr c_12; have a1 := mt Int32.le_iff_toInt_le.mpr c_20; have a2 := mt Int32.toInt_inj.mp c_48; have a3 := congrArg Int32.toInt c_54; have a4 := Int32.lt_iff_toInt_lt.mp c_63; have a5 := congrArg Int32.toInt c_75; have a6 : (0 : Int32).toInt = 0 := (by decide); have a7 : (1 : Int32).toInt = 1 := (by decide); have a8 : (240 : Int32).toInt = 240 := (by decide); have a9 : (32 : Int32).toInt = 32 := (by decide); have a10 := nI_toInt (n := i) (by omega); have a11 := nI_toInt (n := t) (by omega); omega) _ _ (hP.sub [0, 1, 2, 3] rfl) (hD.sub [0, 1, 2, 3] (by decide) rfl) hS _ (lv_sub hl [4, 5, 6, 1, 0] rfl)
              · refine lv_iconst (v := 0) hx hb dX1_reckon_66 (by decide) ?_
                exact ret _ _ _ _ 0 sa dX1_reckon_67 rfl trivial (hP.sub [0, 1, 2, 3] rfl) (hD.sub [0, 1, 2, 3] (by decide) rfl) hS
  exact loop_9 240 k0 0 q7 (by omega) hk0 (by omega) _ _ (hP.sub [0, 1, 2, 3] rfl) (hD.sub [0, 1, 2, 3] (by decide) rfl) hS _ (lv_sub hl [2, 3, 4, 1, 0] rfl)

set_option maxRecDepth 100000 in
set_option maxHeartbeats 4000000 in
theorem c_X1_firstOf (l : Launch) (D : va_G) (cI cB : ClassId) (sz : Nat) (h0 : Nat) (l1 : Nat) (l2 : Nat) (l3 : Nat) (l4 : Nat) (l5 : Nat) (l6 : Nat) (l7 : Nat) (lz : Int32) (lc : Int32) (a : Int32) (b : Int32) (q1 : Nat → Int32) (q2 : Nat → Int32) (q3 : Nat → Int32) (q4 : Nat → Int32) (q5 : Nat → Int32) (q6 : Nat → Int32) (q7 : Nat → Int32)  : MI (S := ((Nat → Int32))) l D cI cB yX1_firstOf cX1_firstOf 4 .int (rm 2 49) [.ref h0, .int a, .int b] [(h0, .inr (1, [.ref l1, .ref l2, .ref l3, .ref l4, .ref l5, .ref l6, .ref l7, .int lz, .int lc])), (l1, .inl (cI, 240, .inl q1)), (l2, .inl (cI, 16, .inl q2)), (l3, .inl (cI, 16, .inl q3)), (l4, .inl (cI, 16, .inl q4)), (l5, .inl (cI, 16, .inl q5)), (l6, .inl (cI, 8, .inl q6)), (l7, .inl (cI, 32, .inl q7))] sz (fun r u => True) (fun u : ((Nat → Int32)) => [(h0, .inr (1, [.ref l1, .ref l2, .ref l3, .ref l4, .ref l5, .ref l6, .ref l7, .int lz, .int lc])), (l1, .inl (cI, 240, .inl q1)), (l2, .inl (cI, 16, .inl q2)), (l3, .inl (cI, 16, .inl q3)), (l4, .inl (cI, 16, .inl q4)), (l5, .inl (cI, 16, .inl q5)), (l6, .inl (cI, 8, .inl q6)), (l7, .inl (cI, 32, .inl u))]) := by
  refine MI.of (by decide) (Nat.le_of_ble_eq_true rfl) ?_
  intro p e s m below meth c Q ls A X hin hN hP hK hD hA hl ret
  have hS : va_S A s.heap s.heap [] := va_S.rf
  obtain ⟨hx, hb, hml, hown, htb⟩ := id X
  have hl : lv_has ls 4 [(0, .ref h0), (1, .int a), (2, .int b)] := hl
  refine lv_iconst (v := 0) hx hb dX1_firstOf_0 (by decide) ?_
  refine lv_istore_n (lv' := [(3, .int 0), (0, .ref h0), (1, .int a), (2, .int b)]) hx hb dX1_firstOf_1 rfl hl (by decide) rfl (fun ls hl => ?_)
  have loop_2 : ∀ (n i : Nat) (sa : Nat → Int32), n + i = 16 → ∀ (H : Heap) (locs : List Loc), va_P D vwCl [(h0, .inr (1, [.ref l1, .ref l2, .ref l3, .ref l4, .ref l5, .ref l6, .ref l7, .int lz, .int lc])), (l1, .inl (cI, 240, .inl q1)), (l2, .inl (cI, 16, .inl q2)), (l3, .inl (cI, 16, .inl q3)), (l4, .inl (cI, 16, .inl q4)), (l5, .inl (cI, 16, .inl q5)), (l6, .inl (cI, 8, .inl q6)), (l7, .inl (cI, 32, .inl sa))] H → va_D A [(h0, .inr (1, [.ref l1, .ref l2, .ref l3, .ref l4, .ref l5, .ref l6, .ref l7, .int lz, .int lc])), (l1, .inl (cI, 240, .inl q1)), (l2, .inl (cI, 16, .inl q2)), (l3, .inl (cI, 16, .inl q3)), (l4, .inl (cI, 16, .inl q4)), (l5, .inl (cI, 16, .inl q5)), (l6, .inl (cI, 8, .inl q6)), (l7, .inl (cI, 32, .inl sa))] → va_S A s.heap H locs → ∀ (ls : Array Slot), lv_has ls 4 [(0, .ref h0), (1, .int a), (2, .int b), (3, .int (nI i))] → W p l e (rm 2 49) s m ([.ref h0, .int a, .int b] : List Value).toArray below meth c H locs 0 0 Q (F0 m 2 ls []) := by
    intro n
    induction n with
    | zero =>
      intro i sa hni H locs hP hD hS ls hl
      have hni_2 := hni
      have hi : i = 16 := by omega
      refine lv_iload_n hx hb dX1_firstOf_2 rfl (lv_at hl 3 rfl) ?_
      refine lv_aload_n hx hb dX1_firstOf_3 rfl (lv_at hl 0 rfl) ?_
      refine va_get (D := D) (ci := 1) (v := .int lc) (C := RX1) (T := TX1) (N := 9) hx hb htb itX1 hown hK hP 0 rfl rfl 8 (by decide) (htb _ k_234) (fun _ h9 => h9) rfl dX1_firstOf_4 ?_
      refine lv_icmp_ge (tgt := 77) hx hb dX1_firstOf_7 (by decide) (fun c_7 => ?_) (fun c_7 => ?_)
      · refine lv_iload_n hx hb dX1_firstOf_77 rfl (lv_at hl 2 rfl) ?_
        exact ret _ _ _ _ b sa dX1_firstOf_78 rfl trivial (hP.sub [0, 1, 2, 3, 4, 5, 6, 7] rfl) (hD.sub [0, 1, 2, 3, 4, 5, 6, 7] (by decide) rfl) hS
      · refine lv_iload_n hx hb dX1_firstOf_10 rfl (lv_at hl 3 rfl) ?_
        refine lv_bipush (v := 16) hx hb dX1_firstOf_11 (by decide) ?_
        refine lv_icmp_ge (tgt := 77) hx hb dX1_firstOf_13 (by decide) (fun _ => ?_) (fun c_13 => absurd (by rw [hi]; decide) c_13)
        refine lv_iload_n hx hb dX1_firstOf_77 rfl (lv_at hl 2 rfl) ?_
        exact ret _ _ _ _ b sa dX1_firstOf_78 rfl trivial (hP.sub [0, 1, 2, 3, 4, 5, 6, 7] rfl) (hD.sub [0, 1, 2, 3, 4, 5, 6, 7] (by decide) rfl) hS
    | succ n ih_2 =>
      intro i sa hni H locs hP hD hS ls hl
      have hni_2 := hni
      have hi : i < 16 := by omega
      refine lv_iload_n hx hb dX1_firstOf_2 rfl (lv_at hl 3 rfl) ?_
      refine lv_aload_n hx hb dX1_firstOf_3 rfl (lv_at hl 0 rfl) ?_
      refine va_get (D := D) (ci := 1) (v := .int lc) (C := RX1) (T := TX1) (N := 9) hx hb htb itX1 hown hK hP 0 rfl rfl 8 (by decide) (htb _ k_234) (fun _ h9 => h9) rfl dX1_firstOf_4 ?_
      refine lv_icmp_ge (tgt := 77) hx hb dX1_firstOf_7 (by decide) (fun c_7 => ?_) (fun c_7 => ?_)
      · refine lv_iload_n hx hb dX1_firstOf_77 rfl (lv_at hl 2 rfl) ?_
        exact ret _ _ _ _ b sa dX1_firstOf_78 rfl trivial (hP.sub [0, 1, 2, 3, 4, 5, 6, 7] rfl) (hD.sub [0, 1, 2, 3, 4, 5, 6, 7] (by decide) rfl) hS
      · refine lv_iload_n hx hb dX1_firstOf_10 rfl (lv_at hl 3 rfl) ?_
        refine lv_bipush (v := 16) hx hb dX1_firstOf_11 (by decide) ?_
        refine lv_icmp_ge (tgt := 77) hx hb dX1_firstOf_13 (by decide) (fun c_13 => absurd c_13 (nI_ge hi (by decide))) (fun _ => ?_)
        refine lv_aload_n hx hb dX1_firstOf_16 rfl (lv_at hl 0 rfl) ?_
        refine va_get (D := D) (ci := 1) (v := .ref l2) (C := RX1) (T := TX1) (N := 9) hx hb htb itX1 hown hK hP 0 rfl rfl 1 (by decide) (htb _ k_225) (fun _ h9 => h9) rfl dX1_firstOf_17 ?_
        refine lv_iload_n hx hb dX1_firstOf_20 rfl (lv_at hl 3 rfl) ?_
        refine va_iald hx hb hK hP 2 0 rfl rfl (by have a0 := mt Int32.le_iff_toInt_le.mpr c_7; have a1 := nI_toInt (n := i) (by omega); exact vp_in_nI (by omega) (by decide)) dX1_firstOf_21 ?_
        refine lv_iload_n hx hb dX1_firstOf_22 rfl (lv_at hl 1 rfl) ?_
        refine lv_icmp_ne (tgt := 71) hx hb dX1_firstOf_23 (by decide) (fun c_23 => ?_) (fun c_23 => ?_)
        · refine lv_iinc (v := (nI (i + 1))) (lv' := [(3, .int (nI (i + 1))), (0, .ref h0), (1, .int a), (2, .int b)]) hx hb dX1_firstOf_71 hl (k := 3) rfl (nI_1 i) (by decide) rfl (fun ls hl => ?_)
          refine lv_goto (tgt := 2) hx hb dX1_firstOf_74 (by decide) ?_
          exact ih_2 (i + 1) sa (by omega) _ _ (hP.sub [0, 1, 2, 3, 4, 5, 6, 7] rfl) (hD.sub [0, 1, 2, 3, 4, 5, 6, 7] (by decide) rfl) hS _ (lv_sub hl [1, 2, 3, 0] rfl)
        · refine lv_aload_n hx hb dX1_firstOf_26 rfl (lv_at hl 0 rfl) ?_
          refine lv_aload_n hx hb dX1_firstOf_27 rfl (lv_at hl 0 rfl) ?_
          refine va_get (D := D) (ci := 1) (v := .ref l4) (C := RX1) (T := TX1) (N := 9) hx hb htb itX1 hown hK hP 0 rfl rfl 3 (by decide) (htb _ k_227) (fun _ h9 => h9) rfl dX1_firstOf_28 ?_
          refine lv_iload_n hx hb dX1_firstOf_31 rfl (lv_at hl 3 rfl) ?_
          refine va_iald hx hb hK hP 4 0 rfl rfl (by have a0 := mt Int32.le_iff_toInt_le.mpr c_7; have a1 := congrArg Int32.toInt c_23; have a2 := nI_toInt (n := i) (by omega); exact vp_in_nI (by omega) (by decide)) dX1_firstOf_32 ?_
          refine lv_aload_n hx hb dX1_firstOf_33 rfl (lv_at hl 0 rfl) ?_
          refine va_get (D := D) (ci := 1) (v := .ref l5) (C := RX1) (T := TX1) (N := 9) hx hb htb itX1 hown hK hP 0 rfl rfl 4 (by decide) (htb _ k_228) (fun _ h9 => h9) rfl dX1_firstOf_34 ?_
          refine lv_iload_n hx hb dX1_firstOf_37 rfl (lv_at hl 3 rfl) ?_
          refine va_iald hx hb hK hP 5 0 rfl rfl (by have a0 := mt Int32.le_iff_toInt_le.mpr c_7; have a1 := congrArg Int32.toInt c_23; have a2 := nI_toInt (n := i) (by omega); exact vp_in_nI (by omega) (by decide)) dX1_firstOf_38 ?_
          refine cVI (As := [.int (q4 (Int32.toNatClampNeg (nI i))), .int (q5 (Int32.toNatClampNeg (nI i)))]) (rest := []) (n := 2) (ci := 1) (q0 := 0) (wr := [(l2, .inl (cI, 16, .inl q2)), (l3, .inl (cI, 16, .inl q3)), (l4, .inl (cI, 16, .inl q4)), (l5, .inl (cI, 16, .inl q5))]) X hN hK hP hD hS hA (c_X1_reckon l D cI cB _ h0 l1 l2 l3 l4 l5 l6 l7 lz lc (q4 (Int32.toNatClampNeg (nI i))) (q5 (Int32.toNatClampNeg (nI i))) q1 q6 sa) (gV k_819 k_821 k_17 k_97 k_822) (by decide +kernel) ⟨Nat.le_of_ble_eq_true rfl, Nat.le_of_ble_eq_true rfl⟩ ⟨rfl, rfl⟩ [0, 1, 6, 7] [2, 3, 4, 5] rfl rfl (by decide) (by decide) rfl rfl rfl rfl rfl hl.1 (Nat.le_of_ble_eq_true rfl) dX1_firstOf_39 ⟨Nat.le_of_ble_eq_true rfl, Nat.le_of_ble_eq_true rfl⟩ (fun r_1 u H locs hw_3 hP hD hS => ?_)
          obtain ⟨l7_fo_2, rfl⟩ : ∃ z, z = u := ⟨_, rfl⟩
          try dsimp only at hw_3
          have hP : va_P D vwCl [(l2, .inl (cI, 16, .inl q2)), (l3, .inl (cI, 16, .inl q3)), (l4, .inl (cI, 16, .inl q4)), (l5, .inl (cI, 16, .inl q5)), (h0, .inr (1, [.ref l1, .ref l2, .ref l3, .ref l4, .ref l5, .ref l6, .ref l7, .int lz, .int lc])), (l1, .inl (cI, 240, .inl q1)), (l6, .inl (cI, 8, .inl q6)), (l7, .inl (cI, 32, .inl l7_fo_2))] H := hP
          have hD : va_D A [(l2, .inl (cI, 16, .inl q2)), (l3, .inl (cI, 16, .inl q3)), (l4, .inl (cI, 16, .inl q4)), (l5, .inl (cI, 16, .inl q5)), (h0, .inr (1, [.ref l1, .ref l2, .ref l3, .ref l4, .ref l5, .ref l6, .ref l7, .int lz, .int lc])), (l1, .inl (cI, 240, .inl q1)), (l6, .inl (cI, 8, .inl q6)), (l7, .inl (cI, 32, .inl l7_fo_2))] := hD
          refine lv_if_eq (tgt := 71) hx hb dX1_firstOf_42 (by decide) (fun c_42 => ?_) (fun c_42 => ?_)
          · refine lv_iinc (v := (nI (i + 1))) (lv' := [(3, .int (nI (i + 1))), (0, .ref h0), (1, .int a), (2, .int b)]) hx hb dX1_firstOf_71 hl (k := 3) rfl (nI_1 i) (by decide) rfl (fun ls hl => ?_)
            refine lv_goto (tgt := 2) hx hb dX1_firstOf_74 (by decide) ?_
            exact ih_2 (i + 1) l7_fo_2 (by omega) _ _ (hP.sub [4, 5, 0, 1, 2, 3, 6, 7] rfl) (hD.sub [4, 5, 0, 1, 2, 3, 6, 7] (by decide) rfl) hS _ (lv_sub hl [1, 2, 3, 0] rfl)
          · refine lv_iconst (v := 0) hx hb dX1_firstOf_45 (by decide) ?_
            refine lv_bipush (v := 99) hx hb dX1_firstOf_46 (by decide) ?_
            refine lv_aload_n hx hb dX1_firstOf_48 rfl (lv_at hl 0 rfl) ?_
            refine lv_aload_n hx hb dX1_firstOf_49 rfl (lv_at hl 0 rfl) ?_
            refine va_get (D := D) (ci := 1) (v := .ref l3) (C := RX1) (T := TX1) (N := 9) hx hb htb itX1 hown hK hP 4 rfl rfl 2 (by decide) (htb _ k_226) (fun _ h9 => h9) rfl dX1_firstOf_50 ?_
            refine lv_iload_n hx hb dX1_firstOf_53 rfl (lv_at hl 3 rfl) ?_
            refine va_iald hx hb hK hP 1 0 rfl rfl (by have a0 := mt Int32.le_iff_toInt_le.mpr c_7; have a1 := congrArg Int32.toInt c_23; have a2 := mt Int32.toInt_inj.mp c_42; have a3 : (0 : Int32).toInt = 0 := (by decide); have a4 := nI_toInt (n := i) (by omega); exact vp_in_nI (by omega) (by decide)) dX1_firstOf_54 ?_
            refine lv_aload_n hx hb dX1_firstOf_55 rfl (lv_at hl 0 rfl) ?_
            refine va_get (D := D) (ci := 1) (v := .ref l4) (C := RX1) (T := TX1) (N := 9) hx hb htb itX1 hown hK hP 4 rfl rfl 3 (by decide) (htb _ k_227) (fun _ h9 => h9) rfl dX1_firstOf_56 ?_
            refine lv_iload_n hx hb dX1_firstOf_59 rfl (lv_at hl 3 rfl) ?_
            refine va_iald hx hb hK hP 2 0 rfl rfl (by have a0 := mt Int32.le_iff_toInt_le.mpr c_7; have a1 := congrArg Int32.toInt c_23; have a2 := mt Int32.toInt_inj.mp c_42; have a3 : (0 : Int32).toInt = 0 := (by decide); have a4 := nI_toInt (n := i) (by omega); exact vp_in_nI (by omega) (by decide)) dX1_firstOf_60 ?_
            refine cVI (As := [.int (q3 (Int32.toNatClampNeg (nI i))), .int (q4 (Int32.toNatClampNeg (nI i)))]) (rest := [.int 99, .int 0]) (n := 2) (ci := 1) (q0 := 0) (wr := [(l2, .inl (cI, 16, .inl q2)), (l3, .inl (cI, 16, .inl q3)), (l4, .inl (cI, 16, .inl q4)), (l5, .inl (cI, 16, .inl q5))]) X hN hK hP hD hS hA (c_X1_reckon l D cI cB _ h0 l1 l2 l3 l4 l5 l6 l7 lz lc (q3 (Int32.toNatClampNeg (nI i))) (q4 (Int32.toNatClampNeg (nI i))) q1 q6 l7_fo_2) (gV k_819 k_821 k_17 k_97 k_822) (by decide +kernel) ⟨Nat.le_of_ble_eq_true rfl, Nat.le_of_ble_eq_true rfl⟩ ⟨rfl, rfl⟩ [4, 5, 6, 7] [0, 1, 2, 3] rfl rfl (by decide) (by decide) rfl rfl rfl rfl rfl hl.1 (Nat.le_of_ble_eq_true rfl) dX1_firstOf_61 ⟨Nat.le_of_ble_eq_true rfl, Nat.le_of_ble_eq_true rfl⟩ (fun r_4 u H locs hw_6 hP hD hS => ?_)
            obtain ⟨l7_fo_5, rfl⟩ : ∃ z, z = u := ⟨_, rfl⟩
            try dsimp only at hw_6
            have hP : va_P D vwCl [(l2, .inl (cI, 16, .inl q2)), (l3, .inl (cI, 16, .inl q3)), (l4, .inl (cI, 16, .inl q4)), (l5, .inl (cI, 16, .inl q5)), (h0, .inr (1, [.ref l1, .ref l2, .ref l3, .ref l4, .ref l5, .ref l6, .ref l7, .int lz, .int lc])), (l1, .inl (cI, 240, .inl q1)), (l6, .inl (cI, 8, .inl q6)), (l7, .inl (cI, 32, .inl l7_fo_5))] H := hP
            have hD : va_D A [(l2, .inl (cI, 16, .inl q2)), (l3, .inl (cI, 16, .inl q3)), (l4, .inl (cI, 16, .inl q4)), (l5, .inl (cI, 16, .inl q5)), (h0, .inr (1, [.ref l1, .ref l2, .ref l3, .ref l4, .ref l5, .ref l6, .ref l7, .int lz, .int lc])), (l1, .inl (cI, 240, .inl q1)), (l6, .inl (cI, 8, .inl q6)), (l7, .inl (cI, 32, .inl l7_fo_5))] := hD
            refine va_mmin (rest := [.int 0]) hx hb (by rw [hml]; exact hl.1.symm) hown (htb _ k_827) (htb _ k_519) (htb _ k_106) (htb _ k_520) (Nat.le_of_ble_eq_true rfl) (Nat.le_of_ble_eq_true rfl) (Nat.le_of_ble_eq_true rfl) (Nat.le_of_ble_eq_true rfl) dX1_firstOf_64 ?_
            refine lv_topi (fun mx_7 emx_7 => ?_)
            refine va_mmax (rest := []) hx hb (by rw [hml]; exact hl.1.symm) hown (htb _ k_823) (htb _ k_516) (htb _ k_106) (htb _ k_517) (Nat.le_of_ble_eq_true rfl) (Nat.le_of_ble_eq_true rfl) (Nat.le_of_ble_eq_true rfl) (Nat.le_of_ble_eq_true rfl) dX1_firstOf_67 ?_
            refine lv_topi (fun mx_8 emx_8 => ?_)
            exact ret _ _ _ _ mx_8 l7_fo_5 dX1_firstOf_70 rfl trivial (hP.sub [4, 5, 0, 1, 2, 3, 6, 7] rfl) (hD.sub [4, 5, 0, 1, 2, 3, 6, 7] (by decide) rfl) hS
  exact loop_2 16 0 q7 (by omega) _ _ (hP.sub [0, 1, 2, 3, 4, 5, 6, 7] rfl) (hD.sub [0, 1, 2, 3, 4, 5, 6, 7] (by decide) rfl) hS _ (lv_sub hl [1, 2, 3, 0] rfl)

set_option maxRecDepth 100000 in
set_option maxHeartbeats 4000000 in
theorem c_X1_anyOf (l : Launch) (D : va_G) (cI cB : ClassId) (sz : Nat) (h0 : Nat) (l1 : Nat) (l2 : Nat) (l3 : Nat) (l4 : Nat) (l5 : Nat) (l6 : Nat) (l7 : Nat) (lz : Int32) (lc : Int32) (a : Int32) (q1 : Nat → Int32) (q2 : Nat → Int32) (q3 : Nat → Int32) (q4 : Nat → Int32) (q5 : Nat → Int32) (q6 : Nat → Int32) (q7 : Nat → Int32)  : MI (S := ((Nat → Int32))) l D cI cB yX1_anyOf cX1_anyOf 3 .boolean (rm 2 49) [.ref h0, .int a] [(h0, .inr (1, [.ref l1, .ref l2, .ref l3, .ref l4, .ref l5, .ref l6, .ref l7, .int lz, .int lc])), (l1, .inl (cI, 240, .inl q1)), (l2, .inl (cI, 16, .inl q2)), (l3, .inl (cI, 16, .inl q3)), (l4, .inl (cI, 16, .inl q4)), (l5, .inl (cI, 16, .inl q5)), (l6, .inl (cI, 8, .inl q6)), (l7, .inl (cI, 32, .inl q7))] sz (fun r u => r = 0 ∨ r = 1) (fun u : ((Nat → Int32)) => [(h0, .inr (1, [.ref l1, .ref l2, .ref l3, .ref l4, .ref l5, .ref l6, .ref l7, .int lz, .int lc])), (l1, .inl (cI, 240, .inl q1)), (l2, .inl (cI, 16, .inl q2)), (l3, .inl (cI, 16, .inl q3)), (l4, .inl (cI, 16, .inl q4)), (l5, .inl (cI, 16, .inl q5)), (l6, .inl (cI, 8, .inl q6)), (l7, .inl (cI, 32, .inl u))]) := by
  refine MI.of (by decide) (Nat.le_of_ble_eq_true rfl) ?_
  intro p e s m below meth c Q ls A X hin hN hP hK hD hA hl ret
  have hS : va_S A s.heap s.heap [] := va_S.rf
  obtain ⟨hx, hb, hml, hown, htb⟩ := id X
  have hl : lv_has ls 3 [(0, .ref h0), (1, .int a)] := hl
  refine lv_iconst (v := 0) hx hb dX1_anyOf_0 (by decide) ?_
  refine lv_istore_n (lv' := [(2, .int 0), (0, .ref h0), (1, .int a)]) hx hb dX1_anyOf_1 rfl hl (by decide) rfl (fun ls hl => ?_)
  have loop_2 : ∀ (n i : Nat) (sa : Nat → Int32), n + i = 16 → ∀ (H : Heap) (locs : List Loc), va_P D vwCl [(h0, .inr (1, [.ref l1, .ref l2, .ref l3, .ref l4, .ref l5, .ref l6, .ref l7, .int lz, .int lc])), (l1, .inl (cI, 240, .inl q1)), (l2, .inl (cI, 16, .inl q2)), (l3, .inl (cI, 16, .inl q3)), (l4, .inl (cI, 16, .inl q4)), (l5, .inl (cI, 16, .inl q5)), (l6, .inl (cI, 8, .inl q6)), (l7, .inl (cI, 32, .inl sa))] H → va_D A [(h0, .inr (1, [.ref l1, .ref l2, .ref l3, .ref l4, .ref l5, .ref l6, .ref l7, .int lz, .int lc])), (l1, .inl (cI, 240, .inl q1)), (l2, .inl (cI, 16, .inl q2)), (l3, .inl (cI, 16, .inl q3)), (l4, .inl (cI, 16, .inl q4)), (l5, .inl (cI, 16, .inl q5)), (l6, .inl (cI, 8, .inl q6)), (l7, .inl (cI, 32, .inl sa))] → va_S A s.heap H locs → ∀ (ls : Array Slot), lv_has ls 3 [(0, .ref h0), (1, .int a), (2, .int (nI i))] → W p l e (rm 2 49) s m ([.ref h0, .int a] : List Value).toArray below meth c H locs 0 0 Q (F0 m 2 ls []) := by
    intro n
    induction n with
    | zero =>
      intro i sa hni H locs hP hD hS ls hl
      have hni_2 := hni
      have hi : i = 16 := by omega
      refine lv_iload_n hx hb dX1_anyOf_2 rfl (lv_at hl 2 rfl) ?_
      refine lv_aload_n hx hb dX1_anyOf_3 rfl (lv_at hl 0 rfl) ?_
      refine va_get (D := D) (ci := 1) (v := .int lc) (C := RX1) (T := TX1) (N := 9) hx hb htb itX1 hown hK hP 0 rfl rfl 8 (by decide) (htb _ k_234) (fun _ h9 => h9) rfl dX1_anyOf_4 ?_
      refine lv_icmp_ge (tgt := 53) hx hb dX1_anyOf_7 (by decide) (fun c_7 => ?_) (fun c_7 => ?_)
      · refine lv_iconst (v := 0) hx hb dX1_anyOf_53 (by decide) ?_
        exact ret _ _ _ _ 0 sa dX1_anyOf_54 rfl (Or.inl rfl) (hP.sub [0, 1, 2, 3, 4, 5, 6, 7] rfl) (hD.sub [0, 1, 2, 3, 4, 5, 6, 7] (by decide) rfl) hS
      · refine lv_iload_n hx hb dX1_anyOf_10 rfl (lv_at hl 2 rfl) ?_
        refine lv_bipush (v := 16) hx hb dX1_anyOf_11 (by decide) ?_
        refine lv_icmp_ge (tgt := 53) hx hb dX1_anyOf_13 (by decide) (fun _ => ?_) (fun c_13 => absurd (by rw [hi]; decide) c_13)
        refine lv_iconst (v := 0) hx hb dX1_anyOf_53 (by decide) ?_
        exact ret _ _ _ _ 0 sa dX1_anyOf_54 rfl (Or.inl rfl) (hP.sub [0, 1, 2, 3, 4, 5, 6, 7] rfl) (hD.sub [0, 1, 2, 3, 4, 5, 6, 7] (by decide) rfl) hS
    | succ n ih_2 =>
      intro i sa hni H locs hP hD hS ls hl
      have hni_2 := hni
      have hi : i < 16 := by omega
      refine lv_iload_n hx hb dX1_anyOf_2 rfl (lv_at hl 2 rfl) ?_
      refine lv_aload_n hx hb dX1_anyOf_3 rfl (lv_at hl 0 rfl) ?_
      refine va_get (D := D) (ci := 1) (v := .int lc) (C := RX1) (T := TX1) (N := 9) hx hb htb itX1 hown hK hP 0 rfl rfl 8 (by decide) (htb _ k_234) (fun _ h9 => h9) rfl dX1_anyOf_4 ?_
      refine lv_icmp_ge (tgt := 53) hx hb dX1_anyOf_7 (by decide) (fun c_7 => ?_) (fun c_7 => ?_)
      · refine lv_iconst (v := 0) hx hb dX1_anyOf_53 (by decide) ?_
        exact ret _ _ _ _ 0 sa dX1_anyOf_54 rfl (Or.inl rfl) (hP.sub [0, 1, 2, 3, 4, 5, 6, 7] rfl) (hD.sub [0, 1, 2, 3, 4, 5, 6, 7] (by decide) rfl) hS
      · refine lv_iload_n hx hb dX1_anyOf_10 rfl (lv_at hl 2 rfl) ?_
        refine lv_bipush (v := 16) hx hb dX1_anyOf_11 (by decide) ?_
        refine lv_icmp_ge (tgt := 53) hx hb dX1_anyOf_13 (by decide) (fun c_13 => absurd c_13 (nI_ge hi (by decide))) (fun _ => ?_)
        refine lv_aload_n hx hb dX1_anyOf_16 rfl (lv_at hl 0 rfl) ?_
        refine va_get (D := D) (ci := 1) (v := .ref l2) (C := RX1) (T := TX1) (N := 9) hx hb htb itX1 hown hK hP 0 rfl rfl 1 (by decide) (htb _ k_225) (fun _ h9 => h9) rfl dX1_anyOf_17 ?_
        refine lv_iload_n hx hb dX1_anyOf_20 rfl (lv_at hl 2 rfl) ?_
        refine va_iald hx hb hK hP 2 0 rfl rfl (by have a0 := mt Int32.le_iff_toInt_le.mpr c_7; have a1 := nI_toInt (n := i) (by omega); exact vp_in_nI (by omega) (by decide)) dX1_anyOf_21 ?_
        refine lv_iload_n hx hb dX1_anyOf_22 rfl (lv_at hl 1 rfl) ?_
        refine lv_icmp_ne (tgt := 47) hx hb dX1_anyOf_23 (by decide) (fun c_23 => ?_) (fun c_23 => ?_)
        · refine lv_iinc (v := (nI (i + 1))) (lv' := [(2, .int (nI (i + 1))), (0, .ref h0), (1, .int a)]) hx hb dX1_anyOf_47 hl (k := 2) rfl (nI_1 i) (by decide) rfl (fun ls hl => ?_)
          refine lv_goto (tgt := 2) hx hb dX1_anyOf_50 (by decide) ?_
          exact ih_2 (i + 1) sa (by omega) _ _ (hP.sub [0, 1, 2, 3, 4, 5, 6, 7] rfl) (hD.sub [0, 1, 2, 3, 4, 5, 6, 7] (by decide) rfl) hS _ (lv_sub hl [1, 2, 0] rfl)
        · refine lv_aload_n hx hb dX1_anyOf_26 rfl (lv_at hl 0 rfl) ?_
          refine lv_aload_n hx hb dX1_anyOf_27 rfl (lv_at hl 0 rfl) ?_
          refine va_get (D := D) (ci := 1) (v := .ref l4) (C := RX1) (T := TX1) (N := 9) hx hb htb itX1 hown hK hP 0 rfl rfl 3 (by decide) (htb _ k_227) (fun _ h9 => h9) rfl dX1_anyOf_28 ?_
          refine lv_iload_n hx hb dX1_anyOf_31 rfl (lv_at hl 2 rfl) ?_
          refine va_iald hx hb hK hP 4 0 rfl rfl (by have a0 := mt Int32.le_iff_toInt_le.mpr c_7; have a1 := congrArg Int32.toInt c_23; have a2 := nI_toInt (n := i) (by omega); exact vp_in_nI (by omega) (by decide)) dX1_anyOf_32 ?_
          refine lv_aload_n hx hb dX1_anyOf_33 rfl (lv_at hl 0 rfl) ?_
          refine va_get (D := D) (ci := 1) (v := .ref l5) (C := RX1) (T := TX1) (N := 9) hx hb htb itX1 hown hK hP 0 rfl rfl 4 (by decide) (htb _ k_228) (fun _ h9 => h9) rfl dX1_anyOf_34 ?_
          refine lv_iload_n hx hb dX1_anyOf_37 rfl (lv_at hl 2 rfl) ?_
          refine va_iald hx hb hK hP 5 0 rfl rfl (by have a0 := mt Int32.le_iff_toInt_le.mpr c_7; have a1 := congrArg Int32.toInt c_23; have a2 := nI_toInt (n := i) (by omega); exact vp_in_nI (by omega) (by decide)) dX1_anyOf_38 ?_
          refine cVI (As := [.int (q4 (Int32.toNatClampNeg (nI i))), .int (q5 (Int32.toNatClampNeg (nI i)))]) (rest := []) (n := 2) (ci := 1) (q0 := 0) (wr := [(l2, .inl (cI, 16, .inl q2)), (l3, .inl (cI, 16, .inl q3)), (l4, .inl (cI, 16, .inl q4)), (l5, .inl (cI, 16, .inl q5))]) X hN hK hP hD hS hA (c_X1_reckon l D cI cB _ h0 l1 l2 l3 l4 l5 l6 l7 lz lc (q4 (Int32.toNatClampNeg (nI i))) (q5 (Int32.toNatClampNeg (nI i))) q1 q6 sa) (gV k_819 k_821 k_17 k_97 k_822) (by decide +kernel) ⟨Nat.le_of_ble_eq_true rfl, Nat.le_of_ble_eq_true rfl⟩ ⟨rfl, rfl⟩ [0, 1, 6, 7] [2, 3, 4, 5] rfl rfl (by decide) (by decide) rfl rfl rfl rfl rfl hl.1 (Nat.le_of_ble_eq_true rfl) dX1_anyOf_39 ⟨Nat.le_of_ble_eq_true rfl, Nat.le_of_ble_eq_true rfl⟩ (fun r_1 u H locs hw_3 hP hD hS => ?_)
          obtain ⟨l7_fo_2, rfl⟩ : ∃ z, z = u := ⟨_, rfl⟩
          try dsimp only at hw_3
          have hP : va_P D vwCl [(l2, .inl (cI, 16, .inl q2)), (l3, .inl (cI, 16, .inl q3)), (l4, .inl (cI, 16, .inl q4)), (l5, .inl (cI, 16, .inl q5)), (h0, .inr (1, [.ref l1, .ref l2, .ref l3, .ref l4, .ref l5, .ref l6, .ref l7, .int lz, .int lc])), (l1, .inl (cI, 240, .inl q1)), (l6, .inl (cI, 8, .inl q6)), (l7, .inl (cI, 32, .inl l7_fo_2))] H := hP
          have hD : va_D A [(l2, .inl (cI, 16, .inl q2)), (l3, .inl (cI, 16, .inl q3)), (l4, .inl (cI, 16, .inl q4)), (l5, .inl (cI, 16, .inl q5)), (h0, .inr (1, [.ref l1, .ref l2, .ref l3, .ref l4, .ref l5, .ref l6, .ref l7, .int lz, .int lc])), (l1, .inl (cI, 240, .inl q1)), (l6, .inl (cI, 8, .inl q6)), (l7, .inl (cI, 32, .inl l7_fo_2))] := hD
          refine lv_if_eq (tgt := 47) hx hb dX1_anyOf_42 (by decide) (fun c_42 => ?_) (fun c_42 => ?_)
          · refine lv_iinc (v := (nI (i + 1))) (lv' := [(2, .int (nI (i + 1))), (0, .ref h0), (1, .int a)]) hx hb dX1_anyOf_47 hl (k := 2) rfl (nI_1 i) (by decide) rfl (fun ls hl => ?_)
            refine lv_goto (tgt := 2) hx hb dX1_anyOf_50 (by decide) ?_
            exact ih_2 (i + 1) l7_fo_2 (by omega) _ _ (hP.sub [4, 5, 0, 1, 2, 3, 6, 7] rfl) (hD.sub [4, 5, 0, 1, 2, 3, 6, 7] (by decide) rfl) hS _ (lv_sub hl [1, 2, 0] rfl)
          · refine lv_iconst (v := 1) hx hb dX1_anyOf_45 (by decide) ?_
            exact ret _ _ _ _ 1 l7_fo_2 dX1_anyOf_46 rfl (Or.inr rfl) (hP.sub [4, 5, 0, 1, 2, 3, 6, 7] rfl) (hD.sub [4, 5, 0, 1, 2, 3, 6, 7] (by decide) rfl) hS
  exact loop_2 16 0 q7 (by omega) _ _ (hP.sub [0, 1, 2, 3, 4, 5, 6, 7] rfl) (hD.sub [0, 1, 2, 3, 4, 5, 6, 7] (by decide) rfl) hS _ (lv_sub hl [1, 2, 0] rfl)
