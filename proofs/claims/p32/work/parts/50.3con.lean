set_option maxRecDepth 100000 in
set_option maxHeartbeats 4000000 in
theorem c_ordersN (l : Launch) (D : va_G) (cI cB : ClassId) (x : Int32) (hx5 : x.toInt ≤ 5) : MR l D cI cB yX10_orders cX10_orders 3 .int (rm 0 0) [.int x] [] (fun r : Int32 => ¬ r = 0) := by
  refine MR.of (by decide) (Nat.le_of_ble_eq_true rfl) ?_
  intro p e s m below meth c Q ls X hN hP hK hl ret
  obtain ⟨hx, hb, hml, hown, htb⟩ := id X
  have hl : lv_has ls 3 [(0, .int x)] := hl
  refine lv_iconst (v := 1) hx hb dX10_orders_0 (by decide) ?_
  refine lv_istore_n (lv' := [(1, .int 1), (0, .int x)]) hx hb dX10_orders_1 rfl hl (by decide) rfl (fun ls hl => ?_)
  refine lv_iconst (v := 2) hx hb dX10_orders_2 (by decide) ?_
  refine lv_istore_n (lv' := [(2, .int 2), (1, .int 1), (0, .int x)]) hx hb dX10_orders_3 rfl hl (by decide) rfl (fun ls hl => ?_)
  have loop_4 : ∀ (n i : Nat) (v : Int32), x.toNatClampNeg + 1 ≤ n + i → (i < 2147483648) → ((i = 2 ∧ v.toInt = 1) ∨ (i = 3 ∧ v.toInt = 2) ∨ (i = 4 ∧ v.toInt = 6) ∨ (i = 5 ∧ v.toInt = 24) ∨ (i = 6 ∧ v.toInt = 120)) → ∀ (ls : Array Slot), lv_has ls 3 [(0, .int x), (1, .int v), (2, .int (nI i))] → W p l e (rm 0 0) s m ([.int x] : List Value).toArray below meth c s.heap [] 0 0 Q (F0 m 4 ls []) := by
    intro n
    induction n with
    | zero =>
      intro i v hni hib hv ls hl
      have hni_4 := hni
      have hi : x.toNatClampNeg + 1 ≤ i := by omega
      refine lv_iload_n hx hb dX10_orders_4 rfl (lv_at hl 2 rfl) ?_
      refine lv_iload_n hx hb dX10_orders_5 rfl (lv_at hl 0 rfl) ?_
      refine lv_icmp_gt (tgt := 19) hx hb dX10_orders_6 (by decide) (fun _ => ?_) (fun c_6 => absurd (gtN hi hib) c_6)
      refine lv_iload_n hx hb dX10_orders_19 rfl (lv_at hl 1 rfl) ?_
      exact ret _ _ v dX10_orders_20 rfl (ordP hv)
    | succ n ih_4 =>
      intro i v hni hib hv ls hl
      have hni_4 := hni
      refine lv_iload_n hx hb dX10_orders_4 rfl (lv_at hl 2 rfl) ?_
      refine lv_iload_n hx hb dX10_orders_5 rfl (lv_at hl 0 rfl) ?_
      refine lv_icmp_gt (tgt := 19) hx hb dX10_orders_6 (by decide) (fun c_6 => ?_) (fun c_6 => ?_)
      · refine lv_iload_n hx hb dX10_orders_19 rfl (lv_at hl 1 rfl) ?_
        exact ret _ _ v dX10_orders_20 rfl (ordP hv)
      · refine lv_iload_n hx hb dX10_orders_9 rfl (lv_at hl 1 rfl) ?_
        refine lv_iload_n hx hb dX10_orders_10 rfl (lv_at hl 2 rfl) ?_
        refine lv_imul hx hb dX10_orders_11 ?_
        refine lv_topi (fun x_1 ex_1 => ?_)
        refine lv_istore_n (lv' := [(1, .int x_1), (0, .int x), (2, .int (nI i))]) hx hb dX10_orders_12 rfl hl (by decide) rfl (fun ls hl => ?_)
        refine lv_iinc (v := (nI (i + 1))) (lv' := [(2, .int (nI (i + 1))), (1, .int x_1), (0, .int x)]) hx hb dX10_orders_13 hl (k := 2) rfl (nI_1 i) (by decide) rfl (fun ls hl => ?_)
        refine lv_goto (tgt := 4) hx hb dX10_orders_16 (by decide) ?_
        exact ih_4 (i + 1) x_1 (by omega) (by have a0 := mt Int32.lt_iff_toInt_lt.mpr c_6; have a1 := nI_toInt (n := i) (by omega); omega) (by rw [ex_1]; exact ordN hv (by have a0 := mt Int32.lt_iff_toInt_lt.mpr c_6; have a1 := nI_toInt (n := i) (by omega); omega)) _ (lv_sub hl [2, 1, 0] rfl)
  exact loop_4 (x.toNatClampNeg + 1) 2 1 (by omega) (by decide) (Or.inl ⟨rfl, by decide⟩) _ (lv_sub hl [2, 1, 0] rfl)

set_option maxRecDepth 100000 in
set_option maxHeartbeats 4000000 in
theorem c_gcdN (l : Launch) (D : va_G) (cI cB : ClassId) (a : Int32) (b : Int32) (hb0 : ¬ b = 0) : MR l D cI cB yX10_gcd cX10_gcd 5 .int (rm 0 0) [.int a, .int b] [] (fun r : Int32 => ¬ r = 0) := by
  refine MR.of (by decide) (Nat.le_of_ble_eq_true rfl) ?_
  intro p e s m below meth c Q ls X hN hP hK hl ret
  obtain ⟨hx, hb, hml, hown, htb⟩ := id X
  have hl : lv_has ls 5 [(0, .int a), (1, .int b)] := hl
  refine lv_iload_n hx hb dX10_gcd_0 rfl (lv_at hl 0 rfl) ?_
  refine lv_if_ge (tgt := 9) hx hb dX10_gcd_1 (by decide) (fun c_1 => ?_) (fun c_1 => ?_)
  · refine lv_iload_n hx hb dX10_gcd_9 rfl (lv_at hl 0 rfl) ?_
    refine lv_istore_n (lv' := [(2, .int a), (0, .int a), (1, .int b)]) hx hb dX10_gcd_10 rfl hl (by decide) rfl (fun ls hl => ?_)
    refine lv_iload_n hx hb dX10_gcd_11 rfl (lv_at hl 2 rfl) ?_
    refine lv_istore_n (lv' := [(3, .int b), (2, .int a), (0, .int a), (1, .int b)]) hx hb dX10_gcd_12 rfl hl (by decide) rfl (fun ls hl => ?_)
    have loop_13 : ∀ (n i : Nat) (xa : Int32) (ya : Int32), n + i = b.toInt.natAbs → (ya.toInt.natAbs + i ≤ b.toInt.natAbs) → (¬ ya = 0 ∨ ¬ xa = 0) → ∀ (ls : Array Slot), lv_has ls 5 [(2, .int xa), (3, .int ya)] → W p l e (rm 0 0) s m ([.int a, .int b] : List Value).toArray below meth c s.heap [] 0 0 Q (F0 m 13 ls []) := by
      intro n
      induction n with
      | zero =>
        intro i xa ya hni hm hz ls hl
        have hni_13 := hni
        have hi : i = b.toInt.natAbs := by omega
        refine lv_iload_n hx hb dX10_gcd_13 rfl (lv_at hl 1 rfl) ?_
        refine lv_if_eq (tgt := 30) hx hb dX10_gcd_14 (by decide) (fun _ => ?_) (fun c_14 => absurd (z0 (by omega)) c_14)
        refine lv_iload_n hx hb dX10_gcd_30 rfl (lv_at hl 0 rfl) ?_
        exact ret _ _ xa dX10_gcd_31 rfl (hz.resolve_left (fun q => q (z0 (by omega))))
      | succ n ih_13 =>
        intro i xa ya hni hm hz ls hl
        have hni_13 := hni
        have hi : i < b.toInt.natAbs := by omega
        refine lv_iload_n hx hb dX10_gcd_13 rfl (lv_at hl 1 rfl) ?_
        refine lv_if_eq (tgt := 30) hx hb dX10_gcd_14 (by decide) (fun c_14 => ?_) (fun c_14 => ?_)
        · refine lv_iload_n hx hb dX10_gcd_30 rfl (lv_at hl 0 rfl) ?_
          exact ret _ _ xa dX10_gcd_31 rfl (hz.resolve_left (fun q => q c_14))
        · refine lv_iload_n hx hb dX10_gcd_17 rfl (lv_at hl 0 rfl) ?_
          refine lv_iload_n hx hb dX10_gcd_18 rfl (lv_at hl 1 rfl) ?_
          refine lv_irem hx hb dX10_gcd_19 c_14 ?_
          refine lv_topi (fun x_1 ex_1 => ?_)
          refine lv_istore (lv' := [(4, .int x_1), (2, .int xa), (3, .int ya)]) hx hb dX10_gcd_20 hl (by decide) rfl (fun ls hl => ?_)
          refine lv_iload_n hx hb dX10_gcd_22 rfl (lv_at hl 2 rfl) ?_
          refine lv_istore_n (lv' := [(2, .int ya), (4, .int x_1), (3, .int ya)]) hx hb dX10_gcd_23 rfl hl (by decide) rfl (fun ls hl => ?_)
          refine lv_iload hx hb dX10_gcd_24 (lv_at hl 1 rfl) ?_
          refine lv_istore_n (lv' := [(3, .int x_1), (2, .int ya), (4, .int x_1)]) hx hb dX10_gcd_26 rfl hl (by decide) rfl (fun ls hl => ?_)
          refine lv_goto (tgt := 13) hx hb dX10_gcd_27 (by decide) ?_
          exact ih_13 (i + 1) ya x_1 (by omega) (by have q1 := remA (x := xa) c_14; rw [← ex_1] at q1; omega) (Or.inr c_14) _ (lv_sub hl [1, 0] rfl)
    exact loop_13 b.toInt.natAbs 0 a b (by omega) (by omega) (Or.inl hb0) _ (lv_sub hl [1, 0] rfl)
  · refine lv_iload_n hx hb dX10_gcd_4 rfl (lv_at hl 0 rfl) ?_
    refine lv_ineg hx hb dX10_gcd_5 ?_
    refine lv_goto (tgt := 10) hx hb dX10_gcd_6 (by decide) ?_
    refine lv_topi (fun x_2 ex_2 => ?_)
    refine lv_istore_n (lv' := [(2, .int x_2), (0, .int a), (1, .int b)]) hx hb dX10_gcd_10 rfl hl (by decide) rfl (fun ls hl => ?_)
    refine lv_iload_n hx hb dX10_gcd_11 rfl (lv_at hl 2 rfl) ?_
    refine lv_istore_n (lv' := [(3, .int b), (2, .int x_2), (0, .int a), (1, .int b)]) hx hb dX10_gcd_12 rfl hl (by decide) rfl (fun ls hl => ?_)
    have loop_13 : ∀ (n i : Nat) (xa : Int32) (ya : Int32), n + i = b.toInt.natAbs → (ya.toInt.natAbs + i ≤ b.toInt.natAbs) → (¬ ya = 0 ∨ ¬ xa = 0) → ∀ (ls : Array Slot), lv_has ls 5 [(2, .int xa), (3, .int ya)] → W p l e (rm 0 0) s m ([.int a, .int b] : List Value).toArray below meth c s.heap [] 0 0 Q (F0 m 13 ls []) := by
      intro n
      induction n with
      | zero =>
        intro i xa ya hni hm hz ls hl
        have hni_13 := hni
        have hi : i = b.toInt.natAbs := by omega
        refine lv_iload_n hx hb dX10_gcd_13 rfl (lv_at hl 1 rfl) ?_
        refine lv_if_eq (tgt := 30) hx hb dX10_gcd_14 (by decide) (fun _ => ?_) (fun c_14 => absurd (z0 (by omega)) c_14)
        refine lv_iload_n hx hb dX10_gcd_30 rfl (lv_at hl 0 rfl) ?_
        exact ret _ _ xa dX10_gcd_31 rfl (hz.resolve_left (fun q => q (z0 (by omega))))
      | succ n ih_13 =>
        intro i xa ya hni hm hz ls hl
        have hni_13 := hni
        have hi : i < b.toInt.natAbs := by omega
        refine lv_iload_n hx hb dX10_gcd_13 rfl (lv_at hl 1 rfl) ?_
        refine lv_if_eq (tgt := 30) hx hb dX10_gcd_14 (by decide) (fun c_14 => ?_) (fun c_14 => ?_)
        · refine lv_iload_n hx hb dX10_gcd_30 rfl (lv_at hl 0 rfl) ?_
          exact ret _ _ xa dX10_gcd_31 rfl (hz.resolve_left (fun q => q c_14))
        · refine lv_iload_n hx hb dX10_gcd_17 rfl (lv_at hl 0 rfl) ?_
          refine lv_iload_n hx hb dX10_gcd_18 rfl (lv_at hl 1 rfl) ?_
          refine lv_irem hx hb dX10_gcd_19 c_14 ?_
          refine lv_topi (fun x_3 ex_3 => ?_)
          refine lv_istore (lv' := [(4, .int x_3), (2, .int xa), (3, .int ya)]) hx hb dX10_gcd_20 hl (by decide) rfl (fun ls hl => ?_)
          refine lv_iload_n hx hb dX10_gcd_22 rfl (lv_at hl 2 rfl) ?_
          refine lv_istore_n (lv' := [(2, .int ya), (4, .int x_3), (3, .int ya)]) hx hb dX10_gcd_23 rfl hl (by decide) rfl (fun ls hl => ?_)
          refine lv_iload hx hb dX10_gcd_24 (lv_at hl 1 rfl) ?_
          refine lv_istore_n (lv' := [(3, .int x_3), (2, .int ya), (4, .int x_3)]) hx hb dX10_gcd_26 rfl hl (by decide) rfl (fun ls hl => ?_)
          refine lv_goto (tgt := 13) hx hb dX10_gcd_27 (by decide) ?_
          exact ih_13 (i + 1) ya x_3 (by omega) (by have q1 := remA (x := xa) c_14; rw [← ex_3] at q1; omega) (Or.inr c_14) _ (lv_sub hl [1, 0] rfl)
    exact loop_13 b.toInt.natAbs 0 x_2 b (by omega) (by omega) (Or.inl hb0) _ (lv_sub hl [1, 0] rfl)
