set_option maxRecDepth 100000 in
set_option maxHeartbeats 4000000 in
theorem c_X10_gcd (l : Launch) (D : va_G) (cI cB : ClassId) (a : Int32) (b : Int32)  : MR l D cI cB yX10_gcd cX10_gcd 5 .int (rm 0 0) [.int a, .int b] [] (fun r : Int32 => True) := by
  refine MR.of (by decide) (Nat.le_of_ble_eq_true rfl) ?_
  intro p e s m below meth c Q ls X hN hP hK hl ret
  obtain ⟨hx, hb, hml, hown, htb⟩ := id X
  have hl : lv_has ls 5 [(0, .int a), (1, .int b)] := hl
  refine lv_iload_n hx hb dX10_gcd_0 rfl (lv_at hl 0 rfl) ?_
  refine lv_if_ge (tgt := 9) hx hb dX10_gcd_1 (by decide) (fun c_1 => ?_) (fun c_1 => ?_)
  · refine lv_iload_n hx hb dX10_gcd_9 rfl (lv_at hl 0 rfl) ?_
    refine lv_istore_n (lv' := [(2, .int a), (0, .int a), (1, .int b)]) hx hb dX10_gcd_10 rfl hl (by decide) rfl (fun ls hl => ?_)
    refine lv_iload_n hx hb dX10_gcd_11 rfl (lv_at hl 2 rfl) ?_
    refine lv_istore_n (lv' := [(3, .int b), (2, .int a), (0, .int a), (1, .int b)]) hx hb dX10_gcd_12 rfl hl (by decide) rfl (fun ls hl => ?_)
    have loop_13 : ∀ (n i : Nat) (xa : Int32) (ya : Int32), n + i = b.toInt.natAbs → (ya.toInt.natAbs + i ≤ b.toInt.natAbs) → ∀ (ls : Array Slot), lv_has ls 5 [(2, .int xa), (3, .int ya)] → W p l e (rm 0 0) s m ([.int a, .int b] : List Value).toArray below meth c s.heap [] 0 0 Q (F0 m 13 ls []) := by
      intro n
      induction n with
      | zero =>
        intro i xa ya hni hm ls hl
        have hni_13 := hni
        have hi : i = b.toInt.natAbs := by omega
        refine lv_iload_n hx hb dX10_gcd_13 rfl (lv_at hl 1 rfl) ?_
        refine lv_if_eq (tgt := 30) hx hb dX10_gcd_14 (by decide) (fun _ => ?_) (fun c_14 => absurd (z0 (by omega)) c_14)
        refine lv_iload_n hx hb dX10_gcd_30 rfl (lv_at hl 0 rfl) ?_
        exact ret _ _ xa dX10_gcd_31 rfl trivial
      | succ n ih_13 =>
        intro i xa ya hni hm ls hl
        have hni_13 := hni
        have hi : i < b.toInt.natAbs := by omega
        refine lv_iload_n hx hb dX10_gcd_13 rfl (lv_at hl 1 rfl) ?_
        refine lv_if_eq (tgt := 30) hx hb dX10_gcd_14 (by decide) (fun c_14 => ?_) (fun c_14 => ?_)
        · refine lv_iload_n hx hb dX10_gcd_30 rfl (lv_at hl 0 rfl) ?_
          exact ret _ _ xa dX10_gcd_31 rfl trivial
        · refine lv_iload_n hx hb dX10_gcd_17 rfl (lv_at hl 0 rfl) ?_
          refine lv_iload_n hx hb dX10_gcd_18 rfl (lv_at hl 1 rfl) ?_
          refine lv_irem hx hb dX10_gcd_19 c_14 ?_
          refine lv_topi (fun x_1 ex_1 => ?_)
          refine lv_istore (lv' := [(4, .int x_1), (2, .int xa), (3, .int ya)]) hx hb dX10_gcd_20 hl (by decide) rfl (fun ls hl => ?_)
          refine lv_iload_n hx hb dX10_gcd_22 rfl (lv_at hl 2 rfl) ?_
          refine lv_istore_n (lv' := [(2, .int ya), (4, .int x_1), (3, .int ya)]) hx hb dX10_gcd_23 rfl hl (by decide) rfl (fun ls hl => ?_)
          refine lv_iload hx hb dX10_gcd_24 (lv_at hl 1 rfl) ?_
          refine lv_istore_n (lv' := [(3, .int x_1), (2, .int ya), (4, .int x_1)]) hx hb dX10_gcd_26 rfl hl (by decide) rfl (fun ls hl => ?_)
          refine lv_goto (tgt := 13) hx hb dX10_gcd_27 (by decide) ?_
          exact ih_13 (i + 1) ya x_1 (by omega) (by have q1 := remA (x := xa) c_14; rw [← ex_1] at q1; omega) _ (lv_sub hl [1, 0] rfl)
    exact loop_13 b.toInt.natAbs 0 a b (by omega) (by omega) _ (lv_sub hl [1, 0] rfl)
  · refine lv_iload_n hx hb dX10_gcd_4 rfl (lv_at hl 0 rfl) ?_
    refine lv_ineg hx hb dX10_gcd_5 ?_
    refine lv_goto (tgt := 10) hx hb dX10_gcd_6 (by decide) ?_
    refine lv_topi (fun x_2 ex_2 => ?_)
    refine lv_istore_n (lv' := [(2, .int x_2), (0, .int a), (1, .int b)]) hx hb dX10_gcd_10 rfl hl (by decide) rfl (fun ls hl => ?_)
    refine lv_iload_n hx hb dX10_gcd_11 rfl (lv_at hl 2 rfl) ?_
    refine lv_istore_n (lv' := [(3, .int b), (2, .int x_2), (0, .int a), (1, .int b)]) hx hb dX10_gcd_12 rfl hl (by decide) rfl (fun ls hl => ?_)
    have loop_13 : ∀ (n i : Nat) (xa : Int32) (ya : Int32), n + i = b.toInt.natAbs → (ya.toInt.natAbs + i ≤ b.toInt.natAbs) → ∀ (ls : Array Slot), lv_has ls 5 [(2, .int xa), (3, .int ya)] → W p l e (rm 0 0) s m ([.int a, .int b] : List Value).toArray below meth c s.heap [] 0 0 Q (F0 m 13 ls []) := by
      intro n
      induction n with
      | zero =>
        intro i xa ya hni hm ls hl
        have hni_13 := hni
        have hi : i = b.toInt.natAbs := by omega
        refine lv_iload_n hx hb dX10_gcd_13 rfl (lv_at hl 1 rfl) ?_
        refine lv_if_eq (tgt := 30) hx hb dX10_gcd_14 (by decide) (fun _ => ?_) (fun c_14 => absurd (z0 (by omega)) c_14)
        refine lv_iload_n hx hb dX10_gcd_30 rfl (lv_at hl 0 rfl) ?_
        exact ret _ _ xa dX10_gcd_31 rfl trivial
      | succ n ih_13 =>
        intro i xa ya hni hm ls hl
        have hni_13 := hni
        have hi : i < b.toInt.natAbs := by omega
        refine lv_iload_n hx hb dX10_gcd_13 rfl (lv_at hl 1 rfl) ?_
        refine lv_if_eq (tgt := 30) hx hb dX10_gcd_14 (by decide) (fun c_14 => ?_) (fun c_14 => ?_)
        · refine lv_iload_n hx hb dX10_gcd_30 rfl (lv_at hl 0 rfl) ?_
          exact ret _ _ xa dX10_gcd_31 rfl trivial
        · refine lv_iload_n hx hb dX10_gcd_17 rfl (lv_at hl 0 rfl) ?_
          refine lv_iload_n hx hb dX10_gcd_18 rfl (lv_at hl 1 rfl) ?_
          refine lv_irem hx hb dX10_gcd_19 c_14 ?_
          refine lv_topi (fun x_3 ex_3 => ?_)
          refine lv_istore (lv' := [(4, .int x_3), (2, .int xa), (3, .int ya)]) hx hb dX10_gcd_20 hl (by decide) rfl (fun ls hl => ?_)
          refine lv_iload_n hx hb dX10_gcd_22 rfl (lv_at hl 2 rfl) ?_
          refine lv_istore_n (lv' := [(2, .int ya), (4, .int x_3), (3, .int ya)]) hx hb dX10_gcd_23 rfl hl (by decide) rfl (fun ls hl => ?_)
          refine lv_iload hx hb dX10_gcd_24 (lv_at hl 1 rfl) ?_
          refine lv_istore_n (lv' := [(3, .int x_3), (2, .int ya), (4, .int x_3)]) hx hb dX10_gcd_26 rfl hl (by decide) rfl (fun ls hl => ?_)
          refine lv_goto (tgt := 13) hx hb dX10_gcd_27 (by decide) ?_
          exact ih_13 (i + 1) ya x_3 (by omega) (by have q1 := remA (x := xa) c_14; rw [← ex_3] at q1; omega) _ (lv_sub hl [1, 0] rfl)
    exact loop_13 b.toInt.natAbs 0 x_2 b (by omega) (by omega) _ (lv_sub hl [1, 0] rfl)
