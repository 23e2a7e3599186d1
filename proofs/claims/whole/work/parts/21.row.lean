theorem dX7_isMissing_0 : decode cX7_isMissing 0 = .ok (.aload_n 0, 1) := by decide +kernel
theorem dX7_isMissing_1 : decode cX7_isMissing 1 = .ok (.getfield 15, 3) := by decide +kernel
theorem dX7_isMissing_4 : decode cX7_isMissing 4 = .ok (.iconst (-1), 1) := by decide +kernel
theorem dX7_isMissing_5 : decode cX7_isMissing 5 = .ok (.if_icmp .ne 7, 3) := by decide +kernel
theorem dX7_isMissing_12 : decode cX7_isMissing 12 = .ok (.iconst 0, 1) := by decide +kernel
theorem dX7_isMissing_13 : decode cX7_isMissing 13 = .ok (.ireturn, 1) := by decide +kernel
theorem dX7_isMissing_8 : decode cX7_isMissing 8 = .ok (.iconst 1, 1) := by decide +kernel
theorem dX7_isMissing_9 : decode cX7_isMissing 9 = .ok (.goto 4, 3) := by decide +kernel
theorem dX7_begin_0 : decode cX7_begin 0 = .ok (.aload_n 0, 1) := by decide +kernel
theorem dX7_begin_1 : decode cX7_begin 1 = .ok (.iload_n 1, 1) := by decide +kernel
theorem dX7_begin_2 : decode cX7_begin 2 = .ok (.putfield 15, 3) := by decide +kernel
theorem dX7_begin_5 : decode cX7_begin 5 = .ok (.aload_n 0, 1) := by decide +kernel
theorem dX7_begin_6 : decode cX7_begin 6 = .ok (.iconst 0, 1) := by decide +kernel
theorem dX7_begin_7 : decode cX7_begin 7 = .ok (.iload_n 2, 1) := by decide +kernel
theorem dX7_begin_8 : decode cX7_begin 8 = .ok (.bipush 40, 2) := by decide +kernel
theorem dX7_begin_10 : decode cX7_begin 10 = .ok (.invokestatic 22, 3) := by decide +kernel
theorem dX7_begin_13 : decode cX7_begin 13 = .ok (.invokestatic 28, 3) := by decide +kernel
theorem dX7_begin_16 : decode cX7_begin 16 = .ok (.putfield 19, 3) := by decide +kernel
theorem dX7_begin_19 : decode cX7_begin 19 = .ok (.iconst 0, 1) := by decide +kernel
theorem dX7_begin_20 : decode cX7_begin 20 = .ok (.istore_n 3, 1) := by decide +kernel
theorem dX7_begin_21 : decode cX7_begin 21 = .ok (.iload_n 3, 1) := by decide +kernel
theorem dX7_begin_22 : decode cX7_begin 22 = .ok (.aload_n 0, 1) := by decide +kernel
theorem dX7_begin_23 : decode cX7_begin 23 = .ok (.getfield 19, 3) := by decide +kernel
theorem dX7_begin_26 : decode cX7_begin 26 = .ok (.if_icmp .ge 16, 3) := by decide +kernel
theorem dX7_begin_42 : decode cX7_begin 42 = .ok (.return_, 1) := by decide +kernel
theorem dX7_begin_29 : decode cX7_begin 29 = .ok (.aload_n 0, 1) := by decide +kernel
theorem dX7_begin_30 : decode cX7_begin 30 = .ok (.getfield 9, 3) := by decide +kernel
theorem dX7_begin_33 : decode cX7_begin 33 = .ok (.iload_n 3, 1) := by decide +kernel
theorem dX7_begin_34 : decode cX7_begin 34 = .ok (.iconst 0, 1) := by decide +kernel
theorem dX7_begin_35 : decode cX7_begin 35 = .ok (.iastore, 1) := by decide +kernel
theorem dX7_begin_36 : decode cX7_begin 36 = .ok (.iinc 3 1, 3) := by decide +kernel
theorem dX7_begin_39 : decode cX7_begin 39 = .ok (.goto (-18), 3) := by decide +kernel
theorem dX7_hasPlaces_0 : decode cX7_hasPlaces 0 = .ok (.iload_n 1, 1) := by decide +kernel
theorem dX7_hasPlaces_1 : decode cX7_hasPlaces 1 = .ok (.ifCond .lt 21, 3) := by decide +kernel
theorem dX7_hasPlaces_22 : decode cX7_hasPlaces 22 = .ok (.iconst 0, 1) := by decide +kernel
theorem dX7_hasPlaces_23 : decode cX7_hasPlaces 23 = .ok (.ireturn, 1) := by decide +kernel
theorem dX7_hasPlaces_4 : decode cX7_hasPlaces 4 = .ok (.iload_n 2, 1) := by decide +kernel
theorem dX7_hasPlaces_5 : decode cX7_hasPlaces 5 = .ok (.ifCond .lt 17, 3) := by decide +kernel
theorem dX7_hasPlaces_8 : decode cX7_hasPlaces 8 = .ok (.iload_n 1, 1) := by decide +kernel
theorem dX7_hasPlaces_9 : decode cX7_hasPlaces 9 = .ok (.aload_n 0, 1) := by decide +kernel
theorem dX7_hasPlaces_10 : decode cX7_hasPlaces 10 = .ok (.getfield 19, 3) := by decide +kernel
theorem dX7_hasPlaces_13 : decode cX7_hasPlaces 13 = .ok (.iload_n 2, 1) := by decide +kernel
theorem dX7_hasPlaces_14 : decode cX7_hasPlaces 14 = .ok (.isub, 1) := by decide +kernel
theorem dX7_hasPlaces_15 : decode cX7_hasPlaces 15 = .ok (.if_icmp .gt 7, 3) := by decide +kernel
theorem dX7_hasPlaces_18 : decode cX7_hasPlaces 18 = .ok (.iconst 1, 1) := by decide +kernel
theorem dX7_hasPlaces_19 : decode cX7_hasPlaces 19 = .ok (.goto 4, 3) := by decide +kernel
theorem dX7_keep_0 : decode cX7_keep 0 = .ok (.aload_n 0, 1) := by decide +kernel
theorem dX7_keep_1 : decode cX7_keep 1 = .ok (.getfield 9, 3) := by decide +kernel
theorem dX7_keep_4 : decode cX7_keep 4 = .ok (.iload_n 1, 1) := by decide +kernel
theorem dX7_keep_5 : decode cX7_keep 5 = .ok (.aload_n 0, 1) := by decide +kernel
theorem dX7_keep_6 : decode cX7_keep 6 = .ok (.getfield 15, 3) := by decide +kernel
theorem dX7_keep_9 : decode cX7_keep 9 = .ok (.ifCond .ne 8, 3) := by decide +kernel
theorem dX7_keep_17 : decode cX7_keep 17 = .ok (.aload_n 0, 1) := by decide +kernel
theorem dX7_keep_18 : decode cX7_keep 18 = .ok (.getfield 15, 3) := by decide +kernel
theorem dX7_keep_21 : decode cX7_keep 21 = .ok (.iconst 1, 1) := by decide +kernel
theorem dX7_keep_22 : decode cX7_keep 22 = .ok (.if_icmp .ne 8, 3) := by decide +kernel
theorem dX7_keep_30 : decode cX7_keep 30 = .ok (.iload_n 2, 1) := by decide +kernel
theorem dX7_keep_31 : decode cX7_keep 31 = .ok (.iastore, 1) := by decide +kernel
theorem dX7_keep_32 : decode cX7_keep 32 = .ok (.aload_n 0, 1) := by decide +kernel
theorem dX7_keep_33 : decode cX7_keep 33 = .ok (.getfield 9, 3) := by decide +kernel
theorem dX7_keep_36 : decode cX7_keep 36 = .ok (.iload_n 1, 1) := by decide +kernel
theorem dX7_keep_37 : decode cX7_keep 37 = .ok (.iaload, 1) := by decide +kernel
theorem dX7_keep_38 : decode cX7_keep 38 = .ok (.ireturn, 1) := by decide +kernel
theorem dX7_keep_25 : decode cX7_keep 25 = .ok (.iload_n 2, 1) := by decide +kernel
theorem dX7_keep_26 : decode cX7_keep 26 = .ok (.i2s, 1) := by decide +kernel
theorem dX7_keep_27 : decode cX7_keep 27 = .ok (.goto 4, 3) := by decide +kernel
theorem dX7_keep_12 : decode cX7_keep 12 = .ok (.iload_n 2, 1) := by decide +kernel
theorem dX7_keep_13 : decode cX7_keep 13 = .ok (.i2b, 1) := by decide +kernel
theorem dX7_keep_14 : decode cX7_keep 14 = .ok (.goto 17, 3) := by decide +kernel
theorem dX7_hasHeights_0 : decode cX7_hasHeights 0 = .ok (.iconst 0, 1) := by decide +kernel
theorem dX7_hasHeights_1 : decode cX7_hasHeights 1 = .ok (.istore_n 2, 1) := by decide +kernel
theorem dX7_hasHeights_2 : decode cX7_hasHeights 2 = .ok (.iload_n 2, 1) := by decide +kernel
theorem dX7_hasHeights_3 : decode cX7_hasHeights 3 = .ok (.bipush 8, 2) := by decide +kernel
theorem dX7_hasHeights_5 : decode cX7_hasHeights 5 = .ok (.if_icmp .ge 35, 3) := by decide +kernel
theorem dX7_hasHeights_40 : decode cX7_hasHeights 40 = .ok (.iconst 1, 1) := by decide +kernel
theorem dX7_hasHeights_41 : decode cX7_hasHeights 41 = .ok (.ireturn, 1) := by decide +kernel
theorem dX7_hasHeights_8 : decode cX7_hasHeights 8 = .ok (.aload_n 0, 1) := by decide +kernel
theorem dX7_hasHeights_9 : decode cX7_hasHeights 9 = .ok (.getfield 9, 3) := by decide +kernel
theorem dX7_hasHeights_12 : decode cX7_hasHeights 12 = .ok (.iload_n 1, 1) := by decide +kernel
theorem dX7_hasHeights_13 : decode cX7_hasHeights 13 = .ok (.iload_n 2, 1) := by decide +kernel
theorem dX7_hasHeights_14 : decode cX7_hasHeights 14 = .ok (.iadd, 1) := by decide +kernel
theorem dX7_hasHeights_15 : decode cX7_hasHeights 15 = .ok (.iaload, 1) := by decide +kernel
theorem dX7_hasHeights_16 : decode cX7_hasHeights 16 = .ok (.ifCond .lt 16, 3) := by decide +kernel
theorem dX7_hasHeights_32 : decode cX7_hasHeights 32 = .ok (.iconst 0, 1) := by decide +kernel
theorem dX7_hasHeights_33 : decode cX7_hasHeights 33 = .ok (.ireturn, 1) := by decide +kernel
theorem dX7_hasHeights_19 : decode cX7_hasHeights 19 = .ok (.aload_n 0, 1) := by decide +kernel
theorem dX7_hasHeights_20 : decode cX7_hasHeights 20 = .ok (.getfield 9, 3) := by decide +kernel
theorem dX7_hasHeights_23 : decode cX7_hasHeights 23 = .ok (.iload_n 1, 1) := by decide +kernel
theorem dX7_hasHeights_24 : decode cX7_hasHeights 24 = .ok (.iload_n 2, 1) := by decide +kernel
theorem dX7_hasHeights_25 : decode cX7_hasHeights 25 = .ok (.iadd, 1) := by decide +kernel
theorem dX7_hasHeights_26 : decode cX7_hasHeights 26 = .ok (.iaload, 1) := by decide +kernel
theorem dX7_hasHeights_27 : decode cX7_hasHeights 27 = .ok (.bipush 6, 2) := by decide +kernel
theorem dX7_hasHeights_29 : decode cX7_hasHeights 29 = .ok (.if_icmp .le 5, 3) := by decide +kernel
theorem dX7_hasHeights_34 : decode cX7_hasHeights 34 = .ok (.iinc 2 1, 3) := by decide +kernel
theorem dX7_hasHeights_37 : decode cX7_hasHeights 37 = .ok (.goto (-35), 3) := by decide +kernel
theorem dX9_begin_0 : decode cX9_begin 0 = .ok (.aload_n 0, 1) := by decide +kernel
theorem dX9_begin_1 : decode cX9_begin 1 = .ok (.iconst 0, 1) := by decide +kernel
theorem dX9_begin_2 : decode cX9_begin 2 = .ok (.putfield 13, 3) := by decide +kernel
theorem dX9_begin_5 : decode cX9_begin 5 = .ok (.return_, 1) := by decide +kernel
theorem dX9_leave_0 : decode cX9_leave 0 = .ok (.aload_n 0, 1) := by decide +kernel
theorem dX9_leave_1 : decode cX9_leave 1 = .ok (.getfield 13, 3) := by decide +kernel
theorem dX9_leave_4 : decode cX9_leave 4 = .ok (.aload_n 0, 1) := by decide +kernel
theorem dX9_leave_5 : decode cX9_leave 5 = .ok (.getfield 7, 3) := by decide +kernel
theorem dX9_leave_8 : decode cX9_leave 8 = .ok (.arraylength, 1) := by decide +kernel
theorem dX9_leave_9 : decode cX9_leave 9 = .ok (.if_icmp .ge 23, 3) := by decide +kernel
theorem dX9_leave_12 : decode cX9_leave 12 = .ok (.aload_n 0, 1) := by decide +kernel
theorem dX9_leave_13 : decode cX9_leave 13 = .ok (.getfield 7, 3) := by decide +kernel
theorem dX9_leave_16 : decode cX9_leave 16 = .ok (.aload_n 0, 1) := by decide +kernel
theorem dX9_leave_17 : decode cX9_leave 17 = .ok (.getfield 13, 3) := by decide +kernel
theorem dX9_leave_20 : decode cX9_leave 20 = .ok (.iload_n 1, 1) := by decide +kernel
theorem dX9_leave_21 : decode cX9_leave 21 = .ok (.iastore, 1) := by decide +kernel
theorem dX9_leave_22 : decode cX9_leave 22 = .ok (.aload_n 0, 1) := by decide +kernel
theorem dX9_leave_23 : decode cX9_leave 23 = .ok (.dup, 1) := by decide +kernel
theorem dX9_leave_24 : decode cX9_leave 24 = .ok (.getfield 13, 3) := by decide +kernel
theorem dX9_leave_27 : decode cX9_leave 27 = .ok (.iconst 1, 1) := by decide +kernel
theorem dX9_leave_28 : decode cX9_leave 28 = .ok (.iadd, 1) := by decide +kernel
theorem dX9_leave_29 : decode cX9_leave 29 = .ok (.putfield 13, 3) := by decide +kernel
theorem dX9_leave_32 : decode cX9_leave 32 = .ok (.return_, 1) := by decide +kernel
set_option maxRecDepth 100000 in
set_option maxHeartbeats 4000000 in
theorem c_X7_isMissing {E : XE} {B N : Nat} {v : Nat → va_E} {c : Nat} {lane size : Int} {g : Nat → Int} (hc0 : Cel N v c (.inr (6, [.ref (B + (c + 1)), .int (zI lane), .int (zI size)]))) (hq0 : (-2147483648 ≤ lane ∧ lane ≤ 2147483647)) : gM yX7_isMissing wsX7_isMissing ({ frames := 0, cells := 0, slots := 0, locals := 0 }) E B N v [.ref (B + c)] (po0 N (fun ρ v' => ρ = some (.int (zI (bI (lane = -1)))) ∧ v = v')) := by
  refine x_met (nm := "isMissing") (by decide +kernel) rfl (Nat.le_of_ble_eq_true rfl) rfl (fun Γ K KR hnL hnm => ?_)
  show XW Γ N v [(0, .ref (B + c))] 0 0 0 []
  refine x_aload_n (pc := 0) 0 K rfl rfl dX7_isMissing_0 ?_
  refine x_get (pc := 1) (C := RX7) (T := TX7) (n := 3) (ci := 6) (idx := 15) (ref := "BorderBeds$Row") (x := .int (zI lane))  K hc0 rfl (by decide +kernel) 1 (by decide) (by decide +kernel) rfl rfl dX7_isMissing_1 ?_
  refine x_iconst (pc := 4) K dX7_isMissing_4 ?_
  refine x_icmp_ne (pc := 5) (tgt := 12) K (by omega) (by decide) dX7_isMissing_5 (by decide) (fun h_5 => ?_) (fun h_5 => ?_)
  · skip
    refine x_iconst (pc := 12) K dX7_isMissing_12 ?_
    refine x_zret (pc := 13) K KR (by omega) (Nat.le_of_ble_eq_true rfl) (Nat.le_of_ble_eq_true rfl) rfl dX7_isMissing_13 ?_
    exact ⟨rfl, ri (by unfold bI; split <;> omega), rfl⟩
  · skip
    refine x_iconst (pc := 8) K dX7_isMissing_8 ?_
    refine x_goto (pc := 9) (tgt := 13) K dX7_isMissing_9 (by decide) ?_
    refine x_zret (pc := 13) K KR (by omega) (Nat.le_of_ble_eq_true rfl) (Nat.le_of_ble_eq_true rfl) rfl dX7_isMissing_13 ?_
    exact ⟨rfl, ri (by unfold bI; split <;> omega), rfl⟩

set_option maxRecDepth 100000 in
set_option maxHeartbeats 4000000 in
theorem c_X7_begin {E : XE} {B N : Nat} {v : Nat → va_E} {c : Nat} {lane size k n : Int} {g : Nat → Int} (hc0 : Cel N v c (.inr (6, [.ref (B + (c + 1)), .int (zI lane), .int (zI size)]))) (hc1 : Cel N v (c + 1) (iarr E 40 g)) (hq0 : (-2147483648 ≤ k ∧ k ≤ 2147483647)) (hq1 : 0 ≤ n ∧ n ≤ 40) (hq2 : (-2147483648 ≤ size ∧ size ≤ 2147483647)) : gM yX7_begin wsX7_begin ({ frames := 1, cells := 0, slots := 0, locals := 21 }) E B N v [.ref (B + c), .int (zI k), .int (zI n)] (po0 N (fun ρ v' => ∃ (g2 : Nat → Int), (∀ q : Nat, (q : Int) < n → g2 q = 0) ∧ ρ = none ∧ (va_up (va_up v c (.inr (6, [.ref (B + (c + 1)), .int (zI k), .int (zI n)]))) (c + 1) (iarr E 40 g2)) = v')) := by
  refine x_met (nm := "begin") (by decide +kernel) rfl (Nat.le_of_ble_eq_true rfl) rfl (fun Γ K KR hnL hnm => ?_)
  show XW Γ N v [(0, .ref (B + c)), (1, .int (zI k)), (2, .int (zI n))] 0 0 0 []
  refine x_v (cel_pad hc0) ?_
  refine x_v (cel_pad (cel_ne hc1 (by omega))) ?_
  refine x_aload_n (pc := 0) 0 K rfl rfl dX7_begin_0 ?_
  refine x_iload_n (pc := 1) 1 K rfl rfl dX7_begin_1 ?_
  refine x_put (pc := 2) (C := RX7) (T := TX7) (n := 3) (ci := 6) (idx := 15) (ref := "BorderBeds$Row") (ty := .int)  K (cel_ne (cel_self hc0.1) (by omega)) rfl (by decide +kernel) tyX7 tyX7_ok nmX7 1 (by decide) (by decide +kernel) rfl rfl (by decide +kernel) rfl rfl (Nat.le_of_ble_eq_true rfl) dX7_begin_2 ?_
  refine x_v (w := (va_up (va_up v c (.inr (6, [.ref (B + (c + 1)), .int (zI k), .int (zI size)]))) (c + 1) (iarr E 40 g))) (up_at1 (by omega)).symm ?_
  refine x_aload_n (pc := 5) 0 K rfl rfl dX7_begin_5 ?_
  refine x_iconst (pc := 6) K dX7_begin_6 ?_
  refine x_iload_n (pc := 7) 2 K rfl rfl dX7_begin_7 ?_
  refine x_bipush (pc := 8) K (by decide) dX7_begin_8 ?_
  refine x_mmin (pc := 10) (idx := 22) K (by decide +kernel) (by decide +kernel) (by decide +kernel) (by decide +kernel) (Nat.le_of_ble_eq_true rfl) (Nat.le_of_ble_eq_true rfl) (Nat.le_of_ble_eq_true rfl) (Nat.le_of_ble_eq_true rfl) (by omega) (by omega) dX7_begin_10 ?_
  refine x_mmax (pc := 13) (idx := 28) K (by decide +kernel) (by decide +kernel) (by decide +kernel) (by decide +kernel) (Nat.le_of_ble_eq_true rfl) (Nat.le_of_ble_eq_true rfl) (Nat.le_of_ble_eq_true rfl) (Nat.le_of_ble_eq_true rfl) (by omega) (by omega) dX7_begin_13 ?_
  refine x_st (st' := [.int (zI n), .ref (B + c)]) (by rw [show max (0 : Int) (min n 40) = n by omega]) ?_
  refine x_put (pc := 16) (C := RX7) (T := TX7) (n := 3) (ci := 6) (idx := 19) (ref := "BorderBeds$Row") (ty := .int)  K (cel_ne (cel_self hc0.1) (by omega)) rfl (by decide +kernel) tyX7 tyX7_ok nmX7 2 (by decide) (by decide +kernel) rfl rfl (by decide +kernel) rfl rfl (Nat.le_of_ble_eq_true rfl) dX7_begin_16 ?_
  refine x_v (w := (va_up (va_up v c (.inr (6, [.ref (B + (c + 1)), .int (zI k), .int (zI n)]))) (c + 1) (iarr E 40 g))) (up_at1 (by omega)).symm ?_
  refine x_iconst (pc := 19) K dX7_begin_19 ?_
  refine x_istore_n (pc := 20) K (L' := [(3, .int (zI 0)), (0, .ref (B + c)), (1, .int (zI k)), (2, .int (zI n))]) hnL rfl (by decide) rfl dX7_begin_20 ?_
  have LOOP21 : ∀ (n_21 : Nat) (j : Nat) (x : Nat → Int), ((j : Int) ≤ n) → (∀ q : Nat, q < j → x q = 0) → (40 - j) < n_21 → XW Γ N (va_up (va_up v c (.inr (6, [.ref (B + (c + 1)), .int (zI k), .int (zI n)]))) (c + 1) (iarr E 40 x)) [(0, .ref (B + c)), (1, .int (zI k)), (2, .int (zI n)), (3, .int (zI (j : Int)))] 0 0 21 [] := by
    intro n_21
    induction n_21 with
    | zero =>
      intro j x hi21_0 hi21_1 hm_21
      exfalso; omega
    | succ n_21 ih21 =>
      intro j x hi21_0 hi21_1 hm_21
      refine x_iload_n (pc := 21) 3 K rfl rfl dX7_begin_21 ?_
      refine x_aload_n (pc := 22) 0 K rfl rfl dX7_begin_22 ?_
      refine x_get (pc := 23) (C := RX7) (T := TX7) (n := 3) (ci := 6) (idx := 19) (ref := "BorderBeds$Row") (x := .int (zI n))  K (cel_ne (cel_self hc0.1) (by omega)) rfl (by decide +kernel) 2 (by decide) (by decide +kernel) rfl rfl dX7_begin_23 ?_
      refine x_icmp_ge (pc := 26) (tgt := 42) K (by omega) (by omega) dX7_begin_26 (by decide) (fun h_26 => ?_) (fun h_26 => ?_)
      · skip
        refine x_vret (pc := 42) K KR (by omega) (Nat.le_of_ble_eq_true rfl) (Nat.le_of_ble_eq_true rfl) dX7_begin_42 ?_
        exact ⟨rfl, x, fun q h => hi21_1 q (by omega), rfl, rfl⟩
      · skip
        refine x_aload_n (pc := 29) 0 K rfl rfl dX7_begin_29 ?_
        refine x_get (pc := 30) (C := RX7) (T := TX7) (n := 3) (ci := 6) (idx := 9) (ref := "BorderBeds$Row") (x := .ref (B + (c + 1)))  K (cel_ne (cel_self hc0.1) (by omega)) rfl (by decide +kernel) 0 (by decide) (by decide +kernel) rfl rfl dX7_begin_30 ?_
        refine x_iload_n (pc := 33) 3 K rfl rfl dX7_begin_33 ?_
        refine x_iconst (pc := 34) K dX7_begin_34 ?_
        refine x_iast (pc := 35) j K (cel_self hc1.1) rfl (by omega) (by decide) dX7_begin_35 ?_
        refine x_v (w := (va_up (va_up v c (.inr (6, [.ref (B + (c + 1)), .int (zI k), .int (zI n)]))) (c + 1) (iarr E 40 (va_up x j 0)))) (up_at0).symm ?_
        refine x_iinc (pc := 36) (L' := [(3, .int (zI ((j : Int) + 1))), (0, .ref (B + c)), (1, .int (zI k)), (2, .int (zI n))]) 3 K hnL rfl (by decide) rfl dX7_begin_36 ?_
        refine x_goto (pc := 39) (tgt := 21) K dX7_begin_39 (by decide) ?_
        refine x_sub (L' := [(0, .ref (B + c)), (1, .int (zI k)), (2, .int (zI n)), (3, .int (zI ((j : Int) + 1)))]) [1, 2, 3, 0] rfl ?_
        exact ih21 (j + 1) (va_up x j 0) (by omega) (by exact zfill_s hi21_1) (by omega)
  refine x_sub (L' := [(0, .ref (B + c)), (1, .int (zI k)), (2, .int (zI n)), (3, .int (zI 0))]) [1, 2, 3, 0] rfl ?_
  exact LOOP21 (_) 0 g (by omega) (by exact fun q h => absurd h (Nat.not_lt_zero _)) (Nat.lt_succ_self _)

set_option maxRecDepth 100000 in
set_option maxHeartbeats 4000000 in
theorem c_X7_hasPlaces {E : XE} {B N : Nat} {v : Nat → va_E} {c : Nat} {lane size i n : Int} {g : Nat → Int} (hc0 : Cel N v c (.inr (6, [.ref (B + (c + 1)), .int (zI lane), .int (zI size)]))) (hq0 : (-2147483648 ≤ i ∧ i ≤ 2147483647)) (hq1 : (-2147483648 ≤ n ∧ n ≤ 2147483647)) (hq2 : 0 ≤ size ∧ size ≤ 40) : gM yX7_hasPlaces wsX7_hasPlaces ({ frames := 0, cells := 0, slots := 0, locals := 0 }) E B N v [.ref (B + c), .int (zI i), .int (zI n)] (po0 N (fun ρ v' => ρ = some (.int (zI (bI (0 ≤ i ∧ 0 ≤ n ∧ i + n ≤ size)))) ∧ v = v')) := by
  refine x_met (nm := "hasPlaces") (by decide +kernel) rfl (Nat.le_of_ble_eq_true rfl) rfl (fun Γ K KR hnL hnm => ?_)
  show XW Γ N v [(0, .ref (B + c)), (1, .int (zI i)), (2, .int (zI n))] 0 0 0 []
  refine x_iload_n (pc := 0) 1 K rfl rfl dX7_hasPlaces_0 ?_
  refine x_if_lt (pc := 1) (tgt := 22) K (by omega) dX7_hasPlaces_1 (by decide) (fun h_1 => ?_) (fun h_1 => ?_)
  · skip
    refine x_iconst (pc := 22) K dX7_hasPlaces_22 ?_
    refine x_zret (pc := 23) K KR (by omega) (Nat.le_of_ble_eq_true rfl) (Nat.le_of_ble_eq_true rfl) rfl dX7_hasPlaces_23 ?_
    exact ⟨rfl, ri (by unfold bI; split <;> omega), rfl⟩
  · skip
    refine x_iload_n (pc := 4) 2 K rfl rfl dX7_hasPlaces_4 ?_
    refine x_if_lt (pc := 5) (tgt := 22) K (by omega) dX7_hasPlaces_5 (by decide) (fun h_5 => ?_) (fun h_5 => ?_)
    · skip
      refine x_iconst (pc := 22) K dX7_hasPlaces_22 ?_
      refine x_zret (pc := 23) K KR (by omega) (Nat.le_of_ble_eq_true rfl) (Nat.le_of_ble_eq_true rfl) rfl dX7_hasPlaces_23 ?_
      exact ⟨rfl, ri (by unfold bI; split <;> omega), rfl⟩
    · skip
      refine x_iload_n (pc := 8) 1 K rfl rfl dX7_hasPlaces_8 ?_
      refine x_aload_n (pc := 9) 0 K rfl rfl dX7_hasPlaces_9 ?_
      refine x_get (pc := 10) (C := RX7) (T := TX7) (n := 3) (ci := 6) (idx := 19) (ref := "BorderBeds$Row") (x := .int (zI size))  K hc0 rfl (by decide +kernel) 2 (by decide) (by decide +kernel) rfl rfl dX7_hasPlaces_10 ?_
      refine x_iload_n (pc := 13) 2 K rfl rfl dX7_hasPlaces_13 ?_
      refine x_isub (pc := 14) K dX7_hasPlaces_14 ?_
      refine x_icmp_gt (pc := 15) (tgt := 22) K (by omega) (by omega) dX7_hasPlaces_15 (by decide) (fun h_15 => ?_) (fun h_15 => ?_)
      · skip
        refine x_iconst (pc := 22) K dX7_hasPlaces_22 ?_
        refine x_zret (pc := 23) K KR (by omega) (Nat.le_of_ble_eq_true rfl) (Nat.le_of_ble_eq_true rfl) rfl dX7_hasPlaces_23 ?_
        exact ⟨rfl, ri (by unfold bI; split <;> omega), rfl⟩
      · skip
        refine x_iconst (pc := 18) K dX7_hasPlaces_18 ?_
        refine x_goto (pc := 19) (tgt := 23) K dX7_hasPlaces_19 (by decide) ?_
        refine x_zret (pc := 23) K KR (by omega) (Nat.le_of_ble_eq_true rfl) (Nat.le_of_ble_eq_true rfl) rfl dX7_hasPlaces_23 ?_
        exact ⟨rfl, ri (by unfold bI; split <;> omega), rfl⟩

set_option maxRecDepth 100000 in
set_option maxHeartbeats 4000000 in
theorem c_X7_keep {E : XE} {B N : Nat} {v : Nat → va_E} {c i : Nat} {lane size w : Int} {g : Nat → Int} {i_i : Int} (ha_i : i_i = (i : Int)) (hc0 : Cel N v c (.inr (6, [.ref (B + (c + 1)), .int (zI lane), .int (zI size)]))) (hc1 : Cel N v (c + 1) (iarr E 40 g)) (hq0 : i < 40) (hq1 : 0 ≤ lane ∧ lane ≤ 2) (hq2 : (-2147483648 ≤ w ∧ w ≤ 2147483647)) : gM yX7_keep wsX7_keep ({ frames := 0, cells := 0, slots := 0, locals := 0 }) E B N v [.ref (B + c), .int (zI i_i), .int (zI w)] (po0 N (fun ρ v' => ρ = some (.int (zI (narA lane w))) ∧ (va_up v (c + 1) (iarr E 40 (va_up g i (narA lane w)))) = v')) := by
  subst ha_i
  refine x_met (nm := "keep") (by decide +kernel) rfl (Nat.le_of_ble_eq_true rfl) rfl (fun Γ K KR hnL hnm => ?_)
  show XW Γ N v [(0, .ref (B + c)), (1, .int (zI (i : Int))), (2, .int (zI w))] 0 0 0 []
  refine x_v (cel_pad hc1) ?_
  refine x_aload_n (pc := 0) 0 K rfl rfl dX7_keep_0 ?_
  refine x_get (pc := 1) (C := RX7) (T := TX7) (n := 3) (ci := 6) (idx := 9) (ref := "BorderBeds$Row") (x := .ref (B + (c + 1)))  K (cel_ne hc0 (by omega)) rfl (by decide +kernel) 0 (by decide) (by decide +kernel) rfl rfl dX7_keep_1 ?_
  refine x_iload_n (pc := 4) 1 K rfl rfl dX7_keep_4 ?_
  refine x_aload_n (pc := 5) 0 K rfl rfl dX7_keep_5 ?_
  refine x_get (pc := 6) (C := RX7) (T := TX7) (n := 3) (ci := 6) (idx := 15) (ref := "BorderBeds$Row") (x := .int (zI lane))  K (cel_ne hc0 (by omega)) rfl (by decide +kernel) 1 (by decide) (by decide +kernel) rfl rfl dX7_keep_6 ?_
  refine x_if_ne (pc := 9) (tgt := 17) K (by omega) dX7_keep_9 (by decide) (fun h_9 => ?_) (fun h_9 => ?_)
  · skip
    refine x_aload_n (pc := 17) 0 K rfl rfl dX7_keep_17 ?_
    refine x_get (pc := 18) (C := RX7) (T := TX7) (n := 3) (ci := 6) (idx := 15) (ref := "BorderBeds$Row") (x := .int (zI lane))  K (cel_ne hc0 (by omega)) rfl (by decide +kernel) 1 (by decide) (by decide +kernel) rfl rfl dX7_keep_18 ?_
    refine x_iconst (pc := 21) K dX7_keep_21 ?_
    refine x_icmp_ne (pc := 22) (tgt := 30) K (by omega) (by decide) dX7_keep_22 (by decide) (fun h_22 => ?_) (fun h_22 => ?_)
    · skip
      refine x_iload_n (pc := 30) 2 K rfl rfl dX7_keep_30 ?_
      refine x_st (st' := [.int (zI (narA lane w)), .int (zI (i : Int)), .ref (B + (c + 1))]) (by unfold narA; first | rw [if_pos (show lane = 0 by omega)] | rw [if_neg (show ¬ lane = 0 by omega), if_pos (show lane = 1 by omega)] | rw [if_neg (show ¬ lane = 0 by omega), if_neg (show ¬ lane = 1 by omega)]) ?_
      refine x_iast (pc := 31) i K (cel_self hc1.1) rfl (by omega) (by decide) dX7_keep_31 ?_
      refine x_v (w := (va_up v (c + 1) (iarr E 40 (va_up g i (narA lane w))))) (up_at0).symm ?_
      refine x_aload_n (pc := 32) 0 K rfl rfl dX7_keep_32 ?_
      refine x_get (pc := 33) (C := RX7) (T := TX7) (n := 3) (ci := 6) (idx := 9) (ref := "BorderBeds$Row") (x := .ref (B + (c + 1)))  K (cel_ne hc0 (by omega)) rfl (by decide +kernel) 0 (by decide) (by decide +kernel) rfl rfl dX7_keep_33 ?_
      refine x_iload_n (pc := 36) 1 K rfl rfl dX7_keep_36 ?_
      refine x_iald (pc := 37) i K (cel_self hc1.1) rfl (by omega) (by decide) dX7_keep_37 ?_
      refine x_st (st' := [.int (zI (narA lane w))]) (by rw [va_up_self]) ?_
      refine x_iret (pc := 38) K KR (by omega) (Nat.le_of_ble_eq_true rfl) (Nat.le_of_ble_eq_true rfl) dX7_keep_38 ?_
      exact ⟨rfl, rfl, rfl⟩
    · skip
      refine x_iload_n (pc := 25) 2 K rfl rfl dX7_keep_25 ?_
      refine x_i2s (pc := 26) K dX7_keep_26 ?_
      refine x_goto (pc := 27) (tgt := 31) K dX7_keep_27 (by decide) ?_
      refine x_st (st' := [.int (zI (narA lane w)), .int (zI (i : Int)), .ref (B + (c + 1))]) (by unfold narA; first | rw [if_pos (show lane = 0 by omega)] | rw [if_neg (show ¬ lane = 0 by omega), if_pos (show lane = 1 by omega)] | rw [if_neg (show ¬ lane = 0 by omega), if_neg (show ¬ lane = 1 by omega)]) ?_
      refine x_iast (pc := 31) i K (cel_self hc1.1) rfl (by omega) (by decide) dX7_keep_31 ?_
      refine x_v (w := (va_up v (c + 1) (iarr E 40 (va_up g i (narA lane w))))) (up_at0).symm ?_
      refine x_aload_n (pc := 32) 0 K rfl rfl dX7_keep_32 ?_
      refine x_get (pc := 33) (C := RX7) (T := TX7) (n := 3) (ci := 6) (idx := 9) (ref := "BorderBeds$Row") (x := .ref (B + (c + 1)))  K (cel_ne hc0 (by omega)) rfl (by decide +kernel) 0 (by decide) (by decide +kernel) rfl rfl dX7_keep_33 ?_
      refine x_iload_n (pc := 36) 1 K rfl rfl dX7_keep_36 ?_
      refine x_iald (pc := 37) i K (cel_self hc1.1) rfl (by omega) (by decide) dX7_keep_37 ?_
      refine x_st (st' := [.int (zI (narA lane w))]) (by rw [va_up_self]) ?_
      refine x_iret (pc := 38) K KR (by omega) (Nat.le_of_ble_eq_true rfl) (Nat.le_of_ble_eq_true rfl) dX7_keep_38 ?_
      exact ⟨rfl, rfl, rfl⟩
  · skip
    refine x_iload_n (pc := 12) 2 K rfl rfl dX7_keep_12 ?_
    refine x_i2b (pc := 13) K dX7_keep_13 ?_
    refine x_goto (pc := 14) (tgt := 31) K dX7_keep_14 (by decide) ?_
    refine x_st (st' := [.int (zI (narA lane w)), .int (zI (i : Int)), .ref (B + (c + 1))]) (by unfold narA; first | rw [if_pos (show lane = 0 by omega)] | rw [if_neg (show ¬ lane = 0 by omega), if_pos (show lane = 1 by omega)] | rw [if_neg (show ¬ lane = 0 by omega), if_neg (show ¬ lane = 1 by omega)]) ?_
    refine x_iast (pc := 31) i K (cel_self hc1.1) rfl (by omega) (by decide) dX7_keep_31 ?_
    refine x_v (w := (va_up v (c + 1) (iarr E 40 (va_up g i (narA lane w))))) (up_at0).symm ?_
    refine x_aload_n (pc := 32) 0 K rfl rfl dX7_keep_32 ?_
    refine x_get (pc := 33) (C := RX7) (T := TX7) (n := 3) (ci := 6) (idx := 9) (ref := "BorderBeds$Row") (x := .ref (B + (c + 1)))  K (cel_ne hc0 (by omega)) rfl (by decide +kernel) 0 (by decide) (by decide +kernel) rfl rfl dX7_keep_33 ?_
    refine x_iload_n (pc := 36) 1 K rfl rfl dX7_keep_36 ?_
    refine x_iald (pc := 37) i K (cel_self hc1.1) rfl (by omega) (by decide) dX7_keep_37 ?_
    refine x_st (st' := [.int (zI (narA lane w))]) (by rw [va_up_self]) ?_
    refine x_iret (pc := 38) K KR (by omega) (Nat.le_of_ble_eq_true rfl) (Nat.le_of_ble_eq_true rfl) dX7_keep_38 ?_
    exact ⟨rfl, rfl, rfl⟩

set_option maxRecDepth 100000 in
set_option maxHeartbeats 4000000 in
theorem c_X7_hasHeights {E : XE} {B N : Nat} {v : Nat → va_E} {c o : Nat} {lane size : Int} {g : Nat → Int} {o_i : Int} (ha_o : o_i = (o : Int)) (hc0 : Cel N v c (.inr (6, [.ref (B + (c + 1)), .int (zI lane), .int (zI size)]))) (hc1 : Cel N v (c + 1) (iarr E 40 g)) (hq0 : o ≤ 32) (hq1 : ∀ k, k < 40 → -2147483648 ≤ g k ∧ g k ≤ 2147483647) : gM yX7_hasHeights wsX7_hasHeights ({ frames := 0, cells := 0, slots := 0, locals := 0 }) E B N v [.ref (B + c), .int (zI o_i)] (po0 N (fun ρ v' => ρ = some (.int (zI (rowOk g o 8))) ∧ v = v')) := by
  subst ha_o
  refine x_met (nm := "hasHeights") (by decide +kernel) rfl (Nat.le_of_ble_eq_true rfl) rfl (fun Γ K KR hnL hnm => ?_)
  show XW Γ N v [(0, .ref (B + c)), (1, .int (zI (o : Int)))] 0 0 0 []
  refine x_iconst (pc := 0) K dX7_hasHeights_0 ?_
  refine x_istore_n (pc := 1) K (L' := [(2, .int (zI 0)), (0, .ref (B + c)), (1, .int (zI (o : Int)))]) hnL rfl (by decide) rfl dX7_hasHeights_1 ?_
  have LOOP2 : ∀ (n_2 : Nat) (k : Nat), (k ≤ 8) → (rowOk g o k = 1) → (8 - k) < n_2 → XW Γ N v [(0, .ref (B + c)), (1, .int (zI (o : Int))), (2, .int (zI (k : Int)))] 0 0 2 [] := by
    intro n_2
    induction n_2 with
    | zero =>
      intro k hi2_0 hi2_1 hm_2
      exfalso; omega
    | succ n_2 ih2 =>
      intro k hi2_0 hi2_1 hm_2
      refine x_iload_n (pc := 2) 2 K rfl rfl dX7_hasHeights_2 ?_
      refine x_bipush (pc := 3) K (by decide) dX7_hasHeights_3 ?_
      refine x_icmp_ge (pc := 5) (tgt := 40) K (by omega) (by decide) dX7_hasHeights_5 (by decide) (fun h_5 => ?_) (fun h_5 => ?_)
      · skip
        have hk8 : k = 8 := by omega
        rw [hk8] at hi2_1
        refine x_iconst (pc := 40) K dX7_hasHeights_40 ?_
        refine x_zret (pc := 41) K KR (by omega) (Nat.le_of_ble_eq_true rfl) (Nat.le_of_ble_eq_true rfl) rfl dX7_hasHeights_41 ?_
        exact ⟨rfl, ri hi2_1.symm, rfl⟩
      · skip
        have b15 := hq1 (o + k) (by omega)
        refine x_aload_n (pc := 8) 0 K rfl rfl dX7_hasHeights_8 ?_
        refine x_get (pc := 9) (C := RX7) (T := TX7) (n := 3) (ci := 6) (idx := 9) (ref := "BorderBeds$Row") (x := .ref (B + (c + 1)))  K hc0 rfl (by decide +kernel) 0 (by decide) (by decide +kernel) rfl rfl dX7_hasHeights_9 ?_
        refine x_iload_n (pc := 12) 1 K rfl rfl dX7_hasHeights_12 ?_
        refine x_iload_n (pc := 13) 2 K rfl rfl dX7_hasHeights_13 ?_
        refine x_iadd (pc := 14) K dX7_hasHeights_14 ?_
        refine x_iald (pc := 15) (o + k) K hc1 (by omega) (by omega) (by decide) dX7_hasHeights_15 ?_
        refine x_if_lt (pc := 16) (tgt := 32) K (by omega) dX7_hasHeights_16 (by decide) (fun h_16 => ?_) (fun h_16 => ?_)
        · skip
          refine x_iconst (pc := 32) K dX7_hasHeights_32 ?_
          refine x_zret (pc := 33) K KR (by omega) (Nat.le_of_ble_eq_true rfl) (Nat.le_of_ble_eq_true rfl) rfl dX7_hasHeights_33 ?_
          exact ⟨rfl, ri (rowOk_8 (o := o) (show k < 8 by omega) (by omega)).symm, rfl⟩
        · skip
          refine x_aload_n (pc := 19) 0 K rfl rfl dX7_hasHeights_19 ?_
          refine x_get (pc := 20) (C := RX7) (T := TX7) (n := 3) (ci := 6) (idx := 9) (ref := "BorderBeds$Row") (x := .ref (B + (c + 1)))  K hc0 rfl (by decide +kernel) 0 (by decide) (by decide +kernel) rfl rfl dX7_hasHeights_20 ?_
          refine x_iload_n (pc := 23) 1 K rfl rfl dX7_hasHeights_23 ?_
          refine x_iload_n (pc := 24) 2 K rfl rfl dX7_hasHeights_24 ?_
          refine x_iadd (pc := 25) K dX7_hasHeights_25 ?_
          refine x_iald (pc := 26) (o + k) K hc1 (by omega) (by omega) (by decide) dX7_hasHeights_26 ?_
          refine x_bipush (pc := 27) K (by decide) dX7_hasHeights_27 ?_
          refine x_icmp_le (pc := 29) (tgt := 34) K (by omega) (by decide) dX7_hasHeights_29 (by decide) (fun h_29 => ?_) (fun h_29 => ?_)
          · skip
            refine x_iinc (pc := 34) (L' := [(2, .int (zI ((k : Int) + 1))), (0, .ref (B + c)), (1, .int (zI (o : Int)))]) 2 K hnL rfl (by decide) rfl dX7_hasHeights_34 ?_
            refine x_goto (pc := 37) (tgt := 2) K dX7_hasHeights_37 (by decide) ?_
            refine x_sub (L' := [(0, .ref (B + c)), (1, .int (zI (o : Int))), (2, .int (zI ((k : Int) + 1)))]) [1, 2, 0] rfl ?_
            exact ih2 (k + 1) (by omega) (by exact rowOk_yes hi2_1 (by omega)) (by omega)
          · skip
            refine x_iconst (pc := 32) K dX7_hasHeights_32 ?_
            refine x_zret (pc := 33) K KR (by omega) (Nat.le_of_ble_eq_true rfl) (Nat.le_of_ble_eq_true rfl) rfl dX7_hasHeights_33 ?_
            exact ⟨rfl, ri (rowOk_8 (o := o) (show k < 8 by omega) (by omega)).symm, rfl⟩
  refine x_sub (L' := [(0, .ref (B + c)), (1, .int (zI (o : Int))), (2, .int (zI 0))]) [1, 2, 0] rfl ?_
  exact LOOP2 (_) 0 (by omega) (by rfl) (Nat.lt_succ_self _)

set_option maxRecDepth 100000 in
set_option maxHeartbeats 4000000 in
theorem c_X9_begin {E : XE} {B N : Nat} {v : Nat → va_E} {c : Nat} {n : Int} (hc0 : Cel N v c (.inr (8, [.ref (B + (c + 1)), .int (zI n)]))) : gM yX9_begin wsX9_begin ({ frames := 0, cells := 0, slots := 0, locals := 0 }) E B N v [.ref (B + c)] (po0 N (fun ρ v' => ρ = none ∧ (va_up v c (.inr (8, [.ref (B + (c + 1)), .int (zI 0)]))) = v')) := by
  refine x_met (nm := "begin") (by decide +kernel) rfl (Nat.le_of_ble_eq_true rfl) rfl (fun Γ K KR hnL hnm => ?_)
  show XW Γ N v [(0, .ref (B + c))] 0 0 0 []
  refine x_v (cel_pad hc0) ?_
  refine x_aload_n (pc := 0) 0 K rfl rfl dX9_begin_0 ?_
  refine x_iconst (pc := 1) K dX9_begin_1 ?_
  refine x_put (pc := 2) (C := RX9) (T := TX9) (n := 2) (ci := 8) (idx := 13) (ref := "BorderBeds$Trace") (ty := .int)  K (cel_self hc0.1) rfl (by decide +kernel) tyX9 tyX9_ok nmX9 1 (by decide) (by decide +kernel) rfl rfl (by decide +kernel) rfl rfl (Nat.le_of_ble_eq_true rfl) dX9_begin_2 ?_
  refine x_v (w := (va_up v c (.inr (8, [.ref (B + (c + 1)), .int (zI 0)])))) (up_at0).symm ?_
  refine x_vret (pc := 5) K KR (by omega) (Nat.le_of_ble_eq_true rfl) (Nat.le_of_ble_eq_true rfl) dX9_begin_5 ?_
  exact ⟨rfl, rfl, rfl⟩

set_option maxRecDepth 100000 in
set_option maxHeartbeats 4000000 in
theorem c_X9_leave {E : XE} {B N : Nat} {v : Nat → va_E} {c m : Nat} {d : Int} {tr : Nat → Int} (hc0 : Cel N v c (.inr (8, [.ref (B + (c + 1)), .int (zI (m : Int))]))) (hc1 : Cel N v (c + 1) (iarr E 16 tr)) (hq0 : m < 16) : gM yX9_leave wsX9_leave ({ frames := 0, cells := 0, slots := 0, locals := 0 }) E B N v [.ref (B + c), .int (zI d)] (po0 N (fun ρ v' => ρ = none ∧ (va_up (va_up v c (.inr (8, [.ref (B + (c + 1)), .int (zI ((m : Int) + 1))]))) (c + 1) (iarr E 16 (va_up tr m d))) = v')) := by
  refine x_met (nm := "leave") (by decide +kernel) rfl (Nat.le_of_ble_eq_true rfl) rfl (fun Γ K KR hnL hnm => ?_)
  show XW Γ N v [(0, .ref (B + c)), (1, .int (zI d))] 0 0 0 []
  refine x_v (cel_pad hc0) ?_
  refine x_v (cel_pad (cel_ne hc1 (by omega))) ?_
  refine x_aload_n (pc := 0) 0 K rfl rfl dX9_leave_0 ?_
  refine x_get (pc := 1) (C := RX9) (T := TX9) (n := 2) (ci := 8) (idx := 13) (ref := "BorderBeds$Trace") (x := .int (zI (m : Int)))  K (cel_ne (cel_self hc0.1) (by omega)) rfl (by decide +kernel) 1 (by decide) (by decide +kernel) rfl rfl dX9_leave_1 ?_
  refine x_aload_n (pc := 4) 0 K rfl rfl dX9_leave_4 ?_
  refine x_get (pc := 5) (C := RX9) (T := TX9) (n := 2) (ci := 8) (idx := 7) (ref := "BorderBeds$Trace") (x := .ref (B + (c + 1)))  K (cel_ne (cel_self hc0.1) (by omega)) rfl (by decide +kernel) 0 (by decide) (by decide +kernel) rfl rfl dX9_leave_5 ?_
  refine x_alen_iarr (pc := 8) (z := 16) K (cel_self hc1.1) (by decide) dX9_leave_8 ?_
  refine x_icmp_ge (pc := 9) (tgt := 32) K (by omega) (by decide) dX9_leave_9 (by decide) (fun h_9 => ?_) (fun h_9 => ?_)
  · skip
    exfalso; omega
  · skip
    refine x_aload_n (pc := 12) 0 K rfl rfl dX9_leave_12 ?_
    refine x_get (pc := 13) (C := RX9) (T := TX9) (n := 2) (ci := 8) (idx := 7) (ref := "BorderBeds$Trace") (x := .ref (B + (c + 1)))  K (cel_ne (cel_self hc0.1) (by omega)) rfl (by decide +kernel) 0 (by decide) (by decide +kernel) rfl rfl dX9_leave_13 ?_
    refine x_aload_n (pc := 16) 0 K rfl rfl dX9_leave_16 ?_
    refine x_get (pc := 17) (C := RX9) (T := TX9) (n := 2) (ci := 8) (idx := 13) (ref := "BorderBeds$Trace") (x := .int (zI (m : Int)))  K (cel_ne (cel_self hc0.1) (by omega)) rfl (by decide +kernel) 1 (by decide) (by decide +kernel) rfl rfl dX9_leave_17 ?_
    refine x_iload_n (pc := 20) 1 K rfl rfl dX9_leave_20 ?_
    refine x_iast (pc := 21) m K (cel_self hc1.1) rfl (by omega) (by decide) dX9_leave_21 ?_
    refine x_v (w := (va_up (va_up v c (.inr (8, [.ref (B + (c + 1)), .int (zI (m : Int))]))) (c + 1) (iarr E 16 (va_up tr m d)))) (up_at0).symm ?_
    refine x_aload_n (pc := 22) 0 K rfl rfl dX9_leave_22 ?_
    refine x_dup (pc := 23) K rfl dX9_leave_23 ?_
    refine x_get (pc := 24) (C := RX9) (T := TX9) (n := 2) (ci := 8) (idx := 13) (ref := "BorderBeds$Trace") (x := .int (zI (m : Int)))  K (cel_ne (cel_self hc0.1) (by omega)) rfl (by decide +kernel) 1 (by decide) (by decide +kernel) rfl rfl dX9_leave_24 ?_
    refine x_iconst (pc := 27) K dX9_leave_27 ?_
    refine x_iadd (pc := 28) K dX9_leave_28 ?_
    refine x_put (pc := 29) (C := RX9) (T := TX9) (n := 2) (ci := 8) (idx := 13) (ref := "BorderBeds$Trace") (ty := .int)  K (cel_ne (cel_self hc0.1) (by omega)) rfl (by decide +kernel) tyX9 tyX9_ok nmX9 1 (by decide) (by decide +kernel) rfl rfl (by decide +kernel) rfl rfl (Nat.le_of_ble_eq_true rfl) dX9_leave_29 ?_
    refine x_v (w := (va_up (va_up v c (.inr (8, [.ref (B + (c + 1)), .int (zI ((m : Int) + 1))]))) (c + 1) (iarr E 16 (va_up tr m d)))) (up_at1 (by omega)).symm ?_
    refine x_vret (pc := 32) K KR (by omega) (Nat.le_of_ble_eq_true rfl) (Nat.le_of_ble_eq_true rfl) dX9_leave_32 ?_
    exact ⟨rfl, rfl, rfl⟩
