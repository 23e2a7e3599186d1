theorem dX4_init_0 : decode cX4_init 0 = .ok (.aload_n 0, 1) := by decide +kernel
theorem dX4_init_1 : decode cX4_init 1 = .ok (.invokespecial 3, 3) := by decide +kernel
theorem dX4_init_4 : decode cX4_init 4 = .ok (.aload_n 0, 1) := by decide +kernel
theorem dX4_init_5 : decode cX4_init 5 = .ok (.bipush 8, 2) := by decide +kernel
theorem dX4_init_7 : decode cX4_init 7 = .ok (.newarray .int, 2) := by decide +kernel
theorem dX4_init_9 : decode cX4_init 9 = .ok (.putfield 11, 3) := by decide +kernel
theorem dX4_init_12 : decode cX4_init 12 = .ok (.aload_n 0, 1) := by decide +kernel
theorem dX4_init_13 : decode cX4_init 13 = .ok (.bipush 8, 2) := by decide +kernel
theorem dX4_init_15 : decode cX4_init 15 = .ok (.newarray .boolean, 2) := by decide +kernel
theorem dX4_init_17 : decode cX4_init 17 = .ok (.putfield 15, 3) := by decide +kernel
theorem dX4_init_20 : decode cX4_init 20 = .ok (.aload_n 0, 1) := by decide +kernel
theorem dX4_init_21 : decode cX4_init 21 = .ok (.iconst 0, 1) := by decide +kernel
theorem dX4_init_22 : decode cX4_init 22 = .ok (.putfield 19, 3) := by decide +kernel
theorem dX4_init_25 : decode cX4_init 25 = .ok (.aload_n 0, 1) := by decide +kernel
theorem dX4_init_26 : decode cX4_init 26 = .ok (.bipush 8, 2) := by decide +kernel
theorem dX4_init_28 : decode cX4_init 28 = .ok (.newarray .int, 2) := by decide +kernel
theorem dX4_init_30 : decode cX4_init 30 = .ok (.putfield 23, 3) := by decide +kernel
theorem dX4_init_33 : decode cX4_init 33 = .ok (.aload_n 0, 1) := by decide +kernel
theorem dX4_init_34 : decode cX4_init 34 = .ok (.bipush 8, 2) := by decide +kernel
theorem dX4_init_36 : decode cX4_init 36 = .ok (.newarray .int, 2) := by decide +kernel
theorem dX4_init_38 : decode cX4_init 38 = .ok (.putfield 26, 3) := by decide +kernel
theorem dX4_init_41 : decode cX4_init 41 = .ok (.return_, 1) := by decide +kernel
theorem dX7_init_0 : decode cX7_init 0 = .ok (.aload_n 0, 1) := by decide +kernel
theorem dX7_init_1 : decode cX7_init 1 = .ok (.invokespecial 3, 3) := by decide +kernel
theorem dX7_init_4 : decode cX7_init 4 = .ok (.aload_n 0, 1) := by decide +kernel
theorem dX7_init_5 : decode cX7_init 5 = .ok (.bipush 40, 2) := by decide +kernel
theorem dX7_init_7 : decode cX7_init 7 = .ok (.newarray .int, 2) := by decide +kernel
theorem dX7_init_9 : decode cX7_init 9 = .ok (.putfield 9, 3) := by decide +kernel
theorem dX7_init_12 : decode cX7_init 12 = .ok (.aload_n 0, 1) := by decide +kernel
theorem dX7_init_13 : decode cX7_init 13 = .ok (.iconst (-1), 1) := by decide +kernel
theorem dX7_init_14 : decode cX7_init 14 = .ok (.putfield 15, 3) := by decide +kernel
theorem dX7_init_17 : decode cX7_init 17 = .ok (.aload_n 0, 1) := by decide +kernel
theorem dX7_init_18 : decode cX7_init 18 = .ok (.iconst 0, 1) := by decide +kernel
theorem dX7_init_19 : decode cX7_init 19 = .ok (.putfield 19, 3) := by decide +kernel
theorem dX7_init_22 : decode cX7_init 22 = .ok (.return_, 1) := by decide +kernel
theorem dX9_init_0 : decode cX9_init 0 = .ok (.aload_n 0, 1) := by decide +kernel
theorem dX9_init_1 : decode cX9_init 1 = .ok (.invokespecial 1, 3) := by decide +kernel
theorem dX9_init_4 : decode cX9_init 4 = .ok (.aload_n 0, 1) := by decide +kernel
theorem dX9_init_5 : decode cX9_init 5 = .ok (.bipush 16, 2) := by decide +kernel
theorem dX9_init_7 : decode cX9_init 7 = .ok (.newarray .int, 2) := by decide +kernel
theorem dX9_init_9 : decode cX9_init 9 = .ok (.putfield 7, 3) := by decide +kernel
theorem dX9_init_12 : decode cX9_init 12 = .ok (.aload_n 0, 1) := by decide +kernel
theorem dX9_init_13 : decode cX9_init 13 = .ok (.iconst 0, 1) := by decide +kernel
theorem dX9_init_14 : decode cX9_init 14 = .ok (.putfield 13, 3) := by decide +kernel
theorem dX9_init_17 : decode cX9_init 17 = .ok (.return_, 1) := by decide +kernel
theorem dX8_init_0 : decode cX8_init 0 = .ok (.aload_n 0, 1) := by decide +kernel
theorem dX8_init_1 : decode cX8_init 1 = .ok (.invokespecial 3, 3) := by decide +kernel
theorem dX8_init_4 : decode cX8_init 4 = .ok (.aload_n 0, 1) := by decide +kernel
theorem dX8_init_5 : decode cX8_init 5 = .ok (.sipush 400, 3) := by decide +kernel
theorem dX8_init_8 : decode cX8_init 8 = .ok (.newarray .int, 2) := by decide +kernel
theorem dX8_init_10 : decode cX8_init 10 = .ok (.putfield 11, 3) := by decide +kernel
theorem dX8_init_13 : decode cX8_init 13 = .ok (.aload_n 0, 1) := by decide +kernel
theorem dX8_init_14 : decode cX8_init 14 = .ok (.iconst 4, 1) := by decide +kernel
theorem dX8_init_15 : decode cX8_init 15 = .ok (.newarray .int, 2) := by decide +kernel
theorem dX8_init_17 : decode cX8_init 17 = .ok (.putfield 15, 3) := by decide +kernel
theorem dX8_init_20 : decode cX8_init 20 = .ok (.aload_n 0, 1) := by decide +kernel
theorem dX8_init_21 : decode cX8_init 21 = .ok (.iconst 0, 1) := by decide +kernel
theorem dX8_init_22 : decode cX8_init 22 = .ok (.putfield 18, 3) := by decide +kernel
theorem dX8_init_25 : decode cX8_init 25 = .ok (.aload_n 0, 1) := by decide +kernel
theorem dX8_init_26 : decode cX8_init 26 = .ok (.iconst 0, 1) := by decide +kernel
theorem dX8_init_27 : decode cX8_init 27 = .ok (.putfield 22, 3) := by decide +kernel
theorem dX8_init_30 : decode cX8_init 30 = .ok (.aload_n 0, 1) := by decide +kernel
theorem dX8_init_31 : decode cX8_init 31 = .ok (.iconst 0, 1) := by decide +kernel
theorem dX8_init_32 : decode cX8_init 32 = .ok (.putfield 25, 3) := by decide +kernel
theorem dX8_init_35 : decode cX8_init 35 = .ok (.aload_n 0, 1) := by decide +kernel
theorem dX8_init_36 : decode cX8_init 36 = .ok (.iconst 0, 1) := by decide +kernel
theorem dX8_init_37 : decode cX8_init 37 = .ok (.putfield 28, 3) := by decide +kernel
theorem dX8_init_40 : decode cX8_init 40 = .ok (.aload_n 0, 1) := by decide +kernel
theorem dX8_init_41 : decode cX8_init 41 = .ok (.iconst 0, 1) := by decide +kernel
theorem dX8_init_42 : decode cX8_init 42 = .ok (.putfield 31, 3) := by decide +kernel
theorem dX8_init_45 : decode cX8_init 45 = .ok (.aload_n 0, 1) := by decide +kernel
theorem dX8_init_46 : decode cX8_init 46 = .ok (.iconst 0, 1) := by decide +kernel
theorem dX8_init_47 : decode cX8_init 47 = .ok (.putfield 34, 3) := by decide +kernel
theorem dX8_init_50 : decode cX8_init 50 = .ok (.aload_n 0, 1) := by decide +kernel
theorem dX8_init_51 : decode cX8_init 51 = .ok (.iconst 0, 1) := by decide +kernel
theorem dX8_init_52 : decode cX8_init 52 = .ok (.putfield 37, 3) := by decide +kernel
theorem dX8_init_55 : decode cX8_init 55 = .ok (.return_, 1) := by decide +kernel
set_option maxRecDepth 100000 in
set_option maxHeartbeats 4000000 in
theorem c_X4_init {E : XE} {B : Nat} {v : Nat → va_E} {c : Nat} (hc0 : Cel (c + 1) v c (.inr (4, [.null, .null, .int (zI 0), .null, .null]))) : gM yX4_init wsX4_init ({ frames := 1, cells := 4, slots := 32, locals := 12 }) E B (c + 1) v [.ref (B + c)] (fun ρ N' v' => N' = c + 5 ∧ ρ = none ∧ (va_up (va_up (va_up (va_up (va_up v c (.inr (4, [.ref (B + (c + 1)), .ref (B + (c + 2)), .int (zI 0), .ref (B + (c + 3)), .ref (B + (c + 4))]))) (c + 1) (iarr E 8 (fun _ => (0 : Int)))) (c + 2) (barr E 8 (fun _ => (0 : Int)))) (c + 3) (iarr E 8 (fun _ => (0 : Int)))) (c + 4) (iarr E 8 (fun _ => (0 : Int)))) = v') := by
  refine x_met (nm := "<init>") (by decide +kernel) rfl (Nat.le_of_ble_eq_true rfl) rfl (fun Γ K KR hnL hnm => ?_)
  show XW Γ (c + 1) v [(0, .ref (B + c))] 0 0 0 []
  refine x_v (cel_pad hc0) ?_
  refine x_aload_n (pc := 0) 0 K rfl rfl dX4_init_0 ?_
  refine x_objInit (nL9 := 0) (pc := 1) (idx := 3) K (by decide +kernel) (by decide +kernel) (by decide +kernel) (Nat.le_of_ble_eq_true rfl) (Nat.le_of_ble_eq_true rfl) dX4_init_1 ?_
  refine x_aload_n (pc := 4) 0 K rfl rfl dX4_init_4 ?_
  refine x_bipush (pc := 5) K (by decide) dX4_init_5 ?_
  refine x_newa_iarr (pc := 7) 8 K (by decide +kernel) rfl (by decide) (Nat.le_of_ble_eq_true rfl) (Nat.le_of_ble_eq_true rfl) dX4_init_7 ?_
  refine x_N (M := (c + 2)) rfl ?_
  refine x_putF (pc := 9) (C := RX4) (T := TX4) (n := 5) (ci := 4) (idx := 11) (ref := "BorderBeds$Line") (ty := .array .int)  K (cel_ne (cel_self (Nat.lt_of_lt_of_le hc0.1 (by omega))) (by omega)) rfl (by decide +kernel) tyX4 tyX4_ok nmX4 0 (by decide) (by decide +kernel) rfl rfl hnm rfl (by decide +kernel) rfl rfl (Nat.le_of_ble_eq_true rfl) dX4_init_9 ?_
  refine x_v (w := (va_up (va_up v c (.inr (4, [.ref (B + (c + 1)), .null, .int (zI 0), .null, .null]))) (c + 1) (iarr E 8 (fun _ => 0)))) (up_at1 (by omega)).symm ?_
  refine x_aload_n (pc := 12) 0 K rfl rfl dX4_init_12 ?_
  refine x_bipush (pc := 13) K (by decide) dX4_init_13 ?_
  refine x_newa_barr (pc := 15) 8 K (by decide +kernel) rfl (by decide) (Nat.le_of_ble_eq_true rfl) (Nat.le_of_ble_eq_true rfl) dX4_init_15 ?_
  refine x_N (M := (c + 3)) rfl ?_
  refine x_putF (pc := 17) (C := RX4) (T := TX4) (n := 5) (ci := 4) (idx := 15) (ref := "BorderBeds$Line") (ty := .array .boolean)  K (cel_ne (cel_ne (cel_self (Nat.lt_of_lt_of_le hc0.1 (by omega))) (by omega)) (by omega)) rfl (by decide +kernel) tyX4 tyX4_ok nmX4 1 (by decide) (by decide +kernel) rfl rfl hnm rfl (by decide +kernel) rfl rfl (Nat.le_of_ble_eq_true rfl) dX4_init_17 ?_
  refine x_v (w := (va_up (va_up (va_up v c (.inr (4, [.ref (B + (c + 1)), .ref (B + (c + 2)), .int (zI 0), .null, .null]))) (c + 1) (iarr E 8 (fun _ => 0))) (c + 2) (barr E 8 (fun _ => 0)))) (up_at2 (by omega) (by omega)).symm ?_
  refine x_aload_n (pc := 20) 0 K rfl rfl dX4_init_20 ?_
  refine x_iconst (pc := 21) K dX4_init_21 ?_
  refine x_put (pc := 22) (C := RX4) (T := TX4) (n := 5) (ci := 4) (idx := 19) (ref := "BorderBeds$Line") (ty := .int)  K (cel_ne (cel_ne (cel_self (Nat.lt_of_lt_of_le hc0.1 (by omega))) (by omega)) (by omega)) rfl (by decide +kernel) tyX4 tyX4_ok nmX4 2 (by decide) (by decide +kernel) rfl rfl (by decide +kernel) rfl rfl (Nat.le_of_ble_eq_true rfl) dX4_init_22 ?_
  refine x_v (w := (va_up (va_up (va_up v c (.inr (4, [.ref (B + (c + 1)), .ref (B + (c + 2)), .int (zI 0), .null, .null]))) (c + 1) (iarr E 8 (fun _ => 0))) (c + 2) (barr E 8 (fun _ => 0)))) (up_at2 (by omega) (by omega)).symm ?_
  refine x_aload_n (pc := 25) 0 K rfl rfl dX4_init_25 ?_
  refine x_bipush (pc := 26) K (by decide) dX4_init_26 ?_
  refine x_newa_iarr (pc := 28) 8 K (by decide +kernel) rfl (by decide) (Nat.le_of_ble_eq_true rfl) (Nat.le_of_ble_eq_true rfl) dX4_init_28 ?_
  refine x_N (M := (c + 4)) rfl ?_
  refine x_putF (pc := 30) (C := RX4) (T := TX4) (n := 5) (ci := 4) (idx := 23) (ref := "BorderBeds$Line") (ty := .array .int)  K (cel_ne (cel_ne (cel_ne (cel_self (Nat.lt_of_lt_of_le hc0.1 (by omega))) (by omega)) (by omega)) (by omega)) rfl (by decide +kernel) tyX4 tyX4_ok nmX4 3 (by decide) (by decide +kernel) rfl rfl hnm rfl (by decide +kernel) rfl rfl (Nat.le_of_ble_eq_true rfl) dX4_init_30 ?_
  refine x_v (w := (va_up (va_up (va_up (va_up v c (.inr (4, [.ref (B + (c + 1)), .ref (B + (c + 2)), .int (zI 0), .ref (B + (c + 3)), .null]))) (c + 1) (iarr E 8 (fun _ => 0))) (c + 2) (barr E 8 (fun _ => 0))) (c + 3) (iarr E 8 (fun _ => 0)))) (up_at3 (by omega) (by omega) (by omega)).symm ?_
  refine x_aload_n (pc := 33) 0 K rfl rfl dX4_init_33 ?_
  refine x_bipush (pc := 34) K (by decide) dX4_init_34 ?_
  refine x_newa_iarr (pc := 36) 8 K (by decide +kernel) rfl (by decide) (Nat.le_of_ble_eq_true rfl) (Nat.le_of_ble_eq_true rfl) dX4_init_36 ?_
  refine x_N (M := (c + 5)) rfl ?_
  refine x_putF (pc := 38) (C := RX4) (T := TX4) (n := 5) (ci := 4) (idx := 26) (ref := "BorderBeds$Line") (ty := .array .int)  K (cel_ne (cel_ne (cel_ne (cel_ne (cel_self (Nat.lt_of_lt_of_le hc0.1 (by omega))) (by omega)) (by omega)) (by omega)) (by omega)) rfl (by decide +kernel) tyX4 tyX4_ok nmX4 4 (by decide) (by decide +kernel) rfl rfl hnm rfl (by decide +kernel) rfl rfl (Nat.le_of_ble_eq_true rfl) dX4_init_38 ?_
  refine x_v (w := (va_up (va_up (va_up (va_up (va_up v c (.inr (4, [.ref (B + (c + 1)), .ref (B + (c + 2)), .int (zI 0), .ref (B + (c + 3)), .ref (B + (c + 4))]))) (c + 1) (iarr E 8 (fun _ => 0))) (c + 2) (barr E 8 (fun _ => 0))) (c + 3) (iarr E 8 (fun _ => 0))) (c + 4) (iarr E 8 (fun _ => 0)))) (up_at4 (by omega) (by omega) (by omega) (by omega)).symm ?_
  refine x_vret (pc := 41) K KR (by omega) (Nat.le_of_ble_eq_true rfl) (Nat.le_of_ble_eq_true rfl) dX4_init_41 ?_
  exact ⟨rfl, rfl, rfl⟩

set_option maxRecDepth 100000 in
set_option maxHeartbeats 4000000 in
theorem c_X7_init {E : XE} {B : Nat} {v : Nat → va_E} {c : Nat} (hc0 : Cel (c + 1) v c (.inr (6, [.null, .int (zI 0), .int (zI 0)]))) : gM yX7_init wsX7_init ({ frames := 1, cells := 1, slots := 40, locals := 12 }) E B (c + 1) v [.ref (B + c)] (fun ρ N' v' => N' = c + 2 ∧ ρ = none ∧ (va_up (va_up v c (.inr (6, [.ref (B + (c + 1)), .int (zI (-1)), .int (zI 0)]))) (c + 1) (iarr E 40 (fun _ => (0 : Int)))) = v') := by
  refine x_met (nm := "<init>") (by decide +kernel) rfl (Nat.le_of_ble_eq_true rfl) rfl (fun Γ K KR hnL hnm => ?_)
  show XW Γ (c + 1) v [(0, .ref (B + c))] 0 0 0 []
  refine x_v (cel_pad hc0) ?_
  refine x_aload_n (pc := 0) 0 K rfl rfl dX7_init_0 ?_
  refine x_objInit (nL9 := 0) (pc := 1) (idx := 3) K (by decide +kernel) (by decide +kernel) (by decide +kernel) (Nat.le_of_ble_eq_true rfl) (Nat.le_of_ble_eq_true rfl) dX7_init_1 ?_
  refine x_aload_n (pc := 4) 0 K rfl rfl dX7_init_4 ?_
  refine x_bipush (pc := 5) K (by decide) dX7_init_5 ?_
  refine x_newa_iarr (pc := 7) 40 K (by decide +kernel) rfl (by decide) (Nat.le_of_ble_eq_true rfl) (Nat.le_of_ble_eq_true rfl) dX7_init_7 ?_
  refine x_N (M := (c + 2)) rfl ?_
  refine x_putF (pc := 9) (C := RX7) (T := TX7) (n := 3) (ci := 6) (idx := 9) (ref := "BorderBeds$Row") (ty := .array .int)  K (cel_ne (cel_self (Nat.lt_of_lt_of_le hc0.1 (by omega))) (by omega)) rfl (by decide +kernel) tyX7 tyX7_ok nmX7 0 (by decide) (by decide +kernel) rfl rfl hnm rfl (by decide +kernel) rfl rfl (Nat.le_of_ble_eq_true rfl) dX7_init_9 ?_
  refine x_v (w := (va_up (va_up v c (.inr (6, [.ref (B + (c + 1)), .int (zI 0), .int (zI 0)]))) (c + 1) (iarr E 40 (fun _ => 0)))) (up_at1 (by omega)).symm ?_
  refine x_aload_n (pc := 12) 0 K rfl rfl dX7_init_12 ?_
  refine x_iconst (pc := 13) K dX7_init_13 ?_
  refine x_put (pc := 14) (C := RX7) (T := TX7) (n := 3) (ci := 6) (idx := 15) (ref := "BorderBeds$Row") (ty := .int)  K (cel_ne (cel_self (Nat.lt_of_lt_of_le hc0.1 (by omega))) (by omega)) rfl (by decide +kernel) tyX7 tyX7_ok nmX7 1 (by decide) (by decide +kernel) rfl rfl (by decide +kernel) rfl rfl (Nat.le_of_ble_eq_true rfl) dX7_init_14 ?_
  refine x_v (w := (va_up (va_up v c (.inr (6, [.ref (B + (c + 1)), .int (zI (-1)), .int (zI 0)]))) (c + 1) (iarr E 40 (fun _ => 0)))) (up_at1 (by omega)).symm ?_
  refine x_aload_n (pc := 17) 0 K rfl rfl dX7_init_17 ?_
  refine x_iconst (pc := 18) K dX7_init_18 ?_
  refine x_put (pc := 19) (C := RX7) (T := TX7) (n := 3) (ci := 6) (idx := 19) (ref := "BorderBeds$Row") (ty := .int)  K (cel_ne (cel_self (Nat.lt_of_lt_of_le hc0.1 (by omega))) (by omega)) rfl (by decide +kernel) tyX7 tyX7_ok nmX7 2 (by decide) (by decide +kernel) rfl rfl (by decide +kernel) rfl rfl (Nat.le_of_ble_eq_true rfl) dX7_init_19 ?_
  refine x_v (w := (va_up (va_up v c (.inr (6, [.ref (B + (c + 1)), .int (zI (-1)), .int (zI 0)]))) (c + 1) (iarr E 40 (fun _ => 0)))) (up_at1 (by omega)).symm ?_
  refine x_vret (pc := 22) K KR (by omega) (Nat.le_of_ble_eq_true rfl) (Nat.le_of_ble_eq_true rfl) dX7_init_22 ?_
  exact ⟨rfl, rfl, rfl⟩

set_option maxRecDepth 100000 in
set_option maxHeartbeats 4000000 in
theorem c_X9_init {E : XE} {B : Nat} {v : Nat → va_E} {c : Nat} (hc0 : Cel (c + 1) v c (.inr (8, [.null, .int (zI 0)]))) : gM yX9_init wsX9_init ({ frames := 1, cells := 1, slots := 16, locals := 12 }) E B (c + 1) v [.ref (B + c)] (fun ρ N' v' => N' = c + 2 ∧ ρ = none ∧ (va_up (va_up v c (.inr (8, [.ref (B + (c + 1)), .int (zI 0)]))) (c + 1) (iarr E 16 (fun _ => (0 : Int)))) = v') := by
  refine x_met (nm := "<init>") (by decide +kernel) rfl (Nat.le_of_ble_eq_true rfl) rfl (fun Γ K KR hnL hnm => ?_)
  show XW Γ (c + 1) v [(0, .ref (B + c))] 0 0 0 []
  refine x_v (cel_pad hc0) ?_
  refine x_aload_n (pc := 0) 0 K rfl rfl dX9_init_0 ?_
  refine x_objInit (nL9 := 0) (pc := 1) (idx := 1) K (by decide +kernel) (by decide +kernel) (by decide +kernel) (Nat.le_of_ble_eq_true rfl) (Nat.le_of_ble_eq_true rfl) dX9_init_1 ?_
  refine x_aload_n (pc := 4) 0 K rfl rfl dX9_init_4 ?_
  refine x_bipush (pc := 5) K (by decide) dX9_init_5 ?_
  refine x_newa_iarr (pc := 7) 16 K (by decide +kernel) rfl (by decide) (Nat.le_of_ble_eq_true rfl) (Nat.le_of_ble_eq_true rfl) dX9_init_7 ?_
  refine x_N (M := (c + 2)) rfl ?_
  refine x_putF (pc := 9) (C := RX9) (T := TX9) (n := 2) (ci := 8) (idx := 7) (ref := "BorderBeds$Trace") (ty := .array .int)  K (cel_ne (cel_self (Nat.lt_of_lt_of_le hc0.1 (by omega))) (by omega)) rfl (by decide +kernel) tyX9 tyX9_ok nmX9 0 (by decide) (by decide +kernel) rfl rfl hnm rfl (by decide +kernel) rfl rfl (Nat.le_of_ble_eq_true rfl) dX9_init_9 ?_
  refine x_v (w := (va_up (va_up v c (.inr (8, [.ref (B + (c + 1)), .int (zI 0)]))) (c + 1) (iarr E 16 (fun _ => 0)))) (up_at1 (by omega)).symm ?_
  refine x_aload_n (pc := 12) 0 K rfl rfl dX9_init_12 ?_
  refine x_iconst (pc := 13) K dX9_init_13 ?_
  refine x_put (pc := 14) (C := RX9) (T := TX9) (n := 2) (ci := 8) (idx := 13) (ref := "BorderBeds$Trace") (ty := .int)  K (cel_ne (cel_self (Nat.lt_of_lt_of_le hc0.1 (by omega))) (by omega)) rfl (by decide +kernel) tyX9 tyX9_ok nmX9 1 (by decide) (by decide +kernel) rfl rfl (by decide +kernel) rfl rfl (Nat.le_of_ble_eq_true rfl) dX9_init_14 ?_
  refine x_v (w := (va_up (va_up v c (.inr (8, [.ref (B + (c + 1)), .int (zI 0)]))) (c + 1) (iarr E 16 (fun _ => 0)))) (up_at1 (by omega)).symm ?_
  refine x_vret (pc := 17) K KR (by omega) (Nat.le_of_ble_eq_true rfl) (Nat.le_of_ble_eq_true rfl) dX9_init_17 ?_
  exact ⟨rfl, rfl, rfl⟩

set_option maxRecDepth 100000 in
set_option maxHeartbeats 4000000 in
theorem c_X8_init {E : XE} {B : Nat} {v : Nat → va_E} {c : Nat} (hc0 : Cel (c + 1) v c (.inr (7, [.null, .null, .int (zI 0), .int (zI 0), .int (zI 0), .int (zI 0), .int (zI 0), .int (zI 0), .int (zI 0)]))) : gM yX8_init wsX8_init ({ frames := 1, cells := 2, slots := 404, locals := 12 }) E B (c + 1) v [.ref (B + c)] (fun ρ N' v' => N' = c + 3 ∧ ρ = none ∧ (va_up (va_up (va_up v c (.inr (7, [.ref (B + (c + 1)), .ref (B + (c + 2)), .int (zI 0), .int (zI 0), .int (zI 0), .int (zI 0), .int (zI 0), .int (zI 0), .int (zI 0)]))) (c + 1) (iarr E 400 (fun _ => (0 : Int)))) (c + 2) (iarr E 4 (fun _ => (0 : Int)))) = v') := by
  refine x_met (nm := "<init>") (by decide +kernel) rfl (Nat.le_of_ble_eq_true rfl) rfl (fun Γ K KR hnL hnm => ?_)
  show XW Γ (c + 1) v [(0, .ref (B + c))] 0 0 0 []
  refine x_v (cel_pad hc0) ?_
  refine x_aload_n (pc := 0) 0 K rfl rfl dX8_init_0 ?_
  refine x_objInit (nL9 := 0) (pc := 1) (idx := 3) K (by decide +kernel) (by decide +kernel) (by decide +kernel) (Nat.le_of_ble_eq_true rfl) (Nat.le_of_ble_eq_true rfl) dX8_init_1 ?_
  refine x_aload_n (pc := 4) 0 K rfl rfl dX8_init_4 ?_
  refine x_sipush (pc := 5) K (by decide) dX8_init_5 ?_
  refine x_newa_iarr (pc := 8) 400 K (by decide +kernel) rfl (by decide) (Nat.le_of_ble_eq_true rfl) (Nat.le_of_ble_eq_true rfl) dX8_init_8 ?_
  refine x_N (M := (c + 2)) rfl ?_
  refine x_putF (pc := 10) (C := RX8) (T := TX8) (n := 9) (ci := 7) (idx := 11) (ref := "BorderBeds$Tape") (ty := .array .int)  K (cel_ne (cel_self (Nat.lt_of_lt_of_le hc0.1 (by omega))) (by omega)) rfl (by decide +kernel) tyX8 tyX8_ok nmX8 0 (by decide) (by decide +kernel) rfl rfl hnm rfl (by decide +kernel) rfl rfl (Nat.le_of_ble_eq_true rfl) dX8_init_10 ?_
  refine x_v (w := (va_up (va_up v c (.inr (7, [.ref (B + (c + 1)), .null, .int (zI 0), .int (zI 0), .int (zI 0), .int (zI 0), .int (zI 0), .int (zI 0), .int (zI 0)]))) (c + 1) (iarr E 400 (fun _ => 0)))) (up_at1 (by omega)).symm ?_
  refine x_aload_n (pc := 13) 0 K rfl rfl dX8_init_13 ?_
  refine x_iconst (pc := 14) K dX8_init_14 ?_
  refine x_newa_iarr (pc := 15) 4 K (by decide +kernel) rfl (by decide) (Nat.le_of_ble_eq_true rfl) (Nat.le_of_ble_eq_true rfl) dX8_init_15 ?_
  refine x_N (M := (c + 3)) rfl ?_
  refine x_putF (pc := 17) (C := RX8) (T := TX8) (n := 9) (ci := 7) (idx := 15) (ref := "BorderBeds$Tape") (ty := .array .int)  K (cel_ne (cel_ne (cel_self (Nat.lt_of_lt_of_le hc0.1 (by omega))) (by omega)) (by omega)) rfl (by decide +kernel) tyX8 tyX8_ok nmX8 1 (by decide) (by decide +kernel) rfl rfl hnm rfl (by decide +kernel) rfl rfl (Nat.le_of_ble_eq_true rfl) dX8_init_17 ?_
  refine x_v (w := (va_up (va_up (va_up v c (.inr (7, [.ref (B + (c + 1)), .ref (B + (c + 2)), .int (zI 0), .int (zI 0), .int (zI 0), .int (zI 0), .int (zI 0), .int (zI 0), .int (zI 0)]))) (c + 1) (iarr E 400 (fun _ => 0))) (c + 2) (iarr E 4 (fun _ => 0)))) (up_at2 (by omega) (by omega)).symm ?_
  refine x_aload_n (pc := 20) 0 K rfl rfl dX8_init_20 ?_
  refine x_iconst (pc := 21) K dX8_init_21 ?_
  refine x_put (pc := 22) (C := RX8) (T := TX8) (n := 9) (ci := 7) (idx := 18) (ref := "BorderBeds$Tape") (ty := .int)  K (cel_ne (cel_ne (cel_self (Nat.lt_of_lt_of_le hc0.1 (by omega))) (by omega)) (by omega)) rfl (by decide +kernel) tyX8 tyX8_ok nmX8 2 (by decide) (by decide +kernel) rfl rfl (by decide +kernel) rfl rfl (Nat.le_of_ble_eq_true rfl) dX8_init_22 ?_
  refine x_v (w := (va_up (va_up (va_up v c (.inr (7, [.ref (B + (c + 1)), .ref (B + (c + 2)), .int (zI 0), .int (zI 0), .int (zI 0), .int (zI 0), .int (zI 0), .int (zI 0), .int (zI 0)]))) (c + 1) (iarr E 400 (fun _ => 0))) (c + 2) (iarr E 4 (fun _ => 0)))) (up_at2 (by omega) (by omega)).symm ?_
  refine x_aload_n (pc := 25) 0 K rfl rfl dX8_init_25 ?_
  refine x_iconst (pc := 26) K dX8_init_26 ?_
  refine x_put (pc := 27) (C := RX8) (T := TX8) (n := 9) (ci := 7) (idx := 22) (ref := "BorderBeds$Tape") (ty := .int)  K (cel_ne (cel_ne (cel_self (Nat.lt_of_lt_of_le hc0.1 (by omega))) (by omega)) (by omega)) rfl (by decide +kernel) tyX8 tyX8_ok nmX8 3 (by decide) (by decide +kernel) rfl rfl (by decide +kernel) rfl rfl (Nat.le_of_ble_eq_true rfl) dX8_init_27 ?_
  refine x_v (w := (va_up (va_up (va_up v c (.inr (7, [.ref (B + (c + 1)), .ref (B + (c + 2)), .int (zI 0), .int (zI 0), .int (zI 0), .int (zI 0), .int (zI 0), .int (zI 0), .int (zI 0)]))) (c + 1) (iarr E 400 (fun _ => 0))) (c + 2) (iarr E 4 (fun _ => 0)))) (up_at2 (by omega) (by omega)).symm ?_
  refine x_aload_n (pc := 30) 0 K rfl rfl dX8_init_30 ?_
  refine x_iconst (pc := 31) K dX8_init_31 ?_
  refine x_put (pc := 32) (C := RX8) (T := TX8) (n := 9) (ci := 7) (idx := 25) (ref := "BorderBeds$Tape") (ty := .int)  K (cel_ne (cel_ne (cel_self (Nat.lt_of_lt_of_le hc0.1 (by omega))) (by omega)) (by omega)) rfl (by decide +kernel) tyX8 tyX8_ok nmX8 4 (by decide) (by decide +kernel) rfl rfl (by decide +kernel) rfl rfl (Nat.le_of_ble_eq_true rfl) dX8_init_32 ?_
  refine x_v (w := (va_up (va_up (va_up v c (.inr (7, [.ref (B + (c + 1)), .ref (B + (c + 2)), .int (zI 0), .int (zI 0), .int (zI 0), .int (zI 0), .int (zI 0), .int (zI 0), .int (zI 0)]))) (c + 1) (iarr E 400 (fun _ => 0))) (c + 2) (iarr E 4 (fun _ => 0)))) (up_at2 (by omega) (by omega)).symm ?_
  refine x_aload_n (pc := 35) 0 K rfl rfl dX8_init_35 ?_
  refine x_iconst (pc := 36) K dX8_init_36 ?_
  refine x_put (pc := 37) (C := RX8) (T := TX8) (n := 9) (ci := 7) (idx := 28) (ref := "BorderBeds$Tape") (ty := .int)  K (cel_ne (cel_ne (cel_self (Nat.lt_of_lt_of_le hc0.1 (by omega))) (by omega)) (by omega)) rfl (by decide +kernel) tyX8 tyX8_ok nmX8 5 (by decide) (by decide +kernel) rfl rfl (by decide +kernel) rfl rfl (Nat.le_of_ble_eq_true rfl) dX8_init_37 ?_
  refine x_v (w := (va_up (va_up (va_up v c (.inr (7, [.ref (B + (c + 1)), .ref (B + (c + 2)), .int (zI 0), .int (zI 0), .int (zI 0), .int (zI 0), .int (zI 0), .int (zI 0), .int (zI 0)]))) (c + 1) (iarr E 400 (fun _ => 0))) (c + 2) (iarr E 4 (fun _ => 0)))) (up_at2 (by omega) (by omega)).symm ?_
  refine x_aload_n (pc := 40) 0 K rfl rfl dX8_init_40 ?_
  refine x_iconst (pc := 41) K dX8_init_41 ?_
  refine x_put (pc := 42) (C := RX8) (T := TX8) (n := 9) (ci := 7) (idx := 31) (ref := "BorderBeds$Tape") (ty := .int)  K (cel_ne (cel_ne (cel_self (Nat.lt_of_lt_of_le hc0.1 (by omega))) (by omega)) (by omega)) rfl (by decide +kernel) tyX8 tyX8_ok nmX8 6 (by decide) (by decide +kernel) rfl rfl (by decide +kernel) rfl rfl (Nat.le_of_ble_eq_true rfl) dX8_init_42 ?_
  refine x_v (w := (va_up (va_up (va_up v c (.inr (7, [.ref (B + (c + 1)), .ref (B + (c + 2)), .int (zI 0), .int (zI 0), .int (zI 0), .int (zI 0), .int (zI 0), .int (zI 0), .int (zI 0)]))) (c + 1) (iarr E 400 (fun _ => 0))) (c + 2) (iarr E 4 (fun _ => 0)))) (up_at2 (by omega) (by omega)).symm ?_
  refine x_aload_n (pc := 45) 0 K rfl rfl dX8_init_45 ?_
  refine x_iconst (pc := 46) K dX8_init_46 ?_
  refine x_put (pc := 47) (C := RX8) (T := TX8) (n := 9) (ci := 7) (idx := 34) (ref := "BorderBeds$Tape") (ty := .int)  K (cel_ne (cel_ne (cel_self (Nat.lt_of_lt_of_le hc0.1 (by omega))) (by omega)) (by omega)) rfl (by decide +kernel) tyX8 tyX8_ok nmX8 7 (by decide) (by decide +kernel) rfl rfl (by decide +kernel) rfl rfl (Nat.le_of_ble_eq_true rfl) dX8_init_47 ?_
  refine x_v (w := (va_up (va_up (va_up v c (.inr (7, [.ref (B + (c + 1)), .ref (B + (c + 2)), .int (zI 0), .int (zI 0), .int (zI 0), .int (zI 0), .int (zI 0), .int (zI 0), .int (zI 0)]))) (c + 1) (iarr E 400 (fun _ => 0))) (c + 2) (iarr E 4 (fun _ => 0)))) (up_at2 (by omega) (by omega)).symm ?_
  refine x_aload_n (pc := 50) 0 K rfl rfl dX8_init_50 ?_
  refine x_iconst (pc := 51) K dX8_init_51 ?_
  refine x_put (pc := 52) (C := RX8) (T := TX8) (n := 9) (ci := 7) (idx := 37) (ref := "BorderBeds$Tape") (ty := .int)  K (cel_ne (cel_ne (cel_self (Nat.lt_of_lt_of_le hc0.1 (by omega))) (by omega)) (by omega)) rfl (by decide +kernel) tyX8 tyX8_ok nmX8 8 (by decide) (by decide +kernel) rfl rfl (by decide +kernel) rfl rfl (Nat.le_of_ble_eq_true rfl) dX8_init_52 ?_
  refine x_v (w := (va_up (va_up (va_up v c (.inr (7, [.ref (B + (c + 1)), .ref (B + (c + 2)), .int (zI 0), .int (zI 0), .int (zI 0), .int (zI 0), .int (zI 0), .int (zI 0), .int (zI 0)]))) (c + 1) (iarr E 400 (fun _ => 0))) (c + 2) (iarr E 4 (fun _ => 0)))) (up_at2 (by omega) (by omega)).symm ?_
  refine x_vret (pc := 55) K KR (by omega) (Nat.le_of_ble_eq_true rfl) (Nat.le_of_ble_eq_true rfl) dX8_init_55 ?_
  exact ⟨rfl, rfl, rfl⟩
