theorem dX8_fails_0 : decode cX8_fails 0 = .ok (.aload_n 0, 1) := by decide +kernel
theorem dX8_fails_1 : decode cX8_fails 1 = .ok (.iload_n 1, 1) := by decide +kernel
theorem dX8_fails_2 : decode cX8_fails 2 = .ok (.putfield 22, 3) := by decide +kernel
theorem dX8_fails_5 : decode cX8_fails 5 = .ok (.aload_n 0, 1) := by decide +kernel
theorem dX8_fails_6 : decode cX8_fails 6 = .ok (.aload_n 0, 1) := by decide +kernel
theorem dX8_fails_7 : decode cX8_fails 7 = .ok (.getfield 31, 3) := by decide +kernel
theorem dX8_fails_10 : decode cX8_fails 10 = .ok (.putfield 25, 3) := by decide +kernel
theorem dX8_fails_13 : decode cX8_fails 13 = .ok (.iconst 0, 1) := by decide +kernel
theorem dX8_fails_14 : decode cX8_fails 14 = .ok (.ireturn, 1) := by decide +kernel
theorem dX8_isWord_0 : decode cX8_isWord 0 = .ok (.aload_n 0, 1) := by decide +kernel
theorem dX8_isWord_1 : decode cX8_isWord 1 = .ok (.getfield 28, 3) := by decide +kernel
theorem dX8_isWord_4 : decode cX8_isWord 4 = .ok (.iconst 1, 1) := by decide +kernel
theorem dX8_isWord_5 : decode cX8_isWord 5 = .ok (.if_icmp .ne 19, 3) := by decide +kernel
theorem dX8_isWord_24 : decode cX8_isWord 24 = .ok (.iconst 0, 1) := by decide +kernel
theorem dX8_isWord_25 : decode cX8_isWord 25 = .ok (.ireturn, 1) := by decide +kernel
theorem dX8_isWord_8 : decode cX8_isWord 8 = .ok (.aload_n 0, 1) := by decide +kernel
theorem dX8_isWord_9 : decode cX8_isWord 9 = .ok (.getfield 34, 3) := by decide +kernel
theorem dX8_isWord_12 : decode cX8_isWord 12 = .ok (.aload_n 0, 1) := by decide +kernel
theorem dX8_isWord_13 : decode cX8_isWord 13 = .ok (.getfield 31, 3) := by decide +kernel
theorem dX8_isWord_16 : decode cX8_isWord 16 = .ok (.isub, 1) := by decide +kernel
theorem dX8_isWord_17 : decode cX8_isWord 17 = .ok (.aload_n 1, 1) := by decide +kernel
set_option maxRecDepth 20000 in
theorem ggX8_isWord_J0_length_8abf5 : GoodIn wsX8_isWord wsJ0_length_8abf5 := goodIn_r _ [9, 10, 11, 12, 13, 8, 14, 15, 16] (by decide +kernel) (by decide +kernel)
set_option maxRecDepth 20000 in
theorem gX8_isWord_J0_length_8abf5 : GoodIn wsX8_isWord (wsV RX8 131 RJ0 yJ0_length_8abf5 wsJ0_length_8abf5) := goodIn_app (goodIn_of _ (by decide +kernel)) ggX8_isWord_J0_length_8abf5
theorem dX8_isWord_18 : decode cX8_isWord 18 = .ok (.invokevirtual 131, 3) := by decide +kernel
theorem dX8_isWord_21 : decode cX8_isWord 21 = .ok (.if_icmp .eq 5, 3) := by decide +kernel
theorem dX8_isWord_26 : decode cX8_isWord 26 = .ok (.iconst 0, 1) := by decide +kernel
theorem dX8_isWord_27 : decode cX8_isWord 27 = .ok (.istore_n 2, 1) := by decide +kernel
theorem dX8_isWord_28 : decode cX8_isWord 28 = .ok (.iload_n 2, 1) := by decide +kernel
theorem dX8_isWord_29 : decode cX8_isWord 29 = .ok (.aload_n 1, 1) := by decide +kernel
theorem dX8_isWord_30 : decode cX8_isWord 30 = .ok (.invokevirtual 131, 3) := by decide +kernel
theorem dX8_isWord_33 : decode cX8_isWord 33 = .ok (.if_icmp .ge 30, 3) := by decide +kernel
theorem dX8_isWord_63 : decode cX8_isWord 63 = .ok (.iconst 1, 1) := by decide +kernel
theorem dX8_isWord_64 : decode cX8_isWord 64 = .ok (.ireturn, 1) := by decide +kernel
theorem dX8_isWord_36 : decode cX8_isWord 36 = .ok (.aload_n 0, 1) := by decide +kernel
theorem dX8_isWord_37 : decode cX8_isWord 37 = .ok (.getfield 11, 3) := by decide +kernel
theorem dX8_isWord_40 : decode cX8_isWord 40 = .ok (.aload_n 0, 1) := by decide +kernel
theorem dX8_isWord_41 : decode cX8_isWord 41 = .ok (.getfield 31, 3) := by decide +kernel
theorem dX8_isWord_44 : decode cX8_isWord 44 = .ok (.iload_n 2, 1) := by decide +kernel
theorem dX8_isWord_45 : decode cX8_isWord 45 = .ok (.iadd, 1) := by decide +kernel
theorem dX8_isWord_46 : decode cX8_isWord 46 = .ok (.iaload, 1) := by decide +kernel
theorem dX8_isWord_47 : decode cX8_isWord 47 = .ok (.aload_n 1, 1) := by decide +kernel
theorem dX8_isWord_48 : decode cX8_isWord 48 = .ok (.iload_n 2, 1) := by decide +kernel
set_option maxRecDepth 20000 in
theorem ggX8_isWord_J0_charAt_5068e : GoodIn wsX8_isWord wsJ0_charAt_5068e := goodIn_r _ [20, 10, 21, 22, 23, 8, 24, 15, 16, 25, 26, 27, 28, 29, 30, 31, 32, 33, 34, 35, 36, 37, 38, 39, 40, 41, 42, 43, 44, 45, 46, 47, 48, 49, 50, 51, 52, 53] (by decide +kernel) (by decide +kernel)
set_option maxRecDepth 20000 in
theorem gX8_isWord_J0_charAt_5068e : GoodIn wsX8_isWord (wsV RX8 136 RJ0 yJ0_charAt_5068e wsJ0_charAt_5068e) := goodIn_app (goodIn_of _ (by decide +kernel)) ggX8_isWord_J0_charAt_5068e
theorem dX8_isWord_49 : decode cX8_isWord 49 = .ok (.invokevirtual 136, 3) := by decide +kernel
theorem dX8_isWord_52 : decode cX8_isWord 52 = .ok (.if_icmp .eq 5, 3) := by decide +kernel
theorem dX8_isWord_57 : decode cX8_isWord 57 = .ok (.iinc 2 1, 3) := by decide +kernel
theorem dX8_isWord_60 : decode cX8_isWord 60 = .ok (.goto (-32), 3) := by decide +kernel
theorem dX8_isWord_55 : decode cX8_isWord 55 = .ok (.iconst 0, 1) := by decide +kernel
theorem dX8_isWord_56 : decode cX8_isWord 56 = .ok (.ireturn, 1) := by decide +kernel
theorem dX8_sign_0 : decode cX8_sign 0 = .ok (.aload_n 0, 1) := by decide +kernel
theorem dX8_sign_1 : decode cX8_sign 1 = .ok (.getfield 28, 3) := by decide +kernel
theorem dX8_sign_4 : decode cX8_sign 4 = .ok (.iconst 3, 1) := by decide +kernel
theorem dX8_sign_5 : decode cX8_sign 5 = .ok (.if_icmp .eq 9, 3) := by decide +kernel
theorem dX8_sign_14 : decode cX8_sign 14 = .ok (.aload_n 0, 1) := by decide +kernel
set_option maxRecDepth 20000 in
theorem ggX8_sign_X8_step : GoodIn wsX8_sign wsX8_step := goodIn_r _ [13, 14, 8, 15, 16, 1, 17, 18, 5, 19, 20, 21, 22, 23, 24, 25, 26, 27, 28, 29, 30, 31, 32, 33, 34, 35, 36, 37, 38, 39, 40, 41, 42, 43] (by decide +kernel) (by decide +kernel)
set_option maxRecDepth 20000 in
theorem gX8_sign_X8_step : GoodIn wsX8_sign (wsV RX8 43 RX8 yX8_step wsX8_step) := goodIn_app (goodIn_of _ (by decide +kernel)) ggX8_sign_X8_step
theorem dX8_sign_15 : decode cX8_sign 15 = .ok (.invokevirtual 43, 3) := by decide +kernel
theorem dX8_sign_18 : decode cX8_sign 18 = .ok (.iconst 1, 1) := by decide +kernel
theorem dX8_sign_19 : decode cX8_sign 19 = .ok (.ireturn, 1) := by decide +kernel
theorem dX8_sign_8 : decode cX8_sign 8 = .ok (.aload_n 0, 1) := by decide +kernel
theorem dX8_sign_9 : decode cX8_sign 9 = .ok (.iconst 1, 1) := by decide +kernel
set_option maxRecDepth 20000 in
theorem ggX8_sign_X8_fails : GoodIn wsX8_sign wsX8_fails := goodIn_r _ [6, 7, 8, 9, 35, 36, 37, 38, 39, 40, 41, 42, 43] (by decide +kernel) (by decide +kernel)
set_option maxRecDepth 20000 in
theorem gX8_sign_X8_fails : GoodIn wsX8_sign (wsV RX8 59 RX8 yX8_fails wsX8_fails) := goodIn_app (goodIn_of _ (by decide +kernel)) ggX8_sign_X8_fails
theorem dX8_sign_10 : decode cX8_sign 10 = .ok (.invokevirtual 59, 3) := by decide +kernel
theorem dX8_sign_13 : decode cX8_sign 13 = .ok (.ireturn, 1) := by decide +kernel
theorem dX8_number_0 : decode cX8_number 0 = .ok (.aload_n 0, 1) := by decide +kernel
theorem dX8_number_1 : decode cX8_number 1 = .ok (.getfield 28, 3) := by decide +kernel
theorem dX8_number_4 : decode cX8_number 4 = .ok (.iconst 2, 1) := by decide +kernel
theorem dX8_number_5 : decode cX8_number 5 = .ok (.if_icmp .eq 9, 3) := by decide +kernel
theorem dX8_number_14 : decode cX8_number 14 = .ok (.aload_n 0, 1) := by decide +kernel
theorem dX8_number_15 : decode cX8_number 15 = .ok (.getfield 37, 3) := by decide +kernel
theorem dX8_number_18 : decode cX8_number 18 = .ok (.iload_n 2, 1) := by decide +kernel
theorem dX8_number_19 : decode cX8_number 19 = .ok (.if_icmp .lt 11, 3) := by decide +kernel
theorem dX8_number_30 : decode cX8_number 30 = .ok (.aload_n 0, 1) := by decide +kernel
theorem dX8_number_31 : decode cX8_number 31 = .ok (.iconst 2, 1) := by decide +kernel
set_option maxRecDepth 20000 in
theorem ggX8_number_X8_fails : GoodIn wsX8_number wsX8_fails := goodIn_r _ [8, 9, 10, 11, 36, 37, 38, 39, 40, 41, 42, 43, 44] (by decide +kernel) (by decide +kernel)
set_option maxRecDepth 20000 in
theorem gX8_number_X8_fails : GoodIn wsX8_number (wsV RX8 59 RX8 yX8_fails wsX8_fails) := goodIn_app (goodIn_of _ (by decide +kernel)) ggX8_number_X8_fails
theorem dX8_number_32 : decode cX8_number 32 = .ok (.invokevirtual 59, 3) := by decide +kernel
theorem dX8_number_35 : decode cX8_number 35 = .ok (.ireturn, 1) := by decide +kernel
theorem dX8_number_22 : decode cX8_number 22 = .ok (.aload_n 0, 1) := by decide +kernel
theorem dX8_number_23 : decode cX8_number 23 = .ok (.getfield 37, 3) := by decide +kernel
theorem dX8_number_26 : decode cX8_number 26 = .ok (.iload_n 3, 1) := by decide +kernel
theorem dX8_number_27 : decode cX8_number 27 = .ok (.if_icmp .le 9, 3) := by decide +kernel
theorem dX8_number_36 : decode cX8_number 36 = .ok (.aload_n 0, 1) := by decide +kernel
theorem dX8_number_37 : decode cX8_number 37 = .ok (.getfield 15, 3) := by decide +kernel
theorem dX8_number_40 : decode cX8_number 40 = .ok (.iload_n 1, 1) := by decide +kernel
theorem dX8_number_41 : decode cX8_number 41 = .ok (.aload_n 0, 1) := by decide +kernel
theorem dX8_number_42 : decode cX8_number 42 = .ok (.getfield 37, 3) := by decide +kernel
theorem dX8_number_45 : decode cX8_number 45 = .ok (.iastore, 1) := by decide +kernel
theorem dX8_number_46 : decode cX8_number 46 = .ok (.aload_n 0, 1) := by decide +kernel
set_option maxRecDepth 20000 in
theorem ggX8_number_X8_step : GoodIn wsX8_number wsX8_step := goodIn_r _ [15, 16, 10, 17, 18, 1, 19, 20, 7, 21, 22, 23, 24, 25, 26, 27, 28, 29, 30, 31, 32, 33, 34, 35, 2, 36, 37, 38, 39, 40, 41, 42, 43, 44] (by decide +kernel) (by decide +kernel)
set_option maxRecDepth 20000 in
theorem gX8_number_X8_step : GoodIn wsX8_number (wsV RX8 43 RX8 yX8_step wsX8_step) := goodIn_app (goodIn_of _ (by decide +kernel)) ggX8_number_X8_step
theorem dX8_number_47 : decode cX8_number 47 = .ok (.invokevirtual 43, 3) := by decide +kernel
theorem dX8_number_50 : decode cX8_number 50 = .ok (.iconst 1, 1) := by decide +kernel
theorem dX8_number_51 : decode cX8_number 51 = .ok (.ireturn, 1) := by decide +kernel
theorem dX8_number_8 : decode cX8_number 8 = .ok (.aload_n 0, 1) := by decide +kernel
theorem dX8_number_9 : decode cX8_number 9 = .ok (.iconst 1, 1) := by decide +kernel
theorem dX8_number_10 : decode cX8_number 10 = .ok (.invokevirtual 59, 3) := by decide +kernel
theorem dX8_number_13 : decode cX8_number 13 = .ok (.ireturn, 1) := by decide +kernel
set_option maxRecDepth 100000 in
set_option maxHeartbeats 4000000 in
theorem c_X8_fails {E : XE} {B N : Nat} {v : Nat → va_E} {f pl so s e vv k : Int} {n : Nat} (hc0 : Cel N v 2 (.inr (7, [.ref (B + 3), .ref (B + 4), .int (zI (n : Int)), .int (zI f), .int (zI pl), .int (zI so), .int (zI s), .int (zI e), .int (zI vv)]))) : gM yX8_fails wsX8_fails ({ frames := 0, cells := 0, slots := 0, locals := 0 }) E B N v [.ref (B + 2), .int (zI k)] (po0 N (fun ρ v' => ρ = some (.int (zI 0)) ∧ (va_up v 2 (.inr (7, [.ref (B + 3), .ref (B + 4), .int (zI (n : Int)), .int (zI k), .int (zI s), .int (zI so), .int (zI s), .int (zI e), .int (zI vv)]))) = v')) := by
  refine x_met (nm := "fails") (by decide +kernel) rfl (Nat.le_of_ble_eq_true rfl) rfl (fun Γ K KR hnL hnm => ?_)
  show XW Γ N v [(0, .ref (B + 2)), (1, .int (zI k))] 0 0 0 []
  refine x_v (cel_pad hc0) ?_
  refine x_aload_n (pc := 0) 0 K rfl rfl dX8_fails_0 ?_
  refine x_iload_n (pc := 1) 1 K rfl rfl dX8_fails_1 ?_
  refine x_put (pc := 2) (C := RX8) (T := TX8) (n := 9) (ci := 7) (idx := 22) (ref := "BorderBeds$Tape") (ty := .int)  K (cel_self hc0.1) rfl (by decide +kernel) tyX8 tyX8_ok nmX8 3 (by decide) (by decide +kernel) rfl rfl (by decide +kernel) rfl rfl (Nat.le_of_ble_eq_true rfl) dX8_fails_2 ?_
  refine x_v (w := (va_up v 2 (.inr (7, [.ref (B + 3), .ref (B + 4), .int (zI (n : Int)), .int (zI k), .int (zI pl), .int (zI so), .int (zI s), .int (zI e), .int (zI vv)])))) (up_at0).symm ?_
  refine x_aload_n (pc := 5) 0 K rfl rfl dX8_fails_5 ?_
  refine x_aload_n (pc := 6) 0 K rfl rfl dX8_fails_6 ?_
  refine x_get (pc := 7) (C := RX8) (T := TX8) (n := 9) (ci := 7) (idx := 31) (ref := "BorderBeds$Tape") (x := .int (zI s))  K (cel_self hc0.1) rfl (by decide +kernel) 6 (by decide) (by decide +kernel) rfl rfl dX8_fails_7 ?_
  refine x_put (pc := 10) (C := RX8) (T := TX8) (n := 9) (ci := 7) (idx := 25) (ref := "BorderBeds$Tape") (ty := .int)  K (cel_self hc0.1) rfl (by decide +kernel) tyX8 tyX8_ok nmX8 4 (by decide) (by decide +kernel) rfl rfl (by decide +kernel) rfl rfl (Nat.le_of_ble_eq_true rfl) dX8_fails_10 ?_
  refine x_v (w := (va_up v 2 (.inr (7, [.ref (B + 3), .ref (B + 4), .int (zI (n : Int)), .int (zI k), .int (zI s), .int (zI so), .int (zI s), .int (zI e), .int (zI vv)])))) (up_at0).symm ?_
  refine x_iconst (pc := 13) K dX8_fails_13 ?_
  refine x_zret (pc := 14) K KR (by omega) (Nat.le_of_ble_eq_true rfl) (Nat.le_of_ble_eq_true rfl) rfl dX8_fails_14 ?_
  exact ⟨rfl, rfl, rfl⟩

set_option maxRecDepth 100000 in
set_option maxHeartbeats 4000000 in
theorem c_X8_isWord {E : XE} {B N : Nat} {v : Nat → va_E} {f pl vv : Int} {t : Nat → Int} {a n i : Nat} (hc0 : Cel N v 2 (.inr (7, [.ref (B + 3), .ref (B + 4), .int (zI (n : Int)), .int (zI f), .int (zI pl), .int (zI (tokK t n a)), .int (zI (((skT t n a) : Nat) : Int)), .int (zI (((tokE t n a) : Nat) : Int)), .int (zI vv)]))) (hc1 : Cel N v 3 (iarr E 400 t)) (hq0 : a ≤ n ∧ n ≤ 400) (hq1 : ∀ i : Nat, 0 ≤ t i ∧ t i ≤ 255) (hq2 : i < 9) : gM yX8_isWord wsX8_isWord ({ frames := 4, cells := 0, slots := 0, locals := 90 }) E B N v [.ref (B + 2), .ref (E.2.2.1 i)] (po0 N (fun ρ v' => ∃ (res : Int), ((res = 1 ∧ isW t n a i) ∨ (res = 0 ∧ ¬ isW t n a i)) ∧ ρ = some (.int (zI res)) ∧ v = v')) := by
  refine x_met (nm := "isWord") (by decide +kernel) rfl (Nat.le_of_ble_eq_true rfl) rfl (fun Γ K KR hnL hnm => ?_)
  show XW Γ N v [(0, .ref (B + 2)), (1, .ref (E.2.2.1 i))] 0 0 0 []
  have hkr := tokK_rng t n a
  have her := tokE_rng (t := t) hq0.1
  have hsr := skT_le (t := t) hq0.1
  have h7 := xLen_31 hq2
  refine x_aload_n (pc := 0) 0 K rfl rfl dX8_isWord_0 ?_
  refine x_get (pc := 1) (C := RX8) (T := TX8) (n := 9) (ci := 7) (idx := 28) (ref := "BorderBeds$Tape") (x := .int (zI (tokK t n a)))  K hc0 rfl (by decide +kernel) 5 (by decide) (by decide +kernel) rfl rfl dX8_isWord_1 ?_
  refine x_iconst (pc := 4) K dX8_isWord_4 ?_
  refine x_icmp_ne (pc := 5) (tgt := 24) K (by omega) (by decide) dX8_isWord_5 (by decide) (fun h_5 => ?_) (fun h_5 => ?_)
  · skip
    refine x_iconst (pc := 24) K dX8_isWord_24 ?_
    refine x_zret (pc := 25) K KR (by omega) (Nat.le_of_ble_eq_true rfl) (Nat.le_of_ble_eq_true rfl) rfl dX8_isWord_25 ?_
    exact ⟨rfl, 0, (Or.inr ⟨rfl, fun q => by have := q.1; have h2 := q.2.1; omega⟩), rfl, rfl⟩
  · skip
    have htn := tok_name hq0.1 (show tokK t n a = 1 by omega)
    refine x_aload_n (pc := 8) 0 K rfl rfl dX8_isWord_8 ?_
    refine x_get (pc := 9) (C := RX8) (T := TX8) (n := 9) (ci := 7) (idx := 34) (ref := "BorderBeds$Tape") (x := .int (zI (((tokE t n a) : Nat) : Int)))  K hc0 rfl (by decide +kernel) 7 (by decide) (by decide +kernel) rfl rfl dX8_isWord_9 ?_
    refine x_aload_n (pc := 12) 0 K rfl rfl dX8_isWord_12 ?_
    refine x_get (pc := 13) (C := RX8) (T := TX8) (n := 9) (ci := 7) (idx := 31) (ref := "BorderBeds$Tape") (x := .int (zI (((skT t n a) : Nat) : Int)))  K hc0 rfl (by decide +kernel) 6 (by decide) (by decide +kernel) rfl rfl dX8_isWord_13 ?_
    refine x_isub (pc := 16) K dX8_isWord_16 ?_
    refine x_aload_n (pc := 17) 1 K rfl rfl dX8_isWord_17 ?_
    refine x_callK (pc := 18) (i := i) (As := []) (st := [.int (zI ((((tokE t n a) : Nat) : Int) - (((skT t n a) : Nat) : Int)))]) K hq2 (c_slen (E := E) (B := B) (N := N) (i := i) hq2) gX8_isWord_J0_length_8abf5 rfl (na := 0) (by decide +kernel) rfl ⟨(Nat.le_of_ble_eq_true rfl), (Nat.le_of_ble_eq_true rfl)⟩ rfl (Nat.le_of_ble_eq_true rfl) ⟨(Nat.le_of_ble_eq_true rfl), (Nat.le_of_ble_eq_true rfl)⟩ dX8_isWord_18 (fun r18 N18 w18 hpo18 hN18 => ?_)
    obtain ⟨rfl, rfl, rfl⟩ := hpo18
    refine x_st (st' := [.int (zI (((xLen.getD i 0) : Nat) : Int)), .int (zI ((((tokE t n a) : Nat) : Int) - (((skT t n a) : Nat) : Int)))]) rfl ?_
    refine x_icmp_eq (pc := 21) (tgt := 26) K (by omega) (by omega) dX8_isWord_21 (by decide) (fun h_21 => ?_) (fun h_21 => ?_)
    · skip
      have hlen : tokE t n a = skT t n a + xLen.getD i 0 := by omega
      refine x_iconst (pc := 26) K dX8_isWord_26 ?_
      refine x_istore_n (pc := 27) K (L' := [(2, .int (zI 0)), (0, .ref (B + 2)), (1, .ref (E.2.2.1 i))]) hnL rfl (by decide) rfl dX8_isWord_27 ?_
      have LOOP28 : ∀ (n_28 : Nat) (k : Nat), (k ≤ xLen.getD i 0) → (∀ j, j < k → t (skT t n a + j) = xCh i j) → (xLen.getD i 0 - k) < n_28 → XW Γ N v [(0, .ref (B + 2)), (1, .ref (E.2.2.1 i)), (2, .int (zI (k : Int)))] 0 0 28 [] := by
        intro n_28
        induction n_28 with
        | zero =>
          intro k hi28_0 hi28_1 hm_28
          exfalso; omega
        | succ n_28 ih28 =>
          intro k hi28_0 hi28_1 hm_28
          refine x_iload_n (pc := 28) 2 K rfl rfl dX8_isWord_28 ?_
          refine x_aload_n (pc := 29) 1 K rfl rfl dX8_isWord_29 ?_
          refine x_callK (pc := 30) (i := i) (As := []) (st := [.int (zI (k : Int))]) K hq2 (c_slen (E := E) (B := B) (N := N) (i := i) hq2) gX8_isWord_J0_length_8abf5 rfl (na := 0) (by decide +kernel) rfl ⟨(Nat.le_of_ble_eq_true rfl), (Nat.le_of_ble_eq_true rfl)⟩ rfl (Nat.le_of_ble_eq_true rfl) ⟨(Nat.le_of_ble_eq_true rfl), (Nat.le_of_ble_eq_true rfl)⟩ dX8_isWord_30 (fun r30 N30 w30 hpo30 hN30 => ?_)
          obtain ⟨rfl, rfl, rfl⟩ := hpo30
          refine x_st (st' := [.int (zI (((xLen.getD i 0) : Nat) : Int)), .int (zI (k : Int))]) rfl ?_
          refine x_icmp_ge (pc := 33) (tgt := 63) K (by omega) (by omega) dX8_isWord_33 (by decide) (fun h_33 => ?_) (fun h_33 => ?_)
          · skip
            refine x_iconst (pc := 63) K dX8_isWord_63 ?_
            refine x_zret (pc := 64) K KR (by omega) (Nat.le_of_ble_eq_true rfl) (Nat.le_of_ble_eq_true rfl) rfl dX8_isWord_64 ?_
            exact ⟨rfl, 1, (Or.inl ⟨rfl, by omega, hlen, fun j hj => hi28_1 j (by omega)⟩), rfl, rfl⟩
          · skip
            have hk52 : k < xLen.getD i 0 := by omega
            have b46 := hq1 (skT t n a + k)
            have hc52 := xCh_rng hq2 hk52
            refine x_aload_n (pc := 36) 0 K rfl rfl dX8_isWord_36 ?_
            refine x_get (pc := 37) (C := RX8) (T := TX8) (n := 9) (ci := 7) (idx := 11) (ref := "BorderBeds$Tape") (x := .ref (B + 3))  K hc0 rfl (by decide +kernel) 0 (by decide) (by decide +kernel) rfl rfl dX8_isWord_37 ?_
            refine x_aload_n (pc := 40) 0 K rfl rfl dX8_isWord_40 ?_
            refine x_get (pc := 41) (C := RX8) (T := TX8) (n := 9) (ci := 7) (idx := 31) (ref := "BorderBeds$Tape") (x := .int (zI (((skT t n a) : Nat) : Int)))  K hc0 rfl (by decide +kernel) 6 (by decide) (by decide +kernel) rfl rfl dX8_isWord_41 ?_
            refine x_iload_n (pc := 44) 2 K rfl rfl dX8_isWord_44 ?_
            refine x_iadd (pc := 45) K dX8_isWord_45 ?_
            refine x_iald (pc := 46) ((skT t n a) + k) K hc1 (by omega) (by omega) (by decide) dX8_isWord_46 ?_
            refine x_aload_n (pc := 47) 1 K rfl rfl dX8_isWord_47 ?_
            refine x_iload_n (pc := 48) 2 K rfl rfl dX8_isWord_48 ?_
            refine x_callK (pc := 49) (i := i) (As := [.int (zI (k : Int))]) (st := [.int (zI (t ((skT t n a) + k)))]) K hq2 (c_schar (E := E) (B := B) (N := N) (i := i) (k := k) hq2 hk52) gX8_isWord_J0_charAt_5068e rfl (na := 1) (by decide +kernel) rfl ⟨(Nat.le_of_ble_eq_true rfl), (Nat.le_of_ble_eq_true rfl)⟩ rfl (Nat.le_of_ble_eq_true rfl) ⟨(Nat.le_of_ble_eq_true rfl), (Nat.le_of_ble_eq_true rfl)⟩ dX8_isWord_49 (fun r49 N49 w49 hpo49 hN49 => ?_)
            obtain ⟨rfl, rfl, rfl⟩ := hpo49
            refine x_st (st' := [.int (zI (xCh i k)), .int (zI (t ((skT t n a) + k)))]) rfl ?_
            refine x_icmp_eq (pc := 52) (tgt := 57) K (by omega) (by omega) dX8_isWord_52 (by decide) (fun h_52 => ?_) (fun h_52 => ?_)
            · skip
              refine x_iinc (pc := 57) (L' := [(2, .int (zI ((k : Int) + 1))), (0, .ref (B + 2)), (1, .ref (E.2.2.1 i))]) 2 K hnL rfl (by decide) rfl dX8_isWord_57 ?_
              refine x_goto (pc := 60) (tgt := 28) K dX8_isWord_60 (by decide) ?_
              refine x_sub (L' := [(0, .ref (B + 2)), (1, .ref (E.2.2.1 i)), (2, .int (zI ((k : Int) + 1)))]) [1, 2, 0] rfl ?_
              exact ih28 (k + 1) (by omega) (by exact afill_s hi28_1 (by omega)) (by omega)
            · skip
              refine x_iconst (pc := 55) K dX8_isWord_55 ?_
              refine x_zret (pc := 56) K KR (by omega) (Nat.le_of_ble_eq_true rfl) (Nat.le_of_ble_eq_true rfl) rfl dX8_isWord_56 ?_
              exact ⟨rfl, 0, (Or.inr ⟨rfl, fun q => by have := q.2.2 k hk52; omega⟩), rfl, rfl⟩
      refine x_sub (L' := [(0, .ref (B + 2)), (1, .ref (E.2.2.1 i)), (2, .int (zI 0))]) [1, 2, 0] rfl ?_
      exact LOOP28 (_) 0 (by omega) (by exact fun j hj => absurd hj (Nat.not_lt_zero _)) (Nat.lt_succ_self _)
    · skip
      refine x_iconst (pc := 24) K dX8_isWord_24 ?_
      refine x_zret (pc := 25) K KR (by omega) (Nat.le_of_ble_eq_true rfl) (Nat.le_of_ble_eq_true rfl) rfl dX8_isWord_25 ?_
      exact ⟨rfl, 0, (Or.inr ⟨rfl, fun q => by have := q.1; have h2 := q.2.1; omega⟩), rfl, rfl⟩

set_option maxRecDepth 100000 in
set_option maxHeartbeats 4000000 in
theorem c_X8_sign {E : XE} {B N : Nat} {v : Nat → va_E} {f pl vv : Int} {t : Nat → Int} {a n : Nat} (hc0 : Cel N v 2 (.inr (7, [.ref (B + 3), .ref (B + 4), .int (zI (n : Int)), .int (zI f), .int (zI pl), .int (zI (tokK t n a)), .int (zI (((skT t n a) : Nat) : Int)), .int (zI (((tokE t n a) : Nat) : Int)), .int (zI vv)]))) (hc1 : Cel N v 3 (iarr E 400 t)) (hq0 : a ≤ n ∧ n ≤ 400) (hq1 : ∀ i : Nat, 0 ≤ t i ∧ t i ≤ 255) : gM yX8_sign wsX8_sign ({ frames := 3, cells := 0, slots := 0, locals := 60 }) E B N v [.ref (B + 2)] (po0 N (fun ρ v' => ∃ (res : Int), ∃ (f2 : Int), ∃ (pl2 : Int), ∃ (so2 : Int), ∃ (s2 : Int), ∃ (e2 : Int), ∃ (v2 : Int), ((∃ (x2 : Int) (e9 : Nat), (pSig t n a) = .ok (x2, e9) ∧ res = 1 ∧ (f2 = f ∧ pl2 = pl) ∧ TK t n e9 so2 s2 e2 v2) ∨ (∃ (g9 : Int) (p9 : Nat), (pSig t n a) = .error (g9, p9) ∧ res = 0 ∧ f2 = g9 ∧ pl2 = (p9 : Int))) ∧ ρ = some (.int (zI res)) ∧ (va_up v 2 (.inr (7, [.ref (B + 3), .ref (B + 4), .int (zI (n : Int)), .int (zI f2), .int (zI pl2), .int (zI so2), .int (zI s2), .int (zI e2), .int (zI v2)]))) = v')) := by
  refine x_met (nm := "sign") (by decide +kernel) rfl (Nat.le_of_ble_eq_true rfl) rfl (fun Γ K KR hnL hnm => ?_)
  show XW Γ N v [(0, .ref (B + 2))] 0 0 0 []
  have hkr := tokK_rng t n a
  have her := tokE_rng (t := t) hq0.1
  refine x_v (cel_pad hc0) ?_
  refine x_aload_n (pc := 0) 0 K rfl rfl dX8_sign_0 ?_
  refine x_get (pc := 1) (C := RX8) (T := TX8) (n := 9) (ci := 7) (idx := 28) (ref := "BorderBeds$Tape") (x := .int (zI (tokK t n a)))  K (cel_self hc0.1) rfl (by decide +kernel) 5 (by decide) (by decide +kernel) rfl rfl dX8_sign_1 ?_
  refine x_iconst (pc := 4) K dX8_sign_4 ?_
  refine x_icmp_eq (pc := 5) (tgt := 14) K (by omega) (by decide) dX8_sign_5 (by decide) (fun h_5 => ?_) (fun h_5 => ?_)
  · skip
    refine x_aload_n (pc := 14) 0 K rfl rfl dX8_sign_14 ?_
    refine x_callV (pc := 15) (C := RX8) (T := TX8) (n := 9) (ci := 7) (As := []) K (c_X8_step (E := E) (B := B) (N := N) (a := (tokE t n a)) (n := n)  (cel_self hc0.1) (cel_ne hc1 (by decide)) (by omega) hq1) gX8_sign_X8_step rfl (na := 0) (by decide +kernel) rfl ⟨(Nat.le_of_ble_eq_true rfl), (Nat.le_of_ble_eq_true rfl)⟩ (cel_self hc0.1) rfl (st := []) rfl (Nat.le_of_ble_eq_true rfl) ⟨(Nat.le_of_ble_eq_true rfl), (Nat.le_of_ble_eq_true rfl)⟩ dX8_sign_15 (fun r15 N15 w15 hpo15 hN15 => ?_)
    obtain ⟨rfl, v2_15, hp15_0, rfl, rfl⟩ := hpo15
    refine x_v (w := (va_up v 2 (.inr (7, [.ref (B + 3), .ref (B + 4), .int (zI (n : Int)), .int (zI f), .int (zI pl), .int (zI (tokK t n (tokE t n a))), .int (zI (((skT t n (tokE t n a)) : Nat) : Int)), .int (zI (((tokE t n (tokE t n a)) : Nat) : Int)), .int (zI v2_15)])))) (up_at0).symm ?_
    refine x_st (st' := []) rfl ?_
    refine x_iconst (pc := 18) K dX8_sign_18 ?_
    refine x_zret (pc := 19) K KR (by omega) (Nat.le_of_ble_eq_true rfl) (Nat.le_of_ble_eq_true rfl) rfl dX8_sign_19 ?_
    exact ⟨rfl, 1, f, pl, (tokK t n (tokE t n a)), (((skT t n (tokE t n a)) : Nat) : Int), (((tokE t n (tokE t n a)) : Nat) : Int), v2_15, (Or.inl ⟨0, tokE t n a, by unfold pSig; rw [if_pos (by omega)], rfl, ⟨rfl, rfl⟩, rfl, rfl, rfl, hp15_0⟩), rfl, rfl⟩
  · skip
    refine x_aload_n (pc := 8) 0 K rfl rfl dX8_sign_8 ?_
    refine x_iconst (pc := 9) K dX8_sign_9 ?_
    refine x_callV (pc := 10) (C := RX8) (T := TX8) (n := 9) (ci := 7) (As := [.int (zI 1)]) K (c_X8_fails (E := E) (B := B) (N := N)   (cel_self hc0.1) ) gX8_sign_X8_fails rfl (na := 1) (by decide +kernel) rfl ⟨(Nat.le_of_ble_eq_true rfl), (Nat.le_of_ble_eq_true rfl)⟩ (cel_self hc0.1) rfl (st := []) rfl (Nat.le_of_ble_eq_true rfl) ⟨(Nat.le_of_ble_eq_true rfl), (Nat.le_of_ble_eq_true rfl)⟩ dX8_sign_10 (fun r10 N10 w10 hpo10 hN10 => ?_)
    obtain ⟨rfl, rfl, rfl⟩ := hpo10
    refine x_v (w := (va_up v 2 (.inr (7, [.ref (B + 3), .ref (B + 4), .int (zI (n : Int)), .int (zI 1), .int (zI (((skT t n a) : Nat) : Int)), .int (zI (tokK t n a)), .int (zI (((skT t n a) : Nat) : Int)), .int (zI (((tokE t n a) : Nat) : Int)), .int (zI vv)])))) (up_at0).symm ?_
    refine x_st (st' := [.int (zI 0)]) rfl ?_
    refine x_zret (pc := 13) K KR (by omega) (Nat.le_of_ble_eq_true rfl) (Nat.le_of_ble_eq_true rfl) (nb_ok (by omega)) dX8_sign_13 ?_
    exact ⟨rfl, 0, 1, (((skT t n a) : Nat) : Int), (tokK t n a), (((skT t n a) : Nat) : Int), (((tokE t n a) : Nat) : Int), vv, (Or.inr ⟨1, skT t n a, by unfold pSig; rw [if_neg (by omega)], rfl, rfl, rfl⟩), rfl, rfl⟩

set_option maxRecDepth 100000 in
set_option maxHeartbeats 4000000 in
theorem c_X8_number {E : XE} {B N : Nat} {v : Nat → va_E} {f pl vv lo hi : Int} {t tl : Nat → Int} {a n i : Nat} {i_i : Int} (ha_i : i_i = (i : Int)) (hc0 : Cel N v 2 (.inr (7, [.ref (B + 3), .ref (B + 4), .int (zI (n : Int)), .int (zI f), .int (zI pl), .int (zI (tokK t n a)), .int (zI (((skT t n a) : Nat) : Int)), .int (zI (((tokE t n a) : Nat) : Int)), .int (zI vv)]))) (hc1 : Cel N v 3 (iarr E 400 t)) (hc2 : Cel N v 4 (iarr E 4 tl)) (hq0 : a ≤ n ∧ n ≤ 400) (hq1 : ∀ i : Nat, 0 ≤ t i ∧ t i ≤ 255) (hq2 : i < 4) (hq3 : (-2147483648 ≤ lo ∧ lo ≤ 2147483647)) (hq4 : (-2147483648 ≤ hi ∧ hi ≤ 2147483647)) (hq5 : tokK t n a = 2 → vv = tokV t n a) : gM yX8_number wsX8_number ({ frames := 3, cells := 0, slots := 0, locals := 60 }) E B N v [.ref (B + 2), .int (zI i_i), .int (zI lo), .int (zI hi)] (po0 N (fun ρ v' => ∃ (res : Int), ∃ (f2 : Int), ∃ (pl2 : Int), ∃ (so2 : Int), ∃ (s2 : Int), ∃ (e2 : Int), ∃ (v2 : Int), ∃ (tl2 : Nat → Int), ((∃ (x2 : Int) (e9 : Nat), (pNum t n lo hi a) = .ok (x2, e9) ∧ res = 1 ∧ (f2 = f ∧ pl2 = pl) ∧ TK t n e9 so2 s2 e2 v2 ∧ tl2 = va_up tl i x2) ∨ (∃ (g9 : Int) (p9 : Nat), (pNum t n lo hi a) = .error (g9, p9) ∧ res = 0 ∧ f2 = g9 ∧ pl2 = (p9 : Int))) ∧ ρ = some (.int (zI res)) ∧ (va_up (va_up v 2 (.inr (7, [.ref (B + 3), .ref (B + 4), .int (zI (n : Int)), .int (zI f2), .int (zI pl2), .int (zI so2), .int (zI s2), .int (zI e2), .int (zI v2)]))) 4 (iarr E 4 tl2)) = v')) := by
  subst ha_i
  refine x_met (nm := "number") (by decide +kernel) rfl (Nat.le_of_ble_eq_true rfl) rfl (fun Γ K KR hnL hnm => ?_)
  show XW Γ N v [(0, .ref (B + 2)), (1, .int (zI (i : Int))), (2, .int (zI lo)), (3, .int (zI hi))] 0 0 0 []
  have hkr := tokK_rng t n a
  have her := tokE_rng (t := t) hq0.1
  refine x_v (cel_pad hc0) ?_
  refine x_v (cel_pad (cel_ne hc2 (by decide))) ?_
  refine x_aload_n (pc := 0) 0 K rfl rfl dX8_number_0 ?_
  refine x_get (pc := 1) (C := RX8) (T := TX8) (n := 9) (ci := 7) (idx := 28) (ref := "BorderBeds$Tape") (x := .int (zI (tokK t n a)))  K (cel_ne (cel_self hc0.1) (by decide)) rfl (by decide +kernel) 5 (by decide) (by decide +kernel) rfl rfl dX8_number_1 ?_
  refine x_iconst (pc := 4) K dX8_number_4 ?_
  refine x_icmp_eq (pc := 5) (tgt := 14) K (by omega) (by decide) dX8_number_5 (by decide) (fun h_5 => ?_) (fun h_5 => ?_)
  · skip
    have hv := hq5 (by omega)
    have htn := (tokV_num hq0.1 (show tokK t n a = 2 by omega)).2.2.2.2.2
    rw [← hv] at htn
    refine x_aload_n (pc := 14) 0 K rfl rfl dX8_number_14 ?_
    refine x_get (pc := 15) (C := RX8) (T := TX8) (n := 9) (ci := 7) (idx := 37) (ref := "BorderBeds$Tape") (x := .int (zI vv))  K (cel_ne (cel_self hc0.1) (by decide)) rfl (by decide +kernel) 8 (by decide) (by decide +kernel) rfl rfl dX8_number_15 ?_
    refine x_iload_n (pc := 18) 2 K rfl rfl dX8_number_18 ?_
    refine x_icmp_lt (pc := 19) (tgt := 30) K (by omega) (by omega) dX8_number_19 (by decide) (fun h_19 => ?_) (fun h_19 => ?_)
    · skip
      refine x_aload_n (pc := 30) 0 K rfl rfl dX8_number_30 ?_
      refine x_iconst (pc := 31) K dX8_number_31 ?_
      refine x_callV (pc := 32) (C := RX8) (T := TX8) (n := 9) (ci := 7) (As := [.int (zI 2)]) K (c_X8_fails (E := E) (B := B) (N := N)   (cel_ne (cel_self hc0.1) (by decide)) ) gX8_number_X8_fails rfl (na := 1) (by decide +kernel) rfl ⟨(Nat.le_of_ble_eq_true rfl), (Nat.le_of_ble_eq_true rfl)⟩ (cel_ne (cel_self hc0.1) (by decide)) rfl (st := []) rfl (Nat.le_of_ble_eq_true rfl) ⟨(Nat.le_of_ble_eq_true rfl), (Nat.le_of_ble_eq_true rfl)⟩ dX8_number_32 (fun r32 N32 w32 hpo32 hN32 => ?_)
      obtain ⟨rfl, rfl, rfl⟩ := hpo32
      refine x_v (w := (va_up (va_up v 2 (.inr (7, [.ref (B + 3), .ref (B + 4), .int (zI (n : Int)), .int (zI 2), .int (zI (((skT t n a) : Nat) : Int)), .int (zI (tokK t n a)), .int (zI (((skT t n a) : Nat) : Int)), .int (zI (((tokE t n a) : Nat) : Int)), .int (zI vv)]))) 4 (iarr E 4 tl))) (up_at1 (by decide)).symm ?_
      refine x_st (st' := [.int (zI 0)]) rfl ?_
      refine x_zret (pc := 35) K KR (by omega) (Nat.le_of_ble_eq_true rfl) (Nat.le_of_ble_eq_true rfl) (nb_ok (by omega)) dX8_number_35 ?_
      exact ⟨rfl, 0, 2, (((skT t n a) : Nat) : Int), (tokK t n a), (((skT t n a) : Nat) : Int), (((tokE t n a) : Nat) : Int), vv, tl, (Or.inr ⟨2, skT t n a, by unfold pNum; rw [if_neg (by omega), ← hv, if_neg (by omega)], rfl, rfl, rfl⟩), rfl, rfl⟩
    · skip
      refine x_aload_n (pc := 22) 0 K rfl rfl dX8_number_22 ?_
      refine x_get (pc := 23) (C := RX8) (T := TX8) (n := 9) (ci := 7) (idx := 37) (ref := "BorderBeds$Tape") (x := .int (zI vv))  K (cel_ne (cel_self hc0.1) (by decide)) rfl (by decide +kernel) 8 (by decide) (by decide +kernel) rfl rfl dX8_number_23 ?_
      refine x_iload_n (pc := 26) 3 K rfl rfl dX8_number_26 ?_
      refine x_icmp_le (pc := 27) (tgt := 36) K (by omega) (by omega) dX8_number_27 (by decide) (fun h_27 => ?_) (fun h_27 => ?_)
      · skip
        refine x_aload_n (pc := 36) 0 K rfl rfl dX8_number_36 ?_
        refine x_get (pc := 37) (C := RX8) (T := TX8) (n := 9) (ci := 7) (idx := 15) (ref := "BorderBeds$Tape") (x := .ref (B + 4))  K (cel_ne (cel_self hc0.1) (by decide)) rfl (by decide +kernel) 1 (by decide) (by decide +kernel) rfl rfl dX8_number_37 ?_
        refine x_iload_n (pc := 40) 1 K rfl rfl dX8_number_40 ?_
        refine x_aload_n (pc := 41) 0 K rfl rfl dX8_number_41 ?_
        refine x_get (pc := 42) (C := RX8) (T := TX8) (n := 9) (ci := 7) (idx := 37) (ref := "BorderBeds$Tape") (x := .int (zI vv))  K (cel_ne (cel_self hc0.1) (by decide)) rfl (by decide +kernel) 8 (by decide) (by decide +kernel) rfl rfl dX8_number_42 ?_
        refine x_iast (pc := 45) i K (cel_self hc2.1) rfl (by omega) (by decide) dX8_number_45 ?_
        refine x_v (w := (va_up (va_up v 2 (.inr (7, [.ref (B + 3), .ref (B + 4), .int (zI (n : Int)), .int (zI f), .int (zI pl), .int (zI (tokK t n a)), .int (zI (((skT t n a) : Nat) : Int)), .int (zI (((tokE t n a) : Nat) : Int)), .int (zI vv)]))) 4 (iarr E 4 (va_up tl i vv)))) (up_at0).symm ?_
        refine x_aload_n (pc := 46) 0 K rfl rfl dX8_number_46 ?_
        refine x_callV (pc := 47) (C := RX8) (T := TX8) (n := 9) (ci := 7) (As := []) K (c_X8_step (E := E) (B := B) (N := N) (a := (tokE t n a)) (n := n)  (cel_ne (cel_self hc0.1) (by decide)) (cel_ne (cel_ne hc1 (by decide)) (by decide)) (by omega) hq1) gX8_number_X8_step rfl (na := 0) (by decide +kernel) rfl ⟨(Nat.le_of_ble_eq_true rfl), (Nat.le_of_ble_eq_true rfl)⟩ (cel_ne (cel_self hc0.1) (by decide)) rfl (st := []) rfl (Nat.le_of_ble_eq_true rfl) ⟨(Nat.le_of_ble_eq_true rfl), (Nat.le_of_ble_eq_true rfl)⟩ dX8_number_47 (fun r47 N47 w47 hpo47 hN47 => ?_)
        obtain ⟨rfl, v2_47, hp47_0, rfl, rfl⟩ := hpo47
        refine x_v (w := (va_up (va_up v 2 (.inr (7, [.ref (B + 3), .ref (B + 4), .int (zI (n : Int)), .int (zI f), .int (zI pl), .int (zI (tokK t n (tokE t n a))), .int (zI (((skT t n (tokE t n a)) : Nat) : Int)), .int (zI (((tokE t n (tokE t n a)) : Nat) : Int)), .int (zI v2_47)]))) 4 (iarr E 4 (va_up tl i vv)))) (up_at1 (by decide)).symm ?_
        refine x_st (st' := []) rfl ?_
        refine x_iconst (pc := 50) K dX8_number_50 ?_
        refine x_zret (pc := 51) K KR (by omega) (Nat.le_of_ble_eq_true rfl) (Nat.le_of_ble_eq_true rfl) rfl dX8_number_51 ?_
        exact ⟨rfl, 1, f, pl, (tokK t n (tokE t n a)), (((skT t n (tokE t n a)) : Nat) : Int), (((tokE t n (tokE t n a)) : Nat) : Int), v2_47, (va_up tl i vv), (Or.inl ⟨vv, tokE t n a, by unfold pNum; rw [if_neg (by omega), ← hv, if_pos (by omega)], rfl, ⟨rfl, rfl⟩, ⟨rfl, rfl, rfl, hp47_0⟩, rfl⟩), rfl, rfl⟩
      · skip
        refine x_aload_n (pc := 30) 0 K rfl rfl dX8_number_30 ?_
        refine x_iconst (pc := 31) K dX8_number_31 ?_
        refine x_callV (pc := 32) (C := RX8) (T := TX8) (n := 9) (ci := 7) (As := [.int (zI 2)]) K (c_X8_fails (E := E) (B := B) (N := N)   (cel_ne (cel_self hc0.1) (by decide)) ) gX8_number_X8_fails rfl (na := 1) (by decide +kernel) rfl ⟨(Nat.le_of_ble_eq_true rfl), (Nat.le_of_ble_eq_true rfl)⟩ (cel_ne (cel_self hc0.1) (by decide)) rfl (st := []) rfl (Nat.le_of_ble_eq_true rfl) ⟨(Nat.le_of_ble_eq_true rfl), (Nat.le_of_ble_eq_true rfl)⟩ dX8_number_32 (fun r32 N32 w32 hpo32 hN32 => ?_)
        obtain ⟨rfl, rfl, rfl⟩ := hpo32
        refine x_v (w := (va_up (va_up v 2 (.inr (7, [.ref (B + 3), .ref (B + 4), .int (zI (n : Int)), .int (zI 2), .int (zI (((skT t n a) : Nat) : Int)), .int (zI (tokK t n a)), .int (zI (((skT t n a) : Nat) : Int)), .int (zI (((tokE t n a) : Nat) : Int)), .int (zI vv)]))) 4 (iarr E 4 tl))) (up_at1 (by decide)).symm ?_
        refine x_st (st' := [.int (zI 0)]) rfl ?_
        refine x_zret (pc := 35) K KR (by omega) (Nat.le_of_ble_eq_true rfl) (Nat.le_of_ble_eq_true rfl) (nb_ok (by omega)) dX8_number_35 ?_
        exact ⟨rfl, 0, 2, (((skT t n a) : Nat) : Int), (tokK t n a), (((skT t n a) : Nat) : Int), (((tokE t n a) : Nat) : Int), vv, tl, (Or.inr ⟨2, skT t n a, by unfold pNum; rw [if_neg (by omega), ← hv, if_neg (by omega)], rfl, rfl, rfl⟩), rfl, rfl⟩
  · skip
    refine x_aload_n (pc := 8) 0 K rfl rfl dX8_number_8 ?_
    refine x_iconst (pc := 9) K dX8_number_9 ?_
    refine x_callV (pc := 10) (C := RX8) (T := TX8) (n := 9) (ci := 7) (As := [.int (zI 1)]) K (c_X8_fails (E := E) (B := B) (N := N)   (cel_ne (cel_self hc0.1) (by decide)) ) gX8_number_X8_fails rfl (na := 1) (by decide +kernel) rfl ⟨(Nat.le_of_ble_eq_true rfl), (Nat.le_of_ble_eq_true rfl)⟩ (cel_ne (cel_self hc0.1) (by decide)) rfl (st := []) rfl (Nat.le_of_ble_eq_true rfl) ⟨(Nat.le_of_ble_eq_true rfl), (Nat.le_of_ble_eq_true rfl)⟩ dX8_number_10 (fun r10 N10 w10 hpo10 hN10 => ?_)
    obtain ⟨rfl, rfl, rfl⟩ := hpo10
    refine x_v (w := (va_up (va_up v 2 (.inr (7, [.ref (B + 3), .ref (B + 4), .int (zI (n : Int)), .int (zI 1), .int (zI (((skT t n a) : Nat) : Int)), .int (zI (tokK t n a)), .int (zI (((skT t n a) : Nat) : Int)), .int (zI (((tokE t n a) : Nat) : Int)), .int (zI vv)]))) 4 (iarr E 4 tl))) (up_at1 (by decide)).symm ?_
    refine x_st (st' := [.int (zI 0)]) rfl ?_
    refine x_zret (pc := 13) K KR (by omega) (Nat.le_of_ble_eq_true rfl) (Nat.le_of_ble_eq_true rfl) (nb_ok (by omega)) dX8_number_13 ?_
    exact ⟨rfl, 0, 1, (((skT t n a) : Nat) : Int), (tokK t n a), (((skT t n a) : Nat) : Int), (((tokE t n a) : Nat) : Int), vv, tl, (Or.inr ⟨1, skT t n a, by unfold pNum; rw [if_pos (by omega)], rfl, rfl, rfl⟩), rfl, rfl⟩
