theorem dX6_init_0 : decode cX6_init 0 = .ok (.aload_n 0, 1) := by decide +kernel
theorem dX6_init_1 : decode cX6_init 1 = .ok (.invokespecial 1, 3) := by decide +kernel
theorem dX6_init_4 : decode cX6_init 4 = .ok (.aload_n 0, 1) := by decide +kernel
theorem dX6_init_5 : decode cX6_init 5 = .ok (.iload_n 1, 1) := by decide +kernel
theorem dX6_init_6 : decode cX6_init 6 = .ok (.putfield 7, 3) := by decide +kernel
theorem dX6_init_9 : decode cX6_init 9 = .ok (.aload_n 0, 1) := by decide +kernel
theorem dX6_init_10 : decode cX6_init 10 = .ok (.iload_n 2, 1) := by decide +kernel
theorem dX6_init_11 : decode cX6_init 11 = .ok (.putfield 13, 3) := by decide +kernel
theorem dX6_init_14 : decode cX6_init 14 = .ok (.aload_n 0, 1) := by decide +kernel
theorem dX6_init_15 : decode cX6_init 15 = .ok (.iload_n 3, 1) := by decide +kernel
theorem dX6_init_16 : decode cX6_init 16 = .ok (.putfield 16, 3) := by decide +kernel
theorem dX6_init_19 : decode cX6_init 19 = .ok (.aload_n 0, 1) := by decide +kernel
theorem dX6_init_20 : decode cX6_init 20 = .ok (.iload 4, 2) := by decide +kernel
theorem dX6_init_22 : decode cX6_init 22 = .ok (.putfield 19, 3) := by decide +kernel
theorem dX6_init_25 : decode cX6_init 25 = .ok (.return_, 1) := by decide +kernel
theorem dX0_init_0 : decode cX0_init 0 = .ok (.aload_n 0, 1) := by decide +kernel
theorem dX0_init_1 : decode cX0_init 1 = .ok (.iload_n 1, 1) := by decide +kernel
theorem dX0_init_2 : decode cX0_init 2 = .ok (.iload_n 2, 1) := by decide +kernel
theorem dX0_init_3 : decode cX0_init 3 = .ok (.iload_n 3, 1) := by decide +kernel
theorem dX0_init_4 : decode cX0_init 4 = .ok (.iload 4, 2) := by decide +kernel
set_option maxRecDepth 20000 in
theorem ggX0_init_X6_init : GoodIn wsX0_init wsX6_init := goodIn_r _ [4, 5, 6, 7, 8, 9, 10, 11, 12, 13, 14, 15, 16, 17, 18, 19, 20, 21, 22, 23, 24, 25, 26, 27, 28, 29, 30, 31] (by decide +kernel) (by decide +kernel)
set_option maxRecDepth 20000 in
theorem gX0_init_X6_init : GoodIn wsX0_init (wsX6_init) := ggX0_init_X6_init
theorem dX0_init_6 : decode cX0_init 6 = .ok (.invokespecial 1, 3) := by decide +kernel
theorem dX0_init_9 : decode cX0_init 9 = .ok (.return_, 1) := by decide +kernel
theorem dX2_init_0 : decode cX2_init 0 = .ok (.aload_n 0, 1) := by decide +kernel
theorem dX2_init_1 : decode cX2_init 1 = .ok (.iload_n 1, 1) := by decide +kernel
theorem dX2_init_2 : decode cX2_init 2 = .ok (.iload_n 2, 1) := by decide +kernel
theorem dX2_init_3 : decode cX2_init 3 = .ok (.iload_n 3, 1) := by decide +kernel
theorem dX2_init_4 : decode cX2_init 4 = .ok (.iload 4, 2) := by decide +kernel
set_option maxRecDepth 20000 in
theorem ggX2_init_X0_init : GoodIn wsX2_init wsX0_init := goodIn_r _ [4, 5, 6, 7, 8, 9, 10, 11, 12, 13, 14, 15, 16, 17, 18, 19, 20, 21, 22, 23, 24, 25, 26, 27, 28, 29, 30, 31, 32, 33, 34, 35] (by decide +kernel) (by decide +kernel)
set_option maxRecDepth 20000 in
theorem gX2_init_X0_init : GoodIn wsX2_init (wsX0_init) := ggX2_init_X0_init
theorem dX2_init_6 : decode cX2_init 6 = .ok (.invokespecial 1, 3) := by decide +kernel
theorem dX2_init_9 : decode cX2_init 9 = .ok (.return_, 1) := by decide +kernel
theorem dX10_init_0 : decode cX10_init 0 = .ok (.aload_n 0, 1) := by decide +kernel
theorem dX10_init_1 : decode cX10_init 1 = .ok (.iload_n 1, 1) := by decide +kernel
theorem dX10_init_2 : decode cX10_init 2 = .ok (.iload_n 2, 1) := by decide +kernel
theorem dX10_init_3 : decode cX10_init 3 = .ok (.iload_n 3, 1) := by decide +kernel
theorem dX10_init_4 : decode cX10_init 4 = .ok (.iload 4, 2) := by decide +kernel
set_option maxRecDepth 20000 in
theorem ggX10_init_X0_init : GoodIn wsX10_init wsX0_init := goodIn_r _ [4, 5, 6, 7, 8, 9, 10, 11, 12, 13, 14, 15, 16, 17, 18, 19, 20, 21, 22, 23, 24, 25, 26, 27, 28, 29, 30, 31, 32, 33, 34, 35] (by decide +kernel) (by decide +kernel)
set_option maxRecDepth 20000 in
theorem gX10_init_X0_init : GoodIn wsX10_init (wsX0_init) := ggX10_init_X0_init
theorem dX10_init_6 : decode cX10_init 6 = .ok (.invokespecial 1, 3) := by decide +kernel
theorem dX10_init_9 : decode cX10_init 9 = .ok (.return_, 1) := by decide +kernel
theorem dX1_init_0 : decode cX1_init 0 = .ok (.aload_n 0, 1) := by decide +kernel
theorem dX1_init_1 : decode cX1_init 1 = .ok (.iload_n 1, 1) := by decide +kernel
theorem dX1_init_2 : decode cX1_init 2 = .ok (.iload_n 2, 1) := by decide +kernel
theorem dX1_init_3 : decode cX1_init 3 = .ok (.iload_n 3, 1) := by decide +kernel
theorem dX1_init_4 : decode cX1_init 4 = .ok (.iload 4, 2) := by decide +kernel
set_option maxRecDepth 20000 in
theorem ggX1_init_X6_init : GoodIn wsX1_init wsX6_init := goodIn_r _ [4, 5, 6, 7, 8, 9, 10, 11, 12, 13, 14, 15, 16, 17, 18, 19, 20, 21, 22, 23, 24, 25, 26, 27, 28, 29, 30, 31] (by decide +kernel) (by decide +kernel)
set_option maxRecDepth 20000 in
theorem gX1_init_X6_init : GoodIn wsX1_init (wsX6_init) := ggX1_init_X6_init
theorem dX1_init_6 : decode cX1_init 6 = .ok (.invokespecial 1, 3) := by decide +kernel
theorem dX1_init_9 : decode cX1_init 9 = .ok (.return_, 1) := by decide +kernel
theorem dX5_init_0 : decode cX5_init 0 = .ok (.aload_n 0, 1) := by decide +kernel
theorem dX5_init_1 : decode cX5_init 1 = .ok (.iload_n 1, 1) := by decide +kernel
theorem dX5_init_2 : decode cX5_init 2 = .ok (.iload_n 2, 1) := by decide +kernel
theorem dX5_init_3 : decode cX5_init 3 = .ok (.iload_n 3, 1) := by decide +kernel
theorem dX5_init_4 : decode cX5_init 4 = .ok (.iload 4, 2) := by decide +kernel
set_option maxRecDepth 20000 in
theorem ggX5_init_X1_init : GoodIn wsX5_init wsX1_init := goodIn_r _ [4, 5, 6, 7, 8, 9, 10, 11, 12, 13, 14, 15, 16, 17, 18, 19, 20, 21, 22, 23, 24, 25, 26, 27, 28, 29, 30, 31, 32, 33, 34, 35] (by decide +kernel) (by decide +kernel)
set_option maxRecDepth 20000 in
theorem gX5_init_X1_init : GoodIn wsX5_init (wsX1_init) := ggX5_init_X1_init
theorem dX5_init_6 : decode cX5_init 6 = .ok (.invokespecial 1, 3) := by decide +kernel
theorem dX5_init_9 : decode cX5_init 9 = .ok (.return_, 1) := by decide +kernel
theorem dX6_reach_0 : decode cX6_reach 0 = .ok (.aload_n 0, 1) := by decide +kernel
theorem dX6_reach_1 : decode cX6_reach 1 = .ok (.getfield 19, 3) := by decide +kernel
theorem dX6_reach_4 : decode cX6_reach 4 = .ok (.ireturn, 1) := by decide +kernel
theorem dX0_sort_0 : decode cX0_sort 0 = .ok (.iconst 1, 1) := by decide +kernel
theorem dX0_sort_1 : decode cX0_sort 1 = .ok (.ireturn, 1) := by decide +kernel
theorem dX2_reach_0 : decode cX2_reach 0 = .ok (.iconst 2, 1) := by decide +kernel
theorem dX2_reach_1 : decode cX2_reach 1 = .ok (.aload_n 0, 1) := by decide +kernel
theorem dX2_reach_2 : decode cX2_reach 2 = .ok (.getfield 9, 3) := by decide +kernel
theorem dX2_reach_5 : decode cX2_reach 5 = .ok (.imul, 1) := by decide +kernel
theorem dX2_reach_6 : decode cX2_reach 6 = .ok (.ireturn, 1) := by decide +kernel
theorem dX2_sort_0 : decode cX2_sort 0 = .ok (.iconst 2, 1) := by decide +kernel
theorem dX2_sort_1 : decode cX2_sort 1 = .ok (.ireturn, 1) := by decide +kernel
theorem dX10_sort_0 : decode cX10_sort 0 = .ok (.iconst 3, 1) := by decide +kernel
theorem dX10_sort_1 : decode cX10_sort 1 = .ok (.ireturn, 1) := by decide +kernel
theorem dX1_sort_0 : decode cX1_sort 0 = .ok (.iconst 4, 1) := by decide +kernel
theorem dX1_sort_1 : decode cX1_sort 1 = .ok (.ireturn, 1) := by decide +kernel
theorem dX5_sort_0 : decode cX5_sort 0 = .ok (.iconst 5, 1) := by decide +kernel
theorem dX5_sort_1 : decode cX5_sort 1 = .ok (.ireturn, 1) := by decide +kernel
set_option maxRecDepth 100000 in
set_option maxHeartbeats 4000000 in
theorem c_X6_init_X0 {E : XE} {B N : Nat} {v : Nat → va_E} {o : Nat} {num lnd home mil : Int} (hc0 : Cel N v o (.inr (0, [.int (zI 0), .int (zI 0), .int (zI 0), .int (zI 0)]))) : gM yX6_init wsX6_init ({ frames := 1, cells := 0, slots := 0, locals := 12 }) E B N v [.ref (B + o), .int (zI num), .int (zI lnd), .int (zI home), .int (zI mil)] (po0 N (fun ρ v' => ρ = none ∧ (va_up v o (.inr (0, [.int (zI num), .int (zI lnd), .int (zI home), .int (zI mil)]))) = v')) := by
  refine x_met (nm := "<init>") (by decide +kernel) rfl (Nat.le_of_ble_eq_true rfl) rfl (fun Γ K KR hnL hnm => ?_)
  show XW Γ N v [(0, .ref (B + o)), (1, .int (zI num)), (2, .int (zI lnd)), (3, .int (zI home)), (4, .int (zI mil))] 0 0 0 []
  refine x_v (cel_pad hc0) ?_
  refine x_aload_n (pc := 0) 0 K rfl rfl dX6_init_0 ?_
  refine x_objInit (nL9 := 0) (pc := 1) (idx := 1) K (by decide +kernel) (by decide +kernel) (by decide +kernel) (Nat.le_of_ble_eq_true rfl) (Nat.le_of_ble_eq_true rfl) dX6_init_1 ?_
  refine x_aload_n (pc := 4) 0 K rfl rfl dX6_init_4 ?_
  refine x_iload_n (pc := 5) 1 K rfl rfl dX6_init_5 ?_
  refine x_putF (pc := 6) (C := RX0) (T := TX0) (n := 4) (ci := 0) (idx := 7) (ref := "BorderBeds$Person") (ty := .int)  K (cel_self hc0.1) rfl (by decide +kernel) tyX0 tyX0_ok nmX0 0 (by decide) (by decide +kernel) rfl rfl hnm rfl (by decide +kernel) rfl rfl (Nat.le_of_ble_eq_true rfl) dX6_init_6 ?_
  refine x_v (w := (va_up v o (.inr (0, [.int (zI num), .int (zI 0), .int (zI 0), .int (zI 0)])))) (up_at0).symm ?_
  refine x_aload_n (pc := 9) 0 K rfl rfl dX6_init_9 ?_
  refine x_iload_n (pc := 10) 2 K rfl rfl dX6_init_10 ?_
  refine x_putF (pc := 11) (C := RX0) (T := TX0) (n := 4) (ci := 0) (idx := 13) (ref := "BorderBeds$Person") (ty := .int)  K (cel_self hc0.1) rfl (by decide +kernel) tyX0 tyX0_ok nmX0 1 (by decide) (by decide +kernel) rfl rfl hnm rfl (by decide +kernel) rfl rfl (Nat.le_of_ble_eq_true rfl) dX6_init_11 ?_
  refine x_v (w := (va_up v o (.inr (0, [.int (zI num), .int (zI lnd), .int (zI 0), .int (zI 0)])))) (up_at0).symm ?_
  refine x_aload_n (pc := 14) 0 K rfl rfl dX6_init_14 ?_
  refine x_iload_n (pc := 15) 3 K rfl rfl dX6_init_15 ?_
  refine x_putF (pc := 16) (C := RX0) (T := TX0) (n := 4) (ci := 0) (idx := 16) (ref := "BorderBeds$Person") (ty := .int)  K (cel_self hc0.1) rfl (by decide +kernel) tyX0 tyX0_ok nmX0 2 (by decide) (by decide +kernel) rfl rfl hnm rfl (by decide +kernel) rfl rfl (Nat.le_of_ble_eq_true rfl) dX6_init_16 ?_
  refine x_v (w := (va_up v o (.inr (0, [.int (zI num), .int (zI lnd), .int (zI home), .int (zI 0)])))) (up_at0).symm ?_
  refine x_aload_n (pc := 19) 0 K rfl rfl dX6_init_19 ?_
  refine x_iload (pc := 20) 4 K rfl dX6_init_20 ?_
  refine x_putF (pc := 22) (C := RX0) (T := TX0) (n := 4) (ci := 0) (idx := 19) (ref := "BorderBeds$Person") (ty := .int)  K (cel_self hc0.1) rfl (by decide +kernel) tyX0 tyX0_ok nmX0 3 (by decide) (by decide +kernel) rfl rfl hnm rfl (by decide +kernel) rfl rfl (Nat.le_of_ble_eq_true rfl) dX6_init_22 ?_
  refine x_v (w := (va_up v o (.inr (0, [.int (zI num), .int (zI lnd), .int (zI home), .int (zI mil)])))) (up_at0).symm ?_
  refine x_vret (pc := 25) K KR (by omega) (Nat.le_of_ble_eq_true rfl) (Nat.le_of_ble_eq_true rfl) dX6_init_25 ?_
  exact ⟨rfl, rfl, rfl⟩

set_option maxRecDepth 100000 in
set_option maxHeartbeats 4000000 in
theorem c_X0_init_X0 {E : XE} {B N : Nat} {v : Nat → va_E} {o : Nat} {num lnd home mil : Int} (hc0 : Cel N v o (.inr (0, [.int (zI 0), .int (zI 0), .int (zI 0), .int (zI 0)]))) : gM yX0_init wsX0_init ({ frames := 2, cells := 0, slots := 0, locals := 36 }) E B N v [.ref (B + o), .int (zI num), .int (zI lnd), .int (zI home), .int (zI mil)] (po0 N (fun ρ v' => ρ = none ∧ (va_up v o (.inr (0, [.int (zI num), .int (zI lnd), .int (zI home), .int (zI mil)]))) = v')) := by
  refine x_met (nm := "<init>") (by decide +kernel) rfl (Nat.le_of_ble_eq_true rfl) rfl (fun Γ K KR hnL hnm => ?_)
  show XW Γ N v [(0, .ref (B + o)), (1, .int (zI num)), (2, .int (zI lnd)), (3, .int (zI home)), (4, .int (zI mil))] 0 0 0 []
  refine x_v (cel_pad hc0) ?_
  refine x_aload_n (pc := 0) 0 K rfl rfl dX0_init_0 ?_
  refine x_iload_n (pc := 1) 1 K rfl rfl dX0_init_1 ?_
  refine x_iload_n (pc := 2) 2 K rfl rfl dX0_init_2 ?_
  refine x_iload_n (pc := 3) 3 K rfl rfl dX0_init_3 ?_
  refine x_iload (pc := 4) 4 K rfl dX0_init_4 ?_
  refine x_callI (pc := 6) (As := [.int (zI num), .int (zI lnd), .int (zI home), .int (zI mil)]) K (c_X6_init_X0 (E := E) (B := B) (N := N)   (cel_self hc0.1) ) gX0_init_X6_init rfl (by decide +kernel) (by decide +kernel) (by decide +kernel) rfl (na := 4) (by decide +kernel) rfl ⟨(Nat.le_of_ble_eq_true rfl), (Nat.le_of_ble_eq_true rfl)⟩ (st := []) rfl (Nat.le_of_ble_eq_true rfl) ⟨(Nat.le_of_ble_eq_true rfl), (Nat.le_of_ble_eq_true rfl)⟩ dX0_init_6 (fun r6 N6 w6 hpo6 hN6 => ?_)
  obtain ⟨rfl, rfl, rfl⟩ := hpo6
  refine x_v (w := (va_up v o (.inr (0, [.int (zI num), .int (zI lnd), .int (zI home), .int (zI mil)])))) (up_at0).symm ?_
  refine x_st (st' := []) rfl ?_
  refine x_vret (pc := 9) K KR (by omega) (Nat.le_of_ble_eq_true rfl) (Nat.le_of_ble_eq_true rfl) dX0_init_9 ?_
  exact ⟨rfl, rfl, rfl⟩

set_option maxRecDepth 100000 in
set_option maxHeartbeats 4000000 in
theorem c_X6_init_X2 {E : XE} {B N : Nat} {v : Nat → va_E} {o : Nat} {num lnd home mil : Int} (hc0 : Cel N v o (.inr (2, [.int (zI 0), .int (zI 0), .int (zI 0), .int (zI 0)]))) : gM yX6_init wsX6_init ({ frames := 1, cells := 0, slots := 0, locals := 12 }) E B N v [.ref (B + o), .int (zI num), .int (zI lnd), .int (zI home), .int (zI mil)] (po0 N (fun ρ v' => ρ = none ∧ (va_up v o (.inr (2, [.int (zI num), .int (zI lnd), .int (zI home), .int (zI mil)]))) = v')) := by
  refine x_met (nm := "<init>") (by decide +kernel) rfl (Nat.le_of_ble_eq_true rfl) rfl (fun Γ K KR hnL hnm => ?_)
  show XW Γ N v [(0, .ref (B + o)), (1, .int (zI num)), (2, .int (zI lnd)), (3, .int (zI home)), (4, .int (zI mil))] 0 0 0 []
  refine x_v (cel_pad hc0) ?_
  refine x_aload_n (pc := 0) 0 K rfl rfl dX6_init_0 ?_
  refine x_objInit (nL9 := 0) (pc := 1) (idx := 1) K (by decide +kernel) (by decide +kernel) (by decide +kernel) (Nat.le_of_ble_eq_true rfl) (Nat.le_of_ble_eq_true rfl) dX6_init_1 ?_
  refine x_aload_n (pc := 4) 0 K rfl rfl dX6_init_4 ?_
  refine x_iload_n (pc := 5) 1 K rfl rfl dX6_init_5 ?_
  refine x_putF (pc := 6) (C := RX2) (T := TX2) (n := 4) (ci := 2) (idx := 7) (ref := "BorderBeds$Person") (ty := .int)  K (cel_self hc0.1) rfl (by decide +kernel) tyX2 tyX2_ok nmX2 0 (by decide) (by decide +kernel) rfl rfl hnm rfl (by decide +kernel) rfl rfl (Nat.le_of_ble_eq_true rfl) dX6_init_6 ?_
  refine x_v (w := (va_up v o (.inr (2, [.int (zI num), .int (zI 0), .int (zI 0), .int (zI 0)])))) (up_at0).symm ?_
  refine x_aload_n (pc := 9) 0 K rfl rfl dX6_init_9 ?_
  refine x_iload_n (pc := 10) 2 K rfl rfl dX6_init_10 ?_
  refine x_putF (pc := 11) (C := RX2) (T := TX2) (n := 4) (ci := 2) (idx := 13) (ref := "BorderBeds$Person") (ty := .int)  K (cel_self hc0.1) rfl (by decide +kernel) tyX2 tyX2_ok nmX2 1 (by decide) (by decide +kernel) rfl rfl hnm rfl (by decide +kernel) rfl rfl (Nat.le_of_ble_eq_true rfl) dX6_init_11 ?_
  refine x_v (w := (va_up v o (.inr (2, [.int (zI num), .int (zI lnd), .int (zI 0), .int (zI 0)])))) (up_at0).symm ?_
  refine x_aload_n (pc := 14) 0 K rfl rfl dX6_init_14 ?_
  refine x_iload_n (pc := 15) 3 K rfl rfl dX6_init_15 ?_
  refine x_putF (pc := 16) (C := RX2) (T := TX2) (n := 4) (ci := 2) (idx := 16) (ref := "BorderBeds$Person") (ty := .int)  K (cel_self hc0.1) rfl (by decide +kernel) tyX2 tyX2_ok nmX2 2 (by decide) (by decide +kernel) rfl rfl hnm rfl (by decide +kernel) rfl rfl (Nat.le_of_ble_eq_true rfl) dX6_init_16 ?_
  refine x_v (w := (va_up v o (.inr (2, [.int (zI num), .int (zI lnd), .int (zI home), .int (zI 0)])))) (up_at0).symm ?_
  refine x_aload_n (pc := 19) 0 K rfl rfl dX6_init_19 ?_
  refine x_iload (pc := 20) 4 K rfl dX6_init_20 ?_
  refine x_putF (pc := 22) (C := RX2) (T := TX2) (n := 4) (ci := 2) (idx := 19) (ref := "BorderBeds$Person") (ty := .int)  K (cel_self hc0.1) rfl (by decide +kernel) tyX2 tyX2_ok nmX2 3 (by decide) (by decide +kernel) rfl rfl hnm rfl (by decide +kernel) rfl rfl (Nat.le_of_ble_eq_true rfl) dX6_init_22 ?_
  refine x_v (w := (va_up v o (.inr (2, [.int (zI num), .int (zI lnd), .int (zI home), .int (zI mil)])))) (up_at0).symm ?_
  refine x_vret (pc := 25) K KR (by omega) (Nat.le_of_ble_eq_true rfl) (Nat.le_of_ble_eq_true rfl) dX6_init_25 ?_
  exact ⟨rfl, rfl, rfl⟩

set_option maxRecDepth 100000 in
set_option maxHeartbeats 4000000 in
theorem c_X0_init_X2 {E : XE} {B N : Nat} {v : Nat → va_E} {o : Nat} {num lnd home mil : Int} (hc0 : Cel N v o (.inr (2, [.int (zI 0), .int (zI 0), .int (zI 0), .int (zI 0)]))) : gM yX0_init wsX0_init ({ frames := 2, cells := 0, slots := 0, locals := 36 }) E B N v [.ref (B + o), .int (zI num), .int (zI lnd), .int (zI home), .int (zI mil)] (po0 N (fun ρ v' => ρ = none ∧ (va_up v o (.inr (2, [.int (zI num), .int (zI lnd), .int (zI home), .int (zI mil)]))) = v')) := by
  refine x_met (nm := "<init>") (by decide +kernel) rfl (Nat.le_of_ble_eq_true rfl) rfl (fun Γ K KR hnL hnm => ?_)
  show XW Γ N v [(0, .ref (B + o)), (1, .int (zI num)), (2, .int (zI lnd)), (3, .int (zI home)), (4, .int (zI mil))] 0 0 0 []
  refine x_v (cel_pad hc0) ?_
  refine x_aload_n (pc := 0) 0 K rfl rfl dX0_init_0 ?_
  refine x_iload_n (pc := 1) 1 K rfl rfl dX0_init_1 ?_
  refine x_iload_n (pc := 2) 2 K rfl rfl dX0_init_2 ?_
  refine x_iload_n (pc := 3) 3 K rfl rfl dX0_init_3 ?_
  refine x_iload (pc := 4) 4 K rfl dX0_init_4 ?_
  refine x_callI (pc := 6) (As := [.int (zI num), .int (zI lnd), .int (zI home), .int (zI mil)]) K (c_X6_init_X2 (E := E) (B := B) (N := N)   (cel_self hc0.1) ) gX0_init_X6_init rfl (by decide +kernel) (by decide +kernel) (by decide +kernel) rfl (na := 4) (by decide +kernel) rfl ⟨(Nat.le_of_ble_eq_true rfl), (Nat.le_of_ble_eq_true rfl)⟩ (st := []) rfl (Nat.le_of_ble_eq_true rfl) ⟨(Nat.le_of_ble_eq_true rfl), (Nat.le_of_ble_eq_true rfl)⟩ dX0_init_6 (fun r6 N6 w6 hpo6 hN6 => ?_)
  obtain ⟨rfl, rfl, rfl⟩ := hpo6
  refine x_v (w := (va_up v o (.inr (2, [.int (zI num), .int (zI lnd), .int (zI home), .int (zI mil)])))) (up_at0).symm ?_
  refine x_st (st' := []) rfl ?_
  refine x_vret (pc := 9) K KR (by omega) (Nat.le_of_ble_eq_true rfl) (Nat.le_of_ble_eq_true rfl) dX0_init_9 ?_
  exact ⟨rfl, rfl, rfl⟩

set_option maxRecDepth 100000 in
set_option maxHeartbeats 4000000 in
theorem c_X2_init_X2 {E : XE} {B N : Nat} {v : Nat → va_E} {o : Nat} {num lnd home mil : Int} (hc0 : Cel N v o (.inr (2, [.int (zI 0), .int (zI 0), .int (zI 0), .int (zI 0)]))) : gM yX2_init wsX2_init ({ frames := 3, cells := 0, slots := 0, locals := 60 }) E B N v [.ref (B + o), .int (zI num), .int (zI lnd), .int (zI home), .int (zI mil)] (po0 N (fun ρ v' => ρ = none ∧ (va_up v o (.inr (2, [.int (zI num), .int (zI lnd), .int (zI home), .int (zI mil)]))) = v')) := by
  refine x_met (nm := "<init>") (by decide +kernel) rfl (Nat.le_of_ble_eq_true rfl) rfl (fun Γ K KR hnL hnm => ?_)
  show XW Γ N v [(0, .ref (B + o)), (1, .int (zI num)), (2, .int (zI lnd)), (3, .int (zI home)), (4, .int (zI mil))] 0 0 0 []
  refine x_v (cel_pad hc0) ?_
  refine x_aload_n (pc := 0) 0 K rfl rfl dX2_init_0 ?_
  refine x_iload_n (pc := 1) 1 K rfl rfl dX2_init_1 ?_
  refine x_iload_n (pc := 2) 2 K rfl rfl dX2_init_2 ?_
  refine x_iload_n (pc := 3) 3 K rfl rfl dX2_init_3 ?_
  refine x_iload (pc := 4) 4 K rfl dX2_init_4 ?_
  refine x_callI (pc := 6) (As := [.int (zI num), .int (zI lnd), .int (zI home), .int (zI mil)]) K (c_X0_init_X2 (E := E) (B := B) (N := N)   (cel_self hc0.1) ) gX2_init_X0_init rfl (by decide +kernel) (by decide +kernel) (by decide +kernel) rfl (na := 4) (by decide +kernel) rfl ⟨(Nat.le_of_ble_eq_true rfl), (Nat.le_of_ble_eq_true rfl)⟩ (st := []) rfl (Nat.le_of_ble_eq_true rfl) ⟨(Nat.le_of_ble_eq_true rfl), (Nat.le_of_ble_eq_true rfl)⟩ dX2_init_6 (fun r6 N6 w6 hpo6 hN6 => ?_)
  obtain ⟨rfl, rfl, rfl⟩ := hpo6
  refine x_v (w := (va_up v o (.inr (2, [.int (zI num), .int (zI lnd), .int (zI home), .int (zI mil)])))) (up_at0).symm ?_
  refine x_st (st' := []) rfl ?_
  refine x_vret (pc := 9) K KR (by omega) (Nat.le_of_ble_eq_true rfl) (Nat.le_of_ble_eq_true rfl) dX2_init_9 ?_
  exact ⟨rfl, rfl, rfl⟩

set_option maxRecDepth 100000 in
set_option maxHeartbeats 4000000 in
theorem c_X6_init_X10 {E : XE} {B N : Nat} {v : Nat → va_E} {o : Nat} {num lnd home mil : Int} (hc0 : Cel N v o (.inr (9, [.int (zI 0), .int (zI 0), .int (zI 0), .int (zI 0)]))) : gM yX6_init wsX6_init ({ frames := 1, cells := 0, slots := 0, locals := 12 }) E B N v [.ref (B + o), .int (zI num), .int (zI lnd), .int (zI home), .int (zI mil)] (po0 N (fun ρ v' => ρ = none ∧ (va_up v o (.inr (9, [.int (zI num), .int (zI lnd), .int (zI home), .int (zI mil)]))) = v')) := by
  refine x_met (nm := "<init>") (by decide +kernel) rfl (Nat.le_of_ble_eq_true rfl) rfl (fun Γ K KR hnL hnm => ?_)
  show XW Γ N v [(0, .ref (B + o)), (1, .int (zI num)), (2, .int (zI lnd)), (3, .int (zI home)), (4, .int (zI mil))] 0 0 0 []
  refine x_v (cel_pad hc0) ?_
  refine x_aload_n (pc := 0) 0 K rfl rfl dX6_init_0 ?_
  refine x_objInit (nL9 := 0) (pc := 1) (idx := 1) K (by decide +kernel) (by decide +kernel) (by decide +kernel) (Nat.le_of_ble_eq_true rfl) (Nat.le_of_ble_eq_true rfl) dX6_init_1 ?_
  refine x_aload_n (pc := 4) 0 K rfl rfl dX6_init_4 ?_
  refine x_iload_n (pc := 5) 1 K rfl rfl dX6_init_5 ?_
  refine x_putF (pc := 6) (C := RX10) (T := TX10) (n := 4) (ci := 9) (idx := 7) (ref := "BorderBeds$Person") (ty := .int)  K (cel_self hc0.1) rfl (by decide +kernel) tyX10 tyX10_ok nmX10 0 (by decide) (by decide +kernel) rfl rfl hnm rfl (by decide +kernel) rfl rfl (Nat.le_of_ble_eq_true rfl) dX6_init_6 ?_
  refine x_v (w := (va_up v o (.inr (9, [.int (zI num), .int (zI 0), .int (zI 0), .int (zI 0)])))) (up_at0).symm ?_
  refine x_aload_n (pc := 9) 0 K rfl rfl dX6_init_9 ?_
  refine x_iload_n (pc := 10) 2 K rfl rfl dX6_init_10 ?_
  refine x_putF (pc := 11) (C := RX10) (T := TX10) (n := 4) (ci := 9) (idx := 13) (ref := "BorderBeds$Person") (ty := .int)  K (cel_self hc0.1) rfl (by decide +kernel) tyX10 tyX10_ok nmX10 1 (by decide) (by decide +kernel) rfl rfl hnm rfl (by decide +kernel) rfl rfl (Nat.le_of_ble_eq_true rfl) dX6_init_11 ?_
  refine x_v (w := (va_up v o (.inr (9, [.int (zI num), .int (zI lnd), .int (zI 0), .int (zI 0)])))) (up_at0).symm ?_
  refine x_aload_n (pc := 14) 0 K rfl rfl dX6_init_14 ?_
  refine x_iload_n (pc := 15) 3 K rfl rfl dX6_init_15 ?_
  refine x_putF (pc := 16) (C := RX10) (T := TX10) (n := 4) (ci := 9) (idx := 16) (ref := "BorderBeds$Person") (ty := .int)  K (cel_self hc0.1) rfl (by decide +kernel) tyX10 tyX10_ok nmX10 2 (by decide) (by decide +kernel) rfl rfl hnm rfl (by decide +kernel) rfl rfl (Nat.le_of_ble_eq_true rfl) dX6_init_16 ?_
  refine x_v (w := (va_up v o (.inr (9, [.int (zI num), .int (zI lnd), .int (zI home), .int (zI 0)])))) (up_at0).symm ?_
  refine x_aload_n (pc := 19) 0 K rfl rfl dX6_init_19 ?_
  refine x_iload (pc := 20) 4 K rfl dX6_init_20 ?_
  refine x_putF (pc := 22) (C := RX10) (T := TX10) (n := 4) (ci := 9) (idx := 19) (ref := "BorderBeds$Person") (ty := .int)  K (cel_self hc0.1) rfl (by decide +kernel) tyX10 tyX10_ok nmX10 3 (by decide) (by decide +kernel) rfl rfl hnm rfl (by decide +kernel) rfl rfl (Nat.le_of_ble_eq_true rfl) dX6_init_22 ?_
  refine x_v (w := (va_up v o (.inr (9, [.int (zI num), .int (zI lnd), .int (zI home), .int (zI mil)])))) (up_at0).symm ?_
  refine x_vret (pc := 25) K KR (by omega) (Nat.le_of_ble_eq_true rfl) (Nat.le_of_ble_eq_true rfl) dX6_init_25 ?_
  exact ⟨rfl, rfl, rfl⟩

set_option maxRecDepth 100000 in
set_option maxHeartbeats 4000000 in
theorem c_X0_init_X10 {E : XE} {B N : Nat} {v : Nat → va_E} {o : Nat} {num lnd home mil : Int} (hc0 : Cel N v o (.inr (9, [.int (zI 0), .int (zI 0), .int (zI 0), .int (zI 0)]))) : gM yX0_init wsX0_init ({ frames := 2, cells := 0, slots := 0, locals := 36 }) E B N v [.ref (B + o), .int (zI num), .int (zI lnd), .int (zI home), .int (zI mil)] (po0 N (fun ρ v' => ρ = none ∧ (va_up v o (.inr (9, [.int (zI num), .int (zI lnd), .int (zI home), .int (zI mil)]))) = v')) := by
  refine x_met (nm := "<init>") (by decide +kernel) rfl (Nat.le_of_ble_eq_true rfl) rfl (fun Γ K KR hnL hnm => ?_)
  show XW Γ N v [(0, .ref (B + o)), (1, .int (zI num)), (2, .int (zI lnd)), (3, .int (zI home)), (4, .int (zI mil))] 0 0 0 []
  refine x_v (cel_pad hc0) ?_
  refine x_aload_n (pc := 0) 0 K rfl rfl dX0_init_0 ?_
  refine x_iload_n (pc := 1) 1 K rfl rfl dX0_init_1 ?_
  refine x_iload_n (pc := 2) 2 K rfl rfl dX0_init_2 ?_
  refine x_iload_n (pc := 3) 3 K rfl rfl dX0_init_3 ?_
  refine x_iload (pc := 4) 4 K rfl dX0_init_4 ?_
  refine x_callI (pc := 6) (As := [.int (zI num), .int (zI lnd), .int (zI home), .int (zI mil)]) K (c_X6_init_X10 (E := E) (B := B) (N := N)   (cel_self hc0.1) ) gX0_init_X6_init rfl (by decide +kernel) (by decide +kernel) (by decide +kernel) rfl (na := 4) (by decide +kernel) rfl ⟨(Nat.le_of_ble_eq_true rfl), (Nat.le_of_ble_eq_true rfl)⟩ (st := []) rfl (Nat.le_of_ble_eq_true rfl) ⟨(Nat.le_of_ble_eq_true rfl), (Nat.le_of_ble_eq_true rfl)⟩ dX0_init_6 (fun r6 N6 w6 hpo6 hN6 => ?_)
  obtain ⟨rfl, rfl, rfl⟩ := hpo6
  refine x_v (w := (va_up v o (.inr (9, [.int (zI num), .int (zI lnd), .int (zI home), .int (zI mil)])))) (up_at0).symm ?_
  refine x_st (st' := []) rfl ?_
  refine x_vret (pc := 9) K KR (by omega) (Nat.le_of_ble_eq_true rfl) (Nat.le_of_ble_eq_true rfl) dX0_init_9 ?_
  exact ⟨rfl, rfl, rfl⟩

set_option maxRecDepth 100000 in
set_option maxHeartbeats 4000000 in
theorem c_X10_init_X10 {E : XE} {B N : Nat} {v : Nat → va_E} {o : Nat} {num lnd home mil : Int} (hc0 : Cel N v o (.inr (9, [.int (zI 0), .int (zI 0), .int (zI 0), .int (zI 0)]))) : gM yX10_init wsX10_init ({ frames := 3, cells := 0, slots := 0, locals := 60 }) E B N v [.ref (B + o), .int (zI num), .int (zI lnd), .int (zI home), .int (zI mil)] (po0 N (fun ρ v' => ρ = none ∧ (va_up v o (.inr (9, [.int (zI num), .int (zI lnd), .int (zI home), .int (zI mil)]))) = v')) := by
  refine x_met (nm := "<init>") (by decide +kernel) rfl (Nat.le_of_ble_eq_true rfl) rfl (fun Γ K KR hnL hnm => ?_)
  show XW Γ N v [(0, .ref (B + o)), (1, .int (zI num)), (2, .int (zI lnd)), (3, .int (zI home)), (4, .int (zI mil))] 0 0 0 []
  refine x_v (cel_pad hc0) ?_
  refine x_aload_n (pc := 0) 0 K rfl rfl dX10_init_0 ?_
  refine x_iload_n (pc := 1) 1 K rfl rfl dX10_init_1 ?_
  refine x_iload_n (pc := 2) 2 K rfl rfl dX10_init_2 ?_
  refine x_iload_n (pc := 3) 3 K rfl rfl dX10_init_3 ?_
  refine x_iload (pc := 4) 4 K rfl dX10_init_4 ?_
  refine x_callI (pc := 6) (As := [.int (zI num), .int (zI lnd), .int (zI home), .int (zI mil)]) K (c_X0_init_X10 (E := E) (B := B) (N := N)   (cel_self hc0.1) ) gX10_init_X0_init rfl (by decide +kernel) (by decide +kernel) (by decide +kernel) rfl (na := 4) (by decide +kernel) rfl ⟨(Nat.le_of_ble_eq_true rfl), (Nat.le_of_ble_eq_true rfl)⟩ (st := []) rfl (Nat.le_of_ble_eq_true rfl) ⟨(Nat.le_of_ble_eq_true rfl), (Nat.le_of_ble_eq_true rfl)⟩ dX10_init_6 (fun r6 N6 w6 hpo6 hN6 => ?_)
  obtain ⟨rfl, rfl, rfl⟩ := hpo6
  refine x_v (w := (va_up v o (.inr (9, [.int (zI num), .int (zI lnd), .int (zI home), .int (zI mil)])))) (up_at0).symm ?_
  refine x_st (st' := []) rfl ?_
  refine x_vret (pc := 9) K KR (by omega) (Nat.le_of_ble_eq_true rfl) (Nat.le_of_ble_eq_true rfl) dX10_init_9 ?_
  exact ⟨rfl, rfl, rfl⟩

set_option maxRecDepth 100000 in
set_option maxHeartbeats 4000000 in
theorem c_X6_init_X1 {E : XE} {B N : Nat} {v : Nat → va_E} {o : Nat} {num lnd home mil : Int} (hc0 : Cel N v o (.inr (1, [.int (zI 0), .int (zI 0), .int (zI 0), .int (zI 0)]))) : gM yX6_init wsX6_init ({ frames := 1, cells := 0, slots := 0, locals := 12 }) E B N v [.ref (B + o), .int (zI num), .int (zI lnd), .int (zI home), .int (zI mil)] (po0 N (fun ρ v' => ρ = none ∧ (va_up v o (.inr (1, [.int (zI num), .int (zI lnd), .int (zI home), .int (zI mil)]))) = v')) := by
  refine x_met (nm := "<init>") (by decide +kernel) rfl (Nat.le_of_ble_eq_true rfl) rfl (fun Γ K KR hnL hnm => ?_)
  show XW Γ N v [(0, .ref (B + o)), (1, .int (zI num)), (2, .int (zI lnd)), (3, .int (zI home)), (4, .int (zI mil))] 0 0 0 []
  refine x_v (cel_pad hc0) ?_
  refine x_aload_n (pc := 0) 0 K rfl rfl dX6_init_0 ?_
  refine x_objInit (nL9 := 0) (pc := 1) (idx := 1) K (by decide +kernel) (by decide +kernel) (by decide +kernel) (Nat.le_of_ble_eq_true rfl) (Nat.le_of_ble_eq_true rfl) dX6_init_1 ?_
  refine x_aload_n (pc := 4) 0 K rfl rfl dX6_init_4 ?_
  refine x_iload_n (pc := 5) 1 K rfl rfl dX6_init_5 ?_
  refine x_putF (pc := 6) (C := RX1) (T := TX1) (n := 4) (ci := 1) (idx := 7) (ref := "BorderBeds$Person") (ty := .int)  K (cel_self hc0.1) rfl (by decide +kernel) tyX1 tyX1_ok nmX1 0 (by decide) (by decide +kernel) rfl rfl hnm rfl (by decide +kernel) rfl rfl (Nat.le_of_ble_eq_true rfl) dX6_init_6 ?_
  refine x_v (w := (va_up v o (.inr (1, [.int (zI num), .int (zI 0), .int (zI 0), .int (zI 0)])))) (up_at0).symm ?_
  refine x_aload_n (pc := 9) 0 K rfl rfl dX6_init_9 ?_
  refine x_iload_n (pc := 10) 2 K rfl rfl dX6_init_10 ?_
  refine x_putF (pc := 11) (C := RX1) (T := TX1) (n := 4) (ci := 1) (idx := 13) (ref := "BorderBeds$Person") (ty := .int)  K (cel_self hc0.1) rfl (by decide +kernel) tyX1 tyX1_ok nmX1 1 (by decide) (by decide +kernel) rfl rfl hnm rfl (by decide +kernel) rfl rfl (Nat.le_of_ble_eq_true rfl) dX6_init_11 ?_
  refine x_v (w := (va_up v o (.inr (1, [.int (zI num), .int (zI lnd), .int (zI 0), .int (zI 0)])))) (up_at0).symm ?_
  refine x_aload_n (pc := 14) 0 K rfl rfl dX6_init_14 ?_
  refine x_iload_n (pc := 15) 3 K rfl rfl dX6_init_15 ?_
  refine x_putF (pc := 16) (C := RX1) (T := TX1) (n := 4) (ci := 1) (idx := 16) (ref := "BorderBeds$Person") (ty := .int)  K (cel_self hc0.1) rfl (by decide +kernel) tyX1 tyX1_ok nmX1 2 (by decide) (by decide +kernel) rfl rfl hnm rfl (by decide +kernel) rfl rfl (Nat.le_of_ble_eq_true rfl) dX6_init_16 ?_
  refine x_v (w := (va_up v o (.inr (1, [.int (zI num), .int (zI lnd), .int (zI home), .int (zI 0)])))) (up_at0).symm ?_
  refine x_aload_n (pc := 19) 0 K rfl rfl dX6_init_19 ?_
  refine x_iload (pc := 20) 4 K rfl dX6_init_20 ?_
  refine x_putF (pc := 22) (C := RX1) (T := TX1) (n := 4) (ci := 1) (idx := 19) (ref := "BorderBeds$Person") (ty := .int)  K (cel_self hc0.1) rfl (by decide +kernel) tyX1 tyX1_ok nmX1 3 (by decide) (by decide +kernel) rfl rfl hnm rfl (by decide +kernel) rfl rfl (Nat.le_of_ble_eq_true rfl) dX6_init_22 ?_
  refine x_v (w := (va_up v o (.inr (1, [.int (zI num), .int (zI lnd), .int (zI home), .int (zI mil)])))) (up_at0).symm ?_
  refine x_vret (pc := 25) K KR (by omega) (Nat.le_of_ble_eq_true rfl) (Nat.le_of_ble_eq_true rfl) dX6_init_25 ?_
  exact ⟨rfl, rfl, rfl⟩

set_option maxRecDepth 100000 in
set_option maxHeartbeats 4000000 in
theorem c_X1_init_X1 {E : XE} {B N : Nat} {v : Nat → va_E} {o : Nat} {num lnd home mil : Int} (hc0 : Cel N v o (.inr (1, [.int (zI 0), .int (zI 0), .int (zI 0), .int (zI 0)]))) : gM yX1_init wsX1_init ({ frames := 2, cells := 0, slots := 0, locals := 36 }) E B N v [.ref (B + o), .int (zI num), .int (zI lnd), .int (zI home), .int (zI mil)] (po0 N (fun ρ v' => ρ = none ∧ (va_up v o (.inr (1, [.int (zI num), .int (zI lnd), .int (zI home), .int (zI mil)]))) = v')) := by
  refine x_met (nm := "<init>") (by decide +kernel) rfl (Nat.le_of_ble_eq_true rfl) rfl (fun Γ K KR hnL hnm => ?_)
  show XW Γ N v [(0, .ref (B + o)), (1, .int (zI num)), (2, .int (zI lnd)), (3, .int (zI home)), (4, .int (zI mil))] 0 0 0 []
  refine x_v (cel_pad hc0) ?_
  refine x_aload_n (pc := 0) 0 K rfl rfl dX1_init_0 ?_
  refine x_iload_n (pc := 1) 1 K rfl rfl dX1_init_1 ?_
  refine x_iload_n (pc := 2) 2 K rfl rfl dX1_init_2 ?_
  refine x_iload_n (pc := 3) 3 K rfl rfl dX1_init_3 ?_
  refine x_iload (pc := 4) 4 K rfl dX1_init_4 ?_
  refine x_callI (pc := 6) (As := [.int (zI num), .int (zI lnd), .int (zI home), .int (zI mil)]) K (c_X6_init_X1 (E := E) (B := B) (N := N)   (cel_self hc0.1) ) gX1_init_X6_init rfl (by decide +kernel) (by decide +kernel) (by decide +kernel) rfl (na := 4) (by decide +kernel) rfl ⟨(Nat.le_of_ble_eq_true rfl), (Nat.le_of_ble_eq_true rfl)⟩ (st := []) rfl (Nat.le_of_ble_eq_true rfl) ⟨(Nat.le_of_ble_eq_true rfl), (Nat.le_of_ble_eq_true rfl)⟩ dX1_init_6 (fun r6 N6 w6 hpo6 hN6 => ?_)
  obtain ⟨rfl, rfl, rfl⟩ := hpo6
  refine x_v (w := (va_up v o (.inr (1, [.int (zI num), .int (zI lnd), .int (zI home), .int (zI mil)])))) (up_at0).symm ?_
  refine x_st (st' := []) rfl ?_
  refine x_vret (pc := 9) K KR (by omega) (Nat.le_of_ble_eq_true rfl) (Nat.le_of_ble_eq_true rfl) dX1_init_9 ?_
  exact ⟨rfl, rfl, rfl⟩

set_option maxRecDepth 100000 in
set_option maxHeartbeats 4000000 in
theorem c_X6_init_X5 {E : XE} {B N : Nat} {v : Nat → va_E} {o : Nat} {num lnd home mil : Int} (hc0 : Cel N v o (.inr (5, [.int (zI 0), .int (zI 0), .int (zI 0), .int (zI 0)]))) : gM yX6_init wsX6_init ({ frames := 1, cells := 0, slots := 0, locals := 12 }) E B N v [.ref (B + o), .int (zI num), .int (zI lnd), .int (zI home), .int (zI mil)] (po0 N (fun ρ v' => ρ = none ∧ (va_up v o (.inr (5, [.int (zI num), .int (zI lnd), .int (zI home), .int (zI mil)]))) = v')) := by
  refine x_met (nm := "<init>") (by decide +kernel) rfl (Nat.le_of_ble_eq_true rfl) rfl (fun Γ K KR hnL hnm => ?_)
  show XW Γ N v [(0, .ref (B + o)), (1, .int (zI num)), (2, .int (zI lnd)), (3, .int (zI home)), (4, .int (zI mil))] 0 0 0 []
  refine x_v (cel_pad hc0) ?_
  refine x_aload_n (pc := 0) 0 K rfl rfl dX6_init_0 ?_
  refine x_objInit (nL9 := 0) (pc := 1) (idx := 1) K (by decide +kernel) (by decide +kernel) (by decide +kernel) (Nat.le_of_ble_eq_true rfl) (Nat.le_of_ble_eq_true rfl) dX6_init_1 ?_
  refine x_aload_n (pc := 4) 0 K rfl rfl dX6_init_4 ?_
  refine x_iload_n (pc := 5) 1 K rfl rfl dX6_init_5 ?_
  refine x_putF (pc := 6) (C := RX5) (T := TX5) (n := 4) (ci := 5) (idx := 7) (ref := "BorderBeds$Person") (ty := .int)  K (cel_self hc0.1) rfl (by decide +kernel) tyX5 tyX5_ok nmX5 0 (by decide) (by decide +kernel) rfl rfl hnm rfl (by decide +kernel) rfl rfl (Nat.le_of_ble_eq_true rfl) dX6_init_6 ?_
  refine x_v (w := (va_up v o (.inr (5, [.int (zI num), .int (zI 0), .int (zI 0), .int (zI 0)])))) (up_at0).symm ?_
  refine x_aload_n (pc := 9) 0 K rfl rfl dX6_init_9 ?_
  refine x_iload_n (pc := 10) 2 K rfl rfl dX6_init_10 ?_
  refine x_putF (pc := 11) (C := RX5) (T := TX5) (n := 4) (ci := 5) (idx := 13) (ref := "BorderBeds$Person") (ty := .int)  K (cel_self hc0.1) rfl (by decide +kernel) tyX5 tyX5_ok nmX5 1 (by decide) (by decide +kernel) rfl rfl hnm rfl (by decide +kernel) rfl rfl (Nat.le_of_ble_eq_true rfl) dX6_init_11 ?_
  refine x_v (w := (va_up v o (.inr (5, [.int (zI num), .int (zI lnd), .int (zI 0), .int (zI 0)])))) (up_at0).symm ?_
  refine x_aload_n (pc := 14) 0 K rfl rfl dX6_init_14 ?_
  refine x_iload_n (pc := 15) 3 K rfl rfl dX6_init_15 ?_
  refine x_putF (pc := 16) (C := RX5) (T := TX5) (n := 4) (ci := 5) (idx := 16) (ref := "BorderBeds$Person") (ty := .int)  K (cel_self hc0.1) rfl (by decide +kernel) tyX5 tyX5_ok nmX5 2 (by decide) (by decide +kernel) rfl rfl hnm rfl (by decide +kernel) rfl rfl (Nat.le_of_ble_eq_true rfl) dX6_init_16 ?_
  refine x_v (w := (va_up v o (.inr (5, [.int (zI num), .int (zI lnd), .int (zI home), .int (zI 0)])))) (up_at0).symm ?_
  refine x_aload_n (pc := 19) 0 K rfl rfl dX6_init_19 ?_
  refine x_iload (pc := 20) 4 K rfl dX6_init_20 ?_
  refine x_putF (pc := 22) (C := RX5) (T := TX5) (n := 4) (ci := 5) (idx := 19) (ref := "BorderBeds$Person") (ty := .int)  K (cel_self hc0.1) rfl (by decide +kernel) tyX5 tyX5_ok nmX5 3 (by decide) (by decide +kernel) rfl rfl hnm rfl (by decide +kernel) rfl rfl (Nat.le_of_ble_eq_true rfl) dX6_init_22 ?_
  refine x_v (w := (va_up v o (.inr (5, [.int (zI num), .int (zI lnd), .int (zI home), .int (zI mil)])))) (up_at0).symm ?_
  refine x_vret (pc := 25) K KR (by omega) (Nat.le_of_ble_eq_true rfl) (Nat.le_of_ble_eq_true rfl) dX6_init_25 ?_
  exact ⟨rfl, rfl, rfl⟩

set_option maxRecDepth 100000 in
set_option maxHeartbeats 4000000 in
theorem c_X1_init_X5 {E : XE} {B N : Nat} {v : Nat → va_E} {o : Nat} {num lnd home mil : Int} (hc0 : Cel N v o (.inr (5, [.int (zI 0), .int (zI 0), .int (zI 0), .int (zI 0)]))) : gM yX1_init wsX1_init ({ frames := 2, cells := 0, slots := 0, locals := 36 }) E B N v [.ref (B + o), .int (zI num), .int (zI lnd), .int (zI home), .int (zI mil)] (po0 N (fun ρ v' => ρ = none ∧ (va_up v o (.inr (5, [.int (zI num), .int (zI lnd), .int (zI home), .int (zI mil)]))) = v')) := by
  refine x_met (nm := "<init>") (by decide +kernel) rfl (Nat.le_of_ble_eq_true rfl) rfl (fun Γ K KR hnL hnm => ?_)
  show XW Γ N v [(0, .ref (B + o)), (1, .int (zI num)), (2, .int (zI lnd)), (3, .int (zI home)), (4, .int (zI mil))] 0 0 0 []
  refine x_v (cel_pad hc0) ?_
  refine x_aload_n (pc := 0) 0 K rfl rfl dX1_init_0 ?_
  refine x_iload_n (pc := 1) 1 K rfl rfl dX1_init_1 ?_
  refine x_iload_n (pc := 2) 2 K rfl rfl dX1_init_2 ?_
  refine x_iload_n (pc := 3) 3 K rfl rfl dX1_init_3 ?_
  refine x_iload (pc := 4) 4 K rfl dX1_init_4 ?_
  refine x_callI (pc := 6) (As := [.int (zI num), .int (zI lnd), .int (zI home), .int (zI mil)]) K (c_X6_init_X5 (E := E) (B := B) (N := N)   (cel_self hc0.1) ) gX1_init_X6_init rfl (by decide +kernel) (by decide +kernel) (by decide +kernel) rfl (na := 4) (by decide +kernel) rfl ⟨(Nat.le_of_ble_eq_true rfl), (Nat.le_of_ble_eq_true rfl)⟩ (st := []) rfl (Nat.le_of_ble_eq_true rfl) ⟨(Nat.le_of_ble_eq_true rfl), (Nat.le_of_ble_eq_true rfl)⟩ dX1_init_6 (fun r6 N6 w6 hpo6 hN6 => ?_)
  obtain ⟨rfl, rfl, rfl⟩ := hpo6
  refine x_v (w := (va_up v o (.inr (5, [.int (zI num), .int (zI lnd), .int (zI home), .int (zI mil)])))) (up_at0).symm ?_
  refine x_st (st' := []) rfl ?_
  refine x_vret (pc := 9) K KR (by omega) (Nat.le_of_ble_eq_true rfl) (Nat.le_of_ble_eq_true rfl) dX1_init_9 ?_
  exact ⟨rfl, rfl, rfl⟩

set_option maxRecDepth 100000 in
set_option maxHeartbeats 4000000 in
theorem c_X5_init_X5 {E : XE} {B N : Nat} {v : Nat → va_E} {o : Nat} {num lnd home mil : Int} (hc0 : Cel N v o (.inr (5, [.int (zI 0), .int (zI 0), .int (zI 0), .int (zI 0)]))) : gM yX5_init wsX5_init ({ frames := 3, cells := 0, slots := 0, locals := 60 }) E B N v [.ref (B + o), .int (zI num), .int (zI lnd), .int (zI home), .int (zI mil)] (po0 N (fun ρ v' => ρ = none ∧ (va_up v o (.inr (5, [.int (zI num), .int (zI lnd), .int (zI home), .int (zI mil)]))) = v')) := by
  refine x_met (nm := "<init>") (by decide +kernel) rfl (Nat.le_of_ble_eq_true rfl) rfl (fun Γ K KR hnL hnm => ?_)
  show XW Γ N v [(0, .ref (B + o)), (1, .int (zI num)), (2, .int (zI lnd)), (3, .int (zI home)), (4, .int (zI mil))] 0 0 0 []
  refine x_v (cel_pad hc0) ?_
  refine x_aload_n (pc := 0) 0 K rfl rfl dX5_init_0 ?_
  refine x_iload_n (pc := 1) 1 K rfl rfl dX5_init_1 ?_
  refine x_iload_n (pc := 2) 2 K rfl rfl dX5_init_2 ?_
  refine x_iload_n (pc := 3) 3 K rfl rfl dX5_init_3 ?_
  refine x_iload (pc := 4) 4 K rfl dX5_init_4 ?_
  refine x_callI (pc := 6) (As := [.int (zI num), .int (zI lnd), .int (zI home), .int (zI mil)]) K (c_X1_init_X5 (E := E) (B := B) (N := N)   (cel_self hc0.1) ) gX5_init_X1_init rfl (by decide +kernel) (by decide +kernel) (by decide +kernel) rfl (na := 4) (by decide +kernel) rfl ⟨(Nat.le_of_ble_eq_true rfl), (Nat.le_of_ble_eq_true rfl)⟩ (st := []) rfl (Nat.le_of_ble_eq_true rfl) ⟨(Nat.le_of_ble_eq_true rfl), (Nat.le_of_ble_eq_true rfl)⟩ dX5_init_6 (fun r6 N6 w6 hpo6 hN6 => ?_)
  obtain ⟨rfl, rfl, rfl⟩ := hpo6
  refine x_v (w := (va_up v o (.inr (5, [.int (zI num), .int (zI lnd), .int (zI home), .int (zI mil)])))) (up_at0).symm ?_
  refine x_st (st' := []) rfl ?_
  refine x_vret (pc := 9) K KR (by omega) (Nat.le_of_ble_eq_true rfl) (Nat.le_of_ble_eq_true rfl) dX5_init_9 ?_
  exact ⟨rfl, rfl, rfl⟩

set_option maxRecDepth 100000 in
set_option maxHeartbeats 4000000 in
theorem c_X6_reach_X0 {E : XE} {B N : Nat} {v : Nat → va_E} {o : Nat} {num lnd home mil : Int} (hc0 : Cel N v o (.inr (0, [.int (zI num), .int (zI lnd), .int (zI home), .int (zI mil)]))) : gM yX6_reach wsX6_reach ({ frames := 0, cells := 0, slots := 0, locals := 0 }) E B N v [.ref (B + o)] (po0 N (fun ρ v' => ρ = some (.int (zI mil)) ∧ v = v')) := by
  refine x_met (nm := "reach") (by decide +kernel) rfl (Nat.le_of_ble_eq_true rfl) rfl (fun Γ K KR hnL hnm => ?_)
  show XW Γ N v [(0, .ref (B + o))] 0 0 0 []
  refine x_aload_n (pc := 0) 0 K rfl rfl dX6_reach_0 ?_
  refine x_get (pc := 1) (C := RX0) (T := TX0) (n := 4) (ci := 0) (idx := 19) (ref := "BorderBeds$Person") (x := .int (zI mil))  K hc0 rfl (by decide +kernel) 3 (by decide) (by decide +kernel) rfl rfl dX6_reach_1 ?_
  refine x_iret (pc := 4) K KR (by omega) (Nat.le_of_ble_eq_true rfl) (Nat.le_of_ble_eq_true rfl) dX6_reach_4 ?_
  exact ⟨rfl, rfl, rfl⟩

set_option maxRecDepth 100000 in
set_option maxHeartbeats 4000000 in
theorem c_X0_sort_X0 {E : XE} {B N : Nat} {v : Nat → va_E} {o : Nat} {num lnd home mil : Int} (hc0 : Cel N v o (.inr (0, [.int (zI num), .int (zI lnd), .int (zI home), .int (zI mil)]))) : gM yX0_sort wsX0_sort ({ frames := 0, cells := 0, slots := 0, locals := 0 }) E B N v [.ref (B + o)] (po0 N (fun ρ v' => ρ = some (.int (zI 1)) ∧ v = v')) := by
  refine x_met (nm := "sort") (by decide +kernel) rfl (Nat.le_of_ble_eq_true rfl) rfl (fun Γ K KR hnL hnm => ?_)
  show XW Γ N v [(0, .ref (B + o))] 0 0 0 []
  refine x_iconst (pc := 0) K dX0_sort_0 ?_
  refine x_iret (pc := 1) K KR (by omega) (Nat.le_of_ble_eq_true rfl) (Nat.le_of_ble_eq_true rfl) dX0_sort_1 ?_
  exact ⟨rfl, rfl, rfl⟩

set_option maxRecDepth 100000 in
set_option maxHeartbeats 4000000 in
theorem c_X2_reach_X2 {E : XE} {B N : Nat} {v : Nat → va_E} {o : Nat} {num lnd home mil : Int} (hc0 : Cel N v o (.inr (2, [.int (zI num), .int (zI lnd), .int (zI home), .int (zI mil)]))) : gM yX2_reach wsX2_reach ({ frames := 0, cells := 0, slots := 0, locals := 0 }) E B N v [.ref (B + o)] (po0 N (fun ρ v' => ρ = some (.int (zI (2 * mil))) ∧ v = v')) := by
  refine x_met (nm := "reach") (by decide +kernel) rfl (Nat.le_of_ble_eq_true rfl) rfl (fun Γ K KR hnL hnm => ?_)
  show XW Γ N v [(0, .ref (B + o))] 0 0 0 []
  refine x_iconst (pc := 0) K dX2_reach_0 ?_
  refine x_aload_n (pc := 1) 0 K rfl rfl dX2_reach_1 ?_
  refine x_getI (pc := 2) (C := RX2) (T := TX2) (n := 4) (ci := 2) (idx := 9) (ref := "BorderBeds$Envoy") (x := .int (zI mil))  K hc0 rfl (by decide +kernel) 3 (by decide) (by decide +kernel) (by decide +kernel) rfl dX2_reach_2 ?_
  refine x_imul (pc := 5) K dX2_reach_5 ?_
  refine x_iret (pc := 6) K KR (by omega) (Nat.le_of_ble_eq_true rfl) (Nat.le_of_ble_eq_true rfl) dX2_reach_6 ?_
  exact ⟨rfl, rfl, rfl⟩

set_option maxRecDepth 100000 in
set_option maxHeartbeats 4000000 in
theorem c_X2_sort_X2 {E : XE} {B N : Nat} {v : Nat → va_E} {o : Nat} {num lnd home mil : Int} (hc0 : Cel N v o (.inr (2, [.int (zI num), .int (zI lnd), .int (zI home), .int (zI mil)]))) : gM yX2_sort wsX2_sort ({ frames := 0, cells := 0, slots := 0, locals := 0 }) E B N v [.ref (B + o)] (po0 N (fun ρ v' => ρ = some (.int (zI 2)) ∧ v = v')) := by
  refine x_met (nm := "sort") (by decide +kernel) rfl (Nat.le_of_ble_eq_true rfl) rfl (fun Γ K KR hnL hnm => ?_)
  show XW Γ N v [(0, .ref (B + o))] 0 0 0 []
  refine x_iconst (pc := 0) K dX2_sort_0 ?_
  refine x_iret (pc := 1) K KR (by omega) (Nat.le_of_ble_eq_true rfl) (Nat.le_of_ble_eq_true rfl) dX2_sort_1 ?_
  exact ⟨rfl, rfl, rfl⟩

set_option maxRecDepth 100000 in
set_option maxHeartbeats 4000000 in
theorem c_X6_reach_X10 {E : XE} {B N : Nat} {v : Nat → va_E} {o : Nat} {num lnd home mil : Int} (hc0 : Cel N v o (.inr (9, [.int (zI num), .int (zI lnd), .int (zI home), .int (zI mil)]))) : gM yX6_reach wsX6_reach ({ frames := 0, cells := 0, slots := 0, locals := 0 }) E B N v [.ref (B + o)] (po0 N (fun ρ v' => ρ = some (.int (zI mil)) ∧ v = v')) := by
  refine x_met (nm := "reach") (by decide +kernel) rfl (Nat.le_of_ble_eq_true rfl) rfl (fun Γ K KR hnL hnm => ?_)
  show XW Γ N v [(0, .ref (B + o))] 0 0 0 []
  refine x_aload_n (pc := 0) 0 K rfl rfl dX6_reach_0 ?_
  refine x_get (pc := 1) (C := RX10) (T := TX10) (n := 4) (ci := 9) (idx := 19) (ref := "BorderBeds$Person") (x := .int (zI mil))  K hc0 rfl (by decide +kernel) 3 (by decide) (by decide +kernel) rfl rfl dX6_reach_1 ?_
  refine x_iret (pc := 4) K KR (by omega) (Nat.le_of_ble_eq_true rfl) (Nat.le_of_ble_eq_true rfl) dX6_reach_4 ?_
  exact ⟨rfl, rfl, rfl⟩

set_option maxRecDepth 100000 in
set_option maxHeartbeats 4000000 in
theorem c_X10_sort_X10 {E : XE} {B N : Nat} {v : Nat → va_E} {o : Nat} {num lnd home mil : Int} (hc0 : Cel N v o (.inr (9, [.int (zI num), .int (zI lnd), .int (zI home), .int (zI mil)]))) : gM yX10_sort wsX10_sort ({ frames := 0, cells := 0, slots := 0, locals := 0 }) E B N v [.ref (B + o)] (po0 N (fun ρ v' => ρ = some (.int (zI 3)) ∧ v = v')) := by
  refine x_met (nm := "sort") (by decide +kernel) rfl (Nat.le_of_ble_eq_true rfl) rfl (fun Γ K KR hnL hnm => ?_)
  show XW Γ N v [(0, .ref (B + o))] 0 0 0 []
  refine x_iconst (pc := 0) K dX10_sort_0 ?_
  refine x_iret (pc := 1) K KR (by omega) (Nat.le_of_ble_eq_true rfl) (Nat.le_of_ble_eq_true rfl) dX10_sort_1 ?_
  exact ⟨rfl, rfl, rfl⟩

set_option maxRecDepth 100000 in
set_option maxHeartbeats 4000000 in
theorem c_X6_reach_X1 {E : XE} {B N : Nat} {v : Nat → va_E} {o : Nat} {num lnd home mil : Int} (hc0 : Cel N v o (.inr (1, [.int (zI num), .int (zI lnd), .int (zI home), .int (zI mil)]))) : gM yX6_reach wsX6_reach ({ frames := 0, cells := 0, slots := 0, locals := 0 }) E B N v [.ref (B + o)] (po0 N (fun ρ v' => ρ = some (.int (zI mil)) ∧ v = v')) := by
  refine x_met (nm := "reach") (by decide +kernel) rfl (Nat.le_of_ble_eq_true rfl) rfl (fun Γ K KR hnL hnm => ?_)
  show XW Γ N v [(0, .ref (B + o))] 0 0 0 []
  refine x_aload_n (pc := 0) 0 K rfl rfl dX6_reach_0 ?_
  refine x_get (pc := 1) (C := RX1) (T := TX1) (n := 4) (ci := 1) (idx := 19) (ref := "BorderBeds$Person") (x := .int (zI mil))  K hc0 rfl (by decide +kernel) 3 (by decide) (by decide +kernel) rfl rfl dX6_reach_1 ?_
  refine x_iret (pc := 4) K KR (by omega) (Nat.le_of_ble_eq_true rfl) (Nat.le_of_ble_eq_true rfl) dX6_reach_4 ?_
  exact ⟨rfl, rfl, rfl⟩

set_option maxRecDepth 100000 in
set_option maxHeartbeats 4000000 in
theorem c_X1_sort_X1 {E : XE} {B N : Nat} {v : Nat → va_E} {o : Nat} {num lnd home mil : Int} (hc0 : Cel N v o (.inr (1, [.int (zI num), .int (zI lnd), .int (zI home), .int (zI mil)]))) : gM yX1_sort wsX1_sort ({ frames := 0, cells := 0, slots := 0, locals := 0 }) E B N v [.ref (B + o)] (po0 N (fun ρ v' => ρ = some (.int (zI 4)) ∧ v = v')) := by
  refine x_met (nm := "sort") (by decide +kernel) rfl (Nat.le_of_ble_eq_true rfl) rfl (fun Γ K KR hnL hnm => ?_)
  show XW Γ N v [(0, .ref (B + o))] 0 0 0 []
  refine x_iconst (pc := 0) K dX1_sort_0 ?_
  refine x_iret (pc := 1) K KR (by omega) (Nat.le_of_ble_eq_true rfl) (Nat.le_of_ble_eq_true rfl) dX1_sort_1 ?_
  exact ⟨rfl, rfl, rfl⟩

set_option maxRecDepth 100000 in
set_option maxHeartbeats 4000000 in
theorem c_X6_reach_X5 {E : XE} {B N : Nat} {v : Nat → va_E} {o : Nat} {num lnd home mil : Int} (hc0 : Cel N v o (.inr (5, [.int (zI num), .int (zI lnd), .int (zI home), .int (zI mil)]))) : gM yX6_reach wsX6_reach ({ frames := 0, cells := 0, slots := 0, locals := 0 }) E B N v [.ref (B + o)] (po0 N (fun ρ v' => ρ = some (.int (zI mil)) ∧ v = v')) := by
  refine x_met (nm := "reach") (by decide +kernel) rfl (Nat.le_of_ble_eq_true rfl) rfl (fun Γ K KR hnL hnm => ?_)
  show XW Γ N v [(0, .ref (B + o))] 0 0 0 []
  refine x_aload_n (pc := 0) 0 K rfl rfl dX6_reach_0 ?_
  refine x_get (pc := 1) (C := RX5) (T := TX5) (n := 4) (ci := 5) (idx := 19) (ref := "BorderBeds$Person") (x := .int (zI mil))  K hc0 rfl (by decide +kernel) 3 (by decide) (by decide +kernel) rfl rfl dX6_reach_1 ?_
  refine x_iret (pc := 4) K KR (by omega) (Nat.le_of_ble_eq_true rfl) (Nat.le_of_ble_eq_true rfl) dX6_reach_4 ?_
  exact ⟨rfl, rfl, rfl⟩

set_option maxRecDepth 100000 in
set_option maxHeartbeats 4000000 in
theorem c_X5_sort_X5 {E : XE} {B N : Nat} {v : Nat → va_E} {o : Nat} {num lnd home mil : Int} (hc0 : Cel N v o (.inr (5, [.int (zI num), .int (zI lnd), .int (zI home), .int (zI mil)]))) : gM yX5_sort wsX5_sort ({ frames := 0, cells := 0, slots := 0, locals := 0 }) E B N v [.ref (B + o)] (po0 N (fun ρ v' => ρ = some (.int (zI 5)) ∧ v = v')) := by
  refine x_met (nm := "sort") (by decide +kernel) rfl (Nat.le_of_ble_eq_true rfl) rfl (fun Γ K KR hnL hnm => ?_)
  show XW Γ N v [(0, .ref (B + o))] 0 0 0 []
  refine x_iconst (pc := 0) K dX5_sort_0 ?_
  refine x_iret (pc := 1) K KR (by omega) (Nat.le_of_ble_eq_true rfl) (Nat.le_of_ble_eq_true rfl) dX5_sort_1 ?_
  exact ⟨rfl, rfl, rfl⟩
