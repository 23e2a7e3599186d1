theorem dX11_ask_0 : decode cX11_ask 0 = .ok (.aload_n 0, 1) := by decide +kernel
theorem dX11_ask_1 : decode cX11_ask 1 = .ok (.iload_n 1, 1) := by decide +kernel
set_option maxRecDepth 20000 in
theorem ggX11_ask_X11_personAt : GoodIn wsX11_ask wsX11_personAt := goodIn_r _ [7, 8, 9, 10, 11, 12, 13, 14, 15, 105, 106, 107, 108, 109, 110, 111, 112, 113, 114, 115, 116, 117, 118, 119, 120, 121, 122, 123, 124, 125, 126, 127] (by decide +kernel) (by decide +kernel)
set_option maxRecDepth 20000 in
theorem gX11_ask_X11_personAt : GoodIn wsX11_ask (wsV RX11 135 RX11 yX11_personAt wsX11_personAt) := goodIn_app (goodIn_of _ (by decide +kernel)) ggX11_ask_X11_personAt
theorem dX11_ask_2 : decode cX11_ask 2 = .ok (.invokevirtual 135, 3) := by decide +kernel
theorem dX11_ask_5 : decode cX11_ask 5 = .ok (.astore_n 3, 1) := by decide +kernel
theorem dX11_ask_6 : decode cX11_ask 6 = .ok (.aload_n 3, 1) := by decide +kernel
theorem dX11_ask_7 : decode cX11_ask 7 = .ok (.ifnull 12, 3) := by decide +kernel
theorem dX11_ask_19 : decode cX11_ask 19 = .ok (.ldc 71, 2) := by decide +kernel
theorem dX11_ask_21 : decode cX11_ask 21 = .ok (.ireturn, 1) := by decide +kernel
theorem dX11_ask_10 : decode cX11_ask 10 = .ok (.iload_n 2, 1) := by decide +kernel
theorem dX11_ask_11 : decode cX11_ask 11 = .ok (.ifCond .lt 8, 3) := by decide +kernel
theorem dX11_ask_14 : decode cX11_ask 14 = .ok (.iload_n 2, 1) := by decide +kernel
theorem dX11_ask_15 : decode cX11_ask 15 = .ok (.iconst 1, 1) := by decide +kernel
theorem dX11_ask_16 : decode cX11_ask 16 = .ok (.if_icmp .le 6, 3) := by decide +kernel
theorem dX11_ask_22 : decode cX11_ask 22 = .ok (.aload_n 0, 1) := by decide +kernel
theorem dX11_ask_23 : decode cX11_ask 23 = .ok (.getfield 25, 3) := by decide +kernel
set_option maxRecDepth 20000 in
theorem ggX11_ask_X9_begin : GoodIn wsX11_ask wsX9_begin := goodIn_r _ [20, 21, 128, 129] (by decide +kernel) (by decide +kernel)
set_option maxRecDepth 20000 in
theorem gX11_ask_X9_begin : GoodIn wsX11_ask (wsV RX11 244 RX9 yX9_begin wsX9_begin) := goodIn_app (goodIn_of _ (by decide +kernel)) ggX11_ask_X9_begin
theorem dX11_ask_26 : decode cX11_ask 26 = .ok (.invokevirtual 244, 3) := by decide +kernel
theorem dX11_ask_29 : decode cX11_ask 29 = .ok (.iload_n 2, 1) := by decide +kernel
theorem dX11_ask_30 : decode cX11_ask 30 = .ok (.ifCond .ne 14, 3) := by decide +kernel
theorem dX11_ask_44 : decode cX11_ask 44 = .ok (.aload_n 3, 1) := by decide +kernel
theorem dX11_ask_45 : decode cX11_ask 45 = .ok (.aload_n 0, 1) := by decide +kernel
theorem dX11_ask_46 : decode cX11_ask 46 = .ok (.getfield 25, 3) := by decide +kernel
set_option maxRecDepth 20000 in
theorem ggX11_ask_X0_mark : GoodIn wsX11_ask wsX0_mark := goodIn_r _ [44, 45, 46, 29, 30, 31, 19, 32, 21, 33, 47, 48, 35, 49, 37, 50, 51, 40, 130, 131, 132, 133, 134, 135, 136, 137, 138, 139, 140, 141, 142, 143, 144, 145, 146, 147, 148, 149, 128, 129] (by decide +kernel) (by decide +kernel)
set_option maxRecDepth 20000 in
theorem gX11_ask_X0_mark_u249X0 : GoodIn wsX11_ask (va_wsO RX11 249 RX0 "BorderBeds$Person" ⟨"BorderBeds$Person", "mark", "(LBorderBeds$Trace;)I"⟩ yX0_mark wsX0_mark) := goodIn_app (goodIn_of _ (by decide +kernel)) ggX11_ask_X0_mark
theorem dX11_ask_49 : decode cX11_ask 49 = .ok (.invokevirtual 249, 3) := by decide +kernel
theorem dX11_ask_52 : decode cX11_ask 52 = .ok (.ireturn, 1) := by decide +kernel
theorem dX11_ask_33 : decode cX11_ask 33 = .ok (.aload_n 3, 1) := by decide +kernel
theorem dX11_ask_34 : decode cX11_ask 34 = .ok (.aload_n 0, 1) := by decide +kernel
theorem dX11_ask_35 : decode cX11_ask 35 = .ok (.getfield 25, 3) := by decide +kernel
set_option maxRecDepth 20000 in
theorem ggX11_ask_X0_size : GoodIn wsX11_ask wsX0_size := goodIn_r _ [28, 29, 30, 31, 19, 32, 21, 33, 34, 23, 35, 36, 37, 38, 39, 40, 41, 42, 43, 27, 44, 45, 46, 47, 48, 49, 50, 51, 52, 53, 54, 55, 56, 57, 58, 59, 60, 61, 62, 63, 64, 65, 66, 67, 68, 128, 129, 130, 131, 132, 133, 134, 135, 136, 137, 138, 139, 140, 141, 142, 143, 144, 145, 146, 147, 148, 149] (by decide +kernel) (by decide +kernel)
set_option maxRecDepth 20000 in
theorem gX11_ask_X0_size_u246X0 : GoodIn wsX11_ask (va_wsO RX11 246 RX0 "BorderBeds$Person" ⟨"BorderBeds$Person", "size", "(LBorderBeds$Trace;)I"⟩ yX0_size wsX0_size) := goodIn_app (goodIn_of _ (by decide +kernel)) ggX11_ask_X0_size
theorem dX11_ask_38 : decode cX11_ask 38 = .ok (.invokevirtual 246, 3) := by decide +kernel
theorem dX11_ask_41 : decode cX11_ask 41 = .ok (.goto 11, 3) := by decide +kernel
set_option maxRecDepth 20000 in
theorem ggX11_ask_X2_mark : GoodIn wsX11_ask wsX2_mark := goodIn_r _ [58, 59, 30, 31, 19, 32, 21, 33, 60, 53, 61, 42, 27, 44, 45, 46, 29, 47, 48, 35, 49, 37, 50, 51, 40, 128, 129, 130, 131, 132, 133, 134, 135, 136, 137, 138, 139, 140, 141, 142, 143, 144, 145, 146, 147, 148, 149] (by decide +kernel) (by decide +kernel)
set_option maxRecDepth 20000 in
theorem gX11_ask_X2_mark_u249X2 : GoodIn wsX11_ask (va_wsO RX11 249 RX2 "BorderBeds$Person" ⟨"BorderBeds$Person", "mark", "(LBorderBeds$Trace;)I"⟩ yX2_mark wsX2_mark) := goodIn_app (goodIn_of _ (by decide +kernel)) ggX11_ask_X2_mark
set_option maxRecDepth 20000 in
theorem ggX11_ask_X2_size : GoodIn wsX11_ask wsX2_size := goodIn_r _ [78, 59, 30, 31, 19, 32, 21, 33, 79, 80, 61, 26, 27, 28, 29, 34, 23, 35, 36, 37, 38, 39, 40, 41, 42, 43, 44, 45, 46, 47, 48, 49, 50, 51, 52, 53, 54, 55, 56, 57, 58, 60, 62, 63, 64, 65, 66, 67, 68, 128, 129, 130, 131, 132, 133, 134, 135, 136, 137, 138, 139, 140, 141, 142, 143, 144, 145, 146, 147, 148, 149] (by decide +kernel) (by decide +kernel)
set_option maxRecDepth 20000 in
theorem gX11_ask_X2_size_u246X2 : GoodIn wsX11_ask (va_wsO RX11 246 RX2 "BorderBeds$Person" ⟨"BorderBeds$Person", "size", "(LBorderBeds$Trace;)I"⟩ yX2_size wsX2_size) := goodIn_app (goodIn_of _ (by decide +kernel)) ggX11_ask_X2_size
set_option maxRecDepth 20000 in
theorem ggX11_ask_X10_mark : GoodIn wsX11_ask wsX10_mark := goodIn_r _ [65, 66, 30, 31, 19, 32, 21, 33, 67, 53, 68, 42, 27, 44, 45, 46, 29, 47, 48, 35, 49, 37, 50, 51, 40, 128, 129, 130, 131, 132, 133, 134, 135, 136, 137, 138, 139, 140, 141, 142, 143, 144, 145, 146, 147, 148, 149] (by decide +kernel) (by decide +kernel)
set_option maxRecDepth 20000 in
theorem gX11_ask_X10_mark_u249X10 : GoodIn wsX11_ask (va_wsO RX11 249 RX10 "BorderBeds$Person" ⟨"BorderBeds$Person", "mark", "(LBorderBeds$Trace;)I"⟩ yX10_mark wsX10_mark) := goodIn_app (goodIn_of _ (by decide +kernel)) ggX11_ask_X10_mark
set_option maxRecDepth 20000 in
theorem gX11_ask_X0_size_u246X10 : GoodIn wsX11_ask (va_wsO RX11 246 RX10 "BorderBeds$Person" ⟨"BorderBeds$Person", "size", "(LBorderBeds$Trace;)I"⟩ yX0_size wsX0_size) := goodIn_app (goodIn_of _ (by decide +kernel)) ggX11_ask_X0_size
set_option maxRecDepth 20000 in
theorem ggX11_ask_X1_mark : GoodIn wsX11_ask wsX1_mark := goodIn_r _ [95, 73, 30, 31, 19, 32, 21, 33, 96, 48, 75, 49, 37, 50, 51, 40, 97, 70, 98, 71, 72, 74, 23, 36, 38, 39, 99, 87, 100, 101, 82, 83, 84, 85, 86, 88, 128, 129, 130, 131, 132, 133, 134, 135, 136, 137, 138, 139, 140, 141, 142, 143, 144, 145, 146, 147, 148, 149] (by decide +kernel) (by decide +kernel)
set_option maxRecDepth 20000 in
theorem gX11_ask_X1_mark_u249X1 : GoodIn wsX11_ask (va_wsO RX11 249 RX1 "BorderBeds$Person" ⟨"BorderBeds$Person", "mark", "(LBorderBeds$Trace;)I"⟩ yX1_mark wsX1_mark) := goodIn_app (goodIn_of _ (by decide +kernel)) ggX11_ask_X1_mark
set_option maxRecDepth 20000 in
theorem ggX11_ask_X1_size : GoodIn wsX11_ask wsX1_size := goodIn_r _ [72, 73, 30, 31, 19, 32, 21, 33, 74, 23, 75, 36, 37, 38, 39, 40, 128, 129, 130, 131, 132, 133, 134, 135, 136, 137, 138, 139, 140, 141, 142, 143, 144, 145, 146, 147, 148, 149] (by decide +kernel) (by decide +kernel)
set_option maxRecDepth 20000 in
theorem gX11_ask_X1_size_u246X1 : GoodIn wsX11_ask (va_wsO RX11 246 RX1 "BorderBeds$Person" ⟨"BorderBeds$Person", "size", "(LBorderBeds$Trace;)I"⟩ yX1_size wsX1_size) := goodIn_app (goodIn_of _ (by decide +kernel)) ggX11_ask_X1_size
set_option maxRecDepth 20000 in
theorem gX11_ask_X1_mark_u249X5 : GoodIn wsX11_ask (va_wsO RX11 249 RX5 "BorderBeds$Person" ⟨"BorderBeds$Person", "mark", "(LBorderBeds$Trace;)I"⟩ yX1_mark wsX1_mark) := goodIn_app (goodIn_of _ (by decide +kernel)) ggX11_ask_X1_mark
set_option maxRecDepth 20000 in
theorem ggX11_ask_X5_size : GoodIn wsX11_ask wsX5_size := goodIn_r _ [84, 85, 30, 31, 19, 32, 21, 33, 86, 87, 88, 70, 71, 72, 73, 74, 23, 75, 36, 37, 38, 39, 40, 128, 129, 130, 131, 132, 133, 134, 135, 136, 137, 138, 139, 140, 141, 142, 143, 144, 145, 146, 147, 148, 149] (by decide +kernel) (by decide +kernel)
set_option maxRecDepth 20000 in
theorem gX11_ask_X5_size_u246X5 : GoodIn wsX11_ask (va_wsO RX11 246 RX5 "BorderBeds$Person" ⟨"BorderBeds$Person", "size", "(LBorderBeds$Trace;)I"⟩ yX5_size wsX5_size) := goodIn_app (goodIn_of _ (by decide +kernel)) ggX11_ask_X5_size
set_option maxRecDepth 100000 in
set_option maxHeartbeats 4000000 in
theorem c_X11_ask_0 {E : XE} {B N : Nat} {v : Nat → va_E} {old kept fau fin : Int} {x what : Int} (hc0 : Cel N v 0 (.inr (10, [.ref (B + 1), .ref (B + 2), .ref (B + 5), .ref (B + 7), .ref (B + 12), .ref (B + 13), .ref (B + 14), .null, .int (zI old), .int (zI kept), .int (zI fau), .int (zI fin)]))) : gM yX11_ask wsX11_ask ({ frames := 6, cells := 0, slots := 0, locals := 127 }) E B N v [.ref (B + 0), .int (zI x), .int (zI what)] (po0 N (fun ρ v' => ρ = some (.int (zI (-1000001))) ∧ v = v')) := by
  refine x_met (nm := "ask") (by decide +kernel) rfl (Nat.le_of_ble_eq_true rfl) rfl (fun Γ K KR hnL hnm => ?_)
  show XW Γ N v [(0, .ref (B + 0)), (1, .int (zI x)), (2, .int (zI what))] 0 0 0 []
  refine x_aload_n (pc := 0) 0 K rfl rfl dX11_ask_0 ?_
  refine x_iload_n (pc := 1) 1 K rfl rfl dX11_ask_1 ?_
  refine x_callV (pc := 2) (C := RX11) (T := TX11) (n := 12) (ci := 10) (As := [.int (zI x)]) K (c_X11_personAt_0 (E := E) (B := B) (N := N)   hc0 ) gX11_ask_X11_personAt rfl (na := 1) (by decide +kernel) rfl ⟨(Nat.le_of_ble_eq_true rfl), (Nat.le_of_ble_eq_true rfl)⟩ hc0 rfl (st := []) rfl (Nat.le_of_ble_eq_true rfl) ⟨(Nat.le_of_ble_eq_true rfl), (Nat.le_of_ble_eq_true rfl)⟩ dX11_ask_2 (fun r2 N2 w2 hpo2 hN2 => ?_)
  obtain ⟨rfl, rfl, rfl⟩ := hpo2
  refine x_st (st' := [.null]) rfl ?_
  refine x_astore_nN (pc := 5) K (L' := [(3, .null), (0, .ref (B + 0)), (1, .int (zI x)), (2, .int (zI what))]) hnL rfl (by decide) rfl dX11_ask_5 ?_
  refine x_aload_nN (pc := 6) 0 K rfl rfl dX11_ask_6 ?_
  refine x_ifnullN (pc := 7) (tgt := 19) K dX11_ask_7 (by decide) ?_
  refine x_ldc (pc := 19) (x := (-1000001)) (-1000001) K (by decide) (by decide +kernel) dX11_ask_19 ?_
  refine x_iret (pc := 21) K KR (by omega) (Nat.le_of_ble_eq_true rfl) (Nat.le_of_ble_eq_true rfl) dX11_ask_21 ?_
  exact ⟨rfl, rfl, rfl⟩

set_option maxRecDepth 100000 in
set_option maxHeartbeats 4000000 in
theorem c_X11_ask_n {E : XE} {B N : Nat} {v : Nat → va_E} {old kept fau fin : Int} {c : Nat} {p : Nat → Int} {x what : Int} (hc0 : Cel N v 0 (.inr (10, [.ref (B + 1), .ref (B + 2), .ref (B + 5), .ref (B + 7), .ref (B + 12), .ref (B + 13), .ref (B + 14), .ref (B + c), .int (zI old), .int (zI kept), .int (zI fau), .int (zI fin)]))) (hc1 : Cel N v c (.inr (3, [.int (zI (p 0)), .int (zI (p 1)), .int (zI (p 2)), .ref (B + (c + 1)), .ref (B + (c + 2)), .int (zI (p 3)), .ref (B + (c + 3)), .int (zI (p 4)), .ref (B + (c + 4)), .ref (B + (c + 13)), .ref (B + (c + 18))]))) (hc2 : Cel N v (c + 3) (rarr E 5 5 B (psA c p))) (hq0 : ¬ (0 ≤ x ∧ x ≤ p 4 - 1)) (hq1 : 0 ≤ p 4 ∧ p 4 ≤ 5) (hq2 : (-2147483648 ≤ x ∧ x ≤ 2147483647)) : gM yX11_ask wsX11_ask ({ frames := 6, cells := 0, slots := 0, locals := 127 }) E B N v [.ref (B + 0), .int (zI x), .int (zI what)] (po0 N (fun ρ v' => ρ = some (.int (zI (-1000001))) ∧ v = v')) := by
  refine x_met (nm := "ask") (by decide +kernel) rfl (Nat.le_of_ble_eq_true rfl) rfl (fun Γ K KR hnL hnm => ?_)
  show XW Γ N v [(0, .ref (B + 0)), (1, .int (zI x)), (2, .int (zI what))] 0 0 0 []
  refine x_aload_n (pc := 0) 0 K rfl rfl dX11_ask_0 ?_
  refine x_iload_n (pc := 1) 1 K rfl rfl dX11_ask_1 ?_
  refine x_callV (pc := 2) (C := RX11) (T := TX11) (n := 12) (ci := 10) (As := [.int (zI x)]) K (c_X11_personAt_n (E := E) (B := B) (N := N)   hc0 hc1 hc2 hq0 (by omega) (by omega)) gX11_ask_X11_personAt rfl (na := 1) (by decide +kernel) rfl ⟨(Nat.le_of_ble_eq_true rfl), (Nat.le_of_ble_eq_true rfl)⟩ hc0 rfl (st := []) rfl (Nat.le_of_ble_eq_true rfl) ⟨(Nat.le_of_ble_eq_true rfl), (Nat.le_of_ble_eq_true rfl)⟩ dX11_ask_2 (fun r2 N2 w2 hpo2 hN2 => ?_)
  obtain ⟨rfl, rfl, rfl⟩ := hpo2
  refine x_st (st' := [.null]) rfl ?_
  refine x_astore_nN (pc := 5) K (L' := [(3, .null), (0, .ref (B + 0)), (1, .int (zI x)), (2, .int (zI what))]) hnL rfl (by decide) rfl dX11_ask_5 ?_
  refine x_aload_nN (pc := 6) 0 K rfl rfl dX11_ask_6 ?_
  refine x_ifnullN (pc := 7) (tgt := 19) K dX11_ask_7 (by decide) ?_
  refine x_ldc (pc := 19) (x := (-1000001)) (-1000001) K (by decide) (by decide +kernel) dX11_ask_19 ?_
  refine x_iret (pc := 21) K KR (by omega) (Nat.le_of_ble_eq_true rfl) (Nat.le_of_ble_eq_true rfl) dX11_ask_21 ?_
  exact ⟨rfl, rfl, rfl⟩

set_option maxRecDepth 100000 in
set_option maxHeartbeats 4000000 in
theorem c_X11_ask_1 {E : XE} {B N : Nat} {v : Nat → va_E} {old kept fau fin : Int} {c o x : Nat} {p : Nat → Int} {lnd home mil : Int} {what : Int} {m : Nat} {tr : Nat → Int} {x_i : Int} (ha_x : x_i = (x : Int)) (hc0 : Cel N v 0 (.inr (10, [.ref (B + 1), .ref (B + 2), .ref (B + 5), .ref (B + 7), .ref (B + 12), .ref (B + 13), .ref (B + 14), .ref (B + c), .int (zI old), .int (zI kept), .int (zI fau), .int (zI fin)]))) (hc1 : Cel N v c (.inr (3, [.int (zI (p 0)), .int (zI (p 1)), .int (zI (p 2)), .ref (B + (c + 1)), .ref (B + (c + 2)), .int (zI (p 3)), .ref (B + (c + 3)), .int (zI (p 4)), .ref (B + (c + 4)), .ref (B + (c + 13)), .ref (B + (c + 18))]))) (hc2 : Cel N v (c + 3) (rarr E 5 5 B (psA c p))) (hc3 : Cel N v o (.inr (0, [.int (zI (x : Int)), .int (zI lnd), .int (zI home), .int (zI mil)]))) (hc4 : Cel N v 5 (.inr (8, [.ref (B + 6), .int (zI (m : Int))]))) (hc5 : Cel N v 6 (iarr E 16 tr)) (hq0 : (x : Int) < p 4) (hq1 : p 4 ≤ 5) (hq2 : o = c + 23 + x) (hq3 : (-2147483648 ≤ what ∧ what ≤ 2147483647)) (hq4 : 174 ≤ c) : gM yX11_ask wsX11_ask ({ frames := 6, cells := 0, slots := 0, locals := 127 }) E B N v [.ref (B + 0), .int (zI x_i), .int (zI what)] (po0 N (fun ρ v' => ∃ (res : Int), ∃ (n2 : Nat), ∃ (tr2 : Nat → Int), ((¬ (0 ≤ what ∧ what ≤ 1) ∧ res = -1000001 ∧ n2 = m ∧ tr2 = tr) ∨ ((0 ≤ what ∧ what ≤ 1) ∧ n2 = (askD 1 what).length ∧ tr2 = wrL tr 0 (askD 1 what) ∧ res = askV 1 (x : Int) ((x : Int) + home) mil what)) ∧ ρ = some (.int (zI res)) ∧ (va_up (va_up v 5 (.inr (8, [.ref (B + 6), .int (zI (n2 : Int))]))) 6 (iarr E 16 tr2)) = v')) := by
  subst ha_x
  refine x_met (nm := "ask") (by decide +kernel) rfl (Nat.le_of_ble_eq_true rfl) rfl (fun Γ K KR hnL hnm => ?_)
  show XW Γ N v [(0, .ref (B + 0)), (1, .int (zI (x : Int))), (2, .int (zI what))] 0 0 0 []
  refine x_v (cel_pad hc4) ?_
  refine x_v (cel_pad (cel_ne hc5 (by decide))) ?_
  refine x_aload_n (pc := 0) 0 K rfl rfl dX11_ask_0 ?_
  refine x_iload_n (pc := 1) 1 K rfl rfl dX11_ask_1 ?_
  refine x_callV (pc := 2) (C := RX11) (T := TX11) (n := 12) (ci := 10) (As := [.int (zI (x : Int))]) K (c_X11_personAt_y (E := E) (B := B) (N := N) (o := o) (x := x) rfl (cel_ne (cel_ne hc0 (by decide)) (by decide)) (cel_ne (cel_ne hc1 (by omega)) (by omega)) (cel_ne (cel_ne hc2 (by omega)) (by omega)) hq0 hq1 hq2) gX11_ask_X11_personAt rfl (na := 1) (by decide +kernel) rfl ⟨(Nat.le_of_ble_eq_true rfl), (Nat.le_of_ble_eq_true rfl)⟩ (cel_ne (cel_ne hc0 (by decide)) (by decide)) rfl (st := []) rfl (Nat.le_of_ble_eq_true rfl) ⟨(Nat.le_of_ble_eq_true rfl), (Nat.le_of_ble_eq_true rfl)⟩ dX11_ask_2 (fun r2 N2 w2 hpo2 hN2 => ?_)
  obtain ⟨rfl, rfl, rfl⟩ := hpo2
  refine x_st (st' := [.ref (B + o)]) rfl ?_
  refine x_astore_n (pc := 5) K (L' := [(3, .ref (B + o)), (0, .ref (B + 0)), (1, .int (zI (x : Int))), (2, .int (zI what))]) hnL rfl (by decide) rfl dX11_ask_5 ?_
  refine x_aload_n (pc := 6) 0 K rfl rfl dX11_ask_6 ?_
  refine x_ifnull (pc := 7) K dX11_ask_7 ?_
  refine x_iload_n (pc := 10) 3 K rfl rfl dX11_ask_10 ?_
  refine x_if_lt (pc := 11) (tgt := 19) K (by omega) dX11_ask_11 (by decide) (fun h_11 => ?_) (fun h_11 => ?_)
  · skip
    refine x_ldc (pc := 19) (x := (-1000001)) (-1000001) K (by decide) (by decide +kernel) dX11_ask_19 ?_
    refine x_iret (pc := 21) K KR (by omega) (Nat.le_of_ble_eq_true rfl) (Nat.le_of_ble_eq_true rfl) dX11_ask_21 ?_
    exact ⟨rfl, (-1000001), m, tr, (Or.inl ⟨by omega, rfl, rfl, rfl⟩), rfl, rfl⟩
  · skip
    refine x_iload_n (pc := 14) 3 K rfl rfl dX11_ask_14 ?_
    refine x_iconst (pc := 15) K dX11_ask_15 ?_
    refine x_icmp_le (pc := 16) (tgt := 22) K (by omega) (by decide) dX11_ask_16 (by decide) (fun h_16 => ?_) (fun h_16 => ?_)
    · skip
      refine x_aload_n (pc := 22) 1 K rfl rfl dX11_ask_22 ?_
      refine x_get (pc := 23) (C := RX11) (T := TX11) (n := 12) (ci := 10) (idx := 25) (ref := "BorderBeds") (x := .ref (B + 5))  K (cel_ne (cel_ne hc0 (by decide)) (by decide)) rfl (by decide +kernel) 2 (by decide) (by decide +kernel) rfl rfl dX11_ask_23 ?_
      refine x_callV (pc := 26) (C := RX9) (T := TX9) (n := 2) (ci := 8) (As := []) K (c_X9_begin (E := E) (B := B) (N := N)   (cel_ne (cel_self hc4.1) (by decide)) ) gX11_ask_X9_begin rfl (na := 0) (by decide +kernel) rfl ⟨(Nat.le_of_ble_eq_true rfl), (Nat.le_of_ble_eq_true rfl)⟩ (cel_ne (cel_self hc4.1) (by decide)) rfl (st := []) rfl (Nat.le_of_ble_eq_true rfl) ⟨(Nat.le_of_ble_eq_true rfl), (Nat.le_of_ble_eq_true rfl)⟩ dX11_ask_26 (fun r26 N26 w26 hpo26 hN26 => ?_)
      obtain ⟨rfl, rfl, rfl⟩ := hpo26
      refine x_v (w := (va_up (va_up v 5 (.inr (8, [.ref (B + 6), .int (zI 0)]))) 6 (iarr E 16 tr))) (up_at1 (by decide)).symm ?_
      refine x_st (st' := []) rfl ?_
      refine x_v (w := (va_up (va_up v 5 (.inr (8, [.ref (B + 6), .int (zI (0 : Int))]))) 6 (iarr E 16 tr))) rfl ?_
      refine x_iload_n (pc := 29) 3 K rfl rfl dX11_ask_29 ?_
      refine x_if_ne (pc := 30) (tgt := 44) K (by omega) dX11_ask_30 (by decide) (fun h_30 => ?_) (fun h_30 => ?_)
      · skip
        refine x_aload_n (pc := 44) 0 K rfl rfl dX11_ask_44 ?_
        refine x_aload_n (pc := 45) 1 K rfl rfl dX11_ask_45 ?_
        refine x_get (pc := 46) (C := RX11) (T := TX11) (n := 12) (ci := 10) (idx := 25) (ref := "BorderBeds") (x := .ref (B + 5))  K (cel_ne (cel_ne hc0 (by decide)) (by decide)) rfl (by decide +kernel) 2 (by decide) (by decide +kernel) rfl rfl dX11_ask_46 ?_
        refine x_callO (pc := 49) (C := RX0) (T := TX0) (n := 4) (ci := 0) (As := [.ref (B + 5)]) (owner := "BorderBeds$Person") (x := ⟨"BorderBeds$Person", "mark", "(LBorderBeds$Trace;)I"⟩) (b0 := cX6_mark) (m0 := 2) (r0 := (some .int)) K (c_X0_mark_X0 (E := E) (B := B) (N := N) (m := 0)  (cel_ne (cel_ne hc3 (by omega)) (by omega)) (cel_ne (cel_self hc4.1) (by decide)) (cel_self hc5.1) (by omega) (by omega)) gX11_ask_X0_mark_u249X0 rfl (by decide +kernel) (na := 1) (by decide +kernel) rfl ⟨(Nat.le_of_ble_eq_true rfl), (Nat.le_of_ble_eq_true rfl)⟩ (cel_ne (cel_ne hc3 (by omega)) (by omega)) rfl (st := []) rfl (Nat.le_of_ble_eq_true rfl) ⟨(Nat.le_of_ble_eq_true rfl), (Nat.le_of_ble_eq_true rfl)⟩ dX11_ask_49 (fun r49 N49 w49 hpo49 hN49 => ?_)
        obtain ⟨rfl, rfl, rfl⟩ := hpo49
        refine x_v (congrArg (fun w => (va_up w 6 (iarr E 16 (va_up (va_up tr 0 21) (0 + 1) 20)))) (show (va_up (va_up v 5 (.inr (8, [.ref (B + 6), .int (zI ((0 : Int) + 2))]))) 6 (iarr E 16 tr)) = _ from (up_at1 (by decide)).symm)) ?_
        refine x_v (w := (va_up (va_up v 5 (.inr (8, [.ref (B + 6), .int (zI ((0 : Int) + 2))]))) 6 (iarr E 16 (va_up (va_up tr 0 21) (0 + 1) 20)))) (up_at0).symm ?_
        refine x_st (st' := [.int (zI ((x : Int) + home))]) rfl ?_
        refine x_iret (pc := 52) K KR (by omega) (Nat.le_of_ble_eq_true rfl) (Nat.le_of_ble_eq_true rfl) dX11_ask_52 ?_
        have hw9 : what = 1 := by omega
        subst hw9
        have hD : askD 1 1 = [21, 20] := by decide
        exact ⟨rfl, ((x : Int) + home), ((((0 : Int) + 2)).toNat), (va_up (va_up tr 0 21) (0 + 1) 20), (Or.inr ⟨by omega, by rw [hD]; rfl, by rw [hD]; rfl, by simp [askV, markV, sizeV] <;> omega⟩), rfl, rfl⟩
      · skip
        refine x_aload_n (pc := 33) 0 K rfl rfl dX11_ask_33 ?_
        refine x_aload_n (pc := 34) 1 K rfl rfl dX11_ask_34 ?_
        refine x_get (pc := 35) (C := RX11) (T := TX11) (n := 12) (ci := 10) (idx := 25) (ref := "BorderBeds") (x := .ref (B + 5))  K (cel_ne (cel_ne hc0 (by decide)) (by decide)) rfl (by decide +kernel) 2 (by decide) (by decide +kernel) rfl rfl dX11_ask_35 ?_
        refine x_callO (pc := 38) (C := RX0) (T := TX0) (n := 4) (ci := 0) (As := [.ref (B + 5)]) (owner := "BorderBeds$Person") (x := ⟨"BorderBeds$Person", "size", "(LBorderBeds$Trace;)I"⟩) (b0 := cX6_size) (m0 := 2) (r0 := (some .int)) K (c_X0_size_X0 (E := E) (B := B) (N := N) (m := 0)  (cel_ne (cel_ne hc3 (by omega)) (by omega)) (cel_ne (cel_self hc4.1) (by decide)) (cel_self hc5.1) (by omega) (by omega)) gX11_ask_X0_size_u246X0 rfl (by decide +kernel) (na := 1) (by decide +kernel) rfl ⟨(Nat.le_of_ble_eq_true rfl), (Nat.le_of_ble_eq_true rfl)⟩ (cel_ne (cel_ne hc3 (by omega)) (by omega)) rfl (st := []) rfl (Nat.le_of_ble_eq_true rfl) ⟨(Nat.le_of_ble_eq_true rfl), (Nat.le_of_ble_eq_true rfl)⟩ dX11_ask_38 (fun r38 N38 w38 hpo38 hN38 => ?_)
        obtain ⟨rfl, rfl, rfl⟩ := hpo38
        refine x_v (congrArg (fun w => (va_up w 6 (iarr E 16 (va_up (va_up (va_up (va_up tr 0 11) (0 + 1) 10) (0 + 2) 21) (0 + 3) 20)))) (show (va_up (va_up v 5 (.inr (8, [.ref (B + 6), .int (zI ((0 : Int) + 4))]))) 6 (iarr E 16 tr)) = _ from (up_at1 (by decide)).symm)) ?_
        refine x_v (w := (va_up (va_up v 5 (.inr (8, [.ref (B + 6), .int (zI ((0 : Int) + 4))]))) 6 (iarr E 16 (va_up (va_up (va_up (va_up tr 0 11) (0 + 1) 10) (0 + 2) 21) (0 + 3) 20)))) (up_at0).symm ?_
        refine x_st (st' := [.int (zI (mil + ((x : Int) + home)))]) rfl ?_
        refine x_goto (pc := 41) (tgt := 52) K dX11_ask_41 (by decide) ?_
        refine x_iret (pc := 52) K KR (by omega) (Nat.le_of_ble_eq_true rfl) (Nat.le_of_ble_eq_true rfl) dX11_ask_52 ?_
        have hw9 : what = 0 := by omega
        subst hw9
        have hD : askD 1 0 = [11, 10, 21, 20] := by decide
        exact ⟨rfl, (mil + ((x : Int) + home)), ((((0 : Int) + 4)).toNat), (va_up (va_up (va_up (va_up tr 0 11) (0 + 1) 10) (0 + 2) 21) (0 + 3) 20), (Or.inr ⟨by omega, by rw [hD]; rfl, by rw [hD]; rfl, by simp [askV, markV, sizeV] <;> omega⟩), rfl, rfl⟩
    · skip
      refine x_ldc (pc := 19) (x := (-1000001)) (-1000001) K (by decide) (by decide +kernel) dX11_ask_19 ?_
      refine x_iret (pc := 21) K KR (by omega) (Nat.le_of_ble_eq_true rfl) (Nat.le_of_ble_eq_true rfl) dX11_ask_21 ?_
      exact ⟨rfl, (-1000001), m, tr, (Or.inl ⟨by omega, rfl, rfl, rfl⟩), rfl, rfl⟩

set_option maxRecDepth 100000 in
set_option maxHeartbeats 4000000 in
theorem c_X11_ask_2 {E : XE} {B N : Nat} {v : Nat → va_E} {old kept fau fin : Int} {c o x : Nat} {p : Nat → Int} {lnd home mil : Int} {what : Int} {m : Nat} {tr : Nat → Int} {x_i : Int} (ha_x : x_i = (x : Int)) (hc0 : Cel N v 0 (.inr (10, [.ref (B + 1), .ref (B + 2), .ref (B + 5), .ref (B + 7), .ref (B + 12), .ref (B + 13), .ref (B + 14), .ref (B + c), .int (zI old), .int (zI kept), .int (zI fau), .int (zI fin)]))) (hc1 : Cel N v c (.inr (3, [.int (zI (p 0)), .int (zI (p 1)), .int (zI (p 2)), .ref (B + (c + 1)), .ref (B + (c + 2)), .int (zI (p 3)), .ref (B + (c + 3)), .int (zI (p 4)), .ref (B + (c + 4)), .ref (B + (c + 13)), .ref (B + (c + 18))]))) (hc2 : Cel N v (c + 3) (rarr E 5 5 B (psA c p))) (hc3 : Cel N v o (.inr (2, [.int (zI (x : Int)), .int (zI lnd), .int (zI home), .int (zI mil)]))) (hc4 : Cel N v 5 (.inr (8, [.ref (B + 6), .int (zI (m : Int))]))) (hc5 : Cel N v 6 (iarr E 16 tr)) (hq0 : (x : Int) < p 4) (hq1 : p 4 ≤ 5) (hq2 : o = c + 23 + x) (hq3 : (-2147483648 ≤ what ∧ what ≤ 2147483647)) (hq4 : 174 ≤ c) : gM yX11_ask wsX11_ask ({ frames := 6, cells := 0, slots := 0, locals := 127 }) E B N v [.ref (B + 0), .int (zI x_i), .int (zI what)] (po0 N (fun ρ v' => ∃ (res : Int), ∃ (n2 : Nat), ∃ (tr2 : Nat → Int), ((¬ (0 ≤ what ∧ what ≤ 1) ∧ res = -1000001 ∧ n2 = m ∧ tr2 = tr) ∨ ((0 ≤ what ∧ what ≤ 1) ∧ n2 = (askD 2 what).length ∧ tr2 = wrL tr 0 (askD 2 what) ∧ res = askV 2 (x : Int) ((x : Int) + home) mil what)) ∧ ρ = some (.int (zI res)) ∧ (va_up (va_up v 5 (.inr (8, [.ref (B + 6), .int (zI (n2 : Int))]))) 6 (iarr E 16 tr2)) = v')) := by
  subst ha_x
  refine x_met (nm := "ask") (by decide +kernel) rfl (Nat.le_of_ble_eq_true rfl) rfl (fun Γ K KR hnL hnm => ?_)
  show XW Γ N v [(0, .ref (B + 0)), (1, .int (zI (x : Int))), (2, .int (zI what))] 0 0 0 []
  refine x_v (cel_pad hc4) ?_
  refine x_v (cel_pad (cel_ne hc5 (by decide))) ?_
  refine x_aload_n (pc := 0) 0 K rfl rfl dX11_ask_0 ?_
  refine x_iload_n (pc := 1) 1 K rfl rfl dX11_ask_1 ?_
  refine x_callV (pc := 2) (C := RX11) (T := TX11) (n := 12) (ci := 10) (As := [.int (zI (x : Int))]) K (c_X11_personAt_y (E := E) (B := B) (N := N) (o := o) (x := x) rfl (cel_ne (cel_ne hc0 (by decide)) (by decide)) (cel_ne (cel_ne hc1 (by omega)) (by omega)) (cel_ne (cel_ne hc2 (by omega)) (by omega)) hq0 hq1 hq2) gX11_ask_X11_personAt rfl (na := 1) (by decide +kernel) rfl ⟨(Nat.le_of_ble_eq_true rfl), (Nat.le_of_ble_eq_true rfl)⟩ (cel_ne (cel_ne hc0 (by decide)) (by decide)) rfl (st := []) rfl (Nat.le_of_ble_eq_true rfl) ⟨(Nat.le_of_ble_eq_true rfl), (Nat.le_of_ble_eq_true rfl)⟩ dX11_ask_2 (fun r2 N2 w2 hpo2 hN2 => ?_)
  obtain ⟨rfl, rfl, rfl⟩ := hpo2
  refine x_st (st' := [.ref (B + o)]) rfl ?_
  refine x_astore_n (pc := 5) K (L' := [(3, .ref (B + o)), (0, .ref (B + 0)), (1, .int (zI (x : Int))), (2, .int (zI what))]) hnL rfl (by decide) rfl dX11_ask_5 ?_
  refine x_aload_n (pc := 6) 0 K rfl rfl dX11_ask_6 ?_
  refine x_ifnull (pc := 7) K dX11_ask_7 ?_
  refine x_iload_n (pc := 10) 3 K rfl rfl dX11_ask_10 ?_
  refine x_if_lt (pc := 11) (tgt := 19) K (by omega) dX11_ask_11 (by decide) (fun h_11 => ?_) (fun h_11 => ?_)
  · skip
    refine x_ldc (pc := 19) (x := (-1000001)) (-1000001) K (by decide) (by decide +kernel) dX11_ask_19 ?_
    refine x_iret (pc := 21) K KR (by omega) (Nat.le_of_ble_eq_true rfl) (Nat.le_of_ble_eq_true rfl) dX11_ask_21 ?_
    exact ⟨rfl, (-1000001), m, tr, (Or.inl ⟨by omega, rfl, rfl, rfl⟩), rfl, rfl⟩
  · skip
    refine x_iload_n (pc := 14) 3 K rfl rfl dX11_ask_14 ?_
    refine x_iconst (pc := 15) K dX11_ask_15 ?_
    refine x_icmp_le (pc := 16) (tgt := 22) K (by omega) (by decide) dX11_ask_16 (by decide) (fun h_16 => ?_) (fun h_16 => ?_)
    · skip
      refine x_aload_n (pc := 22) 1 K rfl rfl dX11_ask_22 ?_
      refine x_get (pc := 23) (C := RX11) (T := TX11) (n := 12) (ci := 10) (idx := 25) (ref := "BorderBeds") (x := .ref (B + 5))  K (cel_ne (cel_ne hc0 (by decide)) (by decide)) rfl (by decide +kernel) 2 (by decide) (by decide +kernel) rfl rfl dX11_ask_23 ?_
      refine x_callV (pc := 26) (C := RX9) (T := TX9) (n := 2) (ci := 8) (As := []) K (c_X9_begin (E := E) (B := B) (N := N)   (cel_ne (cel_self hc4.1) (by decide)) ) gX11_ask_X9_begin rfl (na := 0) (by decide +kernel) rfl ⟨(Nat.le_of_ble_eq_true rfl), (Nat.le_of_ble_eq_true rfl)⟩ (cel_ne (cel_self hc4.1) (by decide)) rfl (st := []) rfl (Nat.le_of_ble_eq_true rfl) ⟨(Nat.le_of_ble_eq_true rfl), (Nat.le_of_ble_eq_true rfl)⟩ dX11_ask_26 (fun r26 N26 w26 hpo26 hN26 => ?_)
      obtain ⟨rfl, rfl, rfl⟩ := hpo26
      refine x_v (w := (va_up (va_up v 5 (.inr (8, [.ref (B + 6), .int (zI 0)]))) 6 (iarr E 16 tr))) (up_at1 (by decide)).symm ?_
      refine x_st (st' := []) rfl ?_
      refine x_v (w := (va_up (va_up v 5 (.inr (8, [.ref (B + 6), .int (zI (0 : Int))]))) 6 (iarr E 16 tr))) rfl ?_
      refine x_iload_n (pc := 29) 3 K rfl rfl dX11_ask_29 ?_
      refine x_if_ne (pc := 30) (tgt := 44) K (by omega) dX11_ask_30 (by decide) (fun h_30 => ?_) (fun h_30 => ?_)
      · skip
        refine x_aload_n (pc := 44) 0 K rfl rfl dX11_ask_44 ?_
        refine x_aload_n (pc := 45) 1 K rfl rfl dX11_ask_45 ?_
        refine x_get (pc := 46) (C := RX11) (T := TX11) (n := 12) (ci := 10) (idx := 25) (ref := "BorderBeds") (x := .ref (B + 5))  K (cel_ne (cel_ne hc0 (by decide)) (by decide)) rfl (by decide +kernel) 2 (by decide) (by decide +kernel) rfl rfl dX11_ask_46 ?_
        refine x_callO (pc := 49) (C := RX2) (T := TX2) (n := 4) (ci := 2) (As := [.ref (B + 5)]) (owner := "BorderBeds$Person") (x := ⟨"BorderBeds$Person", "mark", "(LBorderBeds$Trace;)I"⟩) (b0 := cX6_mark) (m0 := 2) (r0 := (some .int)) K (c_X2_mark_X2 (E := E) (B := B) (N := N) (m := 0)  (cel_ne (cel_ne hc3 (by omega)) (by omega)) (cel_ne (cel_self hc4.1) (by decide)) (cel_self hc5.1) (by omega) (by omega)) gX11_ask_X2_mark_u249X2 rfl (by decide +kernel) (na := 1) (by decide +kernel) rfl ⟨(Nat.le_of_ble_eq_true rfl), (Nat.le_of_ble_eq_true rfl)⟩ (cel_ne (cel_ne hc3 (by omega)) (by omega)) rfl (st := []) rfl (Nat.le_of_ble_eq_true rfl) ⟨(Nat.le_of_ble_eq_true rfl), (Nat.le_of_ble_eq_true rfl)⟩ dX11_ask_49 (fun r49 N49 w49 hpo49 hN49 => ?_)
        obtain ⟨rfl, rfl, rfl⟩ := hpo49
        refine x_v (congrArg (fun w => (va_up w 6 (iarr E 16 (va_up (va_up (va_up tr 0 24) (0 + 1) 21) (0 + 2) 20)))) (show (va_up (va_up v 5 (.inr (8, [.ref (B + 6), .int (zI ((0 : Int) + 3))]))) 6 (iarr E 16 tr)) = _ from (up_at1 (by decide)).symm)) ?_
        refine x_v (w := (va_up (va_up v 5 (.inr (8, [.ref (B + 6), .int (zI ((0 : Int) + 3))]))) 6 (iarr E 16 (va_up (va_up (va_up tr 0 24) (0 + 1) 21) (0 + 2) 20)))) (up_at0).symm ?_
        refine x_st (st' := [.int (zI (2 * ((x : Int) + home)))]) rfl ?_
        refine x_iret (pc := 52) K KR (by omega) (Nat.le_of_ble_eq_true rfl) (Nat.le_of_ble_eq_true rfl) dX11_ask_52 ?_
        have hw9 : what = 1 := by omega
        subst hw9
        have hD : askD 2 1 = [24, 21, 20] := by decide
        exact ⟨rfl, (2 * ((x : Int) + home)), ((((0 : Int) + 3)).toNat), (va_up (va_up (va_up tr 0 24) (0 + 1) 21) (0 + 2) 20), (Or.inr ⟨by omega, by rw [hD]; rfl, by rw [hD]; rfl, by simp [askV, markV, sizeV] <;> omega⟩), rfl, rfl⟩
      · skip
        refine x_aload_n (pc := 33) 0 K rfl rfl dX11_ask_33 ?_
        refine x_aload_n (pc := 34) 1 K rfl rfl dX11_ask_34 ?_
        refine x_get (pc := 35) (C := RX11) (T := TX11) (n := 12) (ci := 10) (idx := 25) (ref := "BorderBeds") (x := .ref (B + 5))  K (cel_ne (cel_ne hc0 (by decide)) (by decide)) rfl (by decide +kernel) 2 (by decide) (by decide +kernel) rfl rfl dX11_ask_35 ?_
        refine x_callO (pc := 38) (C := RX2) (T := TX2) (n := 4) (ci := 2) (As := [.ref (B + 5)]) (owner := "BorderBeds$Person") (x := ⟨"BorderBeds$Person", "size", "(LBorderBeds$Trace;)I"⟩) (b0 := cX6_size) (m0 := 2) (r0 := (some .int)) K (c_X2_size_X2 (E := E) (B := B) (N := N) (m := 0)  (cel_ne (cel_ne hc3 (by omega)) (by omega)) (cel_ne (cel_self hc4.1) (by decide)) (cel_self hc5.1) (by omega) (by omega)) gX11_ask_X2_size_u246X2 rfl (by decide +kernel) (na := 1) (by decide +kernel) rfl ⟨(Nat.le_of_ble_eq_true rfl), (Nat.le_of_ble_eq_true rfl)⟩ (cel_ne (cel_ne hc3 (by omega)) (by omega)) rfl (st := []) rfl (Nat.le_of_ble_eq_true rfl) ⟨(Nat.le_of_ble_eq_true rfl), (Nat.le_of_ble_eq_true rfl)⟩ dX11_ask_38 (fun r38 N38 w38 hpo38 hN38 => ?_)
        obtain ⟨rfl, rfl, rfl⟩ := hpo38
        refine x_v (congrArg (fun w => (va_up w 6 (iarr E 16 (va_up (va_up (va_up (va_up (va_up (va_up tr 0 12) (0 + 1) 11) (0 + 2) 10) (0 + 3) 24) (0 + 4) 21) (0 + 5) 20)))) (show (va_up (va_up v 5 (.inr (8, [.ref (B + 6), .int (zI ((0 : Int) + 6))]))) 6 (iarr E 16 tr)) = _ from (up_at1 (by decide)).symm)) ?_
        refine x_v (w := (va_up (va_up v 5 (.inr (8, [.ref (B + 6), .int (zI ((0 : Int) + 6))]))) 6 (iarr E 16 (va_up (va_up (va_up (va_up (va_up (va_up tr 0 12) (0 + 1) 11) (0 + 2) 10) (0 + 3) 24) (0 + 4) 21) (0 + 5) 20)))) (up_at0).symm ?_
        refine x_st (st' := [.int (zI (0 - (mil + (2 * ((x : Int) + home)))))]) rfl ?_
        refine x_goto (pc := 41) (tgt := 52) K dX11_ask_41 (by decide) ?_
        refine x_iret (pc := 52) K KR (by omega) (Nat.le_of_ble_eq_true rfl) (Nat.le_of_ble_eq_true rfl) dX11_ask_52 ?_
        have hw9 : what = 0 := by omega
        subst hw9
        have hD : askD 2 0 = [12, 11, 10, 24, 21, 20] := by decide
        exact ⟨rfl, (0 - (mil + (2 * ((x : Int) + home)))), ((((0 : Int) + 6)).toNat), (va_up (va_up (va_up (va_up (va_up (va_up tr 0 12) (0 + 1) 11) (0 + 2) 10) (0 + 3) 24) (0 + 4) 21) (0 + 5) 20), (Or.inr ⟨by omega, by rw [hD]; rfl, by rw [hD]; rfl, by simp [askV, markV, sizeV] <;> omega⟩), rfl, rfl⟩
    · skip
      refine x_ldc (pc := 19) (x := (-1000001)) (-1000001) K (by decide) (by decide +kernel) dX11_ask_19 ?_
      refine x_iret (pc := 21) K KR (by omega) (Nat.le_of_ble_eq_true rfl) (Nat.le_of_ble_eq_true rfl) dX11_ask_21 ?_
      exact ⟨rfl, (-1000001), m, tr, (Or.inl ⟨by omega, rfl, rfl, rfl⟩), rfl, rfl⟩

set_option maxRecDepth 100000 in
set_option maxHeartbeats 4000000 in
theorem c_X11_ask_3 {E : XE} {B N : Nat} {v : Nat → va_E} {old kept fau fin : Int} {c o x : Nat} {p : Nat → Int} {lnd home mil : Int} {what : Int} {m : Nat} {tr : Nat → Int} {x_i : Int} (ha_x : x_i = (x : Int)) (hc0 : Cel N v 0 (.inr (10, [.ref (B + 1), .ref (B + 2), .ref (B + 5), .ref (B + 7), .ref (B + 12), .ref (B + 13), .ref (B + 14), .ref (B + c), .int (zI old), .int (zI kept), .int (zI fau), .int (zI fin)]))) (hc1 : Cel N v c (.inr (3, [.int (zI (p 0)), .int (zI (p 1)), .int (zI (p 2)), .ref (B + (c + 1)), .ref (B + (c + 2)), .int (zI (p 3)), .ref (B + (c + 3)), .int (zI (p 4)), .ref (B + (c + 4)), .ref (B + (c + 13)), .ref (B + (c + 18))]))) (hc2 : Cel N v (c + 3) (rarr E 5 5 B (psA c p))) (hc3 : Cel N v o (.inr (9, [.int (zI (x : Int)), .int (zI lnd), .int (zI home), .int (zI mil)]))) (hc4 : Cel N v 5 (.inr (8, [.ref (B + 6), .int (zI (m : Int))]))) (hc5 : Cel N v 6 (iarr E 16 tr)) (hq0 : (x : Int) < p 4) (hq1 : p 4 ≤ 5) (hq2 : o = c + 23 + x) (hq3 : (-2147483648 ≤ what ∧ what ≤ 2147483647)) (hq4 : 174 ≤ c) : gM yX11_ask wsX11_ask ({ frames := 6, cells := 0, slots := 0, locals := 127 }) E B N v [.ref (B + 0), .int (zI x_i), .int (zI what)] (po0 N (fun ρ v' => ∃ (res : Int), ∃ (n2 : Nat), ∃ (tr2 : Nat → Int), ((¬ (0 ≤ what ∧ what ≤ 1) ∧ res = -1000001 ∧ n2 = m ∧ tr2 = tr) ∨ ((0 ≤ what ∧ what ≤ 1) ∧ n2 = (askD 3 what).length ∧ tr2 = wrL tr 0 (askD 3 what) ∧ res = askV 3 (x : Int) ((x : Int) + home) mil what)) ∧ ρ = some (.int (zI res)) ∧ (va_up (va_up v 5 (.inr (8, [.ref (B + 6), .int (zI (n2 : Int))]))) 6 (iarr E 16 tr2)) = v')) := by
  subst ha_x
  refine x_met (nm := "ask") (by decide +kernel) rfl (Nat.le_of_ble_eq_true rfl) rfl (fun Γ K KR hnL hnm => ?_)
  show XW Γ N v [(0, .ref (B + 0)), (1, .int (zI (x : Int))), (2, .int (zI what))] 0 0 0 []
  refine x_v (cel_pad hc4) ?_
  refine x_v (cel_pad (cel_ne hc5 (by decide))) ?_
  refine x_aload_n (pc := 0) 0 K rfl rfl dX11_ask_0 ?_
  refine x_iload_n (pc := 1) 1 K rfl rfl dX11_ask_1 ?_
  refine x_callV (pc := 2) (C := RX11) (T := TX11) (n := 12) (ci := 10) (As := [.int (zI (x : Int))]) K (c_X11_personAt_y (E := E) (B := B) (N := N) (o := o) (x := x) rfl (cel_ne (cel_ne hc0 (by decide)) (by decide)) (cel_ne (cel_ne hc1 (by omega)) (by omega)) (cel_ne (cel_ne hc2 (by omega)) (by omega)) hq0 hq1 hq2) gX11_ask_X11_personAt rfl (na := 1) (by decide +kernel) rfl ⟨(Nat.le_of_ble_eq_true rfl), (Nat.le_of_ble_eq_true rfl)⟩ (cel_ne (cel_ne hc0 (by decide)) (by decide)) rfl (st := []) rfl (Nat.le_of_ble_eq_true rfl) ⟨(Nat.le_of_ble_eq_true rfl), (Nat.le_of_ble_eq_true rfl)⟩ dX11_ask_2 (fun r2 N2 w2 hpo2 hN2 => ?_)
  obtain ⟨rfl, rfl, rfl⟩ := hpo2
  refine x_st (st' := [.ref (B + o)]) rfl ?_
  refine x_astore_n (pc := 5) K (L' := [(3, .ref (B + o)), (0, .ref (B + 0)), (1, .int (zI (x : Int))), (2, .int (zI what))]) hnL rfl (by decide) rfl dX11_ask_5 ?_
  refine x_aload_n (pc := 6) 0 K rfl rfl dX11_ask_6 ?_
  refine x_ifnull (pc := 7) K dX11_ask_7 ?_
  refine x_iload_n (pc := 10) 3 K rfl rfl dX11_ask_10 ?_
  refine x_if_lt (pc := 11) (tgt := 19) K (by omega) dX11_ask_11 (by decide) (fun h_11 => ?_) (fun h_11 => ?_)
  · skip
    refine x_ldc (pc := 19) (x := (-1000001)) (-1000001) K (by decide) (by decide +kernel) dX11_ask_19 ?_
    refine x_iret (pc := 21) K KR (by omega) (Nat.le_of_ble_eq_true rfl) (Nat.le_of_ble_eq_true rfl) dX11_ask_21 ?_
    exact ⟨rfl, (-1000001), m, tr, (Or.inl ⟨by omega, rfl, rfl, rfl⟩), rfl, rfl⟩
  · skip
    refine x_iload_n (pc := 14) 3 K rfl rfl dX11_ask_14 ?_
    refine x_iconst (pc := 15) K dX11_ask_15 ?_
    refine x_icmp_le (pc := 16) (tgt := 22) K (by omega) (by decide) dX11_ask_16 (by decide) (fun h_16 => ?_) (fun h_16 => ?_)
    · skip
      refine x_aload_n (pc := 22) 1 K rfl rfl dX11_ask_22 ?_
      refine x_get (pc := 23) (C := RX11) (T := TX11) (n := 12) (ci := 10) (idx := 25) (ref := "BorderBeds") (x := .ref (B + 5))  K (cel_ne (cel_ne hc0 (by decide)) (by decide)) rfl (by decide +kernel) 2 (by decide) (by decide +kernel) rfl rfl dX11_ask_23 ?_
      refine x_callV (pc := 26) (C := RX9) (T := TX9) (n := 2) (ci := 8) (As := []) K (c_X9_begin (E := E) (B := B) (N := N)   (cel_ne (cel_self hc4.1) (by decide)) ) gX11_ask_X9_begin rfl (na := 0) (by decide +kernel) rfl ⟨(Nat.le_of_ble_eq_true rfl), (Nat.le_of_ble_eq_true rfl)⟩ (cel_ne (cel_self hc4.1) (by decide)) rfl (st := []) rfl (Nat.le_of_ble_eq_true rfl) ⟨(Nat.le_of_ble_eq_true rfl), (Nat.le_of_ble_eq_true rfl)⟩ dX11_ask_26 (fun r26 N26 w26 hpo26 hN26 => ?_)
      obtain ⟨rfl, rfl, rfl⟩ := hpo26
      refine x_v (w := (va_up (va_up v 5 (.inr (8, [.ref (B + 6), .int (zI 0)]))) 6 (iarr E 16 tr))) (up_at1 (by decide)).symm ?_
      refine x_st (st' := []) rfl ?_
      refine x_v (w := (va_up (va_up v 5 (.inr (8, [.ref (B + 6), .int (zI (0 : Int))]))) 6 (iarr E 16 tr))) rfl ?_
      refine x_iload_n (pc := 29) 3 K rfl rfl dX11_ask_29 ?_
      refine x_if_ne (pc := 30) (tgt := 44) K (by omega) dX11_ask_30 (by decide) (fun h_30 => ?_) (fun h_30 => ?_)
      · skip
        refine x_aload_n (pc := 44) 0 K rfl rfl dX11_ask_44 ?_
        refine x_aload_n (pc := 45) 1 K rfl rfl dX11_ask_45 ?_
        refine x_get (pc := 46) (C := RX11) (T := TX11) (n := 12) (ci := 10) (idx := 25) (ref := "BorderBeds") (x := .ref (B + 5))  K (cel_ne (cel_ne hc0 (by decide)) (by decide)) rfl (by decide +kernel) 2 (by decide) (by decide +kernel) rfl rfl dX11_ask_46 ?_
        refine x_callO (pc := 49) (C := RX10) (T := TX10) (n := 4) (ci := 9) (As := [.ref (B + 5)]) (owner := "BorderBeds$Person") (x := ⟨"BorderBeds$Person", "mark", "(LBorderBeds$Trace;)I"⟩) (b0 := cX6_mark) (m0 := 2) (r0 := (some .int)) K (c_X10_mark_X10 (E := E) (B := B) (N := N) (m := 0)  (cel_ne (cel_ne hc3 (by omega)) (by omega)) (cel_ne (cel_self hc4.1) (by decide)) (cel_self hc5.1) (by omega) (by omega)) gX11_ask_X10_mark_u249X10 rfl (by decide +kernel) (na := 1) (by decide +kernel) rfl ⟨(Nat.le_of_ble_eq_true rfl), (Nat.le_of_ble_eq_true rfl)⟩ (cel_ne (cel_ne hc3 (by omega)) (by omega)) rfl (st := []) rfl (Nat.le_of_ble_eq_true rfl) ⟨(Nat.le_of_ble_eq_true rfl), (Nat.le_of_ble_eq_true rfl)⟩ dX11_ask_49 (fun r49 N49 w49 hpo49 hN49 => ?_)
        obtain ⟨rfl, rfl, rfl⟩ := hpo49
        refine x_v (congrArg (fun w => (va_up w 6 (iarr E 16 (va_up (va_up (va_up tr 0 22) (0 + 1) 21) (0 + 2) 20)))) (show (va_up (va_up v 5 (.inr (8, [.ref (B + 6), .int (zI ((0 : Int) + 3))]))) 6 (iarr E 16 tr)) = _ from (up_at1 (by decide)).symm)) ?_
        refine x_v (w := (va_up (va_up v 5 (.inr (8, [.ref (B + 6), .int (zI ((0 : Int) + 3))]))) 6 (iarr E 16 (va_up (va_up (va_up tr 0 22) (0 + 1) 21) (0 + 2) 20)))) (up_at0).symm ?_
        refine x_st (st' := [.int (zI (((x : Int) + home) - 1000))]) rfl ?_
        refine x_iret (pc := 52) K KR (by omega) (Nat.le_of_ble_eq_true rfl) (Nat.le_of_ble_eq_true rfl) dX11_ask_52 ?_
        have hw9 : what = 1 := by omega
        subst hw9
        have hD : askD 3 1 = [22, 21, 20] := by decide
        exact ⟨rfl, (((x : Int) + home) - 1000), ((((0 : Int) + 3)).toNat), (va_up (va_up (va_up tr 0 22) (0 + 1) 21) (0 + 2) 20), (Or.inr ⟨by omega, by rw [hD]; rfl, by rw [hD]; rfl, by simp [askV, markV, sizeV] <;> omega⟩), rfl, rfl⟩
      · skip
        refine x_aload_n (pc := 33) 0 K rfl rfl dX11_ask_33 ?_
        refine x_aload_n (pc := 34) 1 K rfl rfl dX11_ask_34 ?_
        refine x_get (pc := 35) (C := RX11) (T := TX11) (n := 12) (ci := 10) (idx := 25) (ref := "BorderBeds") (x := .ref (B + 5))  K (cel_ne (cel_ne hc0 (by decide)) (by decide)) rfl (by decide +kernel) 2 (by decide) (by decide +kernel) rfl rfl dX11_ask_35 ?_
        refine x_callO (pc := 38) (C := RX10) (T := TX10) (n := 4) (ci := 9) (As := [.ref (B + 5)]) (owner := "BorderBeds$Person") (x := ⟨"BorderBeds$Person", "size", "(LBorderBeds$Trace;)I"⟩) (b0 := cX6_size) (m0 := 2) (r0 := (some .int)) K (c_X0_size_X10 (E := E) (B := B) (N := N) (m := 0)  (cel_ne (cel_ne hc3 (by omega)) (by omega)) (cel_ne (cel_self hc4.1) (by decide)) (cel_self hc5.1) (by omega) (by omega)) gX11_ask_X0_size_u246X10 rfl (by decide +kernel) (na := 1) (by decide +kernel) rfl ⟨(Nat.le_of_ble_eq_true rfl), (Nat.le_of_ble_eq_true rfl)⟩ (cel_ne (cel_ne hc3 (by omega)) (by omega)) rfl (st := []) rfl (Nat.le_of_ble_eq_true rfl) ⟨(Nat.le_of_ble_eq_true rfl), (Nat.le_of_ble_eq_true rfl)⟩ dX11_ask_38 (fun r38 N38 w38 hpo38 hN38 => ?_)
        obtain ⟨rfl, rfl, rfl⟩ := hpo38
        refine x_v (congrArg (fun w => (va_up w 6 (iarr E 16 (va_up (va_up (va_up (va_up (va_up tr 0 11) (0 + 1) 10) (0 + 2) 22) (0 + 3) 21) (0 + 4) 20)))) (show (va_up (va_up v 5 (.inr (8, [.ref (B + 6), .int (zI ((0 : Int) + 5))]))) 6 (iarr E 16 tr)) = _ from (up_at1 (by decide)).symm)) ?_
        refine x_v (w := (va_up (va_up v 5 (.inr (8, [.ref (B + 6), .int (zI ((0 : Int) + 5))]))) 6 (iarr E 16 (va_up (va_up (va_up (va_up (va_up tr 0 11) (0 + 1) 10) (0 + 2) 22) (0 + 3) 21) (0 + 4) 20)))) (up_at0).symm ?_
        refine x_st (st' := [.int (zI (mil + (((x : Int) + home) - 1000)))]) rfl ?_
        refine x_goto (pc := 41) (tgt := 52) K dX11_ask_41 (by decide) ?_
        refine x_iret (pc := 52) K KR (by omega) (Nat.le_of_ble_eq_true rfl) (Nat.le_of_ble_eq_true rfl) dX11_ask_52 ?_
        have hw9 : what = 0 := by omega
        subst hw9
        have hD : askD 3 0 = [11, 10, 22, 21, 20] := by decide
        exact ⟨rfl, (mil + (((x : Int) + home) - 1000)), ((((0 : Int) + 5)).toNat), (va_up (va_up (va_up (va_up (va_up tr 0 11) (0 + 1) 10) (0 + 2) 22) (0 + 3) 21) (0 + 4) 20), (Or.inr ⟨by omega, by rw [hD]; rfl, by rw [hD]; rfl, by simp [askV, markV, sizeV] <;> omega⟩), rfl, rfl⟩
    · skip
      refine x_ldc (pc := 19) (x := (-1000001)) (-1000001) K (by decide) (by decide +kernel) dX11_ask_19 ?_
      refine x_iret (pc := 21) K KR (by omega) (Nat.le_of_ble_eq_true rfl) (Nat.le_of_ble_eq_true rfl) dX11_ask_21 ?_
      exact ⟨rfl, (-1000001), m, tr, (Or.inl ⟨by omega, rfl, rfl, rfl⟩), rfl, rfl⟩

set_option maxRecDepth 100000 in
set_option maxHeartbeats 4000000 in
theorem c_X11_ask_4 {E : XE} {B N : Nat} {v : Nat → va_E} {old kept fau fin : Int} {c o x : Nat} {p : Nat → Int} {lnd home mil : Int} {what : Int} {m : Nat} {tr : Nat → Int} {x_i : Int} (ha_x : x_i = (x : Int)) (hc0 : Cel N v 0 (.inr (10, [.ref (B + 1), .ref (B + 2), .ref (B + 5), .ref (B + 7), .ref (B + 12), .ref (B + 13), .ref (B + 14), .ref (B + c), .int (zI old), .int (zI kept), .int (zI fau), .int (zI fin)]))) (hc1 : Cel N v c (.inr (3, [.int (zI (p 0)), .int (zI (p 1)), .int (zI (p 2)), .ref (B + (c + 1)), .ref (B + (c + 2)), .int (zI (p 3)), .ref (B + (c + 3)), .int (zI (p 4)), .ref (B + (c + 4)), .ref (B + (c + 13)), .ref (B + (c + 18))]))) (hc2 : Cel N v (c + 3) (rarr E 5 5 B (psA c p))) (hc3 : Cel N v o (.inr (1, [.int (zI (x : Int)), .int (zI lnd), .int (zI home), .int (zI mil)]))) (hc4 : Cel N v 5 (.inr (8, [.ref (B + 6), .int (zI (m : Int))]))) (hc5 : Cel N v 6 (iarr E 16 tr)) (hq0 : (x : Int) < p 4) (hq1 : p 4 ≤ 5) (hq2 : o = c + 23 + x) (hq3 : (-2147483648 ≤ what ∧ what ≤ 2147483647)) (hq4 : 174 ≤ c) : gM yX11_ask wsX11_ask ({ frames := 6, cells := 0, slots := 0, locals := 127 }) E B N v [.ref (B + 0), .int (zI x_i), .int (zI what)] (po0 N (fun ρ v' => ∃ (res : Int), ∃ (n2 : Nat), ∃ (tr2 : Nat → Int), ((¬ (0 ≤ what ∧ what ≤ 1) ∧ res = -1000001 ∧ n2 = m ∧ tr2 = tr) ∨ ((0 ≤ what ∧ what ≤ 1) ∧ n2 = (askD 4 what).length ∧ tr2 = wrL tr 0 (askD 4 what) ∧ res = askV 4 (x : Int) ((x : Int) + home) mil what)) ∧ ρ = some (.int (zI res)) ∧ (va_up (va_up v 5 (.inr (8, [.ref (B + 6), .int (zI (n2 : Int))]))) 6 (iarr E 16 tr2)) = v')) := by
  subst ha_x
  refine x_met (nm := "ask") (by decide +kernel) rfl (Nat.le_of_ble_eq_true rfl) rfl (fun Γ K KR hnL hnm => ?_)
  show XW Γ N v [(0, .ref (B + 0)), (1, .int (zI (x : Int))), (2, .int (zI what))] 0 0 0 []
  refine x_v (cel_pad hc4) ?_
  refine x_v (cel_pad (cel_ne hc5 (by decide))) ?_
  refine x_aload_n (pc := 0) 0 K rfl rfl dX11_ask_0 ?_
  refine x_iload_n (pc := 1) 1 K rfl rfl dX11_ask_1 ?_
  refine x_callV (pc := 2) (C := RX11) (T := TX11) (n := 12) (ci := 10) (As := [.int (zI (x : Int))]) K (c_X11_personAt_y (E := E) (B := B) (N := N) (o := o) (x := x) rfl (cel_ne (cel_ne hc0 (by decide)) (by decide)) (cel_ne (cel_ne hc1 (by omega)) (by omega)) (cel_ne (cel_ne hc2 (by omega)) (by omega)) hq0 hq1 hq2) gX11_ask_X11_personAt rfl (na := 1) (by decide +kernel) rfl ⟨(Nat.le_of_ble_eq_true rfl), (Nat.le_of_ble_eq_true rfl)⟩ (cel_ne (cel_ne hc0 (by decide)) (by decide)) rfl (st := []) rfl (Nat.le_of_ble_eq_true rfl) ⟨(Nat.le_of_ble_eq_true rfl), (Nat.le_of_ble_eq_true rfl)⟩ dX11_ask_2 (fun r2 N2 w2 hpo2 hN2 => ?_)
  obtain ⟨rfl, rfl, rfl⟩ := hpo2
  refine x_st (st' := [.ref (B + o)]) rfl ?_
  refine x_astore_n (pc := 5) K (L' := [(3, .ref (B + o)), (0, .ref (B + 0)), (1, .int (zI (x : Int))), (2, .int (zI what))]) hnL rfl (by decide) rfl dX11_ask_5 ?_
  refine x_aload_n (pc := 6) 0 K rfl rfl dX11_ask_6 ?_
  refine x_ifnull (pc := 7) K dX11_ask_7 ?_
  refine x_iload_n (pc := 10) 3 K rfl rfl dX11_ask_10 ?_
  refine x_if_lt (pc := 11) (tgt := 19) K (by omega) dX11_ask_11 (by decide) (fun h_11 => ?_) (fun h_11 => ?_)
  · skip
    refine x_ldc (pc := 19) (x := (-1000001)) (-1000001) K (by decide) (by decide +kernel) dX11_ask_19 ?_
    refine x_iret (pc := 21) K KR (by omega) (Nat.le_of_ble_eq_true rfl) (Nat.le_of_ble_eq_true rfl) dX11_ask_21 ?_
    exact ⟨rfl, (-1000001), m, tr, (Or.inl ⟨by omega, rfl, rfl, rfl⟩), rfl, rfl⟩
  · skip
    refine x_iload_n (pc := 14) 3 K rfl rfl dX11_ask_14 ?_
    refine x_iconst (pc := 15) K dX11_ask_15 ?_
    refine x_icmp_le (pc := 16) (tgt := 22) K (by omega) (by decide) dX11_ask_16 (by decide) (fun h_16 => ?_) (fun h_16 => ?_)
    · skip
      refine x_aload_n (pc := 22) 1 K rfl rfl dX11_ask_22 ?_
      refine x_get (pc := 23) (C := RX11) (T := TX11) (n := 12) (ci := 10) (idx := 25) (ref := "BorderBeds") (x := .ref (B + 5))  K (cel_ne (cel_ne hc0 (by decide)) (by decide)) rfl (by decide +kernel) 2 (by decide) (by decide +kernel) rfl rfl dX11_ask_23 ?_
      refine x_callV (pc := 26) (C := RX9) (T := TX9) (n := 2) (ci := 8) (As := []) K (c_X9_begin (E := E) (B := B) (N := N)   (cel_ne (cel_self hc4.1) (by decide)) ) gX11_ask_X9_begin rfl (na := 0) (by decide +kernel) rfl ⟨(Nat.le_of_ble_eq_true rfl), (Nat.le_of_ble_eq_true rfl)⟩ (cel_ne (cel_self hc4.1) (by decide)) rfl (st := []) rfl (Nat.le_of_ble_eq_true rfl) ⟨(Nat.le_of_ble_eq_true rfl), (Nat.le_of_ble_eq_true rfl)⟩ dX11_ask_26 (fun r26 N26 w26 hpo26 hN26 => ?_)
      obtain ⟨rfl, rfl, rfl⟩ := hpo26
      refine x_v (w := (va_up (va_up v 5 (.inr (8, [.ref (B + 6), .int (zI 0)]))) 6 (iarr E 16 tr))) (up_at1 (by decide)).symm ?_
      refine x_st (st' := []) rfl ?_
      refine x_v (w := (va_up (va_up v 5 (.inr (8, [.ref (B + 6), .int (zI (0 : Int))]))) 6 (iarr E 16 tr))) rfl ?_
      refine x_iload_n (pc := 29) 3 K rfl rfl dX11_ask_29 ?_
      refine x_if_ne (pc := 30) (tgt := 44) K (by omega) dX11_ask_30 (by decide) (fun h_30 => ?_) (fun h_30 => ?_)
      · skip
        refine x_aload_n (pc := 44) 0 K rfl rfl dX11_ask_44 ?_
        refine x_aload_n (pc := 45) 1 K rfl rfl dX11_ask_45 ?_
        refine x_get (pc := 46) (C := RX11) (T := TX11) (n := 12) (ci := 10) (idx := 25) (ref := "BorderBeds") (x := .ref (B + 5))  K (cel_ne (cel_ne hc0 (by decide)) (by decide)) rfl (by decide +kernel) 2 (by decide) (by decide +kernel) rfl rfl dX11_ask_46 ?_
        refine x_callO (pc := 49) (C := RX1) (T := TX1) (n := 4) (ci := 1) (As := [.ref (B + 5)]) (owner := "BorderBeds$Person") (x := ⟨"BorderBeds$Person", "mark", "(LBorderBeds$Trace;)I"⟩) (b0 := cX6_mark) (m0 := 2) (r0 := (some .int)) K (c_X1_mark_X1 (E := E) (B := B) (N := N) (m := 0)  (cel_ne (cel_ne hc3 (by omega)) (by omega)) (cel_ne (cel_self hc4.1) (by decide)) (cel_self hc5.1) (by omega) (by omega)) gX11_ask_X1_mark_u249X1 rfl (by decide +kernel) (na := 1) (by decide +kernel) rfl ⟨(Nat.le_of_ble_eq_true rfl), (Nat.le_of_ble_eq_true rfl)⟩ (cel_ne (cel_ne hc3 (by omega)) (by omega)) rfl (st := []) rfl (Nat.le_of_ble_eq_true rfl) ⟨(Nat.le_of_ble_eq_true rfl), (Nat.le_of_ble_eq_true rfl)⟩ dX11_ask_49 (fun r49 N49 w49 hpo49 hN49 => ?_)
        obtain ⟨rfl, rfl, rfl⟩ := hpo49
        refine x_v (congrArg (fun w => (va_up w 6 (iarr E 16 (va_up (va_up (va_up (va_up tr 0 23) (0 + 1) 20) (0 + 2) 13) (0 + 3) 10)))) (show (va_up (va_up v 5 (.inr (8, [.ref (B + 6), .int (zI ((0 : Int) + 4))]))) 6 (iarr E 16 tr)) = _ from (up_at1 (by decide)).symm)) ?_
        refine x_v (w := (va_up (va_up v 5 (.inr (8, [.ref (B + 6), .int (zI ((0 : Int) + 4))]))) 6 (iarr E 16 (va_up (va_up (va_up (va_up tr 0 23) (0 + 1) 20) (0 + 2) 13) (0 + 3) 10)))) (up_at0).symm ?_
        refine x_st (st' := [.int (zI ((x : Int) - (mil - 100)))]) rfl ?_
        refine x_iret (pc := 52) K KR (by omega) (Nat.le_of_ble_eq_true rfl) (Nat.le_of_ble_eq_true rfl) dX11_ask_52 ?_
        have hw9 : what = 1 := by omega
        subst hw9
        have hD : askD 4 1 = [23, 20, 13, 10] := by decide
        exact ⟨rfl, ((x : Int) - (mil - 100)), ((((0 : Int) + 4)).toNat), (va_up (va_up (va_up (va_up tr 0 23) (0 + 1) 20) (0 + 2) 13) (0 + 3) 10), (Or.inr ⟨by omega, by rw [hD]; rfl, by rw [hD]; rfl, by simp [askV, markV, sizeV] <;> omega⟩), rfl, rfl⟩
      · skip
        refine x_aload_n (pc := 33) 0 K rfl rfl dX11_ask_33 ?_
        refine x_aload_n (pc := 34) 1 K rfl rfl dX11_ask_34 ?_
        refine x_get (pc := 35) (C := RX11) (T := TX11) (n := 12) (ci := 10) (idx := 25) (ref := "BorderBeds") (x := .ref (B + 5))  K (cel_ne (cel_ne hc0 (by decide)) (by decide)) rfl (by decide +kernel) 2 (by decide) (by decide +kernel) rfl rfl dX11_ask_35 ?_
        refine x_callO (pc := 38) (C := RX1) (T := TX1) (n := 4) (ci := 1) (As := [.ref (B + 5)]) (owner := "BorderBeds$Person") (x := ⟨"BorderBeds$Person", "size", "(LBorderBeds$Trace;)I"⟩) (b0 := cX6_size) (m0 := 2) (r0 := (some .int)) K (c_X1_size_X1 (E := E) (B := B) (N := N) (m := 0)  (cel_ne (cel_ne hc3 (by omega)) (by omega)) (cel_ne (cel_self hc4.1) (by decide)) (cel_self hc5.1) (by omega) (by omega)) gX11_ask_X1_size_u246X1 rfl (by decide +kernel) (na := 1) (by decide +kernel) rfl ⟨(Nat.le_of_ble_eq_true rfl), (Nat.le_of_ble_eq_true rfl)⟩ (cel_ne (cel_ne hc3 (by omega)) (by omega)) rfl (st := []) rfl (Nat.le_of_ble_eq_true rfl) ⟨(Nat.le_of_ble_eq_true rfl), (Nat.le_of_ble_eq_true rfl)⟩ dX11_ask_38 (fun r38 N38 w38 hpo38 hN38 => ?_)
        obtain ⟨rfl, rfl, rfl⟩ := hpo38
        refine x_v (congrArg (fun w => (va_up w 6 (iarr E 16 (va_up (va_up tr 0 13) (0 + 1) 10)))) (show (va_up (va_up v 5 (.inr (8, [.ref (B + 6), .int (zI ((0 : Int) + 2))]))) 6 (iarr E 16 tr)) = _ from (up_at1 (by decide)).symm)) ?_
        refine x_v (w := (va_up (va_up v 5 (.inr (8, [.ref (B + 6), .int (zI ((0 : Int) + 2))]))) 6 (iarr E 16 (va_up (va_up tr 0 13) (0 + 1) 10)))) (up_at0).symm ?_
        refine x_st (st' := [.int (zI (mil - 100))]) rfl ?_
        refine x_goto (pc := 41) (tgt := 52) K dX11_ask_41 (by decide) ?_
        refine x_iret (pc := 52) K KR (by omega) (Nat.le_of_ble_eq_true rfl) (Nat.le_of_ble_eq_true rfl) dX11_ask_52 ?_
        have hw9 : what = 0 := by omega
        subst hw9
        have hD : askD 4 0 = [13, 10] := by decide
        exact ⟨rfl, (mil - 100), ((((0 : Int) + 2)).toNat), (va_up (va_up tr 0 13) (0 + 1) 10), (Or.inr ⟨by omega, by rw [hD]; rfl, by rw [hD]; rfl, by simp [askV, markV, sizeV] <;> omega⟩), rfl, rfl⟩
    · skip
      refine x_ldc (pc := 19) (x := (-1000001)) (-1000001) K (by decide) (by decide +kernel) dX11_ask_19 ?_
      refine x_iret (pc := 21) K KR (by omega) (Nat.le_of_ble_eq_true rfl) (Nat.le_of_ble_eq_true rfl) dX11_ask_21 ?_
      exact ⟨rfl, (-1000001), m, tr, (Or.inl ⟨by omega, rfl, rfl, rfl⟩), rfl, rfl⟩

set_option maxRecDepth 100000 in
set_option maxHeartbeats 4000000 in
theorem c_X11_ask_5 {E : XE} {B N : Nat} {v : Nat → va_E} {old kept fau fin : Int} {c o x : Nat} {p : Nat → Int} {lnd home mil : Int} {what : Int} {m : Nat} {tr : Nat → Int} {x_i : Int} (ha_x : x_i = (x : Int)) (hc0 : Cel N v 0 (.inr (10, [.ref (B + 1), .ref (B + 2), .ref (B + 5), .ref (B + 7), .ref (B + 12), .ref (B + 13), .ref (B + 14), .ref (B + c), .int (zI old), .int (zI kept), .int (zI fau), .int (zI fin)]))) (hc1 : Cel N v c (.inr (3, [.int (zI (p 0)), .int (zI (p 1)), .int (zI (p 2)), .ref (B + (c + 1)), .ref (B + (c + 2)), .int (zI (p 3)), .ref (B + (c + 3)), .int (zI (p 4)), .ref (B + (c + 4)), .ref (B + (c + 13)), .ref (B + (c + 18))]))) (hc2 : Cel N v (c + 3) (rarr E 5 5 B (psA c p))) (hc3 : Cel N v o (.inr (5, [.int (zI (x : Int)), .int (zI lnd), .int (zI home), .int (zI mil)]))) (hc4 : Cel N v 5 (.inr (8, [.ref (B + 6), .int (zI (m : Int))]))) (hc5 : Cel N v 6 (iarr E 16 tr)) (hq0 : (x : Int) < p 4) (hq1 : p 4 ≤ 5) (hq2 : o = c + 23 + x) (hq3 : (-2147483648 ≤ what ∧ what ≤ 2147483647)) (hq4 : 174 ≤ c) : gM yX11_ask wsX11_ask ({ frames := 6, cells := 0, slots := 0, locals := 127 }) E B N v [.ref (B + 0), .int (zI x_i), .int (zI what)] (po0 N (fun ρ v' => ∃ (res : Int), ∃ (n2 : Nat), ∃ (tr2 : Nat → Int), ((¬ (0 ≤ what ∧ what ≤ 1) ∧ res = -1000001 ∧ n2 = m ∧ tr2 = tr) ∨ ((0 ≤ what ∧ what ≤ 1) ∧ n2 = (askD 5 what).length ∧ tr2 = wrL tr 0 (askD 5 what) ∧ res = askV 5 (x : Int) ((x : Int) + home) mil what)) ∧ ρ = some (.int (zI res)) ∧ (va_up (va_up v 5 (.inr (8, [.ref (B + 6), .int (zI (n2 : Int))]))) 6 (iarr E 16 tr2)) = v')) := by
  subst ha_x
  refine x_met (nm := "ask") (by decide +kernel) rfl (Nat.le_of_ble_eq_true rfl) rfl (fun Γ K KR hnL hnm => ?_)
  show XW Γ N v [(0, .ref (B + 0)), (1, .int (zI (x : Int))), (2, .int (zI what))] 0 0 0 []
  refine x_v (cel_pad hc4) ?_
  refine x_v (cel_pad (cel_ne hc5 (by decide))) ?_
  refine x_aload_n (pc := 0) 0 K rfl rfl dX11_ask_0 ?_
  refine x_iload_n (pc := 1) 1 K rfl rfl dX11_ask_1 ?_
  refine x_callV (pc := 2) (C := RX11) (T := TX11) (n := 12) (ci := 10) (As := [.int (zI (x : Int))]) K (c_X11_personAt_y (E := E) (B := B) (N := N) (o := o) (x := x) rfl (cel_ne (cel_ne hc0 (by decide)) (by decide)) (cel_ne (cel_ne hc1 (by omega)) (by omega)) (cel_ne (cel_ne hc2 (by omega)) (by omega)) hq0 hq1 hq2) gX11_ask_X11_personAt rfl (na := 1) (by decide +kernel) rfl ⟨(Nat.le_of_ble_eq_true rfl), (Nat.le_of_ble_eq_true rfl)⟩ (cel_ne (cel_ne hc0 (by decide)) (by decide)) rfl (st := []) rfl (Nat.le_of_ble_eq_true rfl) ⟨(Nat.le_of_ble_eq_true rfl), (Nat.le_of_ble_eq_true rfl)⟩ dX11_ask_2 (fun r2 N2 w2 hpo2 hN2 => ?_)
  obtain ⟨rfl, rfl, rfl⟩ := hpo2
  refine x_st (st' := [.ref (B + o)]) rfl ?_
  refine x_astore_n (pc := 5) K (L' := [(3, .ref (B + o)), (0, .ref (B + 0)), (1, .int (zI (x : Int))), (2, .int (zI what))]) hnL rfl (by decide) rfl dX11_ask_5 ?_
  refine x_aload_n (pc := 6) 0 K rfl rfl dX11_ask_6 ?_
  refine x_ifnull (pc := 7) K dX11_ask_7 ?_
  refine x_iload_n (pc := 10) 3 K rfl rfl dX11_ask_10 ?_
  refine x_if_lt (pc := 11) (tgt := 19) K (by omega) dX11_ask_11 (by decide) (fun h_11 => ?_) (fun h_11 => ?_)
  · skip
    refine x_ldc (pc := 19) (x := (-1000001)) (-1000001) K (by decide) (by decide +kernel) dX11_ask_19 ?_
    refine x_iret (pc := 21) K KR (by omega) (Nat.le_of_ble_eq_true rfl) (Nat.le_of_ble_eq_true rfl) dX11_ask_21 ?_
    exact ⟨rfl, (-1000001), m, tr, (Or.inl ⟨by omega, rfl, rfl, rfl⟩), rfl, rfl⟩
  · skip
    refine x_iload_n (pc := 14) 3 K rfl rfl dX11_ask_14 ?_
    refine x_iconst (pc := 15) K dX11_ask_15 ?_
    refine x_icmp_le (pc := 16) (tgt := 22) K (by omega) (by decide) dX11_ask_16 (by decide) (fun h_16 => ?_) (fun h_16 => ?_)
    · skip
      refine x_aload_n (pc := 22) 1 K rfl rfl dX11_ask_22 ?_
      refine x_get (pc := 23) (C := RX11) (T := TX11) (n := 12) (ci := 10) (idx := 25) (ref := "BorderBeds") (x := .ref (B + 5))  K (cel_ne (cel_ne hc0 (by decide)) (by decide)) rfl (by decide +kernel) 2 (by decide) (by decide +kernel) rfl rfl dX11_ask_23 ?_
      refine x_callV (pc := 26) (C := RX9) (T := TX9) (n := 2) (ci := 8) (As := []) K (c_X9_begin (E := E) (B := B) (N := N)   (cel_ne (cel_self hc4.1) (by decide)) ) gX11_ask_X9_begin rfl (na := 0) (by decide +kernel) rfl ⟨(Nat.le_of_ble_eq_true rfl), (Nat.le_of_ble_eq_true rfl)⟩ (cel_ne (cel_self hc4.1) (by decide)) rfl (st := []) rfl (Nat.le_of_ble_eq_true rfl) ⟨(Nat.le_of_ble_eq_true rfl), (Nat.le_of_ble_eq_true rfl)⟩ dX11_ask_26 (fun r26 N26 w26 hpo26 hN26 => ?_)
      obtain ⟨rfl, rfl, rfl⟩ := hpo26
      refine x_v (w := (va_up (va_up v 5 (.inr (8, [.ref (B + 6), .int (zI 0)]))) 6 (iarr E 16 tr))) (up_at1 (by decide)).symm ?_
      refine x_st (st' := []) rfl ?_
      refine x_v (w := (va_up (va_up v 5 (.inr (8, [.ref (B + 6), .int (zI (0 : Int))]))) 6 (iarr E 16 tr))) rfl ?_
      refine x_iload_n (pc := 29) 3 K rfl rfl dX11_ask_29 ?_
      refine x_if_ne (pc := 30) (tgt := 44) K (by omega) dX11_ask_30 (by decide) (fun h_30 => ?_) (fun h_30 => ?_)
      · skip
        refine x_aload_n (pc := 44) 0 K rfl rfl dX11_ask_44 ?_
        refine x_aload_n (pc := 45) 1 K rfl rfl dX11_ask_45 ?_
        refine x_get (pc := 46) (C := RX11) (T := TX11) (n := 12) (ci := 10) (idx := 25) (ref := "BorderBeds") (x := .ref (B + 5))  K (cel_ne (cel_ne hc0 (by decide)) (by decide)) rfl (by decide +kernel) 2 (by decide) (by decide +kernel) rfl rfl dX11_ask_46 ?_
        refine x_callO (pc := 49) (C := RX5) (T := TX5) (n := 4) (ci := 5) (As := [.ref (B + 5)]) (owner := "BorderBeds$Person") (x := ⟨"BorderBeds$Person", "mark", "(LBorderBeds$Trace;)I"⟩) (b0 := cX6_mark) (m0 := 2) (r0 := (some .int)) K (c_X1_mark_X5 (E := E) (B := B) (N := N) (m := 0)  (cel_ne (cel_ne hc3 (by omega)) (by omega)) (cel_ne (cel_self hc4.1) (by decide)) (cel_self hc5.1) (by omega) (by omega)) gX11_ask_X1_mark_u249X5 rfl (by decide +kernel) (na := 1) (by decide +kernel) rfl ⟨(Nat.le_of_ble_eq_true rfl), (Nat.le_of_ble_eq_true rfl)⟩ (cel_ne (cel_ne hc3 (by omega)) (by omega)) rfl (st := []) rfl (Nat.le_of_ble_eq_true rfl) ⟨(Nat.le_of_ble_eq_true rfl), (Nat.le_of_ble_eq_true rfl)⟩ dX11_ask_49 (fun r49 N49 w49 hpo49 hN49 => ?_)
        obtain ⟨rfl, rfl, rfl⟩ := hpo49
        refine x_v (congrArg (fun w => (va_up w 6 (iarr E 16 (va_up (va_up (va_up (va_up (va_up tr 0 23) (0 + 1) 20) (0 + 2) 14) (0 + 3) 13) (0 + 4) 10)))) (show (va_up (va_up v 5 (.inr (8, [.ref (B + 6), .int (zI ((0 : Int) + 5))]))) 6 (iarr E 16 tr)) = _ from (up_at1 (by decide)).symm)) ?_
        refine x_v (w := (va_up (va_up v 5 (.inr (8, [.ref (B + 6), .int (zI ((0 : Int) + 5))]))) 6 (iarr E 16 (va_up (va_up (va_up (va_up (va_up tr 0 23) (0 + 1) 20) (0 + 2) 14) (0 + 3) 13) (0 + 4) 10)))) (up_at0).symm ?_
        refine x_st (st' := [.int (zI ((x : Int) - (2 * (mil - 100))))]) rfl ?_
        refine x_iret (pc := 52) K KR (by omega) (Nat.le_of_ble_eq_true rfl) (Nat.le_of_ble_eq_true rfl) dX11_ask_52 ?_
        have hw9 : what = 1 := by omega
        subst hw9
        have hD : askD 5 1 = [23, 20, 14, 13, 10] := by decide
        exact ⟨rfl, ((x : Int) - (2 * (mil - 100))), ((((0 : Int) + 5)).toNat), (va_up (va_up (va_up (va_up (va_up tr 0 23) (0 + 1) 20) (0 + 2) 14) (0 + 3) 13) (0 + 4) 10), (Or.inr ⟨by omega, by rw [hD]; rfl, by rw [hD]; rfl, by simp [askV, markV, sizeV] <;> omega⟩), rfl, rfl⟩
      · skip
        refine x_aload_n (pc := 33) 0 K rfl rfl dX11_ask_33 ?_
        refine x_aload_n (pc := 34) 1 K rfl rfl dX11_ask_34 ?_
        refine x_get (pc := 35) (C := RX11) (T := TX11) (n := 12) (ci := 10) (idx := 25) (ref := "BorderBeds") (x := .ref (B + 5))  K (cel_ne (cel_ne hc0 (by decide)) (by decide)) rfl (by decide +kernel) 2 (by decide) (by decide +kernel) rfl rfl dX11_ask_35 ?_
        refine x_callO (pc := 38) (C := RX5) (T := TX5) (n := 4) (ci := 5) (As := [.ref (B + 5)]) (owner := "BorderBeds$Person") (x := ⟨"BorderBeds$Person", "size", "(LBorderBeds$Trace;)I"⟩) (b0 := cX6_size) (m0 := 2) (r0 := (some .int)) K (c_X5_size_X5 (E := E) (B := B) (N := N) (m := 0)  (cel_ne (cel_ne hc3 (by omega)) (by omega)) (cel_ne (cel_self hc4.1) (by decide)) (cel_self hc5.1) (by omega) (by omega)) gX11_ask_X5_size_u246X5 rfl (by decide +kernel) (na := 1) (by decide +kernel) rfl ⟨(Nat.le_of_ble_eq_true rfl), (Nat.le_of_ble_eq_true rfl)⟩ (cel_ne (cel_ne hc3 (by omega)) (by omega)) rfl (st := []) rfl (Nat.le_of_ble_eq_true rfl) ⟨(Nat.le_of_ble_eq_true rfl), (Nat.le_of_ble_eq_true rfl)⟩ dX11_ask_38 (fun r38 N38 w38 hpo38 hN38 => ?_)
        obtain ⟨rfl, rfl, rfl⟩ := hpo38
        refine x_v (congrArg (fun w => (va_up w 6 (iarr E 16 (va_up (va_up (va_up tr 0 14) (0 + 1) 13) (0 + 2) 10)))) (show (va_up (va_up v 5 (.inr (8, [.ref (B + 6), .int (zI ((0 : Int) + 3))]))) 6 (iarr E 16 tr)) = _ from (up_at1 (by decide)).symm)) ?_
        refine x_v (w := (va_up (va_up v 5 (.inr (8, [.ref (B + 6), .int (zI ((0 : Int) + 3))]))) 6 (iarr E 16 (va_up (va_up (va_up tr 0 14) (0 + 1) 13) (0 + 2) 10)))) (up_at0).symm ?_
        refine x_st (st' := [.int (zI (2 * (mil - 100)))]) rfl ?_
        refine x_goto (pc := 41) (tgt := 52) K dX11_ask_41 (by decide) ?_
        refine x_iret (pc := 52) K KR (by omega) (Nat.le_of_ble_eq_true rfl) (Nat.le_of_ble_eq_true rfl) dX11_ask_52 ?_
        have hw9 : what = 0 := by omega
        subst hw9
        have hD : askD 5 0 = [14, 13, 10] := by decide
        exact ⟨rfl, (2 * (mil - 100)), ((((0 : Int) + 3)).toNat), (va_up (va_up (va_up tr 0 14) (0 + 1) 13) (0 + 2) 10), (Or.inr ⟨by omega, by rw [hD]; rfl, by rw [hD]; rfl, by simp [askV, markV, sizeV] <;> omega⟩), rfl, rfl⟩
    · skip
      refine x_ldc (pc := 19) (x := (-1000001)) (-1000001) K (by decide) (by decide +kernel) dX11_ask_19 ?_
      refine x_iret (pc := 21) K KR (by omega) (Nat.le_of_ble_eq_true rfl) (Nat.le_of_ble_eq_true rfl) dX11_ask_21 ?_
      exact ⟨rfl, (-1000001), m, tr, (Or.inl ⟨by omega, rfl, rfl, rfl⟩), rfl, rfl⟩
