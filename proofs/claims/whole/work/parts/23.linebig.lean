theorem dX4_begin_0 : decode cX4_begin 0 = .ok (.aload_n 0, 1) := by decide +kernel
theorem dX4_begin_1 : decode cX4_begin 1 = .ok (.iconst 0, 1) := by decide +kernel
theorem dX4_begin_2 : decode cX4_begin 2 = .ok (.putfield 19, 3) := by decide +kernel
theorem dX4_begin_5 : decode cX4_begin 5 = .ok (.aload_n 0, 1) := by decide +kernel
theorem dX4_begin_6 : decode cX4_begin 6 = .ok (.aload_n 1, 1) := by decide +kernel
theorem dX4_begin_7 : decode cX4_begin 7 = .ok (.getfield 29, 3) := by decide +kernel
theorem dX4_begin_10 : decode cX4_begin 10 = .ok (.aload_n 1, 1) := by decide +kernel
theorem dX4_begin_11 : decode cX4_begin 11 = .ok (.getfield 34, 3) := by decide +kernel
set_option maxRecDepth 20000 in
theorem ggX4_begin_X4_lay : GoodIn wsX4_begin wsX4_lay := goodIn_r _ [8, 9, 10, 11, 12, 7, 13, 1, 14, 15, 16, 17, 18, 19, 20, 21, 22, 23, 24] (by decide +kernel) (by decide +kernel)
set_option maxRecDepth 20000 in
theorem gX4_begin_X4_lay : GoodIn wsX4_begin (wsV RX4 37 RX4 yX4_lay wsX4_lay) := goodIn_app (goodIn_of _ (by decide +kernel)) ggX4_begin_X4_lay
theorem dX4_begin_14 : decode cX4_begin 14 = .ok (.invokevirtual 37, 3) := by decide +kernel
theorem dX4_begin_17 : decode cX4_begin 17 = .ok (.return_, 1) := by decide +kernel
theorem dX4_move_0 : decode cX4_move 0 = .ok (.aload_n 1, 1) := by decide +kernel
theorem dX4_move_1 : decode cX4_move 1 = .ok (.instanceof 47, 3) := by decide +kernel
theorem dX4_move_4 : decode cX4_move 4 = .ok (.ifCond .eq 4, 3) := by decide +kernel
theorem dX4_move_8 : decode cX4_move 8 = .ok (.aload_n 0, 1) := by decide +kernel
theorem dX4_move_9 : decode cX4_move 9 = .ok (.iload_n 2, 1) := by decide +kernel
theorem dX4_move_10 : decode cX4_move 10 = .ok (.aload_n 1, 1) := by decide +kernel
theorem dX4_move_11 : decode cX4_move 11 = .ok (.instanceof 49, 3) := by decide +kernel
set_option maxRecDepth 20000 in
theorem ggX4_move_X4_add : GoodIn wsX4_move wsX4_add := goodIn_r _ [12, 4, 13, 14, 15, 16, 17, 11, 18, 19, 20, 21, 22, 40, 41, 42, 43, 44] (by decide +kernel) (by decide +kernel)
set_option maxRecDepth 20000 in
theorem gX4_move_X4_add : GoodIn wsX4_move (wsV RX4 51 RX4 yX4_add wsX4_add) := goodIn_app (goodIn_of _ (by decide +kernel)) ggX4_move_X4_add
theorem dX4_move_14 : decode cX4_move 14 = .ok (.invokevirtual 51, 3) := by decide +kernel
theorem dX4_move_17 : decode cX4_move 17 = .ok (.aload_n 1, 1) := by decide +kernel
theorem dX4_move_18 : decode cX4_move 18 = .ok (.instanceof 55, 3) := by decide +kernel
theorem dX4_move_21 : decode cX4_move 21 = .ok (.ifCond .eq 12, 3) := by decide +kernel
theorem dX4_move_33 : decode cX4_move 33 = .ok (.aload_n 0, 1) := by decide +kernel
theorem dX4_move_34 : decode cX4_move 34 = .ok (.getfield 19, 3) := by decide +kernel
theorem dX4_move_37 : decode cX4_move 37 = .ok (.istore 4, 2) := by decide +kernel
theorem dX4_move_39 : decode cX4_move 39 = .ok (.iload 4, 2) := by decide +kernel
theorem dX4_move_41 : decode cX4_move 41 = .ok (.aload_n 3, 1) := by decide +kernel
theorem dX4_move_42 : decode cX4_move 42 = .ok (.getfield 61, 3) := by decide +kernel
theorem dX4_move_45 : decode cX4_move 45 = .ok (.if_icmp .le 17, 3) := by decide +kernel
theorem dX4_move_62 : decode cX4_move 62 = .ok (.aload_n 0, 1) := by decide +kernel
theorem dX4_move_63 : decode cX4_move 63 = .ok (.aload_n 3, 1) := by decide +kernel
theorem dX4_move_64 : decode cX4_move 64 = .ok (.getfield 29, 3) := by decide +kernel
theorem dX4_move_67 : decode cX4_move 67 = .ok (.aload_n 3, 1) := by decide +kernel
theorem dX4_move_68 : decode cX4_move 68 = .ok (.getfield 34, 3) := by decide +kernel
set_option maxRecDepth 20000 in
theorem ggX4_move_X4_lay : GoodIn wsX4_move wsX4_lay := goodIn_r _ [33, 13, 15, 16, 17, 11, 18, 4, 34, 35, 36, 37, 38, 39, 40, 41, 42, 43, 44] (by decide +kernel) (by decide +kernel)
set_option maxRecDepth 20000 in
theorem gX4_move_X4_lay : GoodIn wsX4_move (wsV RX4 37 RX4 yX4_lay wsX4_lay) := goodIn_app (goodIn_of _ (by decide +kernel)) ggX4_move_X4_lay
theorem dX4_move_71 : decode cX4_move 71 = .ok (.invokevirtual 37, 3) := by decide +kernel
theorem dX4_move_74 : decode cX4_move 74 = .ok (.return_, 1) := by decide +kernel
theorem dX4_move_48 : decode cX4_move 48 = .ok (.aload_n 0, 1) := by decide +kernel
theorem dX4_move_49 : decode cX4_move 49 = .ok (.aload_n 0, 1) := by decide +kernel
set_option maxRecDepth 20000 in
theorem ggX4_move_X4_whichGoes : GoodIn wsX4_move wsX4_whichGoes := goodIn_r _ [29, 4, 14, 40, 41, 42, 43, 44] (by decide +kernel) (by decide +kernel)
set_option maxRecDepth 20000 in
theorem gX4_move_X4_whichGoes : GoodIn wsX4_move (wsV RX4 64 RX4 yX4_whichGoes wsX4_whichGoes) := goodIn_app (goodIn_of _ (by decide +kernel)) ggX4_move_X4_whichGoes
theorem dX4_move_50 : decode cX4_move 50 = .ok (.invokevirtual 64, 3) := by decide +kernel
set_option maxRecDepth 20000 in
theorem ggX4_move_X4_remove : GoodIn wsX4_move wsX4_remove := goodIn_r _ [22, 4, 13, 14, 40, 41, 42, 43, 44] (by decide +kernel) (by decide +kernel)
set_option maxRecDepth 20000 in
theorem gX4_move_X4_remove : GoodIn wsX4_move (wsV RX4 68 RX4 yX4_remove wsX4_remove) := goodIn_app (goodIn_of _ (by decide +kernel)) ggX4_move_X4_remove
theorem dX4_move_53 : decode cX4_move 53 = .ok (.invokevirtual 68, 3) := by decide +kernel
theorem dX4_move_56 : decode cX4_move 56 = .ok (.iinc 4 (-1), 3) := by decide +kernel
theorem dX4_move_59 : decode cX4_move 59 = .ok (.goto (-20), 3) := by decide +kernel
theorem dX4_move_24 : decode cX4_move 24 = .ok (.aload_n 0, 1) := by decide +kernel
theorem dX4_move_25 : decode cX4_move 25 = .ok (.iload_n 2, 1) := by decide +kernel
set_option maxRecDepth 20000 in
theorem ggX4_move_X4_mirrored : GoodIn wsX4_move wsX4_mirrored := goodIn_r _ [25] (by decide +kernel) (by decide +kernel)
set_option maxRecDepth 20000 in
theorem gX4_move_X4_mirrored : GoodIn wsX4_move (va_wsS RX4 57 yX4_mirrored wsX4_mirrored) := goodIn_app (goodIn_of _ (by decide +kernel)) ggX4_move_X4_mirrored
theorem dX4_move_26 : decode cX4_move 26 = .ok (.invokestatic 57, 3) := by decide +kernel
theorem dX4_move_29 : decode cX4_move 29 = .ok (.iconst 0, 1) := by decide +kernel
theorem dX4_move_30 : decode cX4_move 30 = .ok (.invokevirtual 51, 3) := by decide +kernel
theorem dX4_move_7 : decode cX4_move 7 = .ok (.return_, 1) := by decide +kernel
set_option maxRecDepth 100000 in
set_option maxHeartbeats 4000000 in
theorem c_X4_begin {E : XE} {B N : Nat} {v : Nat → va_E} {c d n : Nat} {q1 q2 q3 q4 q5 q6 : Nat} {w e kp vil peo : Int} {g h s t : Nat → Int} (hc0 : Cel N v c (.inr (4, [.ref (B + (c + 1)), .ref (B + (c + 2)), .int (zI (n : Int)), .ref (B + (c + 3)), .ref (B + (c + 4))]))) (hc1 : Cel N v (c + 1) (iarr E 8 g)) (hc2 : Cel N v (c + 3) (iarr E 8 s)) (hc3 : Cel N v (c + 4) (iarr E 8 t)) (hc4 : Cel N v d (.inr (3, [.int (zI w), .int (zI e), .int (zI kp), .ref (B + q1), .ref (B + q2), .int (zI vil), .ref (B + q3), .int (zI peo), .ref (B + q4), .ref (B + q5), .ref (B + q6)]))) (hc5 : Cel N v (c + 2) (barr E 8 h)) (hq0 : 0 ≤ w ∧ w ≤ 5) (hq1 : 0 ≤ e ∧ e ≤ 5) (hq2 : ∀ k, k < 8 → 0 ≤ h k ∧ h k ≤ 1) (hq3 : d ≠ c ∧ d ≠ c + 3 ∧ d ≠ c + 4) : gM yX4_begin wsX4_begin ({ frames := 2, cells := 0, slots := 0, locals := 54 }) E B N v [.ref (B + c), .ref (B + d)] (po0 N (fun ρ v' => ∃ (s2 : Nat → Int), ∃ (t2 : Nat → Int), (SR w e [] s2 t2) ∧ ρ = none ∧ (va_up (va_up (va_up v c (.inr (4, [.ref (B + (c + 1)), .ref (B + (c + 2)), .int (zI 0), .ref (B + (c + 3)), .ref (B + (c + 4))]))) (c + 3) (iarr E 8 s2)) (c + 4) (iarr E 8 t2)) = v')) := by
  refine x_met (nm := "begin") (by decide +kernel) rfl (Nat.le_of_ble_eq_true rfl) rfl (fun Γ K KR hnL hnm => ?_)
  show XW Γ N v [(0, .ref (B + c)), (1, .ref (B + d))] 0 0 0 []
  refine x_v (cel_pad hc0) ?_
  refine x_v (cel_pad (cel_ne hc2 (by omega))) ?_
  refine x_v (cel_pad (cel_ne (cel_ne hc3 (by omega)) (by omega))) ?_
  refine x_aload_n (pc := 0) 0 K rfl rfl dX4_begin_0 ?_
  refine x_iconst (pc := 1) K dX4_begin_1 ?_
  refine x_put (pc := 2) (C := RX4) (T := TX4) (n := 5) (ci := 4) (idx := 19) (ref := "BorderBeds$Line") (ty := .int)  K (cel_ne (cel_ne (cel_self hc0.1) (by omega)) (by omega)) rfl (by decide +kernel) tyX4 tyX4_ok nmX4 2 (by decide) (by decide +kernel) rfl rfl (by decide +kernel) rfl rfl (Nat.le_of_ble_eq_true rfl) dX4_begin_2 ?_
  refine x_v (w := (va_up (va_up (va_up v c (.inr (4, [.ref (B + (c + 1)), .ref (B + (c + 2)), .int (zI 0), .ref (B + (c + 3)), .ref (B + (c + 4))]))) (c + 3) (iarr E 8 s)) (c + 4) (iarr E 8 t))) (up_at2 (by omega) (by omega)).symm ?_
  refine x_aload_n (pc := 5) 0 K rfl rfl dX4_begin_5 ?_
  refine x_aload_n (pc := 6) 1 K rfl rfl dX4_begin_6 ?_
  refine x_get (pc := 7) (C := RX3) (T := TX3) (n := 11) (ci := 3) (idx := 29) (ref := "BorderBeds$Ground") (x := .int (zI w))  K (cel_ne (cel_ne (cel_ne hc4 (by omega)) (by omega)) (by omega)) rfl (by decide +kernel) 0 (by decide) (by decide +kernel) rfl rfl dX4_begin_7 ?_
  refine x_aload_n (pc := 10) 1 K rfl rfl dX4_begin_10 ?_
  refine x_get (pc := 11) (C := RX3) (T := TX3) (n := 11) (ci := 3) (idx := 34) (ref := "BorderBeds$Ground") (x := .int (zI e))  K (cel_ne (cel_ne (cel_ne hc4 (by omega)) (by omega)) (by omega)) rfl (by decide +kernel) 1 (by decide) (by decide +kernel) rfl rfl dX4_begin_11 ?_
  refine x_callV (pc := 14) (C := RX4) (T := TX4) (n := 5) (ci := 4) (As := [.int (zI w), .int (zI e)]) K (c_X4_lay (E := E) (B := B) (N := N) (l := ([] : Cor)) (n := 0) (h := h)  (cel_ne (cel_ne (cel_self hc0.1) (by omega)) (by omega)) (cel_ne (cel_ne (cel_ne hc1 (by omega)) (by omega)) (by omega)) (cel_ne (cel_self hc2.1) (by omega)) (cel_self hc3.1) (by exact ⟨fun k hk => absurd hk (Nat.not_lt_zero _), hq2⟩) (by exact ⟨rfl, by omega⟩) (by exact ⟨fun q hq => absurd hq List.not_mem_nil, List.Pairwise.nil⟩) (by omega) (by omega)) gX4_begin_X4_lay rfl (na := 2) (by decide +kernel) rfl ⟨(Nat.le_of_ble_eq_true rfl), (Nat.le_of_ble_eq_true rfl)⟩ (cel_ne (cel_ne (cel_self hc0.1) (by omega)) (by omega)) rfl (st := []) rfl (Nat.le_of_ble_eq_true rfl) ⟨(Nat.le_of_ble_eq_true rfl), (Nat.le_of_ble_eq_true rfl)⟩ dX4_begin_14 (fun r14 N14 w14 hpo14 hN14 => ?_)
  obtain ⟨rfl, s2_14, t2_14, hp14_0, rfl, rfl⟩ := hpo14
  refine x_v (congrArg (fun w => (va_up w (c + 4) (iarr E 8 t2_14))) (show (va_up (va_up (va_up v c (.inr (4, [.ref (B + (c + 1)), .ref (B + (c + 2)), .int (zI 0), .ref (B + (c + 3)), .ref (B + (c + 4))]))) (c + 3) (iarr E 8 s2_14)) (c + 4) (iarr E 8 t)) = _ from (up_at1 (by omega)).symm)) ?_
  refine x_v (w := (va_up (va_up (va_up v c (.inr (4, [.ref (B + (c + 1)), .ref (B + (c + 2)), .int (zI 0), .ref (B + (c + 3)), .ref (B + (c + 4))]))) (c + 3) (iarr E 8 s2_14)) (c + 4) (iarr E 8 t2_14))) (up_at0).symm ?_
  refine x_st (st' := []) rfl ?_
  refine x_vret (pc := 17) K KR (by omega) (Nat.le_of_ble_eq_true rfl) (Nat.le_of_ble_eq_true rfl) dX4_begin_17 ?_
  exact ⟨rfl, s2_14, t2_14, hp14_0, rfl, rfl⟩

set_option maxRecDepth 100000 in
set_option maxHeartbeats 4000000 in
theorem c_move_1 {E : XE} {B N : Nat} {v : Nat → va_E} {c o cell d n : Nat} {num lnd home mil : Int} {q1 q2 q3 q4 q5 q6 : Nat} {w e kp vil peo : Int} {g h s t : Nat → Int} {l : Cor} {cell_i : Int} (ha_cell : cell_i = (cell : Int)) (hc0 : Cel N v c (.inr (4, [.ref (B + (c + 1)), .ref (B + (c + 2)), .int (zI (n : Int)), .ref (B + (c + 3)), .ref (B + (c + 4))]))) (hc1 : Cel N v (c + 1) (iarr E 8 g)) (hc2 : Cel N v (c + 2) (barr E 8 h)) (hc3 : Cel N v (c + 3) (iarr E 8 s)) (hc4 : Cel N v (c + 4) (iarr E 8 t)) (hc5 : Cel N v d (.inr (3, [.int (zI w), .int (zI e), .int (zI kp), .ref (B + q1), .ref (B + q2), .int (zI vil), .ref (B + q3), .int (zI peo), .ref (B + q4), .ref (B + q5), .ref (B + q6)]))) (hc6 : Cel N v o (.inr (0, [.int (zI num), .int (zI lnd), .int (zI home), .int (zI mil)]))) (hq0 : LR g h l) (hq1 : n = l.length ∧ (l.length : Int) ≤ kp) (hq2 : CorOk l) (hq3 : 0 ≤ w ∧ w ≤ 5) (hq4 : 0 ≤ e ∧ e ≤ 5) (hq5 : 0 ≤ kp ∧ kp ≤ 6) (hq6 : cell ≤ 47) (hq7 : SR w e l s t) (hq8 : d ≠ c ∧ d ≠ c + 1 ∧ d ≠ c + 2 ∧ d ≠ c + 3 ∧ d ≠ c + 4) (hq9 : o ≠ c ∧ o ≠ c + 1 ∧ o ≠ c + 2 ∧ o ≠ c + 3 ∧ o ≠ c + 4) : gM yX4_move wsX4_move ({ frames := 2, cells := 0, slots := 0, locals := 54 }) E B N v [.ref (B + c), .ref (B + o), .int (zI cell_i), .ref (B + d)] (po0 N (fun ρ v' => ∃ (g2 : Nat → Int), ∃ (h2 : Nat → Int), ∃ (s2 : Nat → Int), ∃ (t2 : Nat → Int), ∃ (z2 : Int), (LR g2 h2 (crossA 1 kp cell l)) ∧ (SR w e (crossA 1 kp cell l) s2 t2) ∧ (z2 = ((crossA 1 kp cell l).length : Int)) ∧ ρ = none ∧ (va_up (va_up (va_up (va_up (va_up v c (.inr (4, [.ref (B + (c + 1)), .ref (B + (c + 2)), .int (zI z2), .ref (B + (c + 3)), .ref (B + (c + 4))]))) (c + 1) (iarr E 8 g2)) (c + 2) (barr E 8 h2)) (c + 3) (iarr E 8 s2)) (c + 4) (iarr E 8 t2)) = v')) := by
  subst ha_cell
  refine x_met (nm := "move") (by decide +kernel) rfl (Nat.le_of_ble_eq_true rfl) rfl (fun Γ K KR hnL hnm => ?_)
  show XW Γ N v [(0, .ref (B + c)), (1, .ref (B + o)), (2, .int (zI (cell : Int))), (3, .ref (B + d))] 0 0 0 []
  refine x_v (cel_pad hc0) ?_
  refine x_v (cel_pad (cel_ne hc1 (by omega))) ?_
  refine x_v (cel_pad (cel_ne (cel_ne hc2 (by omega)) (by omega))) ?_
  refine x_v (cel_pad (cel_ne (cel_ne (cel_ne hc3 (by omega)) (by omega)) (by omega))) ?_
  refine x_v (cel_pad (cel_ne (cel_ne (cel_ne (cel_ne hc4 (by omega)) (by omega)) (by omega)) (by omega))) ?_
  refine x_aload_n (pc := 0) 1 K rfl rfl dX4_move_0 ?_
  refine x_instN (pc := 1) (C := RX0) (T := TX0) (n := 4) (ci := 0) (nm := RX5) K (cel_ne (cel_ne (cel_ne (cel_ne (cel_ne hc6 (by omega)) (by omega)) (by omega)) (by omega)) (by omega)) rfl (by decide +kernel) (by decide +kernel) dX4_move_1 ?_
  refine x_if_eq (pc := 4) (tgt := 8) K (by decide) dX4_move_4 (by decide) (fun h_4 => ?_) (fun h_4 => ?_)
  · skip
    refine x_aload_n (pc := 8) 0 K rfl rfl dX4_move_8 ?_
    refine x_iload_n (pc := 9) 2 K rfl rfl dX4_move_9 ?_
    refine x_aload_n (pc := 10) 1 K rfl rfl dX4_move_10 ?_
    refine x_instN (pc := 11) (C := RX0) (T := TX0) (n := 4) (ci := 0) (nm := RX1) K (cel_ne (cel_ne (cel_ne (cel_ne (cel_ne hc6 (by omega)) (by omega)) (by omega)) (by omega)) (by omega)) rfl (by decide +kernel) (by decide +kernel) dX4_move_11 ?_
    refine x_callV (pc := 14) (C := RX4) (T := TX4) (n := 5) (ci := 4) (As := [.int (zI (cell : Int)), .int (zI 0)]) K (c_X4_add (E := E) (B := B) (N := N) (l := l)  (cel_ne (cel_ne (cel_ne (cel_ne (cel_self hc0.1) (by omega)) (by omega)) (by omega)) (by omega)) (cel_ne (cel_ne (cel_ne (cel_self hc1.1) (by omega)) (by omega)) (by omega)) (cel_ne (cel_ne (cel_self hc2.1) (by omega)) (by omega)) hq0 (by omega) hq2 (by omega) (by omega)) gX4_move_X4_add rfl (na := 2) (by decide +kernel) rfl ⟨(Nat.le_of_ble_eq_true rfl), (Nat.le_of_ble_eq_true rfl)⟩ (cel_ne (cel_ne (cel_ne (cel_ne (cel_self hc0.1) (by omega)) (by omega)) (by omega)) (by omega)) rfl (st := []) rfl (Nat.le_of_ble_eq_true rfl) ⟨(Nat.le_of_ble_eq_true rfl), (Nat.le_of_ble_eq_true rfl)⟩ dX4_move_14 (fun r14 N14 w14 hpo14 hN14 => ?_)
    obtain ⟨rfl, g2_14, h2_14, hp14_0, rfl, rfl⟩ := hpo14
    refine x_v (congrArg (fun w => (va_up (va_up w (c + 1) (iarr E 8 g2_14)) (c + 2) (barr E 8 h2_14))) (show (va_up (va_up (va_up (va_up (va_up v c (.inr (4, [.ref (B + (c + 1)), .ref (B + (c + 2)), .int (zI ((comesA (cell : Int) 0 l).length : Int)), .ref (B + (c + 3)), .ref (B + (c + 4))]))) (c + 1) (iarr E 8 g)) (c + 2) (barr E 8 h)) (c + 3) (iarr E 8 s)) (c + 4) (iarr E 8 t)) = _ from (up_at4 (by omega) (by omega) (by omega) (by omega)).symm)) ?_
    refine x_v (congrArg (fun w => (va_up w (c + 2) (barr E 8 h2_14))) (show (va_up (va_up (va_up (va_up (va_up v c (.inr (4, [.ref (B + (c + 1)), .ref (B + (c + 2)), .int (zI ((comesA (cell : Int) 0 l).length : Int)), .ref (B + (c + 3)), .ref (B + (c + 4))]))) (c + 1) (iarr E 8 g2_14)) (c + 2) (barr E 8 h)) (c + 3) (iarr E 8 s)) (c + 4) (iarr E 8 t)) = _ from (up_at3 (by omega) (by omega) (by omega)).symm)) ?_
    refine x_v (w := (va_up (va_up (va_up (va_up (va_up v c (.inr (4, [.ref (B + (c + 1)), .ref (B + (c + 2)), .int (zI ((comesA (cell : Int) 0 l).length : Int)), .ref (B + (c + 3)), .ref (B + (c + 4))]))) (c + 1) (iarr E 8 g2_14)) (c + 2) (barr E 8 h2_14)) (c + 3) (iarr E 8 s)) (c + 4) (iarr E 8 t))) (up_at2 (by omega) (by omega)).symm ?_
    refine x_st (st' := []) rfl ?_
    have hok := comesA_ok (c := (cell : Int)) (m := 0) hq2 (by omega) (by omega)
    have hln := comesA_len (cell : Int) 0 l
    have hLL := hp14_0
    have hLo := hok
    have hLn : (comesA (cell : Int) 0 l).length ≤ 8 := by omega
    refine x_aload_n (pc := 17) 1 K rfl rfl dX4_move_17 ?_
    refine x_instN (pc := 18) (C := RX0) (T := TX0) (n := 4) (ci := 0) (nm := RX10) K (cel_ne (cel_ne (cel_ne (cel_ne (cel_ne hc6 (by omega)) (by omega)) (by omega)) (by omega)) (by omega)) rfl (by decide +kernel) (by decide +kernel) dX4_move_18 ?_
    refine x_if_eq (pc := 21) (tgt := 33) K (by decide) dX4_move_21 (by decide) (fun h_21 => ?_) (fun h_21 => ?_)
    · skip
      refine x_aload_n (pc := 33) 0 K rfl rfl dX4_move_33 ?_
      refine x_get (pc := 34) (C := RX4) (T := TX4) (n := 5) (ci := 4) (idx := 19) (ref := "BorderBeds$Line") (x := .int (zI ((comesA (cell : Int) 0 l).length : Int)))  K (cel_ne (cel_ne (cel_ne (cel_ne (cel_self hc0.1) (by omega)) (by omega)) (by omega)) (by omega)) rfl (by decide +kernel) 2 (by decide) (by decide +kernel) rfl rfl dX4_move_34 ?_
      refine x_nm (fun z1 hz1 => ?_)
      refine x_istore (pc := 37) K (L' := [(4, .int (zI z1)), (0, .ref (B + c)), (1, .ref (B + o)), (2, .int (zI (cell : Int))), (3, .ref (B + d))]) hnL (by decide) rfl dX4_move_37 ?_
      have LOOP39 : ∀ (n_39 : Nat) (z : Int) (q : Int) (x : Nat → Int) (y : Nat → Int) (l1 : Cor) (m : Nat), (z = (l1.length : Int) ∧ q = z ∧ l1.length ≤ m ∧ l1.length ≤ 8) → (LR x y l1) → (CorOk l1) → (trimA kp m l1 = (crossA 1 kp cell l)) → (l1.length) < n_39 → XW Γ N (va_up (va_up (va_up (va_up (va_up v c (.inr (4, [.ref (B + (c + 1)), .ref (B + (c + 2)), .int (zI z), .ref (B + (c + 3)), .ref (B + (c + 4))]))) (c + 1) (iarr E 8 x)) (c + 2) (barr E 8 y)) (c + 3) (iarr E 8 s)) (c + 4) (iarr E 8 t)) [(0, .ref (B + c)), (1, .ref (B + o)), (2, .int (zI (cell : Int))), (3, .ref (B + d)), (4, .int (zI q))] 0 0 39 [] := by
        intro n_39
        induction n_39 with
        | zero =>
          intro z q x y l1 m hi39_0 hi39_1 hi39_2 hi39_3 hm_39
          exfalso; omega
        | succ n_39 ih39 =>
          intro z q x y l1 m hi39_0 hi39_1 hi39_2 hi39_3 hm_39
          obtain ⟨zz, rfl⟩ : ∃ zz : Nat, z = (zz : Int) := ⟨z.toNat, by omega⟩
          have hzl : zz = l1.length := by omega
          refine x_iload (pc := 39) 4 K rfl dX4_move_39 ?_
          refine x_aload_n (pc := 41) 3 K rfl rfl dX4_move_41 ?_
          refine x_get (pc := 42) (C := RX3) (T := TX3) (n := 11) (ci := 3) (idx := 61) (ref := "BorderBeds$Ground") (x := .int (zI kp))  K (cel_ne (cel_ne (cel_ne (cel_ne (cel_ne hc5 (by omega)) (by omega)) (by omega)) (by omega)) (by omega)) rfl (by decide +kernel) 2 (by decide) (by decide +kernel) rfl rfl dX4_move_42 ?_
          refine x_icmp_le (pc := 45) (tgt := 62) K (by omega) (by omega) dX4_move_45 (by decide) (fun h_45 => ?_) (fun h_45 => ?_)
          · skip
            have hT : l1 = (crossA 1 kp cell l) := by rw [← hi39_3, trimA_done (by omega)]
            refine x_aload_n (pc := 62) 0 K rfl rfl dX4_move_62 ?_
            refine x_aload_n (pc := 63) 3 K rfl rfl dX4_move_63 ?_
            refine x_get (pc := 64) (C := RX3) (T := TX3) (n := 11) (ci := 3) (idx := 29) (ref := "BorderBeds$Ground") (x := .int (zI w))  K (cel_ne (cel_ne (cel_ne (cel_ne (cel_ne hc5 (by omega)) (by omega)) (by omega)) (by omega)) (by omega)) rfl (by decide +kernel) 0 (by decide) (by decide +kernel) rfl rfl dX4_move_64 ?_
            refine x_aload_n (pc := 67) 3 K rfl rfl dX4_move_67 ?_
            refine x_get (pc := 68) (C := RX3) (T := TX3) (n := 11) (ci := 3) (idx := 34) (ref := "BorderBeds$Ground") (x := .int (zI e))  K (cel_ne (cel_ne (cel_ne (cel_ne (cel_ne hc5 (by omega)) (by omega)) (by omega)) (by omega)) (by omega)) rfl (by decide +kernel) 1 (by decide) (by decide +kernel) rfl rfl dX4_move_68 ?_
            refine x_callV (pc := 71) (C := RX4) (T := TX4) (n := 5) (ci := 4) (As := [.int (zI w), .int (zI e)]) K (c_X4_lay (E := E) (B := B) (N := N) (l := l1)  (cel_ne (cel_ne (cel_ne (cel_ne (cel_self hc0.1) (by omega)) (by omega)) (by omega)) (by omega)) (cel_ne (cel_ne (cel_ne (cel_self hc1.1) (by omega)) (by omega)) (by omega)) (cel_ne (cel_self hc3.1) (by omega)) (cel_self hc4.1) hi39_1 (by exact ⟨hzl, by omega⟩) hi39_2 (by omega) (by omega)) gX4_move_X4_lay rfl (na := 2) (by decide +kernel) rfl ⟨(Nat.le_of_ble_eq_true rfl), (Nat.le_of_ble_eq_true rfl)⟩ (cel_ne (cel_ne (cel_ne (cel_ne (cel_self hc0.1) (by omega)) (by omega)) (by omega)) (by omega)) rfl (st := []) rfl (Nat.le_of_ble_eq_true rfl) ⟨(Nat.le_of_ble_eq_true rfl), (Nat.le_of_ble_eq_true rfl)⟩ dX4_move_71 (fun r71 N71 w71 hpo71 hN71 => ?_)
            obtain ⟨rfl, s2_71, t2_71, hp71_0, rfl, rfl⟩ := hpo71
            refine x_v (congrArg (fun w => (va_up w (c + 4) (iarr E 8 t2_71))) (show (va_up (va_up (va_up (va_up (va_up v c (.inr (4, [.ref (B + (c + 1)), .ref (B + (c + 2)), .int (zI (zz : Int)), .ref (B + (c + 3)), .ref (B + (c + 4))]))) (c + 1) (iarr E 8 x)) (c + 2) (barr E 8 y)) (c + 3) (iarr E 8 s2_71)) (c + 4) (iarr E 8 t)) = _ from (up_at1 (by omega)).symm)) ?_
            refine x_v (w := (va_up (va_up (va_up (va_up (va_up v c (.inr (4, [.ref (B + (c + 1)), .ref (B + (c + 2)), .int (zI (zz : Int)), .ref (B + (c + 3)), .ref (B + (c + 4))]))) (c + 1) (iarr E 8 x)) (c + 2) (barr E 8 y)) (c + 3) (iarr E 8 s2_71)) (c + 4) (iarr E 8 t2_71))) (up_at0).symm ?_
            refine x_st (st' := []) rfl ?_
            refine x_vret (pc := 74) K KR (by omega) (Nat.le_of_ble_eq_true rfl) (Nat.le_of_ble_eq_true rfl) dX4_move_74 ?_
            rw [hT] at hi39_1 hp71_0
            exact ⟨rfl, x, y, s2_71, t2_71, _, hi39_1, hp71_0, by rw [hzl, hT], rfl, rfl⟩
          · skip
            have hol := outA_lt (l := l1) (by omega)
            refine x_aload_n (pc := 48) 0 K rfl rfl dX4_move_48 ?_
            refine x_aload_n (pc := 49) 0 K rfl rfl dX4_move_49 ?_
            refine x_callV (pc := 50) (C := RX4) (T := TX4) (n := 5) (ci := 4) (As := []) K (c_X4_whichGoes (E := E) (B := B) (N := N) (l := l1)  (cel_ne (cel_ne (cel_ne (cel_ne (cel_self hc0.1) (by omega)) (by omega)) (by omega)) (by omega)) (cel_ne (cel_ne (cel_self hc2.1) (by omega)) (by omega)) hi39_1 (by exact ⟨hzl, by omega⟩)) gX4_move_X4_whichGoes rfl (na := 0) (by decide +kernel) rfl ⟨(Nat.le_of_ble_eq_true rfl), (Nat.le_of_ble_eq_true rfl)⟩ (cel_ne (cel_ne (cel_ne (cel_ne (cel_self hc0.1) (by omega)) (by omega)) (by omega)) (by omega)) rfl (st := [.ref (B + c)]) rfl (Nat.le_of_ble_eq_true rfl) ⟨(Nat.le_of_ble_eq_true rfl), (Nat.le_of_ble_eq_true rfl)⟩ dX4_move_50 (fun r50 N50 w50 hpo50 hN50 => ?_)
            obtain ⟨rfl, rfl, rfl⟩ := hpo50
            refine x_st (st' := [.int (zI ((outA l1 : Nat) : Int)), .ref (B + c)]) rfl ?_
            refine x_callV (pc := 53) (C := RX4) (T := TX4) (n := 5) (ci := 4) (As := [.int (zI ((outA l1 : Nat) : Int))]) K (c_X4_remove (E := E) (B := B) (N := N) (l := l1) (gone := (((outA l1 : Nat) : Int)).toNat) (by omega) (cel_ne (cel_ne (cel_ne (cel_ne (cel_self hc0.1) (by omega)) (by omega)) (by omega)) (by omega)) (cel_ne (cel_ne (cel_ne (cel_self hc1.1) (by omega)) (by omega)) (by omega)) (cel_ne (cel_ne (cel_self hc2.1) (by omega)) (by omega)) hi39_1 (by exact ⟨hzl, by omega⟩) (by omega)) gX4_move_X4_remove rfl (na := 1) (by decide +kernel) rfl ⟨(Nat.le_of_ble_eq_true rfl), (Nat.le_of_ble_eq_true rfl)⟩ (cel_ne (cel_ne (cel_ne (cel_ne (cel_self hc0.1) (by omega)) (by omega)) (by omega)) (by omega)) rfl (st := []) rfl (Nat.le_of_ble_eq_true rfl) ⟨(Nat.le_of_ble_eq_true rfl), (Nat.le_of_ble_eq_true rfl)⟩ dX4_move_53 (fun r53 N53 w53 hpo53 hN53 => ?_)
            obtain ⟨rfl, g2_53, h2_53, hp53_0, rfl, rfl⟩ := hpo53
            refine x_v (congrArg (fun w => (va_up (va_up w (c + 1) (iarr E 8 g2_53)) (c + 2) (barr E 8 h2_53))) (show (va_up (va_up (va_up (va_up (va_up v c (.inr (4, [.ref (B + (c + 1)), .ref (B + (c + 2)), .int (zI ((zz : Int) - 1)), .ref (B + (c + 3)), .ref (B + (c + 4))]))) (c + 1) (iarr E 8 x)) (c + 2) (barr E 8 y)) (c + 3) (iarr E 8 s)) (c + 4) (iarr E 8 t)) = _ from (up_at4 (by omega) (by omega) (by omega) (by omega)).symm)) ?_
            refine x_v (congrArg (fun w => (va_up w (c + 2) (barr E 8 h2_53))) (show (va_up (va_up (va_up (va_up (va_up v c (.inr (4, [.ref (B + (c + 1)), .ref (B + (c + 2)), .int (zI ((zz : Int) - 1)), .ref (B + (c + 3)), .ref (B + (c + 4))]))) (c + 1) (iarr E 8 g2_53)) (c + 2) (barr E 8 y)) (c + 3) (iarr E 8 s)) (c + 4) (iarr E 8 t)) = _ from (up_at3 (by omega) (by omega) (by omega)).symm)) ?_
            refine x_v (w := (va_up (va_up (va_up (va_up (va_up v c (.inr (4, [.ref (B + (c + 1)), .ref (B + (c + 2)), .int (zI ((zz : Int) - 1)), .ref (B + (c + 3)), .ref (B + (c + 4))]))) (c + 1) (iarr E 8 g2_53)) (c + 2) (barr E 8 h2_53)) (c + 3) (iarr E 8 s)) (c + 4) (iarr E 8 t))) (up_at2 (by omega) (by omega)).symm ?_
            refine x_st (st' := []) rfl ?_
            have hle := List.length_eraseIdx_of_lt hol
            refine x_iinc (pc := 56) (L' := [(4, .int (zI (q + (-1)))), (0, .ref (B + c)), (1, .ref (B + o)), (2, .int (zI (cell : Int))), (3, .ref (B + d))]) 4 K hnL rfl (by decide) rfl dX4_move_56 ?_
            refine x_goto (pc := 59) (tgt := 39) K dX4_move_59 (by decide) ?_
            refine x_sub (L' := [(0, .ref (B + c)), (1, .ref (B + o)), (2, .int (zI (cell : Int))), (3, .ref (B + d)), (4, .int (zI (q + (-1))))]) [1, 2, 3, 4, 0] rfl ?_
            exact ih39 ((zz : Int) - 1) (q + (-1)) g2_53 h2_53 (l1.eraseIdx (outA l1)) (m - 1) (by omega) (by exact hp53_0) (by exact hi39_2.erase _) (by rw [← hi39_3]; exact (trimA_step (by omega) (by omega)).symm) (by omega)
      refine x_sub (L' := [(0, .ref (B + c)), (1, .ref (B + o)), (2, .int (zI (cell : Int))), (3, .ref (B + d)), (4, .int (zI z1))]) [1, 2, 3, 4, 0] rfl ?_
      exact LOOP39 (_) ((comesA (cell : Int) 0 l).length : Int) z1 g2_14 h2_14 (comesA (cell : Int) 0 l) 8 (by omega) (by exact hLL) (by exact hLo) (by first | rfl | (unfold crossA; simp)) (Nat.lt_succ_self _)
    · skip
      exfalso; omega
  · skip
    exfalso; omega

set_option maxRecDepth 100000 in
set_option maxHeartbeats 4000000 in
theorem c_move_2 {E : XE} {B N : Nat} {v : Nat → va_E} {c o cell d n : Nat} {num lnd home mil : Int} {q1 q2 q3 q4 q5 q6 : Nat} {w e kp vil peo : Int} {g h s t : Nat → Int} {l : Cor} {cell_i : Int} (ha_cell : cell_i = (cell : Int)) (hc0 : Cel N v c (.inr (4, [.ref (B + (c + 1)), .ref (B + (c + 2)), .int (zI (n : Int)), .ref (B + (c + 3)), .ref (B + (c + 4))]))) (hc1 : Cel N v (c + 1) (iarr E 8 g)) (hc2 : Cel N v (c + 2) (barr E 8 h)) (hc3 : Cel N v (c + 3) (iarr E 8 s)) (hc4 : Cel N v (c + 4) (iarr E 8 t)) (hc5 : Cel N v d (.inr (3, [.int (zI w), .int (zI e), .int (zI kp), .ref (B + q1), .ref (B + q2), .int (zI vil), .ref (B + q3), .int (zI peo), .ref (B + q4), .ref (B + q5), .ref (B + q6)]))) (hc6 : Cel N v o (.inr (2, [.int (zI num), .int (zI lnd), .int (zI home), .int (zI mil)]))) (hq0 : LR g h l) (hq1 : n = l.length ∧ (l.length : Int) ≤ kp) (hq2 : CorOk l) (hq3 : 0 ≤ w ∧ w ≤ 5) (hq4 : 0 ≤ e ∧ e ≤ 5) (hq5 : 0 ≤ kp ∧ kp ≤ 6) (hq6 : cell ≤ 47) (hq7 : SR w e l s t) (hq8 : d ≠ c ∧ d ≠ c + 1 ∧ d ≠ c + 2 ∧ d ≠ c + 3 ∧ d ≠ c + 4) (hq9 : o ≠ c ∧ o ≠ c + 1 ∧ o ≠ c + 2 ∧ o ≠ c + 3 ∧ o ≠ c + 4) : gM yX4_move wsX4_move ({ frames := 2, cells := 0, slots := 0, locals := 54 }) E B N v [.ref (B + c), .ref (B + o), .int (zI cell_i), .ref (B + d)] (po0 N (fun ρ v' => ∃ (g2 : Nat → Int), ∃ (h2 : Nat → Int), ∃ (s2 : Nat → Int), ∃ (t2 : Nat → Int), ∃ (z2 : Int), (LR g2 h2 (crossA 2 kp cell l)) ∧ (SR w e (crossA 2 kp cell l) s2 t2) ∧ (z2 = ((crossA 2 kp cell l).length : Int)) ∧ ρ = none ∧ (va_up (va_up (va_up (va_up (va_up v c (.inr (4, [.ref (B + (c + 1)), .ref (B + (c + 2)), .int (zI z2), .ref (B + (c + 3)), .ref (B + (c + 4))]))) (c + 1) (iarr E 8 g2)) (c + 2) (barr E 8 h2)) (c + 3) (iarr E 8 s2)) (c + 4) (iarr E 8 t2)) = v')) := by
  subst ha_cell
  refine x_met (nm := "move") (by decide +kernel) rfl (Nat.le_of_ble_eq_true rfl) rfl (fun Γ K KR hnL hnm => ?_)
  show XW Γ N v [(0, .ref (B + c)), (1, .ref (B + o)), (2, .int (zI (cell : Int))), (3, .ref (B + d))] 0 0 0 []
  refine x_v (cel_pad hc0) ?_
  refine x_v (cel_pad (cel_ne hc1 (by omega))) ?_
  refine x_v (cel_pad (cel_ne (cel_ne hc2 (by omega)) (by omega))) ?_
  refine x_v (cel_pad (cel_ne (cel_ne (cel_ne hc3 (by omega)) (by omega)) (by omega))) ?_
  refine x_v (cel_pad (cel_ne (cel_ne (cel_ne (cel_ne hc4 (by omega)) (by omega)) (by omega)) (by omega))) ?_
  refine x_aload_n (pc := 0) 1 K rfl rfl dX4_move_0 ?_
  refine x_instN (pc := 1) (C := RX2) (T := TX2) (n := 4) (ci := 2) (nm := RX5) K (cel_ne (cel_ne (cel_ne (cel_ne (cel_ne hc6 (by omega)) (by omega)) (by omega)) (by omega)) (by omega)) rfl (by decide +kernel) (by decide +kernel) dX4_move_1 ?_
  refine x_if_eq (pc := 4) (tgt := 8) K (by decide) dX4_move_4 (by decide) (fun h_4 => ?_) (fun h_4 => ?_)
  · skip
    refine x_aload_n (pc := 8) 0 K rfl rfl dX4_move_8 ?_
    refine x_iload_n (pc := 9) 2 K rfl rfl dX4_move_9 ?_
    refine x_aload_n (pc := 10) 1 K rfl rfl dX4_move_10 ?_
    refine x_instN (pc := 11) (C := RX2) (T := TX2) (n := 4) (ci := 2) (nm := RX1) K (cel_ne (cel_ne (cel_ne (cel_ne (cel_ne hc6 (by omega)) (by omega)) (by omega)) (by omega)) (by omega)) rfl (by decide +kernel) (by decide +kernel) dX4_move_11 ?_
    refine x_callV (pc := 14) (C := RX4) (T := TX4) (n := 5) (ci := 4) (As := [.int (zI (cell : Int)), .int (zI 0)]) K (c_X4_add (E := E) (B := B) (N := N) (l := l)  (cel_ne (cel_ne (cel_ne (cel_ne (cel_self hc0.1) (by omega)) (by omega)) (by omega)) (by omega)) (cel_ne (cel_ne (cel_ne (cel_self hc1.1) (by omega)) (by omega)) (by omega)) (cel_ne (cel_ne (cel_self hc2.1) (by omega)) (by omega)) hq0 (by omega) hq2 (by omega) (by omega)) gX4_move_X4_add rfl (na := 2) (by decide +kernel) rfl ⟨(Nat.le_of_ble_eq_true rfl), (Nat.le_of_ble_eq_true rfl)⟩ (cel_ne (cel_ne (cel_ne (cel_ne (cel_self hc0.1) (by omega)) (by omega)) (by omega)) (by omega)) rfl (st := []) rfl (Nat.le_of_ble_eq_true rfl) ⟨(Nat.le_of_ble_eq_true rfl), (Nat.le_of_ble_eq_true rfl)⟩ dX4_move_14 (fun r14 N14 w14 hpo14 hN14 => ?_)
    obtain ⟨rfl, g2_14, h2_14, hp14_0, rfl, rfl⟩ := hpo14
    refine x_v (congrArg (fun w => (va_up (va_up w (c + 1) (iarr E 8 g2_14)) (c + 2) (barr E 8 h2_14))) (show (va_up (va_up (va_up (va_up (va_up v c (.inr (4, [.ref (B + (c + 1)), .ref (B + (c + 2)), .int (zI ((comesA (cell : Int) 0 l).length : Int)), .ref (B + (c + 3)), .ref (B + (c + 4))]))) (c + 1) (iarr E 8 g)) (c + 2) (barr E 8 h)) (c + 3) (iarr E 8 s)) (c + 4) (iarr E 8 t)) = _ from (up_at4 (by omega) (by omega) (by omega) (by omega)).symm)) ?_
    refine x_v (congrArg (fun w => (va_up w (c + 2) (barr E 8 h2_14))) (show (va_up (va_up (va_up (va_up (va_up v c (.inr (4, [.ref (B + (c + 1)), .ref (B + (c + 2)), .int (zI ((comesA (cell : Int) 0 l).length : Int)), .ref (B + (c + 3)), .ref (B + (c + 4))]))) (c + 1) (iarr E 8 g2_14)) (c + 2) (barr E 8 h)) (c + 3) (iarr E 8 s)) (c + 4) (iarr E 8 t)) = _ from (up_at3 (by omega) (by omega) (by omega)).symm)) ?_
    refine x_v (w := (va_up (va_up (va_up (va_up (va_up v c (.inr (4, [.ref (B + (c + 1)), .ref (B + (c + 2)), .int (zI ((comesA (cell : Int) 0 l).length : Int)), .ref (B + (c + 3)), .ref (B + (c + 4))]))) (c + 1) (iarr E 8 g2_14)) (c + 2) (barr E 8 h2_14)) (c + 3) (iarr E 8 s)) (c + 4) (iarr E 8 t))) (up_at2 (by omega) (by omega)).symm ?_
    refine x_st (st' := []) rfl ?_
    have hok := comesA_ok (c := (cell : Int)) (m := 0) hq2 (by omega) (by omega)
    have hln := comesA_len (cell : Int) 0 l
    have hLL := hp14_0
    have hLo := hok
    have hLn : (comesA (cell : Int) 0 l).length ≤ 8 := by omega
    refine x_aload_n (pc := 17) 1 K rfl rfl dX4_move_17 ?_
    refine x_instN (pc := 18) (C := RX2) (T := TX2) (n := 4) (ci := 2) (nm := RX10) K (cel_ne (cel_ne (cel_ne (cel_ne (cel_ne hc6 (by omega)) (by omega)) (by omega)) (by omega)) (by omega)) rfl (by decide +kernel) (by decide +kernel) dX4_move_18 ?_
    refine x_if_eq (pc := 21) (tgt := 33) K (by decide) dX4_move_21 (by decide) (fun h_21 => ?_) (fun h_21 => ?_)
    · skip
      refine x_aload_n (pc := 33) 0 K rfl rfl dX4_move_33 ?_
      refine x_get (pc := 34) (C := RX4) (T := TX4) (n := 5) (ci := 4) (idx := 19) (ref := "BorderBeds$Line") (x := .int (zI ((comesA (cell : Int) 0 l).length : Int)))  K (cel_ne (cel_ne (cel_ne (cel_ne (cel_self hc0.1) (by omega)) (by omega)) (by omega)) (by omega)) rfl (by decide +kernel) 2 (by decide) (by decide +kernel) rfl rfl dX4_move_34 ?_
      refine x_nm (fun z1 hz1 => ?_)
      refine x_istore (pc := 37) K (L' := [(4, .int (zI z1)), (0, .ref (B + c)), (1, .ref (B + o)), (2, .int (zI (cell : Int))), (3, .ref (B + d))]) hnL (by decide) rfl dX4_move_37 ?_
      have LOOP39 : ∀ (n_39 : Nat) (z : Int) (q : Int) (x : Nat → Int) (y : Nat → Int) (l1 : Cor) (m : Nat), (z = (l1.length : Int) ∧ q = z ∧ l1.length ≤ m ∧ l1.length ≤ 8) → (LR x y l1) → (CorOk l1) → (trimA kp m l1 = (crossA 2 kp cell l)) → (l1.length) < n_39 → XW Γ N (va_up (va_up (va_up (va_up (va_up v c (.inr (4, [.ref (B + (c + 1)), .ref (B + (c + 2)), .int (zI z), .ref (B + (c + 3)), .ref (B + (c + 4))]))) (c + 1) (iarr E 8 x)) (c + 2) (barr E 8 y)) (c + 3) (iarr E 8 s)) (c + 4) (iarr E 8 t)) [(0, .ref (B + c)), (1, .ref (B + o)), (2, .int (zI (cell : Int))), (3, .ref (B + d)), (4, .int (zI q))] 0 0 39 [] := by
        intro n_39
        induction n_39 with
        | zero =>
          intro z q x y l1 m hi39_0 hi39_1 hi39_2 hi39_3 hm_39
          exfalso; omega
        | succ n_39 ih39 =>
          intro z q x y l1 m hi39_0 hi39_1 hi39_2 hi39_3 hm_39
          obtain ⟨zz, rfl⟩ : ∃ zz : Nat, z = (zz : Int) := ⟨z.toNat, by omega⟩
          have hzl : zz = l1.length := by omega
          refine x_iload (pc := 39) 4 K rfl dX4_move_39 ?_
          refine x_aload_n (pc := 41) 3 K rfl rfl dX4_move_41 ?_
          refine x_get (pc := 42) (C := RX3) (T := TX3) (n := 11) (ci := 3) (idx := 61) (ref := "BorderBeds$Ground") (x := .int (zI kp))  K (cel_ne (cel_ne (cel_ne (cel_ne (cel_ne hc5 (by omega)) (by omega)) (by omega)) (by omega)) (by omega)) rfl (by decide +kernel) 2 (by decide) (by decide +kernel) rfl rfl dX4_move_42 ?_
          refine x_icmp_le (pc := 45) (tgt := 62) K (by omega) (by omega) dX4_move_45 (by decide) (fun h_45 => ?_) (fun h_45 => ?_)
          · skip
            have hT : l1 = (crossA 2 kp cell l) := by rw [← hi39_3, trimA_done (by omega)]
            refine x_aload_n (pc := 62) 0 K rfl rfl dX4_move_62 ?_
            refine x_aload_n (pc := 63) 3 K rfl rfl dX4_move_63 ?_
            refine x_get (pc := 64) (C := RX3) (T := TX3) (n := 11) (ci := 3) (idx := 29) (ref := "BorderBeds$Ground") (x := .int (zI w))  K (cel_ne (cel_ne (cel_ne (cel_ne (cel_ne hc5 (by omega)) (by omega)) (by omega)) (by omega)) (by omega)) rfl (by decide +kernel) 0 (by decide) (by decide +kernel) rfl rfl dX4_move_64 ?_
            refine x_aload_n (pc := 67) 3 K rfl rfl dX4_move_67 ?_
            refine x_get (pc := 68) (C := RX3) (T := TX3) (n := 11) (ci := 3) (idx := 34) (ref := "BorderBeds$Ground") (x := .int (zI e))  K (cel_ne (cel_ne (cel_ne (cel_ne (cel_ne hc5 (by omega)) (by omega)) (by omega)) (by omega)) (by omega)) rfl (by decide +kernel) 1 (by decide) (by decide +kernel) rfl rfl dX4_move_68 ?_
            refine x_callV (pc := 71) (C := RX4) (T := TX4) (n := 5) (ci := 4) (As := [.int (zI w), .int (zI e)]) K (c_X4_lay (E := E) (B := B) (N := N) (l := l1)  (cel_ne (cel_ne (cel_ne (cel_ne (cel_self hc0.1) (by omega)) (by omega)) (by omega)) (by omega)) (cel_ne (cel_ne (cel_ne (cel_self hc1.1) (by omega)) (by omega)) (by omega)) (cel_ne (cel_self hc3.1) (by omega)) (cel_self hc4.1) hi39_1 (by exact ⟨hzl, by omega⟩) hi39_2 (by omega) (by omega)) gX4_move_X4_lay rfl (na := 2) (by decide +kernel) rfl ⟨(Nat.le_of_ble_eq_true rfl), (Nat.le_of_ble_eq_true rfl)⟩ (cel_ne (cel_ne (cel_ne (cel_ne (cel_self hc0.1) (by omega)) (by omega)) (by omega)) (by omega)) rfl (st := []) rfl (Nat.le_of_ble_eq_true rfl) ⟨(Nat.le_of_ble_eq_true rfl), (Nat.le_of_ble_eq_true rfl)⟩ dX4_move_71 (fun r71 N71 w71 hpo71 hN71 => ?_)
            obtain ⟨rfl, s2_71, t2_71, hp71_0, rfl, rfl⟩ := hpo71
            refine x_v (congrArg (fun w => (va_up w (c + 4) (iarr E 8 t2_71))) (show (va_up (va_up (va_up (va_up (va_up v c (.inr (4, [.ref (B + (c + 1)), .ref (B + (c + 2)), .int (zI (zz : Int)), .ref (B + (c + 3)), .ref (B + (c + 4))]))) (c + 1) (iarr E 8 x)) (c + 2) (barr E 8 y)) (c + 3) (iarr E 8 s2_71)) (c + 4) (iarr E 8 t)) = _ from (up_at1 (by omega)).symm)) ?_
            refine x_v (w := (va_up (va_up (va_up (va_up (va_up v c (.inr (4, [.ref (B + (c + 1)), .ref (B + (c + 2)), .int (zI (zz : Int)), .ref (B + (c + 3)), .ref (B + (c + 4))]))) (c + 1) (iarr E 8 x)) (c + 2) (barr E 8 y)) (c + 3) (iarr E 8 s2_71)) (c + 4) (iarr E 8 t2_71))) (up_at0).symm ?_
            refine x_st (st' := []) rfl ?_
            refine x_vret (pc := 74) K KR (by omega) (Nat.le_of_ble_eq_true rfl) (Nat.le_of_ble_eq_true rfl) dX4_move_74 ?_
            rw [hT] at hi39_1 hp71_0
            exact ⟨rfl, x, y, s2_71, t2_71, _, hi39_1, hp71_0, by rw [hzl, hT], rfl, rfl⟩
          · skip
            have hol := outA_lt (l := l1) (by omega)
            refine x_aload_n (pc := 48) 0 K rfl rfl dX4_move_48 ?_
            refine x_aload_n (pc := 49) 0 K rfl rfl dX4_move_49 ?_
            refine x_callV (pc := 50) (C := RX4) (T := TX4) (n := 5) (ci := 4) (As := []) K (c_X4_whichGoes (E := E) (B := B) (N := N) (l := l1)  (cel_ne (cel_ne (cel_ne (cel_ne (cel_self hc0.1) (by omega)) (by omega)) (by omega)) (by omega)) (cel_ne (cel_ne (cel_self hc2.1) (by omega)) (by omega)) hi39_1 (by exact ⟨hzl, by omega⟩)) gX4_move_X4_whichGoes rfl (na := 0) (by decide +kernel) rfl ⟨(Nat.le_of_ble_eq_true rfl), (Nat.le_of_ble_eq_true rfl)⟩ (cel_ne (cel_ne (cel_ne (cel_ne (cel_self hc0.1) (by omega)) (by omega)) (by omega)) (by omega)) rfl (st := [.ref (B + c)]) rfl (Nat.le_of_ble_eq_true rfl) ⟨(Nat.le_of_ble_eq_true rfl), (Nat.le_of_ble_eq_true rfl)⟩ dX4_move_50 (fun r50 N50 w50 hpo50 hN50 => ?_)
            obtain ⟨rfl, rfl, rfl⟩ := hpo50
            refine x_st (st' := [.int (zI ((outA l1 : Nat) : Int)), .ref (B + c)]) rfl ?_
            refine x_callV (pc := 53) (C := RX4) (T := TX4) (n := 5) (ci := 4) (As := [.int (zI ((outA l1 : Nat) : Int))]) K (c_X4_remove (E := E) (B := B) (N := N) (l := l1) (gone := (((outA l1 : Nat) : Int)).toNat) (by omega) (cel_ne (cel_ne (cel_ne (cel_ne (cel_self hc0.1) (by omega)) (by omega)) (by omega)) (by omega)) (cel_ne (cel_ne (cel_ne (cel_self hc1.1) (by omega)) (by omega)) (by omega)) (cel_ne (cel_ne (cel_self hc2.1) (by omega)) (by omega)) hi39_1 (by exact ⟨hzl, by omega⟩) (by omega)) gX4_move_X4_remove rfl (na := 1) (by decide +kernel) rfl ⟨(Nat.le_of_ble_eq_true rfl), (Nat.le_of_ble_eq_true rfl)⟩ (cel_ne (cel_ne (cel_ne (cel_ne (cel_self hc0.1) (by omega)) (by omega)) (by omega)) (by omega)) rfl (st := []) rfl (Nat.le_of_ble_eq_true rfl) ⟨(Nat.le_of_ble_eq_true rfl), (Nat.le_of_ble_eq_true rfl)⟩ dX4_move_53 (fun r53 N53 w53 hpo53 hN53 => ?_)
            obtain ⟨rfl, g2_53, h2_53, hp53_0, rfl, rfl⟩ := hpo53
            refine x_v (congrArg (fun w => (va_up (va_up w (c + 1) (iarr E 8 g2_53)) (c + 2) (barr E 8 h2_53))) (show (va_up (va_up (va_up (va_up (va_up v c (.inr (4, [.ref (B + (c + 1)), .ref (B + (c + 2)), .int (zI ((zz : Int) - 1)), .ref (B + (c + 3)), .ref (B + (c + 4))]))) (c + 1) (iarr E 8 x)) (c + 2) (barr E 8 y)) (c + 3) (iarr E 8 s)) (c + 4) (iarr E 8 t)) = _ from (up_at4 (by omega) (by omega) (by omega) (by omega)).symm)) ?_
            refine x_v (congrArg (fun w => (va_up w (c + 2) (barr E 8 h2_53))) (show (va_up (va_up (va_up (va_up (va_up v c (.inr (4, [.ref (B + (c + 1)), .ref (B + (c + 2)), .int (zI ((zz : Int) - 1)), .ref (B + (c + 3)), .ref (B + (c + 4))]))) (c + 1) (iarr E 8 g2_53)) (c + 2) (barr E 8 y)) (c + 3) (iarr E 8 s)) (c + 4) (iarr E 8 t)) = _ from (up_at3 (by omega) (by omega) (by omega)).symm)) ?_
            refine x_v (w := (va_up (va_up (va_up (va_up (va_up v c (.inr (4, [.ref (B + (c + 1)), .ref (B + (c + 2)), .int (zI ((zz : Int) - 1)), .ref (B + (c + 3)), .ref (B + (c + 4))]))) (c + 1) (iarr E 8 g2_53)) (c + 2) (barr E 8 h2_53)) (c + 3) (iarr E 8 s)) (c + 4) (iarr E 8 t))) (up_at2 (by omega) (by omega)).symm ?_
            refine x_st (st' := []) rfl ?_
            have hle := List.length_eraseIdx_of_lt hol
            refine x_iinc (pc := 56) (L' := [(4, .int (zI (q + (-1)))), (0, .ref (B + c)), (1, .ref (B + o)), (2, .int (zI (cell : Int))), (3, .ref (B + d))]) 4 K hnL rfl (by decide) rfl dX4_move_56 ?_
            refine x_goto (pc := 59) (tgt := 39) K dX4_move_59 (by decide) ?_
            refine x_sub (L' := [(0, .ref (B + c)), (1, .ref (B + o)), (2, .int (zI (cell : Int))), (3, .ref (B + d)), (4, .int (zI (q + (-1))))]) [1, 2, 3, 4, 0] rfl ?_
            exact ih39 ((zz : Int) - 1) (q + (-1)) g2_53 h2_53 (l1.eraseIdx (outA l1)) (m - 1) (by omega) (by exact hp53_0) (by exact hi39_2.erase _) (by rw [← hi39_3]; exact (trimA_step (by omega) (by omega)).symm) (by omega)
      refine x_sub (L' := [(0, .ref (B + c)), (1, .ref (B + o)), (2, .int (zI (cell : Int))), (3, .ref (B + d)), (4, .int (zI z1))]) [1, 2, 3, 4, 0] rfl ?_
      exact LOOP39 (_) ((comesA (cell : Int) 0 l).length : Int) z1 g2_14 h2_14 (comesA (cell : Int) 0 l) 8 (by omega) (by exact hLL) (by exact hLo) (by first | rfl | (unfold crossA; simp)) (Nat.lt_succ_self _)
    · skip
      exfalso; omega
  · skip
    exfalso; omega

set_option maxRecDepth 100000 in
set_option maxHeartbeats 4000000 in
theorem c_move_3 {E : XE} {B N : Nat} {v : Nat → va_E} {c o cell d n : Nat} {num lnd home mil : Int} {q1 q2 q3 q4 q5 q6 : Nat} {w e kp vil peo : Int} {g h s t : Nat → Int} {l : Cor} {cell_i : Int} (ha_cell : cell_i = (cell : Int)) (hc0 : Cel N v c (.inr (4, [.ref (B + (c + 1)), .ref (B + (c + 2)), .int (zI (n : Int)), .ref (B + (c + 3)), .ref (B + (c + 4))]))) (hc1 : Cel N v (c + 1) (iarr E 8 g)) (hc2 : Cel N v (c + 2) (barr E 8 h)) (hc3 : Cel N v (c + 3) (iarr E 8 s)) (hc4 : Cel N v (c + 4) (iarr E 8 t)) (hc5 : Cel N v d (.inr (3, [.int (zI w), .int (zI e), .int (zI kp), .ref (B + q1), .ref (B + q2), .int (zI vil), .ref (B + q3), .int (zI peo), .ref (B + q4), .ref (B + q5), .ref (B + q6)]))) (hc6 : Cel N v o (.inr (9, [.int (zI num), .int (zI lnd), .int (zI home), .int (zI mil)]))) (hq0 : LR g h l) (hq1 : n = l.length ∧ (l.length : Int) ≤ kp) (hq2 : CorOk l) (hq3 : 0 ≤ w ∧ w ≤ 5) (hq4 : 0 ≤ e ∧ e ≤ 5) (hq5 : 0 ≤ kp ∧ kp ≤ 6) (hq6 : cell ≤ 47) (hq7 : SR w e l s t) (hq8 : d ≠ c ∧ d ≠ c + 1 ∧ d ≠ c + 2 ∧ d ≠ c + 3 ∧ d ≠ c + 4) (hq9 : o ≠ c ∧ o ≠ c + 1 ∧ o ≠ c + 2 ∧ o ≠ c + 3 ∧ o ≠ c + 4) : gM yX4_move wsX4_move ({ frames := 2, cells := 0, slots := 0, locals := 54 }) E B N v [.ref (B + c), .ref (B + o), .int (zI cell_i), .ref (B + d)] (po0 N (fun ρ v' => ∃ (g2 : Nat → Int), ∃ (h2 : Nat → Int), ∃ (s2 : Nat → Int), ∃ (t2 : Nat → Int), ∃ (z2 : Int), (LR g2 h2 (crossA 3 kp cell l)) ∧ (SR w e (crossA 3 kp cell l) s2 t2) ∧ (z2 = ((crossA 3 kp cell l).length : Int)) ∧ ρ = none ∧ (va_up (va_up (va_up (va_up (va_up v c (.inr (4, [.ref (B + (c + 1)), .ref (B + (c + 2)), .int (zI z2), .ref (B + (c + 3)), .ref (B + (c + 4))]))) (c + 1) (iarr E 8 g2)) (c + 2) (barr E 8 h2)) (c + 3) (iarr E 8 s2)) (c + 4) (iarr E 8 t2)) = v')) := by
  subst ha_cell
  refine x_met (nm := "move") (by decide +kernel) rfl (Nat.le_of_ble_eq_true rfl) rfl (fun Γ K KR hnL hnm => ?_)
  show XW Γ N v [(0, .ref (B + c)), (1, .ref (B + o)), (2, .int (zI (cell : Int))), (3, .ref (B + d))] 0 0 0 []
  refine x_v (cel_pad hc0) ?_
  refine x_v (cel_pad (cel_ne hc1 (by omega))) ?_
  refine x_v (cel_pad (cel_ne (cel_ne hc2 (by omega)) (by omega))) ?_
  refine x_v (cel_pad (cel_ne (cel_ne (cel_ne hc3 (by omega)) (by omega)) (by omega))) ?_
  refine x_v (cel_pad (cel_ne (cel_ne (cel_ne (cel_ne hc4 (by omega)) (by omega)) (by omega)) (by omega))) ?_
  refine x_aload_n (pc := 0) 1 K rfl rfl dX4_move_0 ?_
  refine x_instN (pc := 1) (C := RX10) (T := TX10) (n := 4) (ci := 9) (nm := RX5) K (cel_ne (cel_ne (cel_ne (cel_ne (cel_ne hc6 (by omega)) (by omega)) (by omega)) (by omega)) (by omega)) rfl (by decide +kernel) (by decide +kernel) dX4_move_1 ?_
  refine x_if_eq (pc := 4) (tgt := 8) K (by decide) dX4_move_4 (by decide) (fun h_4 => ?_) (fun h_4 => ?_)
  · skip
    refine x_aload_n (pc := 8) 0 K rfl rfl dX4_move_8 ?_
    refine x_iload_n (pc := 9) 2 K rfl rfl dX4_move_9 ?_
    refine x_aload_n (pc := 10) 1 K rfl rfl dX4_move_10 ?_
    refine x_instN (pc := 11) (C := RX10) (T := TX10) (n := 4) (ci := 9) (nm := RX1) K (cel_ne (cel_ne (cel_ne (cel_ne (cel_ne hc6 (by omega)) (by omega)) (by omega)) (by omega)) (by omega)) rfl (by decide +kernel) (by decide +kernel) dX4_move_11 ?_
    refine x_callV (pc := 14) (C := RX4) (T := TX4) (n := 5) (ci := 4) (As := [.int (zI (cell : Int)), .int (zI 0)]) K (c_X4_add (E := E) (B := B) (N := N) (l := l)  (cel_ne (cel_ne (cel_ne (cel_ne (cel_self hc0.1) (by omega)) (by omega)) (by omega)) (by omega)) (cel_ne (cel_ne (cel_ne (cel_self hc1.1) (by omega)) (by omega)) (by omega)) (cel_ne (cel_ne (cel_self hc2.1) (by omega)) (by omega)) hq0 (by omega) hq2 (by omega) (by omega)) gX4_move_X4_add rfl (na := 2) (by decide +kernel) rfl ⟨(Nat.le_of_ble_eq_true rfl), (Nat.le_of_ble_eq_true rfl)⟩ (cel_ne (cel_ne (cel_ne (cel_ne (cel_self hc0.1) (by omega)) (by omega)) (by omega)) (by omega)) rfl (st := []) rfl (Nat.le_of_ble_eq_true rfl) ⟨(Nat.le_of_ble_eq_true rfl), (Nat.le_of_ble_eq_true rfl)⟩ dX4_move_14 (fun r14 N14 w14 hpo14 hN14 => ?_)
    obtain ⟨rfl, g2_14, h2_14, hp14_0, rfl, rfl⟩ := hpo14
    refine x_v (congrArg (fun w => (va_up (va_up w (c + 1) (iarr E 8 g2_14)) (c + 2) (barr E 8 h2_14))) (show (va_up (va_up (va_up (va_up (va_up v c (.inr (4, [.ref (B + (c + 1)), .ref (B + (c + 2)), .int (zI ((comesA (cell : Int) 0 l).length : Int)), .ref (B + (c + 3)), .ref (B + (c + 4))]))) (c + 1) (iarr E 8 g)) (c + 2) (barr E 8 h)) (c + 3) (iarr E 8 s)) (c + 4) (iarr E 8 t)) = _ from (up_at4 (by omega) (by omega) (by omega) (by omega)).symm)) ?_
    refine x_v (congrArg (fun w => (va_up w (c + 2) (barr E 8 h2_14))) (show (va_up (va_up (va_up (va_up (va_up v c (.inr (4, [.ref (B + (c + 1)), .ref (B + (c + 2)), .int (zI ((comesA (cell : Int) 0 l).length : Int)), .ref (B + (c + 3)), .ref (B + (c + 4))]))) (c + 1) (iarr E 8 g2_14)) (c + 2) (barr E 8 h)) (c + 3) (iarr E 8 s)) (c + 4) (iarr E 8 t)) = _ from (up_at3 (by omega) (by omega) (by omega)).symm)) ?_
    refine x_v (w := (va_up (va_up (va_up (va_up (va_up v c (.inr (4, [.ref (B + (c + 1)), .ref (B + (c + 2)), .int (zI ((comesA (cell : Int) 0 l).length : Int)), .ref (B + (c + 3)), .ref (B + (c + 4))]))) (c + 1) (iarr E 8 g2_14)) (c + 2) (barr E 8 h2_14)) (c + 3) (iarr E 8 s)) (c + 4) (iarr E 8 t))) (up_at2 (by omega) (by omega)).symm ?_
    refine x_st (st' := []) rfl ?_
    have hok := comesA_ok (c := (cell : Int)) (m := 0) hq2 (by omega) (by omega)
    have hln := comesA_len (cell : Int) 0 l
    refine x_aload_n (pc := 17) 1 K rfl rfl dX4_move_17 ?_
    refine x_instS (pc := 18) (C := RX10) (T := TX10) (n := 4) (ci := 9) (nm := RX10) K (cel_ne (cel_ne (cel_ne (cel_ne (cel_ne hc6 (by omega)) (by omega)) (by omega)) (by omega)) (by omega)) rfl (by decide +kernel) rfl dX4_move_18 ?_
    refine x_if_eq (pc := 21) (tgt := 33) K (by decide) dX4_move_21 (by decide) (fun h_21 => ?_) (fun h_21 => ?_)
    · skip
      exfalso; omega
    · skip
      refine x_aload_n (pc := 24) 0 K rfl rfl dX4_move_24 ?_
      refine x_iload_n (pc := 25) 2 K rfl rfl dX4_move_25 ?_
      refine x_callS (pc := 26) (As := [.int (zI (cell : Int))]) K (c_X4_mirrored (E := E) (B := B) (N := N) (cell := cell) rfl  (by omega)) gX4_move_X4_mirrored rfl (na := 1) (by decide +kernel) rfl ⟨(Nat.le_of_ble_eq_true rfl), (Nat.le_of_ble_eq_true rfl)⟩ (st := [.ref (B + c)]) rfl (Nat.le_of_ble_eq_true rfl) ⟨(Nat.le_of_ble_eq_true rfl), (Nat.le_of_ble_eq_true rfl)⟩ dX4_move_26 (fun r26 N26 w26 hpo26 hN26 => ?_)
      obtain ⟨rfl, rfl, rfl⟩ := hpo26
      refine x_st (st' := [.int (zI ((mirA cell : Nat) : Int)), .ref (B + c)]) rfl ?_
      refine x_iconst (pc := 29) K dX4_move_29 ?_
      refine x_callV (pc := 30) (C := RX4) (T := TX4) (n := 5) (ci := 4) (As := [.int (zI ((mirA cell : Nat) : Int)), .int (zI 0)]) K (c_X4_add (E := E) (B := B) (N := N) (l := (comesA (cell : Int) 0 l))  (cel_ne (cel_ne (cel_ne (cel_ne (cel_self hc0.1) (by omega)) (by omega)) (by omega)) (by omega)) (cel_ne (cel_ne (cel_ne (cel_self hc1.1) (by omega)) (by omega)) (by omega)) (cel_ne (cel_ne (cel_self hc2.1) (by omega)) (by omega)) hp14_0 (by exact ⟨rfl, by omega⟩) hok (by have := mirA_le hq6; omega) (by omega)) gX4_move_X4_add rfl (na := 2) (by decide +kernel) rfl ⟨(Nat.le_of_ble_eq_true rfl), (Nat.le_of_ble_eq_true rfl)⟩ (cel_ne (cel_ne (cel_ne (cel_ne (cel_self hc0.1) (by omega)) (by omega)) (by omega)) (by omega)) rfl (st := []) rfl (Nat.le_of_ble_eq_true rfl) ⟨(Nat.le_of_ble_eq_true rfl), (Nat.le_of_ble_eq_true rfl)⟩ dX4_move_30 (fun r30 N30 w30 hpo30 hN30 => ?_)
      obtain ⟨rfl, g2_30, h2_30, hp30_0, rfl, rfl⟩ := hpo30
      refine x_v (congrArg (fun w => (va_up (va_up w (c + 1) (iarr E 8 g2_30)) (c + 2) (barr E 8 h2_30))) (show (va_up (va_up (va_up (va_up (va_up v c (.inr (4, [.ref (B + (c + 1)), .ref (B + (c + 2)), .int (zI ((comesA ((mirA cell : Nat) : Int) 0 (comesA (cell : Int) 0 l)).length : Int)), .ref (B + (c + 3)), .ref (B + (c + 4))]))) (c + 1) (iarr E 8 g2_14)) (c + 2) (barr E 8 h2_14)) (c + 3) (iarr E 8 s)) (c + 4) (iarr E 8 t)) = _ from (up_at4 (by omega) (by omega) (by omega) (by omega)).symm)) ?_
      refine x_v (congrArg (fun w => (va_up w (c + 2) (barr E 8 h2_30))) (show (va_up (va_up (va_up (va_up (va_up v c (.inr (4, [.ref (B + (c + 1)), .ref (B + (c + 2)), .int (zI ((comesA ((mirA cell : Nat) : Int) 0 (comesA (cell : Int) 0 l)).length : Int)), .ref (B + (c + 3)), .ref (B + (c + 4))]))) (c + 1) (iarr E 8 g2_30)) (c + 2) (barr E 8 h2_14)) (c + 3) (iarr E 8 s)) (c + 4) (iarr E 8 t)) = _ from (up_at3 (by omega) (by omega) (by omega)).symm)) ?_
      refine x_v (w := (va_up (va_up (va_up (va_up (va_up v c (.inr (4, [.ref (B + (c + 1)), .ref (B + (c + 2)), .int (zI ((comesA ((mirA cell : Nat) : Int) 0 (comesA (cell : Int) 0 l)).length : Int)), .ref (B + (c + 3)), .ref (B + (c + 4))]))) (c + 1) (iarr E 8 g2_30)) (c + 2) (barr E 8 h2_30)) (c + 3) (iarr E 8 s)) (c + 4) (iarr E 8 t))) (up_at2 (by omega) (by omega)).symm ?_
      refine x_st (st' := []) rfl ?_
      have hLo := comesA_ok (c := ((mirA cell : Nat) : Int)) (m := 0) hok (by have := mirA_le hq6; omega) (by omega)
      have hln2 := comesA_len ((mirA cell : Nat) : Int) 0 (comesA (cell : Int) 0 l)
      have hLL := hp30_0
      have hLn : (comesA ((mirA cell : Nat) : Int) 0 (comesA (cell : Int) 0 l)).length ≤ 8 := by omega
      refine x_aload_n (pc := 33) 0 K rfl rfl dX4_move_33 ?_
      refine x_get (pc := 34) (C := RX4) (T := TX4) (n := 5) (ci := 4) (idx := 19) (ref := "BorderBeds$Line") (x := .int (zI ((comesA ((mirA cell : Nat) : Int) 0 (comesA (cell : Int) 0 l)).length : Int)))  K (cel_ne (cel_ne (cel_ne (cel_ne (cel_self hc0.1) (by omega)) (by omega)) (by omega)) (by omega)) rfl (by decide +kernel) 2 (by decide) (by decide +kernel) rfl rfl dX4_move_34 ?_
      refine x_nm (fun z1 hz1 => ?_)
      refine x_istore (pc := 37) K (L' := [(4, .int (zI z1)), (0, .ref (B + c)), (1, .ref (B + o)), (2, .int (zI (cell : Int))), (3, .ref (B + d))]) hnL (by decide) rfl dX4_move_37 ?_
      have LOOP39 : ∀ (n_39 : Nat) (z : Int) (q : Int) (x : Nat → Int) (y : Nat → Int) (l1 : Cor) (m : Nat), (z = (l1.length : Int) ∧ q = z ∧ l1.length ≤ m ∧ l1.length ≤ 8) → (LR x y l1) → (CorOk l1) → (trimA kp m l1 = (crossA 3 kp cell l)) → (l1.length) < n_39 → XW Γ N (va_up (va_up (va_up (va_up (va_up v c (.inr (4, [.ref (B + (c + 1)), .ref (B + (c + 2)), .int (zI z), .ref (B + (c + 3)), .ref (B + (c + 4))]))) (c + 1) (iarr E 8 x)) (c + 2) (barr E 8 y)) (c + 3) (iarr E 8 s)) (c + 4) (iarr E 8 t)) [(0, .ref (B + c)), (1, .ref (B + o)), (2, .int (zI (cell : Int))), (3, .ref (B + d)), (4, .int (zI q))] 0 0 39 [] := by
        intro n_39
        induction n_39 with
        | zero =>
          intro z q x y l1 m hi39_0 hi39_1 hi39_2 hi39_3 hm_39
          exfalso; omega
        | succ n_39 ih39 =>
          intro z q x y l1 m hi39_0 hi39_1 hi39_2 hi39_3 hm_39
          obtain ⟨zz, rfl⟩ : ∃ zz : Nat, z = (zz : Int) := ⟨z.toNat, by omega⟩
          have hzl : zz = l1.length := by omega
          refine x_iload (pc := 39) 4 K rfl dX4_move_39 ?_
          refine x_aload_n (pc := 41) 3 K rfl rfl dX4_move_41 ?_
          refine x_get (pc := 42) (C := RX3) (T := TX3) (n := 11) (ci := 3) (idx := 61) (ref := "BorderBeds$Ground") (x := .int (zI kp))  K (cel_ne (cel_ne (cel_ne (cel_ne (cel_ne hc5 (by omega)) (by omega)) (by omega)) (by omega)) (by omega)) rfl (by decide +kernel) 2 (by decide) (by decide +kernel) rfl rfl dX4_move_42 ?_
          refine x_icmp_le (pc := 45) (tgt := 62) K (by omega) (by omega) dX4_move_45 (by decide) (fun h_45 => ?_) (fun h_45 => ?_)
          · skip
            have hT : l1 = (crossA 3 kp cell l) := by rw [← hi39_3, trimA_done (by omega)]
            refine x_aload_n (pc := 62) 0 K rfl rfl dX4_move_62 ?_
            refine x_aload_n (pc := 63) 3 K rfl rfl dX4_move_63 ?_
            refine x_get (pc := 64) (C := RX3) (T := TX3) (n := 11) (ci := 3) (idx := 29) (ref := "BorderBeds$Ground") (x := .int (zI w))  K (cel_ne (cel_ne (cel_ne (cel_ne (cel_ne hc5 (by omega)) (by omega)) (by omega)) (by omega)) (by omega)) rfl (by decide +kernel) 0 (by decide) (by decide +kernel) rfl rfl dX4_move_64 ?_
            refine x_aload_n (pc := 67) 3 K rfl rfl dX4_move_67 ?_
            refine x_get (pc := 68) (C := RX3) (T := TX3) (n := 11) (ci := 3) (idx := 34) (ref := "BorderBeds$Ground") (x := .int (zI e))  K (cel_ne (cel_ne (cel_ne (cel_ne (cel_ne hc5 (by omega)) (by omega)) (by omega)) (by omega)) (by omega)) rfl (by decide +kernel) 1 (by decide) (by decide +kernel) rfl rfl dX4_move_68 ?_
            refine x_callV (pc := 71) (C := RX4) (T := TX4) (n := 5) (ci := 4) (As := [.int (zI w), .int (zI e)]) K (c_X4_lay (E := E) (B := B) (N := N) (l := l1)  (cel_ne (cel_ne (cel_ne (cel_ne (cel_self hc0.1) (by omega)) (by omega)) (by omega)) (by omega)) (cel_ne (cel_ne (cel_ne (cel_self hc1.1) (by omega)) (by omega)) (by omega)) (cel_ne (cel_self hc3.1) (by omega)) (cel_self hc4.1) hi39_1 (by exact ⟨hzl, by omega⟩) hi39_2 (by omega) (by omega)) gX4_move_X4_lay rfl (na := 2) (by decide +kernel) rfl ⟨(Nat.le_of_ble_eq_true rfl), (Nat.le_of_ble_eq_true rfl)⟩ (cel_ne (cel_ne (cel_ne (cel_ne (cel_self hc0.1) (by omega)) (by omega)) (by omega)) (by omega)) rfl (st := []) rfl (Nat.le_of_ble_eq_true rfl) ⟨(Nat.le_of_ble_eq_true rfl), (Nat.le_of_ble_eq_true rfl)⟩ dX4_move_71 (fun r71 N71 w71 hpo71 hN71 => ?_)
            obtain ⟨rfl, s2_71, t2_71, hp71_0, rfl, rfl⟩ := hpo71
            refine x_v (congrArg (fun w => (va_up w (c + 4) (iarr E 8 t2_71))) (show (va_up (va_up (va_up (va_up (va_up v c (.inr (4, [.ref (B + (c + 1)), .ref (B + (c + 2)), .int (zI (zz : Int)), .ref (B + (c + 3)), .ref (B + (c + 4))]))) (c + 1) (iarr E 8 x)) (c + 2) (barr E 8 y)) (c + 3) (iarr E 8 s2_71)) (c + 4) (iarr E 8 t)) = _ from (up_at1 (by omega)).symm)) ?_
            refine x_v (w := (va_up (va_up (va_up (va_up (va_up v c (.inr (4, [.ref (B + (c + 1)), .ref (B + (c + 2)), .int (zI (zz : Int)), .ref (B + (c + 3)), .ref (B + (c + 4))]))) (c + 1) (iarr E 8 x)) (c + 2) (barr E 8 y)) (c + 3) (iarr E 8 s2_71)) (c + 4) (iarr E 8 t2_71))) (up_at0).symm ?_
            refine x_st (st' := []) rfl ?_
            refine x_vret (pc := 74) K KR (by omega) (Nat.le_of_ble_eq_true rfl) (Nat.le_of_ble_eq_true rfl) dX4_move_74 ?_
            rw [hT] at hi39_1 hp71_0
            exact ⟨rfl, x, y, s2_71, t2_71, _, hi39_1, hp71_0, by rw [hzl, hT], rfl, rfl⟩
          · skip
            have hol := outA_lt (l := l1) (by omega)
            refine x_aload_n (pc := 48) 0 K rfl rfl dX4_move_48 ?_
            refine x_aload_n (pc := 49) 0 K rfl rfl dX4_move_49 ?_
            refine x_callV (pc := 50) (C := RX4) (T := TX4) (n := 5) (ci := 4) (As := []) K (c_X4_whichGoes (E := E) (B := B) (N := N) (l := l1)  (cel_ne (cel_ne (cel_ne (cel_ne (cel_self hc0.1) (by omega)) (by omega)) (by omega)) (by omega)) (cel_ne (cel_ne (cel_self hc2.1) (by omega)) (by omega)) hi39_1 (by exact ⟨hzl, by omega⟩)) gX4_move_X4_whichGoes rfl (na := 0) (by decide +kernel) rfl ⟨(Nat.le_of_ble_eq_true rfl), (Nat.le_of_ble_eq_true rfl)⟩ (cel_ne (cel_ne (cel_ne (cel_ne (cel_self hc0.1) (by omega)) (by omega)) (by omega)) (by omega)) rfl (st := [.ref (B + c)]) rfl (Nat.le_of_ble_eq_true rfl) ⟨(Nat.le_of_ble_eq_true rfl), (Nat.le_of_ble_eq_true rfl)⟩ dX4_move_50 (fun r50 N50 w50 hpo50 hN50 => ?_)
            obtain ⟨rfl, rfl, rfl⟩ := hpo50
            refine x_st (st' := [.int (zI ((outA l1 : Nat) : Int)), .ref (B + c)]) rfl ?_
            refine x_callV (pc := 53) (C := RX4) (T := TX4) (n := 5) (ci := 4) (As := [.int (zI ((outA l1 : Nat) : Int))]) K (c_X4_remove (E := E) (B := B) (N := N) (l := l1) (gone := (((outA l1 : Nat) : Int)).toNat) (by omega) (cel_ne (cel_ne (cel_ne (cel_ne (cel_self hc0.1) (by omega)) (by omega)) (by omega)) (by omega)) (cel_ne (cel_ne (cel_ne (cel_self hc1.1) (by omega)) (by omega)) (by omega)) (cel_ne (cel_ne (cel_self hc2.1) (by omega)) (by omega)) hi39_1 (by exact ⟨hzl, by omega⟩) (by omega)) gX4_move_X4_remove rfl (na := 1) (by decide +kernel) rfl ⟨(Nat.le_of_ble_eq_true rfl), (Nat.le_of_ble_eq_true rfl)⟩ (cel_ne (cel_ne (cel_ne (cel_ne (cel_self hc0.1) (by omega)) (by omega)) (by omega)) (by omega)) rfl (st := []) rfl (Nat.le_of_ble_eq_true rfl) ⟨(Nat.le_of_ble_eq_true rfl), (Nat.le_of_ble_eq_true rfl)⟩ dX4_move_53 (fun r53 N53 w53 hpo53 hN53 => ?_)
            obtain ⟨rfl, g2_53, h2_53, hp53_0, rfl, rfl⟩ := hpo53
            refine x_v (congrArg (fun w => (va_up (va_up w (c + 1) (iarr E 8 g2_53)) (c + 2) (barr E 8 h2_53))) (show (va_up (va_up (va_up (va_up (va_up v c (.inr (4, [.ref (B + (c + 1)), .ref (B + (c + 2)), .int (zI ((zz : Int) - 1)), .ref (B + (c + 3)), .ref (B + (c + 4))]))) (c + 1) (iarr E 8 x)) (c + 2) (barr E 8 y)) (c + 3) (iarr E 8 s)) (c + 4) (iarr E 8 t)) = _ from (up_at4 (by omega) (by omega) (by omega) (by omega)).symm)) ?_
            refine x_v (congrArg (fun w => (va_up w (c + 2) (barr E 8 h2_53))) (show (va_up (va_up (va_up (va_up (va_up v c (.inr (4, [.ref (B + (c + 1)), .ref (B + (c + 2)), .int (zI ((zz : Int) - 1)), .ref (B + (c + 3)), .ref (B + (c + 4))]))) (c + 1) (iarr E 8 g2_53)) (c + 2) (barr E 8 y)) (c + 3) (iarr E 8 s)) (c + 4) (iarr E 8 t)) = _ from (up_at3 (by omega) (by omega) (by omega)).symm)) ?_
            refine x_v (w := (va_up (va_up (va_up (va_up (va_up v c (.inr (4, [.ref (B + (c + 1)), .ref (B + (c + 2)), .int (zI ((zz : Int) - 1)), .ref (B + (c + 3)), .ref (B + (c + 4))]))) (c + 1) (iarr E 8 g2_53)) (c + 2) (barr E 8 h2_53)) (c + 3) (iarr E 8 s)) (c + 4) (iarr E 8 t))) (up_at2 (by omega) (by omega)).symm ?_
            refine x_st (st' := []) rfl ?_
            have hle := List.length_eraseIdx_of_lt hol
            refine x_iinc (pc := 56) (L' := [(4, .int (zI (q + (-1)))), (0, .ref (B + c)), (1, .ref (B + o)), (2, .int (zI (cell : Int))), (3, .ref (B + d))]) 4 K hnL rfl (by decide) rfl dX4_move_56 ?_
            refine x_goto (pc := 59) (tgt := 39) K dX4_move_59 (by decide) ?_
            refine x_sub (L' := [(0, .ref (B + c)), (1, .ref (B + o)), (2, .int (zI (cell : Int))), (3, .ref (B + d)), (4, .int (zI (q + (-1))))]) [1, 2, 3, 4, 0] rfl ?_
            exact ih39 ((zz : Int) - 1) (q + (-1)) g2_53 h2_53 (l1.eraseIdx (outA l1)) (m - 1) (by omega) (by exact hp53_0) (by exact hi39_2.erase _) (by rw [← hi39_3]; exact (trimA_step (by omega) (by omega)).symm) (by omega)
      refine x_sub (L' := [(0, .ref (B + c)), (1, .ref (B + o)), (2, .int (zI (cell : Int))), (3, .ref (B + d)), (4, .int (zI z1))]) [1, 2, 3, 4, 0] rfl ?_
      exact LOOP39 (_) ((comesA ((mirA cell : Nat) : Int) 0 (comesA (cell : Int) 0 l)).length : Int) z1 g2_30 h2_30 (comesA ((mirA cell : Nat) : Int) 0 (comesA (cell : Int) 0 l)) 8 (by omega) (by exact hLL) (by exact hLo) (by first | rfl | (unfold crossA; simp)) (Nat.lt_succ_self _)
  · skip
    exfalso; omega

set_option maxRecDepth 100000 in
set_option maxHeartbeats 4000000 in
theorem c_move_4 {E : XE} {B N : Nat} {v : Nat → va_E} {c o cell d n : Nat} {num lnd home mil : Int} {q1 q2 q3 q4 q5 q6 : Nat} {w e kp vil peo : Int} {g h s t : Nat → Int} {l : Cor} {cell_i : Int} (ha_cell : cell_i = (cell : Int)) (hc0 : Cel N v c (.inr (4, [.ref (B + (c + 1)), .ref (B + (c + 2)), .int (zI (n : Int)), .ref (B + (c + 3)), .ref (B + (c + 4))]))) (hc1 : Cel N v (c + 1) (iarr E 8 g)) (hc2 : Cel N v (c + 2) (barr E 8 h)) (hc3 : Cel N v (c + 3) (iarr E 8 s)) (hc4 : Cel N v (c + 4) (iarr E 8 t)) (hc5 : Cel N v d (.inr (3, [.int (zI w), .int (zI e), .int (zI kp), .ref (B + q1), .ref (B + q2), .int (zI vil), .ref (B + q3), .int (zI peo), .ref (B + q4), .ref (B + q5), .ref (B + q6)]))) (hc6 : Cel N v o (.inr (1, [.int (zI num), .int (zI lnd), .int (zI home), .int (zI mil)]))) (hq0 : LR g h l) (hq1 : n = l.length ∧ (l.length : Int) ≤ kp) (hq2 : CorOk l) (hq3 : 0 ≤ w ∧ w ≤ 5) (hq4 : 0 ≤ e ∧ e ≤ 5) (hq5 : 0 ≤ kp ∧ kp ≤ 6) (hq6 : cell ≤ 47) (hq7 : SR w e l s t) (hq8 : d ≠ c ∧ d ≠ c + 1 ∧ d ≠ c + 2 ∧ d ≠ c + 3 ∧ d ≠ c + 4) (hq9 : o ≠ c ∧ o ≠ c + 1 ∧ o ≠ c + 2 ∧ o ≠ c + 3 ∧ o ≠ c + 4) : gM yX4_move wsX4_move ({ frames := 2, cells := 0, slots := 0, locals := 54 }) E B N v [.ref (B + c), .ref (B + o), .int (zI cell_i), .ref (B + d)] (po0 N (fun ρ v' => ∃ (g2 : Nat → Int), ∃ (h2 : Nat → Int), ∃ (s2 : Nat → Int), ∃ (t2 : Nat → Int), ∃ (z2 : Int), (LR g2 h2 (crossA 4 kp cell l)) ∧ (SR w e (crossA 4 kp cell l) s2 t2) ∧ (z2 = ((crossA 4 kp cell l).length : Int)) ∧ ρ = none ∧ (va_up (va_up (va_up (va_up (va_up v c (.inr (4, [.ref (B + (c + 1)), .ref (B + (c + 2)), .int (zI z2), .ref (B + (c + 3)), .ref (B + (c + 4))]))) (c + 1) (iarr E 8 g2)) (c + 2) (barr E 8 h2)) (c + 3) (iarr E 8 s2)) (c + 4) (iarr E 8 t2)) = v')) := by
  subst ha_cell
  refine x_met (nm := "move") (by decide +kernel) rfl (Nat.le_of_ble_eq_true rfl) rfl (fun Γ K KR hnL hnm => ?_)
  show XW Γ N v [(0, .ref (B + c)), (1, .ref (B + o)), (2, .int (zI (cell : Int))), (3, .ref (B + d))] 0 0 0 []
  refine x_v (cel_pad hc0) ?_
  refine x_v (cel_pad (cel_ne hc1 (by omega))) ?_
  refine x_v (cel_pad (cel_ne (cel_ne hc2 (by omega)) (by omega))) ?_
  refine x_v (cel_pad (cel_ne (cel_ne (cel_ne hc3 (by omega)) (by omega)) (by omega))) ?_
  refine x_v (cel_pad (cel_ne (cel_ne (cel_ne (cel_ne hc4 (by omega)) (by omega)) (by omega)) (by omega))) ?_
  refine x_aload_n (pc := 0) 1 K rfl rfl dX4_move_0 ?_
  refine x_instN (pc := 1) (C := RX1) (T := TX1) (n := 4) (ci := 1) (nm := RX5) K (cel_ne (cel_ne (cel_ne (cel_ne (cel_ne hc6 (by omega)) (by omega)) (by omega)) (by omega)) (by omega)) rfl (by decide +kernel) (by decide +kernel) dX4_move_1 ?_
  refine x_if_eq (pc := 4) (tgt := 8) K (by decide) dX4_move_4 (by decide) (fun h_4 => ?_) (fun h_4 => ?_)
  · skip
    refine x_aload_n (pc := 8) 0 K rfl rfl dX4_move_8 ?_
    refine x_iload_n (pc := 9) 2 K rfl rfl dX4_move_9 ?_
    refine x_aload_n (pc := 10) 1 K rfl rfl dX4_move_10 ?_
    refine x_instS (pc := 11) (C := RX1) (T := TX1) (n := 4) (ci := 1) (nm := RX1) K (cel_ne (cel_ne (cel_ne (cel_ne (cel_ne hc6 (by omega)) (by omega)) (by omega)) (by omega)) (by omega)) rfl (by decide +kernel) rfl dX4_move_11 ?_
    refine x_callV (pc := 14) (C := RX4) (T := TX4) (n := 5) (ci := 4) (As := [.int (zI (cell : Int)), .int (zI 1)]) K (c_X4_add (E := E) (B := B) (N := N) (l := l)  (cel_ne (cel_ne (cel_ne (cel_ne (cel_self hc0.1) (by omega)) (by omega)) (by omega)) (by omega)) (cel_ne (cel_ne (cel_ne (cel_self hc1.1) (by omega)) (by omega)) (by omega)) (cel_ne (cel_ne (cel_self hc2.1) (by omega)) (by omega)) hq0 (by omega) hq2 (by omega) (by omega)) gX4_move_X4_add rfl (na := 2) (by decide +kernel) rfl ⟨(Nat.le_of_ble_eq_true rfl), (Nat.le_of_ble_eq_true rfl)⟩ (cel_ne (cel_ne (cel_ne (cel_ne (cel_self hc0.1) (by omega)) (by omega)) (by omega)) (by omega)) rfl (st := []) rfl (Nat.le_of_ble_eq_true rfl) ⟨(Nat.le_of_ble_eq_true rfl), (Nat.le_of_ble_eq_true rfl)⟩ dX4_move_14 (fun r14 N14 w14 hpo14 hN14 => ?_)
    obtain ⟨rfl, g2_14, h2_14, hp14_0, rfl, rfl⟩ := hpo14
    refine x_v (congrArg (fun w => (va_up (va_up w (c + 1) (iarr E 8 g2_14)) (c + 2) (barr E 8 h2_14))) (show (va_up (va_up (va_up (va_up (va_up v c (.inr (4, [.ref (B + (c + 1)), .ref (B + (c + 2)), .int (zI ((comesA (cell : Int) 1 l).length : Int)), .ref (B + (c + 3)), .ref (B + (c + 4))]))) (c + 1) (iarr E 8 g)) (c + 2) (barr E 8 h)) (c + 3) (iarr E 8 s)) (c + 4) (iarr E 8 t)) = _ from (up_at4 (by omega) (by omega) (by omega) (by omega)).symm)) ?_
    refine x_v (congrArg (fun w => (va_up w (c + 2) (barr E 8 h2_14))) (show (va_up (va_up (va_up (va_up (va_up v c (.inr (4, [.ref (B + (c + 1)), .ref (B + (c + 2)), .int (zI ((comesA (cell : Int) 1 l).length : Int)), .ref (B + (c + 3)), .ref (B + (c + 4))]))) (c + 1) (iarr E 8 g2_14)) (c + 2) (barr E 8 h)) (c + 3) (iarr E 8 s)) (c + 4) (iarr E 8 t)) = _ from (up_at3 (by omega) (by omega) (by omega)).symm)) ?_
    refine x_v (w := (va_up (va_up (va_up (va_up (va_up v c (.inr (4, [.ref (B + (c + 1)), .ref (B + (c + 2)), .int (zI ((comesA (cell : Int) 1 l).length : Int)), .ref (B + (c + 3)), .ref (B + (c + 4))]))) (c + 1) (iarr E 8 g2_14)) (c + 2) (barr E 8 h2_14)) (c + 3) (iarr E 8 s)) (c + 4) (iarr E 8 t))) (up_at2 (by omega) (by omega)).symm ?_
    refine x_st (st' := []) rfl ?_
    have hok := comesA_ok (c := (cell : Int)) (m := 1) hq2 (by omega) (by omega)
    have hln := comesA_len (cell : Int) 1 l
    have hLL := hp14_0
    have hLo := hok
    have hLn : (comesA (cell : Int) 1 l).length ≤ 8 := by omega
    refine x_aload_n (pc := 17) 1 K rfl rfl dX4_move_17 ?_
    refine x_instN (pc := 18) (C := RX1) (T := TX1) (n := 4) (ci := 1) (nm := RX10) K (cel_ne (cel_ne (cel_ne (cel_ne (cel_ne hc6 (by omega)) (by omega)) (by omega)) (by omega)) (by omega)) rfl (by decide +kernel) (by decide +kernel) dX4_move_18 ?_
    refine x_if_eq (pc := 21) (tgt := 33) K (by decide) dX4_move_21 (by decide) (fun h_21 => ?_) (fun h_21 => ?_)
    · skip
      refine x_aload_n (pc := 33) 0 K rfl rfl dX4_move_33 ?_
      refine x_get (pc := 34) (C := RX4) (T := TX4) (n := 5) (ci := 4) (idx := 19) (ref := "BorderBeds$Line") (x := .int (zI ((comesA (cell : Int) 1 l).length : Int)))  K (cel_ne (cel_ne (cel_ne (cel_ne (cel_self hc0.1) (by omega)) (by omega)) (by omega)) (by omega)) rfl (by decide +kernel) 2 (by decide) (by decide +kernel) rfl rfl dX4_move_34 ?_
      refine x_nm (fun z1 hz1 => ?_)
      refine x_istore (pc := 37) K (L' := [(4, .int (zI z1)), (0, .ref (B + c)), (1, .ref (B + o)), (2, .int (zI (cell : Int))), (3, .ref (B + d))]) hnL (by decide) rfl dX4_move_37 ?_
      have LOOP39 : ∀ (n_39 : Nat) (z : Int) (q : Int) (x : Nat → Int) (y : Nat → Int) (l1 : Cor) (m : Nat), (z = (l1.length : Int) ∧ q = z ∧ l1.length ≤ m ∧ l1.length ≤ 8) → (LR x y l1) → (CorOk l1) → (trimA kp m l1 = (crossA 4 kp cell l)) → (l1.length) < n_39 → XW Γ N (va_up (va_up (va_up (va_up (va_up v c (.inr (4, [.ref (B + (c + 1)), .ref (B + (c + 2)), .int (zI z), .ref (B + (c + 3)), .ref (B + (c + 4))]))) (c + 1) (iarr E 8 x)) (c + 2) (barr E 8 y)) (c + 3) (iarr E 8 s)) (c + 4) (iarr E 8 t)) [(0, .ref (B + c)), (1, .ref (B + o)), (2, .int (zI (cell : Int))), (3, .ref (B + d)), (4, .int (zI q))] 0 0 39 [] := by
        intro n_39
        induction n_39 with
        | zero =>
          intro z q x y l1 m hi39_0 hi39_1 hi39_2 hi39_3 hm_39
          exfalso; omega
        | succ n_39 ih39 =>
          intro z q x y l1 m hi39_0 hi39_1 hi39_2 hi39_3 hm_39
          obtain ⟨zz, rfl⟩ : ∃ zz : Nat, z = (zz : Int) := ⟨z.toNat, by omega⟩
          have hzl : zz = l1.length := by omega
          refine x_iload (pc := 39) 4 K rfl dX4_move_39 ?_
          refine x_aload_n (pc := 41) 3 K rfl rfl dX4_move_41 ?_
          refine x_get (pc := 42) (C := RX3) (T := TX3) (n := 11) (ci := 3) (idx := 61) (ref := "BorderBeds$Ground") (x := .int (zI kp))  K (cel_ne (cel_ne (cel_ne (cel_ne (cel_ne hc5 (by omega)) (by omega)) (by omega)) (by omega)) (by omega)) rfl (by decide +kernel) 2 (by decide) (by decide +kernel) rfl rfl dX4_move_42 ?_
          refine x_icmp_le (pc := 45) (tgt := 62) K (by omega) (by omega) dX4_move_45 (by decide) (fun h_45 => ?_) (fun h_45 => ?_)
          · skip
            have hT : l1 = (crossA 4 kp cell l) := by rw [← hi39_3, trimA_done (by omega)]
            refine x_aload_n (pc := 62) 0 K rfl rfl dX4_move_62 ?_
            refine x_aload_n (pc := 63) 3 K rfl rfl dX4_move_63 ?_
            refine x_get (pc := 64) (C := RX3) (T := TX3) (n := 11) (ci := 3) (idx := 29) (ref := "BorderBeds$Ground") (x := .int (zI w))  K (cel_ne (cel_ne (cel_ne (cel_ne (cel_ne hc5 (by omega)) (by omega)) (by omega)) (by omega)) (by omega)) rfl (by decide +kernel) 0 (by decide) (by decide +kernel) rfl rfl dX4_move_64 ?_
            refine x_aload_n (pc := 67) 3 K rfl rfl dX4_move_67 ?_
            refine x_get (pc := 68) (C := RX3) (T := TX3) (n := 11) (ci := 3) (idx := 34) (ref := "BorderBeds$Ground") (x := .int (zI e))  K (cel_ne (cel_ne (cel_ne (cel_ne (cel_ne hc5 (by omega)) (by omega)) (by omega)) (by omega)) (by omega)) rfl (by decide +kernel) 1 (by decide) (by decide +kernel) rfl rfl dX4_move_68 ?_
            refine x_callV (pc := 71) (C := RX4) (T := TX4) (n := 5) (ci := 4) (As := [.int (zI w), .int (zI e)]) K (c_X4_lay (E := E) (B := B) (N := N) (l := l1)  (cel_ne (cel_ne (cel_ne (cel_ne (cel_self hc0.1) (by omega)) (by omega)) (by omega)) (by omega)) (cel_ne (cel_ne (cel_ne (cel_self hc1.1) (by omega)) (by omega)) (by omega)) (cel_ne (cel_self hc3.1) (by omega)) (cel_self hc4.1) hi39_1 (by exact ⟨hzl, by omega⟩) hi39_2 (by omega) (by omega)) gX4_move_X4_lay rfl (na := 2) (by decide +kernel) rfl ⟨(Nat.le_of_ble_eq_true rfl), (Nat.le_of_ble_eq_true rfl)⟩ (cel_ne (cel_ne (cel_ne (cel_ne (cel_self hc0.1) (by omega)) (by omega)) (by omega)) (by omega)) rfl (st := []) rfl (Nat.le_of_ble_eq_true rfl) ⟨(Nat.le_of_ble_eq_true rfl), (Nat.le_of_ble_eq_true rfl)⟩ dX4_move_71 (fun r71 N71 w71 hpo71 hN71 => ?_)
            obtain ⟨rfl, s2_71, t2_71, hp71_0, rfl, rfl⟩ := hpo71
            refine x_v (congrArg (fun w => (va_up w (c + 4) (iarr E 8 t2_71))) (show (va_up (va_up (va_up (va_up (va_up v c (.inr (4, [.ref (B + (c + 1)), .ref (B + (c + 2)), .int (zI (zz : Int)), .ref (B + (c + 3)), .ref (B + (c + 4))]))) (c + 1) (iarr E 8 x)) (c + 2) (barr E 8 y)) (c + 3) (iarr E 8 s2_71)) (c + 4) (iarr E 8 t)) = _ from (up_at1 (by omega)).symm)) ?_
            refine x_v (w := (va_up (va_up (va_up (va_up (va_up v c (.inr (4, [.ref (B + (c + 1)), .ref (B + (c + 2)), .int (zI (zz : Int)), .ref (B + (c + 3)), .ref (B + (c + 4))]))) (c + 1) (iarr E 8 x)) (c + 2) (barr E 8 y)) (c + 3) (iarr E 8 s2_71)) (c + 4) (iarr E 8 t2_71))) (up_at0).symm ?_
            refine x_st (st' := []) rfl ?_
            refine x_vret (pc := 74) K KR (by omega) (Nat.le_of_ble_eq_true rfl) (Nat.le_of_ble_eq_true rfl) dX4_move_74 ?_
            rw [hT] at hi39_1 hp71_0
            exact ⟨rfl, x, y, s2_71, t2_71, _, hi39_1, hp71_0, by rw [hzl, hT], rfl, rfl⟩
          · skip
            have hol := outA_lt (l := l1) (by omega)
            refine x_aload_n (pc := 48) 0 K rfl rfl dX4_move_48 ?_
            refine x_aload_n (pc := 49) 0 K rfl rfl dX4_move_49 ?_
            refine x_callV (pc := 50) (C := RX4) (T := TX4) (n := 5) (ci := 4) (As := []) K (c_X4_whichGoes (E := E) (B := B) (N := N) (l := l1)  (cel_ne (cel_ne (cel_ne (cel_ne (cel_self hc0.1) (by omega)) (by omega)) (by omega)) (by omega)) (cel_ne (cel_ne (cel_self hc2.1) (by omega)) (by omega)) hi39_1 (by exact ⟨hzl, by omega⟩)) gX4_move_X4_whichGoes rfl (na := 0) (by decide +kernel) rfl ⟨(Nat.le_of_ble_eq_true rfl), (Nat.le_of_ble_eq_true rfl)⟩ (cel_ne (cel_ne (cel_ne (cel_ne (cel_self hc0.1) (by omega)) (by omega)) (by omega)) (by omega)) rfl (st := [.ref (B + c)]) rfl (Nat.le_of_ble_eq_true rfl) ⟨(Nat.le_of_ble_eq_true rfl), (Nat.le_of_ble_eq_true rfl)⟩ dX4_move_50 (fun r50 N50 w50 hpo50 hN50 => ?_)
            obtain ⟨rfl, rfl, rfl⟩ := hpo50
            refine x_st (st' := [.int (zI ((outA l1 : Nat) : Int)), .ref (B + c)]) rfl ?_
            refine x_callV (pc := 53) (C := RX4) (T := TX4) (n := 5) (ci := 4) (As := [.int (zI ((outA l1 : Nat) : Int))]) K (c_X4_remove (E := E) (B := B) (N := N) (l := l1) (gone := (((outA l1 : Nat) : Int)).toNat) (by omega) (cel_ne (cel_ne (cel_ne (cel_ne (cel_self hc0.1) (by omega)) (by omega)) (by omega)) (by omega)) (cel_ne (cel_ne (cel_ne (cel_self hc1.1) (by omega)) (by omega)) (by omega)) (cel_ne (cel_ne (cel_self hc2.1) (by omega)) (by omega)) hi39_1 (by exact ⟨hzl, by omega⟩) (by omega)) gX4_move_X4_remove rfl (na := 1) (by decide +kernel) rfl ⟨(Nat.le_of_ble_eq_true rfl), (Nat.le_of_ble_eq_true rfl)⟩ (cel_ne (cel_ne (cel_ne (cel_ne (cel_self hc0.1) (by omega)) (by omega)) (by omega)) (by omega)) rfl (st := []) rfl (Nat.le_of_ble_eq_true rfl) ⟨(Nat.le_of_ble_eq_true rfl), (Nat.le_of_ble_eq_true rfl)⟩ dX4_move_53 (fun r53 N53 w53 hpo53 hN53 => ?_)
            obtain ⟨rfl, g2_53, h2_53, hp53_0, rfl, rfl⟩ := hpo53
            refine x_v (congrArg (fun w => (va_up (va_up w (c + 1) (iarr E 8 g2_53)) (c + 2) (barr E 8 h2_53))) (show (va_up (va_up (va_up (va_up (va_up v c (.inr (4, [.ref (B + (c + 1)), .ref (B + (c + 2)), .int (zI ((zz : Int) - 1)), .ref (B + (c + 3)), .ref (B + (c + 4))]))) (c + 1) (iarr E 8 x)) (c + 2) (barr E 8 y)) (c + 3) (iarr E 8 s)) (c + 4) (iarr E 8 t)) = _ from (up_at4 (by omega) (by omega) (by omega) (by omega)).symm)) ?_
            refine x_v (congrArg (fun w => (va_up w (c + 2) (barr E 8 h2_53))) (show (va_up (va_up (va_up (va_up (va_up v c (.inr (4, [.ref (B + (c + 1)), .ref (B + (c + 2)), .int (zI ((zz : Int) - 1)), .ref (B + (c + 3)), .ref (B + (c + 4))]))) (c + 1) (iarr E 8 g2_53)) (c + 2) (barr E 8 y)) (c + 3) (iarr E 8 s)) (c + 4) (iarr E 8 t)) = _ from (up_at3 (by omega) (by omega) (by omega)).symm)) ?_
            refine x_v (w := (va_up (va_up (va_up (va_up (va_up v c (.inr (4, [.ref (B + (c + 1)), .ref (B + (c + 2)), .int (zI ((zz : Int) - 1)), .ref (B + (c + 3)), .ref (B + (c + 4))]))) (c + 1) (iarr E 8 g2_53)) (c + 2) (barr E 8 h2_53)) (c + 3) (iarr E 8 s)) (c + 4) (iarr E 8 t))) (up_at2 (by omega) (by omega)).symm ?_
            refine x_st (st' := []) rfl ?_
            have hle := List.length_eraseIdx_of_lt hol
            refine x_iinc (pc := 56) (L' := [(4, .int (zI (q + (-1)))), (0, .ref (B + c)), (1, .ref (B + o)), (2, .int (zI (cell : Int))), (3, .ref (B + d))]) 4 K hnL rfl (by decide) rfl dX4_move_56 ?_
            refine x_goto (pc := 59) (tgt := 39) K dX4_move_59 (by decide) ?_
            refine x_sub (L' := [(0, .ref (B + c)), (1, .ref (B + o)), (2, .int (zI (cell : Int))), (3, .ref (B + d)), (4, .int (zI (q + (-1))))]) [1, 2, 3, 4, 0] rfl ?_
            exact ih39 ((zz : Int) - 1) (q + (-1)) g2_53 h2_53 (l1.eraseIdx (outA l1)) (m - 1) (by omega) (by exact hp53_0) (by exact hi39_2.erase _) (by rw [← hi39_3]; exact (trimA_step (by omega) (by omega)).symm) (by omega)
      refine x_sub (L' := [(0, .ref (B + c)), (1, .ref (B + o)), (2, .int (zI (cell : Int))), (3, .ref (B + d)), (4, .int (zI z1))]) [1, 2, 3, 4, 0] rfl ?_
      exact LOOP39 (_) ((comesA (cell : Int) 1 l).length : Int) z1 g2_14 h2_14 (comesA (cell : Int) 1 l) 8 (by omega) (by exact hLL) (by exact hLo) (by first | rfl | (unfold crossA; simp)) (Nat.lt_succ_self _)
    · skip
      exfalso; omega
  · skip
    exfalso; omega

set_option maxRecDepth 100000 in
set_option maxHeartbeats 4000000 in
theorem c_move_5 {E : XE} {B N : Nat} {v : Nat → va_E} {c o cell d n : Nat} {num lnd home mil : Int} {q1 q2 q3 q4 q5 q6 : Nat} {w e kp vil peo : Int} {g h s t : Nat → Int} {l : Cor} {cell_i : Int} (ha_cell : cell_i = (cell : Int)) (hc0 : Cel N v c (.inr (4, [.ref (B + (c + 1)), .ref (B + (c + 2)), .int (zI (n : Int)), .ref (B + (c + 3)), .ref (B + (c + 4))]))) (hc1 : Cel N v (c + 1) (iarr E 8 g)) (hc2 : Cel N v (c + 2) (barr E 8 h)) (hc3 : Cel N v (c + 3) (iarr E 8 s)) (hc4 : Cel N v (c + 4) (iarr E 8 t)) (hc5 : Cel N v d (.inr (3, [.int (zI w), .int (zI e), .int (zI kp), .ref (B + q1), .ref (B + q2), .int (zI vil), .ref (B + q3), .int (zI peo), .ref (B + q4), .ref (B + q5), .ref (B + q6)]))) (hc6 : Cel N v o (.inr (5, [.int (zI num), .int (zI lnd), .int (zI home), .int (zI mil)]))) (hq0 : LR g h l) (hq1 : n = l.length ∧ (l.length : Int) ≤ kp) (hq2 : CorOk l) (hq3 : 0 ≤ w ∧ w ≤ 5) (hq4 : 0 ≤ e ∧ e ≤ 5) (hq5 : 0 ≤ kp ∧ kp ≤ 6) (hq6 : cell ≤ 47) (hq7 : SR w e l s t) (hq8 : d ≠ c ∧ d ≠ c + 1 ∧ d ≠ c + 2 ∧ d ≠ c + 3 ∧ d ≠ c + 4) (hq9 : o ≠ c ∧ o ≠ c + 1 ∧ o ≠ c + 2 ∧ o ≠ c + 3 ∧ o ≠ c + 4) : gM yX4_move wsX4_move ({ frames := 2, cells := 0, slots := 0, locals := 54 }) E B N v [.ref (B + c), .ref (B + o), .int (zI cell_i), .ref (B + d)] (po0 N (fun ρ v' => ∃ (g2 : Nat → Int), ∃ (h2 : Nat → Int), ∃ (s2 : Nat → Int), ∃ (t2 : Nat → Int), ∃ (z2 : Int), (LR g2 h2 (crossA 5 kp cell l)) ∧ (SR w e (crossA 5 kp cell l) s2 t2) ∧ (z2 = ((crossA 5 kp cell l).length : Int)) ∧ ρ = none ∧ (va_up (va_up (va_up (va_up (va_up v c (.inr (4, [.ref (B + (c + 1)), .ref (B + (c + 2)), .int (zI z2), .ref (B + (c + 3)), .ref (B + (c + 4))]))) (c + 1) (iarr E 8 g2)) (c + 2) (barr E 8 h2)) (c + 3) (iarr E 8 s2)) (c + 4) (iarr E 8 t2)) = v')) := by
  subst ha_cell
  refine x_met (nm := "move") (by decide +kernel) rfl (Nat.le_of_ble_eq_true rfl) rfl (fun Γ K KR hnL hnm => ?_)
  show XW Γ N v [(0, .ref (B + c)), (1, .ref (B + o)), (2, .int (zI (cell : Int))), (3, .ref (B + d))] 0 0 0 []
  refine x_v (cel_pad hc0) ?_
  refine x_v (cel_pad (cel_ne hc1 (by omega))) ?_
  refine x_v (cel_pad (cel_ne (cel_ne hc2 (by omega)) (by omega))) ?_
  refine x_v (cel_pad (cel_ne (cel_ne (cel_ne hc3 (by omega)) (by omega)) (by omega))) ?_
  refine x_v (cel_pad (cel_ne (cel_ne (cel_ne (cel_ne hc4 (by omega)) (by omega)) (by omega)) (by omega))) ?_
  refine x_aload_n (pc := 0) 1 K rfl rfl dX4_move_0 ?_
  refine x_instS (pc := 1) (C := RX5) (T := TX5) (n := 4) (ci := 5) (nm := RX5) K (cel_ne (cel_ne (cel_ne (cel_ne (cel_ne hc6 (by omega)) (by omega)) (by omega)) (by omega)) (by omega)) rfl (by decide +kernel) rfl dX4_move_1 ?_
  refine x_if_eq (pc := 4) (tgt := 8) K (by decide) dX4_move_4 (by decide) (fun h_4 => ?_) (fun h_4 => ?_)
  · skip
    exfalso; omega
  · skip
    refine x_vret (pc := 7) K KR (by omega) (Nat.le_of_ble_eq_true rfl) (Nat.le_of_ble_eq_true rfl) dX4_move_7 ?_
    exact ⟨rfl, g, h, s, t, _, hq0, hq7, by rw [hq1.1]; rfl, rfl, rfl⟩
