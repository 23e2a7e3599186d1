theorem dX3_guessed_0 : decode cX3_guessed 0 = .ok (.aload_n 0, 1) := by decide +kernel
theorem dX3_guessed_1 : decode cX3_guessed 1 = .ok (.getfield 49, 3) := by decide +kernel
theorem dX3_guessed_4 : decode cX3_guessed 4 = .ok (.aload_n 3, 1) := by decide +kernel
set_option maxRecDepth 20000 in
theorem ggX3_guessed_X4_become : GoodIn wsX3_guessed wsX4_become := goodIn_r _ [6, 7, 8, 9, 10, 11, 12, 13, 14, 15, 64, 65, 66, 67, 68] (by decide +kernel) (by decide +kernel)
set_option maxRecDepth 20000 in
theorem gX3_guessed_X4_become : GoodIn wsX3_guessed (wsV RX3 106 RX4 yX4_become wsX4_become) := goodIn_app (goodIn_of _ (by decide +kernel)) ggX3_guessed_X4_become
theorem dX3_guessed_5 : decode cX3_guessed 5 = .ok (.invokevirtual 106, 3) := by decide +kernel
theorem dX3_guessed_8 : decode cX3_guessed 8 = .ok (.aload_n 0, 1) := by decide +kernel
theorem dX3_guessed_9 : decode cX3_guessed 9 = .ok (.getfield 49, 3) := by decide +kernel
theorem dX3_guessed_12 : decode cX3_guessed 12 = .ok (.aload_n 1, 1) := by decide +kernel
theorem dX3_guessed_13 : decode cX3_guessed 13 = .ok (.iload_n 2, 1) := by decide +kernel
theorem dX3_guessed_14 : decode cX3_guessed 14 = .ok (.aload_n 0, 1) := by decide +kernel
set_option maxRecDepth 20000 in
theorem ggX3_guessed_X4_move : GoodIn wsX3_guessed wsX4_move := goodIn_r _ [19, 20, 21, 22, 7, 23, 24, 25, 26, 27, 28, 5, 29, 8, 13, 30, 31, 32, 33, 34, 35, 36, 37, 38, 39, 40, 41, 42, 43, 44, 45, 46, 47, 48, 49, 50, 51, 52, 14, 15, 64, 65, 66, 67, 68, 53, 54, 55, 56, 57, 58, 59, 60, 61, 62, 63] (by decide +kernel) (by decide +kernel)
set_option maxRecDepth 20000 in
theorem gX3_guessed_X4_move : GoodIn wsX3_guessed (wsV RX3 110 RX4 yX4_move wsX4_move) := goodIn_app (goodIn_of _ (by decide +kernel)) ggX3_guessed_X4_move
theorem dX3_guessed_15 : decode cX3_guessed 15 = .ok (.invokevirtual 110, 3) := by decide +kernel
theorem dX3_guessed_18 : decode cX3_guessed 18 = .ok (.aload_n 0, 1) := by decide +kernel
theorem dX3_guessed_19 : decode cX3_guessed 19 = .ok (.getfield 49, 3) := by decide +kernel
theorem dX3_guessed_22 : decode cX3_guessed 22 = .ok (.areturn, 1) := by decide +kernel
theorem dX3_leadBehind_0 : decode cX3_leadBehind 0 = .ok (.aload_n 0, 1) := by decide +kernel
theorem dX3_leadBehind_1 : decode cX3_leadBehind 1 = .ok (.aload_n 1, 1) := by decide +kernel
theorem dX3_leadBehind_2 : decode cX3_leadBehind 2 = .ok (.getfield 99, 3) := by decide +kernel
theorem dX3_leadBehind_5 : decode cX3_leadBehind 5 = .ok (.aload_n 0, 1) := by decide +kernel
theorem dX3_leadBehind_6 : decode cX3_leadBehind 6 = .ok (.aload_n 1, 1) := by decide +kernel
theorem dX3_leadBehind_7 : decode cX3_leadBehind 7 = .ok (.iload_n 2, 1) := by decide +kernel
theorem dX3_leadBehind_8 : decode cX3_leadBehind 8 = .ok (.aload_n 3, 1) := by decide +kernel
set_option maxRecDepth 20000 in
theorem ggX3_leadBehind_X3_guessed : GoodIn wsX3_leadBehind wsX3_guessed := goodIn_r _ [6, 7, 8, 9, 10, 11, 12, 13, 14, 15, 16, 17, 18, 19, 20, 21, 22, 23, 24, 25, 26, 27, 28, 29, 30, 31, 32, 33, 34, 35, 36, 37, 38, 39, 40, 41, 42, 43, 44, 45, 46, 47, 48, 49, 50, 51, 52, 53, 54, 55, 56, 57, 58, 90, 91, 92, 93, 94, 95, 96, 97, 98, 99, 100, 101, 102, 103, 104, 105] (by decide +kernel) (by decide +kernel)
set_option maxRecDepth 20000 in
theorem gX3_leadBehind_X3_guessed : GoodIn wsX3_leadBehind (wsV RX3 114 RX3 yX3_guessed wsX3_guessed) := goodIn_app (goodIn_of _ (by decide +kernel)) ggX3_leadBehind_X3_guessed
theorem dX3_leadBehind_9 : decode cX3_leadBehind 9 = .ok (.invokevirtual 114, 3) := by decide +kernel
set_option maxRecDepth 20000 in
theorem ggX3_leadBehind_X3_leadOf : GoodIn wsX3_leadBehind wsX3_leadOf := goodIn_r _ [62, 63, 64, 65, 5, 66, 67, 68, 69, 90, 91, 92, 93, 94, 95, 96, 97, 98, 99, 100, 101, 102, 103, 104, 105] (by decide +kernel) (by decide +kernel)
set_option maxRecDepth 20000 in
theorem gX3_leadBehind_X3_leadOf : GoodIn wsX3_leadBehind (wsV RX3 118 RX3 yX3_leadOf wsX3_leadOf) := goodIn_app (goodIn_of _ (by decide +kernel)) ggX3_leadBehind_X3_leadOf
theorem dX3_leadBehind_12 : decode cX3_leadBehind 12 = .ok (.invokevirtual 118, 3) := by decide +kernel
theorem dX3_leadBehind_15 : decode cX3_leadBehind 15 = .ok (.ireturn, 1) := by decide +kernel
theorem dX3_waysOf_0 : decode cX3_waysOf 0 = .ok (.iconst 0, 1) := by decide +kernel
theorem dX3_waysOf_1 : decode cX3_waysOf 1 = .ok (.istore_n 3, 1) := by decide +kernel
theorem dX3_waysOf_2 : decode cX3_waysOf 2 = .ok (.iconst 0, 1) := by decide +kernel
theorem dX3_waysOf_3 : decode cX3_waysOf 3 = .ok (.istore 4, 2) := by decide +kernel
theorem dX3_waysOf_5 : decode cX3_waysOf 5 = .ok (.iload 4, 2) := by decide +kernel
theorem dX3_waysOf_7 : decode cX3_waysOf 7 = .ok (.bipush 48, 2) := by decide +kernel
theorem dX3_waysOf_9 : decode cX3_waysOf 9 = .ok (.if_icmp .ge 23, 3) := by decide +kernel
theorem dX3_waysOf_32 : decode cX3_waysOf 32 = .ok (.iload_n 3, 1) := by decide +kernel
theorem dX3_waysOf_33 : decode cX3_waysOf 33 = .ok (.ireturn, 1) := by decide +kernel
theorem dX3_waysOf_12 : decode cX3_waysOf 12 = .ok (.aload_n 0, 1) := by decide +kernel
theorem dX3_waysOf_13 : decode cX3_waysOf 13 = .ok (.aload_n 1, 1) := by decide +kernel
theorem dX3_waysOf_14 : decode cX3_waysOf 14 = .ok (.iload 4, 2) := by decide +kernel
theorem dX3_waysOf_16 : decode cX3_waysOf 16 = .ok (.aload_n 2, 1) := by decide +kernel
set_option maxRecDepth 20000 in
theorem ggX3_waysOf_X3_mayCross : GoodIn wsX3_waysOf wsX3_mayCross := goodIn_r _ [5, 6, 7, 8, 9, 10, 11, 12, 13, 14, 15, 16, 17, 18, 19, 20, 21, 22, 23, 24, 25, 26, 27, 28, 29, 30, 31, 32, 33, 34, 35, 36, 37, 38, 39, 40, 41, 42, 43, 44, 45, 46, 47, 48, 49, 50, 51, 52, 53, 54, 55, 56, 57, 58, 59, 60, 61, 62, 63, 64, 65, 66, 67, 68, 69, 70, 71, 72] (by decide +kernel) (by decide +kernel)
set_option maxRecDepth 20000 in
theorem gX3_waysOf_X3_mayCross : GoodIn wsX3_waysOf (wsV RX3 102 RX3 yX3_mayCross wsX3_mayCross) := goodIn_app (goodIn_of _ (by decide +kernel)) ggX3_waysOf_X3_mayCross
theorem dX3_waysOf_17 : decode cX3_waysOf 17 = .ok (.invokevirtual 102, 3) := by decide +kernel
theorem dX3_waysOf_20 : decode cX3_waysOf 20 = .ok (.ifCond .eq 6, 3) := by decide +kernel
theorem dX3_waysOf_26 : decode cX3_waysOf 26 = .ok (.iinc 4 1, 3) := by decide +kernel
theorem dX3_waysOf_29 : decode cX3_waysOf 29 = .ok (.goto (-24), 3) := by decide +kernel
theorem dX3_waysOf_23 : decode cX3_waysOf 23 = .ok (.iinc 3 1, 3) := by decide +kernel
set_option maxRecDepth 100000 in
set_option maxHeartbeats 4000000 in
theorem c_X4_move {E : XE} {B N : Nat} {v : Nat → va_E} {c o cell d n : Nat} {kd num lnd home mil : Int} {q1 q2 q3 q4 q5 q6 : Nat} {w e kp vil peo : Int} {g h s t : Nat → Int} {l : Cor} {cell_i : Int} (ha_cell : cell_i = (cell : Int)) (hc0 : Cel N v c (.inr (4, [.ref (B + (c + 1)), .ref (B + (c + 2)), .int (zI (n : Int)), .ref (B + (c + 3)), .ref (B + (c + 4))]))) (hc1 : Cel N v (c + 1) (iarr E 8 g)) (hc2 : Cel N v (c + 2) (barr E 8 h)) (hc3 : Cel N v (c + 3) (iarr E 8 s)) (hc4 : Cel N v (c + 4) (iarr E 8 t)) (hc5 : Cel N v d (.inr (3, [.int (zI w), .int (zI e), .int (zI kp), .ref (B + q1), .ref (B + q2), .int (zI vil), .ref (B + q3), .int (zI peo), .ref (B + q4), .ref (B + q5), .ref (B + q6)]))) (hc6 : Cel N v o (.inr ((kci kd), [.int (zI num), .int (zI lnd), .int (zI home), .int (zI mil)]))) (hq0 : LR g h l) (hq1 : n = l.length ∧ (l.length : Int) ≤ kp) (hq2 : CorOk l) (hq3 : 0 ≤ w ∧ w ≤ 5) (hq4 : 0 ≤ e ∧ e ≤ 5) (hq5 : 0 ≤ kp ∧ kp ≤ 6) (hq6 : cell ≤ 47) (hq7 : SR w e l s t) (hq8 : d ≠ c ∧ d ≠ c + 1 ∧ d ≠ c + 2 ∧ d ≠ c + 3 ∧ d ≠ c + 4) (hq9 : o ≠ c ∧ o ≠ c + 1 ∧ o ≠ c + 2 ∧ o ≠ c + 3 ∧ o ≠ c + 4) (hq10 : 1 ≤ kd ∧ kd ≤ 5) : gM yX4_move wsX4_move ({ frames := 2, cells := 0, slots := 0, locals := 54 }) E B N v [.ref (B + c), .ref (B + o), .int (zI cell_i), .ref (B + d)] (po0 N (fun ρ v' => ∃ (g2 : Nat → Int), ∃ (h2 : Nat → Int), ∃ (s2 : Nat → Int), ∃ (t2 : Nat → Int), ∃ (z2 : Int), (LR g2 h2 (crossA kd kp cell l)) ∧ (SR w e (crossA kd kp cell l) s2 t2) ∧ (z2 = ((crossA kd kp cell l).length : Int)) ∧ ρ = none ∧ (va_up (va_up (va_up (va_up (va_up v c (.inr (4, [.ref (B + (c + 1)), .ref (B + (c + 2)), .int (zI z2), .ref (B + (c + 3)), .ref (B + (c + 4))]))) (c + 1) (iarr E 8 g2)) (c + 2) (barr E 8 h2)) (c + 3) (iarr E 8 s2)) (c + 4) (iarr E 8 t2)) = v')) := by
  rcases kd5 hq10 with h9 | h9 | h9 | h9 | h9
  · subst h9; exact c_move_1 ha_cell hc0 hc1 hc2 hc3 hc4 hc5 hc6 hq0 hq1 hq2 hq3 hq4 hq5 hq6 hq7 hq8 hq9
  · subst h9; exact c_move_2 ha_cell hc0 hc1 hc2 hc3 hc4 hc5 hc6 hq0 hq1 hq2 hq3 hq4 hq5 hq6 hq7 hq8 hq9
  · subst h9; exact c_move_3 ha_cell hc0 hc1 hc2 hc3 hc4 hc5 hc6 hq0 hq1 hq2 hq3 hq4 hq5 hq6 hq7 hq8 hq9
  · subst h9; exact c_move_4 ha_cell hc0 hc1 hc2 hc3 hc4 hc5 hc6 hq0 hq1 hq2 hq3 hq4 hq5 hq6 hq7 hq8 hq9
  · subst h9; exact c_move_5 ha_cell hc0 hc1 hc2 hc3 hc4 hc5 hc6 hq0 hq1 hq2 hq3 hq4 hq5 hq6 hq7 hq8 hq9

set_option maxRecDepth 100000 in
set_option maxHeartbeats 4000000 in
theorem c_X3_guessed {E : XE} {B N : Nat} {v : Nat → va_E} {c d n o who cell : Nat} {p g h s t : Nat → Int} {l : Cor} {g1 h1 s1 t1 : Nat → Int} {n1 : Nat} {cell_i : Int} (ha_cell : cell_i = (cell : Int)) (hc0 : Cel N v c (.inr (3, [.int (zI (p 0)), .int (zI (p 1)), .int (zI (p 2)), .ref (B + (c + 1)), .ref (B + (c + 2)), .int (zI (p 3)), .ref (B + (c + 3)), .int (zI (p 4)), .ref (B + (c + 4)), .ref (B + (c + 13)), .ref (B + (c + 18))]))) (hc1 : Cel N v (c + 13) (.inr (4, [.ref (B + (c + 14)), .ref (B + (c + 15)), .int (zI (n1 : Int)), .ref (B + (c + 16)), .ref (B + (c + 17))]))) (hc2 : Cel N v (c + 14) (iarr E 8 g1)) (hc3 : Cel N v (c + 15) (barr E 8 h1)) (hc4 : Cel N v (c + 16) (iarr E 8 s1)) (hc5 : Cel N v (c + 17) (iarr E 8 t1)) (hc6 : Cel N v d (.inr (4, [.ref (B + (d + 1)), .ref (B + (d + 2)), .int (zI (n : Int)), .ref (B + (d + 3)), .ref (B + (d + 4))]))) (hc7 : Cel N v (d + 1) (iarr E 8 g)) (hc8 : Cel N v (d + 2) (barr E 8 h)) (hc9 : Cel N v (d + 3) (iarr E 8 s)) (hc10 : Cel N v (d + 4) (iarr E 8 t)) (hc11 : Cel N v o (.inr ((kci (p (5 + who))), [.int (zI (who : Int)), .int (zI (p (10 + who))), .int (zI (p (15 + who))), .int (zI (p (20 + who)))]))) (hq0 : LR g h l) (hq1 : n = l.length ∧ (l.length : Int) ≤ p 2) (hq2 : CorOk l) (hq3 : SR (p 0) (p 1) l s t) (hq4 : POk p) (hq5 : who < 5) (hq6 : cell ≤ 47) (hq7 : 1 ≤ p (5 + who) ∧ p (5 + who) ≤ 5) (hq8 : d + 5 ≤ c ∨ d = c + 18) (hq9 : c + 23 ≤ o) : gM yX3_guessed wsX3_guessed ({ frames := 3, cells := 0, slots := 0, locals := 78 }) E B N v [.ref (B + c), .ref (B + o), .int (zI cell_i), .ref (B + d)] (po0 N (fun ρ v' => ∃ (g2 : Nat → Int), ∃ (h2 : Nat → Int), ∃ (s2 : Nat → Int), ∃ (t2 : Nat → Int), (LR g2 h2 (crossA (p (5 + who)) (p 2) cell l)) ∧ (SR (p 0) (p 1) (crossA (p (5 + who)) (p 2) cell l) s2 t2) ∧ ρ = some (.ref (B + (c + 13))) ∧ (va_up (va_up (va_up (va_up (va_up v (c + 13) (.inr (4, [.ref (B + (c + 14)), .ref (B + (c + 15)), .int (zI (((crossA (p (5 + who)) (p 2) cell l).length : Nat) : Int)), .ref (B + (c + 16)), .ref (B + (c + 17))]))) (c + 14) (iarr E 8 g2)) (c + 15) (barr E 8 h2)) (c + 16) (iarr E 8 s2)) (c + 17) (iarr E 8 t2)) = v')) := by
  subst ha_cell
  refine x_met (nm := "guessed") (by decide +kernel) rfl (Nat.le_of_ble_eq_true rfl) rfl (fun Γ K KR hnL hnm => ?_)
  show XW Γ N v [(0, .ref (B + c)), (1, .ref (B + o)), (2, .int (zI (cell : Int))), (3, .ref (B + d))] 0 0 0 []
  have hP0 := hq4.1
  have hP1 := hq4.2.1
  have hP2 := hq4.2.2.1
  refine x_v (cel_pad hc1) ?_
  refine x_v (cel_pad (cel_ne hc2 (by omega))) ?_
  refine x_v (cel_pad (cel_ne (cel_ne hc3 (by omega)) (by omega))) ?_
  refine x_v (cel_pad (cel_ne (cel_ne (cel_ne hc4 (by omega)) (by omega)) (by omega))) ?_
  refine x_v (cel_pad (cel_ne (cel_ne (cel_ne (cel_ne hc5 (by omega)) (by omega)) (by omega)) (by omega))) ?_
  refine x_aload_n (pc := 0) 0 K rfl rfl dX3_guessed_0 ?_
  refine x_get (pc := 1) (C := RX3) (T := TX3) (n := 11) (ci := 3) (idx := 49) (ref := "BorderBeds$Ground") (x := .ref (B + (c + 13)))  K (cel_ne (cel_ne (cel_ne (cel_ne (cel_ne hc0 (by omega)) (by omega)) (by omega)) (by omega)) (by omega)) rfl (by decide +kernel) 9 (by decide) (by decide +kernel) rfl rfl dX3_guessed_1 ?_
  refine x_aload_n (pc := 4) 3 K rfl rfl dX3_guessed_4 ?_
  refine x_callV (pc := 5) (C := RX4) (T := TX4) (n := 5) (ci := 4) (As := [.ref (B + d)]) K (c_X4_become (E := E) (B := B) (N := N)   (cel_ne (cel_ne (cel_ne (cel_ne (cel_self hc1.1) (by omega)) (by omega)) (by omega)) (by omega)) (cel_ne (cel_ne (cel_ne (cel_self hc2.1) (by omega)) (by omega)) (by omega)) (cel_ne (cel_ne (cel_self hc3.1) (by omega)) (by omega)) (cel_ne (cel_self hc4.1) (by omega)) (cel_self hc5.1) (cel_ne (cel_ne (cel_ne (cel_ne (cel_ne hc6 (by omega)) (by omega)) (by omega)) (by omega)) (by omega)) (cel_ne (cel_ne (cel_ne (cel_ne (cel_ne hc7 (by omega)) (by omega)) (by omega)) (by omega)) (by omega)) (cel_ne (cel_ne (cel_ne (cel_ne (cel_ne hc8 (by omega)) (by omega)) (by omega)) (by omega)) (by omega)) (cel_ne (cel_ne (cel_ne (cel_ne (cel_ne hc9 (by omega)) (by omega)) (by omega)) (by omega)) (by omega)) (cel_ne (cel_ne (cel_ne (cel_ne (cel_ne hc10 (by omega)) (by omega)) (by omega)) (by omega)) (by omega)) (by omega) hq0.2) gX3_guessed_X4_become rfl (na := 1) (by decide +kernel) rfl ⟨(Nat.le_of_ble_eq_true rfl), (Nat.le_of_ble_eq_true rfl)⟩ (cel_ne (cel_ne (cel_ne (cel_ne (cel_self hc1.1) (by omega)) (by omega)) (by omega)) (by omega)) rfl (st := []) rfl (Nat.le_of_ble_eq_true rfl) ⟨(Nat.le_of_ble_eq_true rfl), (Nat.le_of_ble_eq_true rfl)⟩ dX3_guessed_5 (fun r5 N5 w5 hpo5 hN5 => ?_)
  obtain ⟨rfl, rfl, rfl⟩ := hpo5
  refine x_v (congrArg (fun w => (va_up (va_up (va_up (va_up w (c + 14) (iarr E 8 g)) (c + 15) (barr E 8 h)) (c + 16) (iarr E 8 s)) (c + 17) (iarr E 8 t))) (show (va_up (va_up (va_up (va_up (va_up v (c + 13) (.inr (4, [.ref (B + (c + 14)), .ref (B + (c + 15)), .int (zI (n : Int)), .ref (B + (c + 16)), .ref (B + (c + 17))]))) (c + 14) (iarr E 8 g1)) (c + 15) (barr E 8 h1)) (c + 16) (iarr E 8 s1)) (c + 17) (iarr E 8 t1)) = _ from (up_at4 (by omega) (by omega) (by omega) (by omega)).symm)) ?_
  refine x_v (congrArg (fun w => (va_up (va_up (va_up w (c + 15) (barr E 8 h)) (c + 16) (iarr E 8 s)) (c + 17) (iarr E 8 t))) (show (va_up (va_up (va_up (va_up (va_up v (c + 13) (.inr (4, [.ref (B + (c + 14)), .ref (B + (c + 15)), .int (zI (n : Int)), .ref (B + (c + 16)), .ref (B + (c + 17))]))) (c + 14) (iarr E 8 g)) (c + 15) (barr E 8 h1)) (c + 16) (iarr E 8 s1)) (c + 17) (iarr E 8 t1)) = _ from (up_at3 (by omega) (by omega) (by omega)).symm)) ?_
  refine x_v (congrArg (fun w => (va_up (va_up w (c + 16) (iarr E 8 s)) (c + 17) (iarr E 8 t))) (show (va_up (va_up (va_up (va_up (va_up v (c + 13) (.inr (4, [.ref (B + (c + 14)), .ref (B + (c + 15)), .int (zI (n : Int)), .ref (B + (c + 16)), .ref (B + (c + 17))]))) (c + 14) (iarr E 8 g)) (c + 15) (barr E 8 h)) (c + 16) (iarr E 8 s1)) (c + 17) (iarr E 8 t1)) = _ from (up_at2 (by omega) (by omega)).symm)) ?_
  refine x_v (congrArg (fun w => (va_up w (c + 17) (iarr E 8 t))) (show (va_up (va_up (va_up (va_up (va_up v (c + 13) (.inr (4, [.ref (B + (c + 14)), .ref (B + (c + 15)), .int (zI (n : Int)), .ref (B + (c + 16)), .ref (B + (c + 17))]))) (c + 14) (iarr E 8 g)) (c + 15) (barr E 8 h)) (c + 16) (iarr E 8 s)) (c + 17) (iarr E 8 t1)) = _ from (up_at1 (by omega)).symm)) ?_
  refine x_v (w := (va_up (va_up (va_up (va_up (va_up v (c + 13) (.inr (4, [.ref (B + (c + 14)), .ref (B + (c + 15)), .int (zI (n : Int)), .ref (B + (c + 16)), .ref (B + (c + 17))]))) (c + 14) (iarr E 8 g)) (c + 15) (barr E 8 h)) (c + 16) (iarr E 8 s)) (c + 17) (iarr E 8 t))) (up_at0).symm ?_
  refine x_st (st' := []) rfl ?_
  refine x_aload_n (pc := 8) 0 K rfl rfl dX3_guessed_8 ?_
  refine x_get (pc := 9) (C := RX3) (T := TX3) (n := 11) (ci := 3) (idx := 49) (ref := "BorderBeds$Ground") (x := .ref (B + (c + 13)))  K (cel_ne (cel_ne (cel_ne (cel_ne (cel_ne hc0 (by omega)) (by omega)) (by omega)) (by omega)) (by omega)) rfl (by decide +kernel) 9 (by decide) (by decide +kernel) rfl rfl dX3_guessed_9 ?_
  refine x_aload_n (pc := 12) 1 K rfl rfl dX3_guessed_12 ?_
  refine x_iload_n (pc := 13) 2 K rfl rfl dX3_guessed_13 ?_
  refine x_aload_n (pc := 14) 0 K rfl rfl dX3_guessed_14 ?_
  refine x_callV (pc := 15) (C := RX4) (T := TX4) (n := 5) (ci := 4) (As := [.ref (B + o), .int (zI (cell : Int)), .ref (B + c)]) K (c_X4_move (E := E) (B := B) (N := N) (l := l) (w := (p 0)) (e := (p 1)) (kp := (p 2)) (cell := cell) rfl (cel_ne (cel_ne (cel_ne (cel_ne (cel_self hc1.1) (by omega)) (by omega)) (by omega)) (by omega)) (cel_ne (cel_ne (cel_ne (cel_self hc2.1) (by omega)) (by omega)) (by omega)) (cel_ne (cel_ne (cel_self hc3.1) (by omega)) (by omega)) (cel_ne (cel_self hc4.1) (by omega)) (cel_self hc5.1) (cel_ne (cel_ne (cel_ne (cel_ne (cel_ne hc0 (by omega)) (by omega)) (by omega)) (by omega)) (by omega)) (cel_ne (cel_ne (cel_ne (cel_ne (cel_ne hc11 (by omega)) (by omega)) (by omega)) (by omega)) (by omega)) hq0 (by omega) hq2 (by omega) (by omega) (by omega) (by omega) hq3 (by omega) (by omega) (by omega)) gX3_guessed_X4_move rfl (na := 3) (by decide +kernel) rfl ⟨(Nat.le_of_ble_eq_true rfl), (Nat.le_of_ble_eq_true rfl)⟩ (cel_ne (cel_ne (cel_ne (cel_ne (cel_self hc1.1) (by omega)) (by omega)) (by omega)) (by omega)) rfl (st := []) rfl (Nat.le_of_ble_eq_true rfl) ⟨(Nat.le_of_ble_eq_true rfl), (Nat.le_of_ble_eq_true rfl)⟩ dX3_guessed_15 (fun r15 N15 w15 hpo15 hN15 => ?_)
  obtain ⟨rfl, g2_15, h2_15, s2_15, t2_15, z2_15, hp15_0, hp15_1, hp15_2, rfl, rfl⟩ := hpo15
  refine x_v (congrArg (fun w => (va_up (va_up (va_up (va_up w (c + 14) (iarr E 8 g2_15)) (c + 15) (barr E 8 h2_15)) (c + 16) (iarr E 8 s2_15)) (c + 17) (iarr E 8 t2_15))) (show (va_up (va_up (va_up (va_up (va_up v (c + 13) (.inr (4, [.ref (B + (c + 14)), .ref (B + (c + 15)), .int (zI z2_15), .ref (B + (c + 16)), .ref (B + (c + 17))]))) (c + 14) (iarr E 8 g)) (c + 15) (barr E 8 h)) (c + 16) (iarr E 8 s)) (c + 17) (iarr E 8 t)) = _ from (up_at4 (by omega) (by omega) (by omega) (by omega)).symm)) ?_
  refine x_v (congrArg (fun w => (va_up (va_up (va_up w (c + 15) (barr E 8 h2_15)) (c + 16) (iarr E 8 s2_15)) (c + 17) (iarr E 8 t2_15))) (show (va_up (va_up (va_up (va_up (va_up v (c + 13) (.inr (4, [.ref (B + (c + 14)), .ref (B + (c + 15)), .int (zI z2_15), .ref (B + (c + 16)), .ref (B + (c + 17))]))) (c + 14) (iarr E 8 g2_15)) (c + 15) (barr E 8 h)) (c + 16) (iarr E 8 s)) (c + 17) (iarr E 8 t)) = _ from (up_at3 (by omega) (by omega) (by omega)).symm)) ?_
  refine x_v (congrArg (fun w => (va_up (va_up w (c + 16) (iarr E 8 s2_15)) (c + 17) (iarr E 8 t2_15))) (show (va_up (va_up (va_up (va_up (va_up v (c + 13) (.inr (4, [.ref (B + (c + 14)), .ref (B + (c + 15)), .int (zI z2_15), .ref (B + (c + 16)), .ref (B + (c + 17))]))) (c + 14) (iarr E 8 g2_15)) (c + 15) (barr E 8 h2_15)) (c + 16) (iarr E 8 s)) (c + 17) (iarr E 8 t)) = _ from (up_at2 (by omega) (by omega)).symm)) ?_
  refine x_v (congrArg (fun w => (va_up w (c + 17) (iarr E 8 t2_15))) (show (va_up (va_up (va_up (va_up (va_up v (c + 13) (.inr (4, [.ref (B + (c + 14)), .ref (B + (c + 15)), .int (zI z2_15), .ref (B + (c + 16)), .ref (B + (c + 17))]))) (c + 14) (iarr E 8 g2_15)) (c + 15) (barr E 8 h2_15)) (c + 16) (iarr E 8 s2_15)) (c + 17) (iarr E 8 t)) = _ from (up_at1 (by omega)).symm)) ?_
  refine x_v (w := (va_up (va_up (va_up (va_up (va_up v (c + 13) (.inr (4, [.ref (B + (c + 14)), .ref (B + (c + 15)), .int (zI z2_15), .ref (B + (c + 16)), .ref (B + (c + 17))]))) (c + 14) (iarr E 8 g2_15)) (c + 15) (barr E 8 h2_15)) (c + 16) (iarr E 8 s2_15)) (c + 17) (iarr E 8 t2_15))) (up_at0).symm ?_
  refine x_st (st' := []) rfl ?_
  subst hp15_2
  refine x_aload_n (pc := 18) 0 K rfl rfl dX3_guessed_18 ?_
  refine x_get (pc := 19) (C := RX3) (T := TX3) (n := 11) (ci := 3) (idx := 49) (ref := "BorderBeds$Ground") (x := .ref (B + (c + 13)))  K (cel_ne (cel_ne (cel_ne (cel_ne (cel_ne hc0 (by omega)) (by omega)) (by omega)) (by omega)) (by omega)) rfl (by decide +kernel) 9 (by decide) (by decide +kernel) rfl rfl dX3_guessed_19 ?_
  refine x_aret (pc := 22) K KR (by omega) (Nat.le_of_ble_eq_true rfl) (Nat.le_of_ble_eq_true rfl) (Or.inr ⟨_, rfl⟩) dX3_guessed_22 ?_
  exact ⟨rfl, g2_15, h2_15, s2_15, t2_15, hp15_0, hp15_1, rfl, rfl⟩

set_option maxRecDepth 100000 in
set_option maxHeartbeats 4000000 in
theorem c_X3_leadBehind {E : XE} {B N : Nat} {v : Nat → va_E} {c d n o who cell : Nat} {p g h s t : Nat → Int} {l : Cor} {g1 h1 s1 t1 : Nat → Int} {n1 : Nat} {cell_i : Int} (ha_cell : cell_i = (cell : Int)) (hc0 : Cel N v c (.inr (3, [.int (zI (p 0)), .int (zI (p 1)), .int (zI (p 2)), .ref (B + (c + 1)), .ref (B + (c + 2)), .int (zI (p 3)), .ref (B + (c + 3)), .int (zI (p 4)), .ref (B + (c + 4)), .ref (B + (c + 13)), .ref (B + (c + 18))]))) (hc1 : Cel N v (c + 13) (.inr (4, [.ref (B + (c + 14)), .ref (B + (c + 15)), .int (zI (n1 : Int)), .ref (B + (c + 16)), .ref (B + (c + 17))]))) (hc2 : Cel N v (c + 14) (iarr E 8 g1)) (hc3 : Cel N v (c + 15) (barr E 8 h1)) (hc4 : Cel N v (c + 16) (iarr E 8 s1)) (hc5 : Cel N v (c + 17) (iarr E 8 t1)) (hc6 : Cel N v d (.inr (4, [.ref (B + (d + 1)), .ref (B + (d + 2)), .int (zI (n : Int)), .ref (B + (d + 3)), .ref (B + (d + 4))]))) (hc7 : Cel N v (d + 1) (iarr E 8 g)) (hc8 : Cel N v (d + 2) (barr E 8 h)) (hc9 : Cel N v (d + 3) (iarr E 8 s)) (hc10 : Cel N v (d + 4) (iarr E 8 t)) (hc11 : Cel N v o (.inr ((kci (p (5 + who))), [.int (zI (who : Int)), .int (zI (p (10 + who))), .int (zI (p (15 + who))), .int (zI (p (20 + who)))]))) (hc12 : Cel N v (c + 4) (rarr E 6 8 B (ouA c))) (hF0 : ∀ x : Nat, x < 8 → Cel N v (c + 5 + x) (iarr E 7 (wbS p x))) (hq0 : LR g h l) (hq1 : n = l.length ∧ (l.length : Int) ≤ p 2) (hq2 : CorOk l) (hq3 : SR (p 0) (p 1) l s t) (hq4 : POk p) (hq5 : who < 5) (hq6 : cell ≤ 47) (hq7 : 1 ≤ p (5 + who) ∧ p (5 + who) ≤ 5) (hq8 : d + 5 ≤ c ∨ d = c + 18) (hq9 : c + 23 ≤ o) : gM yX3_leadBehind wsX3_leadBehind ({ frames := 4, cells := 0, slots := 0, locals := 101 }) E B N v [.ref (B + c), .ref (B + o), .int (zI cell_i), .ref (B + d)] (po0 N (fun ρ v' => ∃ (g2 : Nat → Int), ∃ (h2 : Nat → Int), ∃ (s2 : Nat → Int), ∃ (t2 : Nat → Int), (LR g2 h2 (crossA (p (5 + who)) (p 2) cell l)) ∧ (SR (p 0) (p 1) (crossA (p (5 + who)) (p 2) cell l) s2 t2) ∧ ρ = some (.int (zI (leadA p (crossA (p (5 + who)) (p 2) cell l) (p (10 + who))))) ∧ (va_up (va_up (va_up (va_up (va_up v (c + 13) (.inr (4, [.ref (B + (c + 14)), .ref (B + (c + 15)), .int (zI (((crossA (p (5 + who)) (p 2) cell l).length : Nat) : Int)), .ref (B + (c + 16)), .ref (B + (c + 17))]))) (c + 14) (iarr E 8 g2)) (c + 15) (barr E 8 h2)) (c + 16) (iarr E 8 s2)) (c + 17) (iarr E 8 t2)) = v')) := by
  subst ha_cell
  refine x_met (nm := "leadBehind") (by decide +kernel) rfl (Nat.le_of_ble_eq_true rfl) rfl (fun Γ K KR hnL hnm => ?_)
  show XW Γ N v [(0, .ref (B + c)), (1, .ref (B + o)), (2, .int (zI (cell : Int))), (3, .ref (B + d))] 0 0 0 []
  have hP0 := hq4.1
  have hP1 := hq4.2.1
  have hP2 := hq4.2.2.1
  have hld := (hq4.2.2.2.2.2.1 who hq5).2.1
  refine x_v (cel_pad hc1) ?_
  refine x_v (cel_pad (cel_ne hc2 (by omega))) ?_
  refine x_v (cel_pad (cel_ne (cel_ne hc3 (by omega)) (by omega))) ?_
  refine x_v (cel_pad (cel_ne (cel_ne (cel_ne hc4 (by omega)) (by omega)) (by omega))) ?_
  refine x_v (cel_pad (cel_ne (cel_ne (cel_ne (cel_ne hc5 (by omega)) (by omega)) (by omega)) (by omega))) ?_
  refine x_aload_n (pc := 0) 0 K rfl rfl dX3_leadBehind_0 ?_
  refine x_aload_n (pc := 1) 1 K rfl rfl dX3_leadBehind_1 ?_
  refine x_getP (pc := 2) (idx := 99) (x := .int (zI (p (10 + who)))) K (by omega) (cel_ne (cel_ne (cel_ne (cel_ne (cel_ne hc11 (by omega)) (by omega)) (by omega)) (by omega)) (by omega)) (by decide +kernel) (by decide +kernel) (by decide +kernel) (by decide +kernel) (by decide +kernel) 1 (by decide) (by decide +kernel) rfl dX3_leadBehind_2 ?_
  refine x_aload_n (pc := 5) 0 K rfl rfl dX3_leadBehind_5 ?_
  refine x_aload_n (pc := 6) 1 K rfl rfl dX3_leadBehind_6 ?_
  refine x_iload_n (pc := 7) 2 K rfl rfl dX3_leadBehind_7 ?_
  refine x_aload_n (pc := 8) 3 K rfl rfl dX3_leadBehind_8 ?_
  refine x_callV (pc := 9) (C := RX3) (T := TX3) (n := 11) (ci := 3) (As := [.ref (B + o), .int (zI (cell : Int)), .ref (B + d)]) K (c_X3_guessed (E := E) (B := B) (N := N) (l := l) (who := who) (cell := cell) rfl (cel_ne (cel_ne (cel_ne (cel_ne (cel_ne hc0 (by omega)) (by omega)) (by omega)) (by omega)) (by omega)) (cel_ne (cel_ne (cel_ne (cel_ne (cel_self hc1.1) (by omega)) (by omega)) (by omega)) (by omega)) (cel_ne (cel_ne (cel_ne (cel_self hc2.1) (by omega)) (by omega)) (by omega)) (cel_ne (cel_ne (cel_self hc3.1) (by omega)) (by omega)) (cel_ne (cel_self hc4.1) (by omega)) (cel_self hc5.1) (cel_ne (cel_ne (cel_ne (cel_ne (cel_ne hc6 (by omega)) (by omega)) (by omega)) (by omega)) (by omega)) (cel_ne (cel_ne (cel_ne (cel_ne (cel_ne hc7 (by omega)) (by omega)) (by omega)) (by omega)) (by omega)) (cel_ne (cel_ne (cel_ne (cel_ne (cel_ne hc8 (by omega)) (by omega)) (by omega)) (by omega)) (by omega)) (cel_ne (cel_ne (cel_ne (cel_ne (cel_ne hc9 (by omega)) (by omega)) (by omega)) (by omega)) (by omega)) (cel_ne (cel_ne (cel_ne (cel_ne (cel_ne hc10 (by omega)) (by omega)) (by omega)) (by omega)) (by omega)) (cel_ne (cel_ne (cel_ne (cel_ne (cel_ne hc11 (by omega)) (by omega)) (by omega)) (by omega)) (by omega)) hq0 hq1 hq2 hq3 hq4 (by omega) (by omega) (by omega) (by omega) (by omega)) gX3_leadBehind_X3_guessed rfl (na := 3) (by decide +kernel) rfl ⟨(Nat.le_of_ble_eq_true rfl), (Nat.le_of_ble_eq_true rfl)⟩ (cel_ne (cel_ne (cel_ne (cel_ne (cel_ne hc0 (by omega)) (by omega)) (by omega)) (by omega)) (by omega)) rfl (st := [.int (zI (p (10 + who))), .ref (B + c)]) rfl (Nat.le_of_ble_eq_true rfl) ⟨(Nat.le_of_ble_eq_true rfl), (Nat.le_of_ble_eq_true rfl)⟩ dX3_leadBehind_9 (fun r9 N9 w9 hpo9 hN9 => ?_)
  obtain ⟨rfl, g2_9, h2_9, s2_9, t2_9, hp9_0, hp9_1, rfl, rfl⟩ := hpo9
  refine x_v (congrArg (fun w => (va_up (va_up (va_up (va_up w (c + 14) (iarr E 8 g2_9)) (c + 15) (barr E 8 h2_9)) (c + 16) (iarr E 8 s2_9)) (c + 17) (iarr E 8 t2_9))) (show (va_up (va_up (va_up (va_up (va_up v (c + 13) (.inr (4, [.ref (B + (c + 14)), .ref (B + (c + 15)), .int (zI (((crossA (p (5 + who)) (p 2) cell l).length : Nat) : Int)), .ref (B + (c + 16)), .ref (B + (c + 17))]))) (c + 14) (iarr E 8 g1)) (c + 15) (barr E 8 h1)) (c + 16) (iarr E 8 s1)) (c + 17) (iarr E 8 t1)) = _ from (up_at4 (by omega) (by omega) (by omega) (by omega)).symm)) ?_
  refine x_v (congrArg (fun w => (va_up (va_up (va_up w (c + 15) (barr E 8 h2_9)) (c + 16) (iarr E 8 s2_9)) (c + 17) (iarr E 8 t2_9))) (show (va_up (va_up (va_up (va_up (va_up v (c + 13) (.inr (4, [.ref (B + (c + 14)), .ref (B + (c + 15)), .int (zI (((crossA (p (5 + who)) (p 2) cell l).length : Nat) : Int)), .ref (B + (c + 16)), .ref (B + (c + 17))]))) (c + 14) (iarr E 8 g2_9)) (c + 15) (barr E 8 h1)) (c + 16) (iarr E 8 s1)) (c + 17) (iarr E 8 t1)) = _ from (up_at3 (by omega) (by omega) (by omega)).symm)) ?_
  refine x_v (congrArg (fun w => (va_up (va_up w (c + 16) (iarr E 8 s2_9)) (c + 17) (iarr E 8 t2_9))) (show (va_up (va_up (va_up (va_up (va_up v (c + 13) (.inr (4, [.ref (B + (c + 14)), .ref (B + (c + 15)), .int (zI (((crossA (p (5 + who)) (p 2) cell l).length : Nat) : Int)), .ref (B + (c + 16)), .ref (B + (c + 17))]))) (c + 14) (iarr E 8 g2_9)) (c + 15) (barr E 8 h2_9)) (c + 16) (iarr E 8 s1)) (c + 17) (iarr E 8 t1)) = _ from (up_at2 (by omega) (by omega)).symm)) ?_
  refine x_v (congrArg (fun w => (va_up w (c + 17) (iarr E 8 t2_9))) (show (va_up (va_up (va_up (va_up (va_up v (c + 13) (.inr (4, [.ref (B + (c + 14)), .ref (B + (c + 15)), .int (zI (((crossA (p (5 + who)) (p 2) cell l).length : Nat) : Int)), .ref (B + (c + 16)), .ref (B + (c + 17))]))) (c + 14) (iarr E 8 g2_9)) (c + 15) (barr E 8 h2_9)) (c + 16) (iarr E 8 s2_9)) (c + 17) (iarr E 8 t1)) = _ from (up_at1 (by omega)).symm)) ?_
  refine x_v (w := (va_up (va_up (va_up (va_up (va_up v (c + 13) (.inr (4, [.ref (B + (c + 14)), .ref (B + (c + 15)), .int (zI (((crossA (p (5 + who)) (p 2) cell l).length : Nat) : Int)), .ref (B + (c + 16)), .ref (B + (c + 17))]))) (c + 14) (iarr E 8 g2_9)) (c + 15) (barr E 8 h2_9)) (c + 16) (iarr E 8 s2_9)) (c + 17) (iarr E 8 t2_9))) (up_at0).symm ?_
  refine x_st (st' := [.ref (B + (c + 13)), .int (zI (p (10 + who))), .ref (B + c)]) rfl ?_
  refine x_callV (pc := 12) (C := RX3) (T := TX3) (n := 11) (ci := 3) (As := [.int (zI (p (10 + who))), .ref (B + (c + 13))]) K (c_X3_leadOf (E := E) (B := B) (N := N) (l := (crossA (p (5 + who)) (p 2) cell l))  (cel_ne (cel_ne (cel_ne (cel_ne (cel_ne hc0 (by omega)) (by omega)) (by omega)) (by omega)) (by omega)) (cel_ne (cel_ne (cel_ne (cel_ne (cel_self hc1.1) (by omega)) (by omega)) (by omega)) (by omega)) (cel_ne (cel_self hc4.1) (by omega)) (cel_self hc5.1) (cel_ne (cel_ne (cel_ne (cel_ne (cel_ne hc12 (by omega)) (by omega)) (by omega)) (by omega)) (by omega)) (fun x hx => (cel_ne (cel_ne (cel_ne (cel_ne (cel_ne (hF0 x hx) (by omega)) (by omega)) (by omega)) (by omega)) (by omega))) hp9_1 (by omega) hq4) gX3_leadBehind_X3_leadOf rfl (na := 2) (by decide +kernel) rfl ⟨(Nat.le_of_ble_eq_true rfl), (Nat.le_of_ble_eq_true rfl)⟩ (cel_ne (cel_ne (cel_ne (cel_ne (cel_ne hc0 (by omega)) (by omega)) (by omega)) (by omega)) (by omega)) rfl (st := []) rfl (Nat.le_of_ble_eq_true rfl) ⟨(Nat.le_of_ble_eq_true rfl), (Nat.le_of_ble_eq_true rfl)⟩ dX3_leadBehind_12 (fun r12 N12 w12 hpo12 hN12 => ?_)
  obtain ⟨rfl, rfl, rfl⟩ := hpo12
  refine x_st (st' := [.int (zI (leadA p (crossA (p (5 + who)) (p 2) cell l) (p (10 + who))))]) rfl ?_
  refine x_iret (pc := 15) K KR (by omega) (Nat.le_of_ble_eq_true rfl) (Nat.le_of_ble_eq_true rfl) dX3_leadBehind_15 ?_
  exact ⟨rfl, g2_9, h2_9, s2_9, t2_9, hp9_0, hp9_1, rfl, rfl⟩

set_option maxRecDepth 100000 in
set_option maxHeartbeats 4000000 in
theorem c_X3_waysOf {E : XE} {B N : Nat} {v : Nat → va_E} {c d n o who : Nat} {p s t : Nat → Int} {l : Cor} (hc0 : Cel N v c (.inr (3, [.int (zI (p 0)), .int (zI (p 1)), .int (zI (p 2)), .ref (B + (c + 1)), .ref (B + (c + 2)), .int (zI (p 3)), .ref (B + (c + 3)), .int (zI (p 4)), .ref (B + (c + 4)), .ref (B + (c + 13)), .ref (B + (c + 18))]))) (hc1 : Cel N v d (.inr (4, [.ref (B + (d + 1)), .ref (B + (d + 2)), .int (zI (n : Int)), .ref (B + (d + 3)), .ref (B + (d + 4))]))) (hc2 : Cel N v (d + 3) (iarr E 8 s)) (hc3 : Cel N v (d + 4) (iarr E 8 t)) (hc4 : Cel N v (c + 2) (barr E 48 (gA p))) (hc5 : Cel N v o (.inr ((kci (p (5 + who))), [.int (zI (who : Int)), .int (zI (p (10 + who))), .int (zI (p (15 + who))), .int (zI (p (20 + who)))]))) (hq0 : SR (p 0) (p 1) l s t) (hq1 : POk p) (hq2 : who < 5) (hq3 : 1 ≤ p (5 + who) ∧ p (5 + who) ≤ 5) : gM yX3_waysOf wsX3_waysOf ({ frames := 2, cells := 0, slots := 0, locals := 47 }) E B N v [.ref (B + c), .ref (B + o), .ref (B + d)] (po0 N (fun ρ v' => ρ = some (.int (zI (waysA p l who 48))) ∧ v = v')) := by
  refine x_met (nm := "waysOf") (by decide +kernel) rfl (Nat.le_of_ble_eq_true rfl) rfl (fun Γ K KR hnL hnm => ?_)
  show XW Γ N v [(0, .ref (B + c)), (1, .ref (B + o)), (2, .ref (B + d))] 0 0 0 []
  refine x_iconst (pc := 0) K dX3_waysOf_0 ?_
  refine x_istore_n (pc := 1) K (L' := [(3, .int (zI 0)), (0, .ref (B + c)), (1, .ref (B + o)), (2, .ref (B + d))]) hnL rfl (by decide) rfl dX3_waysOf_1 ?_
  refine x_iconst (pc := 2) K dX3_waysOf_2 ?_
  refine x_istore (pc := 3) K (L' := [(4, .int (zI 0)), (3, .int (zI 0)), (0, .ref (B + c)), (1, .ref (B + o)), (2, .ref (B + d))]) hnL (by decide) rfl dX3_waysOf_3 ?_
  have LOOP5 : ∀ (n_5 : Nat) (z : Int) (k : Nat), (k ≤ 48) → (z = waysA p l who k) → (0 ≤ z ∧ z ≤ k) → (48 - k) < n_5 → XW Γ N v [(0, .ref (B + c)), (1, .ref (B + o)), (2, .ref (B + d)), (3, .int (zI z)), (4, .int (zI (k : Int)))] 0 0 5 [] := by
    intro n_5
    induction n_5 with
    | zero =>
      intro z k hi5_0 hi5_1 hi5_2 hm_5
      exfalso; omega
    | succ n_5 ih5 =>
      intro z k hi5_0 hi5_1 hi5_2 hm_5
      refine x_iload (pc := 5) 4 K rfl dX3_waysOf_5 ?_
      refine x_bipush (pc := 7) K (by decide) dX3_waysOf_7 ?_
      refine x_icmp_ge (pc := 9) (tgt := 32) K (by omega) (by decide) dX3_waysOf_9 (by decide) (fun h_9 => ?_) (fun h_9 => ?_)
      · skip
        refine x_iload_n (pc := 32) 3 K rfl rfl dX3_waysOf_32 ?_
        refine x_iret (pc := 33) K KR (by omega) (Nat.le_of_ble_eq_true rfl) (Nat.le_of_ble_eq_true rfl) dX3_waysOf_33 ?_
        have hk : k = 48 := by omega
        rw [hk] at hi5_1
        exact ⟨rfl, ri hi5_1, rfl⟩
      · skip
        refine x_aload_n (pc := 12) 0 K rfl rfl dX3_waysOf_12 ?_
        refine x_aload_n (pc := 13) 1 K rfl rfl dX3_waysOf_13 ?_
        refine x_iload (pc := 14) 4 K rfl dX3_waysOf_14 ?_
        refine x_aload_n (pc := 16) 2 K rfl rfl dX3_waysOf_16 ?_
        refine x_callV (pc := 17) (C := RX3) (T := TX3) (n := 11) (ci := 3) (As := [.ref (B + o), .int (zI (k : Int)), .ref (B + d)]) K (c_X3_mayCross (E := E) (B := B) (N := N) (l := l) (who := who) (cell := k) rfl hc0 hc1 hc2 hc3 hc4 hc5 hq0 hq1 (by omega) (by omega) (by omega)) gX3_waysOf_X3_mayCross rfl (na := 3) (by decide +kernel) rfl ⟨(Nat.le_of_ble_eq_true rfl), (Nat.le_of_ble_eq_true rfl)⟩ hc0 rfl (st := []) rfl (Nat.le_of_ble_eq_true rfl) ⟨(Nat.le_of_ble_eq_true rfl), (Nat.le_of_ble_eq_true rfl)⟩ dX3_waysOf_17 (fun r17 N17 w17 hpo17 hN17 => ?_)
        obtain ⟨rfl, rfl, rfl⟩ := hpo17
        refine x_st (st' := [.int (zI (mayI p l who k))]) rfl ?_
        have hrg17 := mayI_rng p l who k
        refine x_if_eq (pc := 20) (tgt := 26) K (by omega) dX3_waysOf_20 (by decide) (fun h_20 => ?_) (fun h_20 => ?_)
        · skip
          have h_20 := mayI_f h_20
          refine x_iinc (pc := 26) (L' := [(4, .int (zI ((k : Int) + 1))), (0, .ref (B + c)), (1, .ref (B + o)), (2, .ref (B + d)), (3, .int (zI z))]) 4 K hnL rfl (by decide) rfl dX3_waysOf_26 ?_
          refine x_goto (pc := 29) (tgt := 5) K dX3_waysOf_29 (by decide) ?_
          refine x_sub (L' := [(0, .ref (B + c)), (1, .ref (B + o)), (2, .ref (B + d)), (3, .int (zI z)), (4, .int (zI ((k : Int) + 1)))]) [1, 2, 3, 4, 0] rfl ?_
          exact ih5 z (k + 1) (by omega) (by show _ = waysA p l who k + mayI p l who k; rw [← hi5_1]; first | (rw [mayI_1 h_20] <;> done) | (rw [mayI_0 h_20]; try omega)) (by omega) (by omega)
        · skip
          have h_20 := mayI_t h_20
          refine x_iinc (pc := 23) (L' := [(3, .int (zI (z + 1))), (0, .ref (B + c)), (1, .ref (B + o)), (2, .ref (B + d)), (4, .int (zI (k : Int)))]) 3 K hnL rfl (by decide) rfl dX3_waysOf_23 ?_
          refine x_iinc (pc := 26) (L' := [(4, .int (zI ((k : Int) + 1))), (3, .int (zI (z + 1))), (0, .ref (B + c)), (1, .ref (B + o)), (2, .ref (B + d))]) 4 K hnL rfl (by decide) rfl dX3_waysOf_26 ?_
          refine x_goto (pc := 29) (tgt := 5) K dX3_waysOf_29 (by decide) ?_
          refine x_sub (L' := [(0, .ref (B + c)), (1, .ref (B + o)), (2, .ref (B + d)), (3, .int (zI (z + 1))), (4, .int (zI ((k : Int) + 1)))]) [2, 3, 4, 1, 0] rfl ?_
          exact ih5 (z + 1) (k + 1) (by omega) (by show _ = waysA p l who k + mayI p l who k; rw [← hi5_1]; first | (rw [mayI_1 h_20] <;> done) | (rw [mayI_0 h_20]; try omega)) (by omega) (by omega)
  refine x_sub (L' := [(0, .ref (B + c)), (1, .ref (B + o)), (2, .ref (B + d)), (3, .int (zI 0)), (4, .int (zI 0))]) [2, 3, 4, 1, 0] rfl ?_
  exact LOOP5 (_) 0 0 (by omega) (by rfl) (by omega) (Nat.lt_succ_self _)
