theorem dX11_isCell_0 : decode cX11_isCell 0 = .ok (.iload_n 0, 1) := by decide +kernel
theorem dX11_isCell_1 : decode cX11_isCell 1 = .ok (.ifCond .lt 13, 3) := by decide +kernel
theorem dX11_isCell_14 : decode cX11_isCell 14 = .ok (.iconst 0, 1) := by decide +kernel
theorem dX11_isCell_15 : decode cX11_isCell 15 = .ok (.ireturn, 1) := by decide +kernel
theorem dX11_isCell_4 : decode cX11_isCell 4 = .ok (.iload_n 0, 1) := by decide +kernel
theorem dX11_isCell_5 : decode cX11_isCell 5 = .ok (.bipush 48, 2) := by decide +kernel
theorem dX11_isCell_7 : decode cX11_isCell 7 = .ok (.if_icmp .ge 7, 3) := by decide +kernel
theorem dX11_isCell_10 : decode cX11_isCell 10 = .ok (.iconst 1, 1) := by decide +kernel
theorem dX11_isCell_11 : decode cX11_isCell 11 = .ok (.goto 4, 3) := by decide +kernel
theorem dX11_isLand_0 : decode cX11_isLand 0 = .ok (.iload_n 0, 1) := by decide +kernel
theorem dX11_isLand_1 : decode cX11_isLand 1 = .ok (.ifCond .eq 8, 3) := by decide +kernel
theorem dX11_isLand_9 : decode cX11_isLand 9 = .ok (.iconst 1, 1) := by decide +kernel
theorem dX11_isLand_10 : decode cX11_isLand 10 = .ok (.goto 4, 3) := by decide +kernel
theorem dX11_isLand_14 : decode cX11_isLand 14 = .ok (.ireturn, 1) := by decide +kernel
theorem dX11_isLand_4 : decode cX11_isLand 4 = .ok (.iload_n 0, 1) := by decide +kernel
theorem dX11_isLand_5 : decode cX11_isLand 5 = .ok (.iconst 1, 1) := by decide +kernel
theorem dX11_isLand_6 : decode cX11_isLand 6 = .ok (.if_icmp .ne 7, 3) := by decide +kernel
theorem dX11_isLand_13 : decode cX11_isLand 13 = .ok (.iconst 0, 1) := by decide +kernel
theorem dX3_lineBehind_0 : decode cX3_lineBehind 0 = .ok (.aload_n 0, 1) := by decide +kernel
theorem dX3_lineBehind_1 : decode cX3_lineBehind 1 = .ok (.getfield 53, 3) := by decide +kernel
theorem dX3_lineBehind_4 : decode cX3_lineBehind 4 = .ok (.aload_n 3, 1) := by decide +kernel
set_option maxRecDepth 20000 in
theorem ggX3_lineBehind_X4_become : GoodIn wsX3_lineBehind wsX4_become := goodIn_r _ [6, 7, 8, 9, 10, 11, 12, 13, 14, 15, 67, 68, 69, 70, 71] (by decide +kernel) (by decide +kernel)
set_option maxRecDepth 20000 in
theorem gX3_lineBehind_X4_become : GoodIn wsX3_lineBehind (wsV RX3 106 RX4 yX4_become wsX4_become) := goodIn_app (goodIn_of _ (by decide +kernel)) ggX3_lineBehind_X4_become
theorem dX3_lineBehind_5 : decode cX3_lineBehind 5 = .ok (.invokevirtual 106, 3) := by decide +kernel
theorem dX3_lineBehind_8 : decode cX3_lineBehind 8 = .ok (.iload_n 2, 1) := by decide +kernel
set_option maxRecDepth 20000 in
theorem ggX3_lineBehind_X11_isCell : GoodIn wsX3_lineBehind wsX11_isCell := goodIn_r _ [18] (by decide +kernel) (by decide +kernel)
set_option maxRecDepth 20000 in
theorem gX3_lineBehind_X11_isCell_n125 : GoodIn wsX3_lineBehind (wsX11_isCell) := ggX3_lineBehind_X11_isCell
theorem dX3_lineBehind_9 : decode cX3_lineBehind 9 = .ok (.invokestatic 125, 3) := by decide +kernel
theorem dX3_lineBehind_12 : decode cX3_lineBehind 12 = .ok (.ifCond .eq 13, 3) := by decide +kernel
theorem dX3_lineBehind_25 : decode cX3_lineBehind 25 = .ok (.aload_n 0, 1) := by decide +kernel
theorem dX3_lineBehind_26 : decode cX3_lineBehind 26 = .ok (.getfield 53, 3) := by decide +kernel
theorem dX3_lineBehind_29 : decode cX3_lineBehind 29 = .ok (.areturn, 1) := by decide +kernel
theorem dX3_lineBehind_15 : decode cX3_lineBehind 15 = .ok (.aload_n 0, 1) := by decide +kernel
theorem dX3_lineBehind_16 : decode cX3_lineBehind 16 = .ok (.getfield 53, 3) := by decide +kernel
theorem dX3_lineBehind_19 : decode cX3_lineBehind 19 = .ok (.aload_n 1, 1) := by decide +kernel
theorem dX3_lineBehind_20 : decode cX3_lineBehind 20 = .ok (.iload_n 2, 1) := by decide +kernel
theorem dX3_lineBehind_21 : decode cX3_lineBehind 21 = .ok (.aload_n 0, 1) := by decide +kernel
set_option maxRecDepth 20000 in
theorem ggX3_lineBehind_X4_move : GoodIn wsX3_lineBehind wsX4_move := goodIn_r _ [22, 23, 24, 25, 7, 26, 27, 28, 29, 30, 31, 5, 32, 8, 13, 33, 34, 35, 36, 37, 38, 39, 40, 41, 42, 43, 44, 45, 46, 47, 48, 49, 50, 51, 52, 53, 54, 55, 14, 15, 67, 68, 69, 70, 71, 56, 57, 58, 59, 60, 61, 62, 63, 64, 65, 66] (by decide +kernel) (by decide +kernel)
set_option maxRecDepth 20000 in
theorem gX3_lineBehind_X4_move : GoodIn wsX3_lineBehind (wsV RX3 110 RX4 yX4_move wsX4_move) := goodIn_app (goodIn_of _ (by decide +kernel)) ggX3_lineBehind_X4_move
theorem dX3_lineBehind_22 : decode cX3_lineBehind 22 = .ok (.invokevirtual 110, 3) := by decide +kernel
theorem dX3_leadPlayed_0 : decode cX3_leadPlayed 0 = .ok (.aload_n 0, 1) := by decide +kernel
theorem dX3_leadPlayed_1 : decode cX3_leadPlayed 1 = .ok (.aload_n 1, 1) := by decide +kernel
theorem dX3_leadPlayed_2 : decode cX3_leadPlayed 2 = .ok (.iload_n 2, 1) := by decide +kernel
theorem dX3_leadPlayed_3 : decode cX3_leadPlayed 3 = .ok (.aload 4, 2) := by decide +kernel
set_option maxRecDepth 20000 in
theorem ggX3_leadPlayed_X3_lineBehind : GoodIn wsX3_leadPlayed wsX3_lineBehind := goodIn_r _ [8, 9, 10, 11, 12, 13, 14, 15, 16, 17, 18, 19, 20, 21, 22, 23, 24, 25, 26, 27, 28, 29, 30, 31, 32, 33, 34, 35, 36, 37, 38, 39, 40, 41, 42, 43, 44, 45, 46, 47, 48, 49, 50, 51, 52, 53, 54, 55, 56, 57, 58, 59, 60, 61, 62, 63, 142, 143, 144, 145, 146, 147, 148, 149, 150, 151, 152, 153, 154, 155, 156, 157] (by decide +kernel) (by decide +kernel)
set_option maxRecDepth 20000 in
theorem gX3_leadPlayed_X3_lineBehind : GoodIn wsX3_leadPlayed (wsV RX3 129 RX3 yX3_lineBehind wsX3_lineBehind) := goodIn_app (goodIn_of _ (by decide +kernel)) ggX3_leadPlayed_X3_lineBehind
theorem dX3_leadPlayed_5 : decode cX3_leadPlayed 5 = .ok (.invokevirtual 129, 3) := by decide +kernel
theorem dX3_leadPlayed_8 : decode cX3_leadPlayed 8 = .ok (.astore 5, 2) := by decide +kernel
theorem dX3_leadPlayed_10 : decode cX3_leadPlayed 10 = .ok (.aload_n 0, 1) := by decide +kernel
theorem dX3_leadPlayed_11 : decode cX3_leadPlayed 11 = .ok (.aload_n 3, 1) := by decide +kernel
theorem dX3_leadPlayed_12 : decode cX3_leadPlayed 12 = .ok (.aload 5, 2) := by decide +kernel
set_option maxRecDepth 20000 in
theorem ggX3_leadPlayed_X3_bestOf : GoodIn wsX3_leadPlayed wsX3_bestOf := goodIn_r _ [67, 1, 2, 68, 69, 70, 7, 71, 72, 73, 74, 75, 76, 77, 78, 79, 80, 81, 82, 83, 84, 85, 86, 87, 88, 89, 90, 91, 92, 93, 94, 95, 96, 97, 13, 98, 22, 23, 99, 100, 101, 102, 3, 10, 11, 12, 14, 15, 16, 17, 18, 19, 20, 21, 27, 28, 29, 30, 31, 32, 33, 34, 35, 36, 37, 38, 39, 40, 41, 42, 43, 44, 45, 46, 47, 48, 49, 50, 51, 52, 53, 54, 55, 56, 57, 58, 59, 60, 61, 62, 63, 103, 104, 105, 106, 107, 108, 109, 110, 111, 112, 113, 114, 115, 116, 117, 122, 123, 124, 125, 126, 127, 128, 129, 130, 131, 132, 133, 134, 135, 136, 137, 138, 139, 140, 141, 142, 143, 144, 145, 146, 147, 148, 149, 150, 151, 152, 153, 154, 155, 156, 157] (by decide +kernel) (by decide +kernel)
set_option maxRecDepth 20000 in
theorem gX3_leadPlayed_X3_bestOf : GoodIn wsX3_leadPlayed (wsV RX3 132 RX3 yX3_bestOf wsX3_bestOf) := goodIn_app (goodIn_of _ (by decide +kernel)) ggX3_leadPlayed_X3_bestOf
theorem dX3_leadPlayed_14 : decode cX3_leadPlayed 14 = .ok (.invokevirtual 132, 3) := by decide +kernel
theorem dX3_leadPlayed_17 : decode cX3_leadPlayed 17 = .ok (.istore 6, 2) := by decide +kernel
theorem dX3_leadPlayed_19 : decode cX3_leadPlayed 19 = .ok (.iload 6, 2) := by decide +kernel
theorem dX3_leadPlayed_21 : decode cX3_leadPlayed 21 = .ok (.ldc 121, 2) := by decide +kernel
theorem dX3_leadPlayed_23 : decode cX3_leadPlayed 23 = .ok (.if_icmp .eq 29, 3) := by decide +kernel
theorem dX3_leadPlayed_52 : decode cX3_leadPlayed 52 = .ok (.iconst 0, 1) := by decide +kernel
theorem dX3_leadPlayed_53 : decode cX3_leadPlayed 53 = .ok (.istore 7, 2) := by decide +kernel
theorem dX3_leadPlayed_55 : decode cX3_leadPlayed 55 = .ok (.aload_n 0, 1) := by decide +kernel
theorem dX3_leadPlayed_56 : decode cX3_leadPlayed 56 = .ok (.aload_n 1, 1) := by decide +kernel
theorem dX3_leadPlayed_57 : decode cX3_leadPlayed 57 = .ok (.getfield 99, 3) := by decide +kernel
theorem dX3_leadPlayed_60 : decode cX3_leadPlayed 60 = .ok (.iload 7, 2) := by decide +kernel
theorem dX3_leadPlayed_62 : decode cX3_leadPlayed 62 = .ok (.ifCond .eq 10, 3) := by decide +kernel
theorem dX3_leadPlayed_72 : decode cX3_leadPlayed 72 = .ok (.aload 5, 2) := by decide +kernel
set_option maxRecDepth 20000 in
theorem ggX3_leadPlayed_X3_leadOf : GoodIn wsX3_leadPlayed wsX3_leadOf := goodIn_r _ [106, 107, 108, 109, 7, 110, 111, 112, 113, 142, 143, 144, 145, 146, 147, 148, 149, 150, 151, 152, 153, 154, 155, 156, 157] (by decide +kernel) (by decide +kernel)
set_option maxRecDepth 20000 in
theorem gX3_leadPlayed_X3_leadOf : GoodIn wsX3_leadPlayed (wsV RX3 118 RX3 yX3_leadOf wsX3_leadOf) := goodIn_app (goodIn_of _ (by decide +kernel)) ggX3_leadPlayed_X3_leadOf
theorem dX3_leadPlayed_74 : decode cX3_leadPlayed 74 = .ok (.invokevirtual 118, 3) := by decide +kernel
theorem dX3_leadPlayed_77 : decode cX3_leadPlayed 77 = .ok (.ireturn, 1) := by decide +kernel
theorem dX3_leadPlayed_26 : decode cX3_leadPlayed 26 = .ok (.aload_n 0, 1) := by decide +kernel
theorem dX3_leadPlayed_27 : decode cX3_leadPlayed 27 = .ok (.aload_n 3, 1) := by decide +kernel
theorem dX3_leadPlayed_28 : decode cX3_leadPlayed 28 = .ok (.iload 6, 2) := by decide +kernel
theorem dX3_leadPlayed_30 : decode cX3_leadPlayed 30 = .ok (.aload 5, 2) := by decide +kernel
set_option maxRecDepth 20000 in
theorem ggX3_leadPlayed_X3_leadBehind : GoodIn wsX3_leadPlayed wsX3_leadBehind := goodIn_r _ [121, 2, 99, 100, 101, 7, 102, 3, 10, 11, 12, 13, 14, 15, 16, 17, 18, 19, 20, 21, 22, 23, 27, 28, 29, 30, 31, 32, 33, 34, 35, 36, 37, 38, 39, 40, 41, 42, 43, 44, 45, 46, 47, 48, 49, 50, 51, 52, 53, 54, 55, 56, 57, 58, 59, 60, 61, 62, 63, 103, 104, 105, 106, 107, 108, 109, 110, 111, 112, 113, 122, 123, 124, 125, 126, 127, 128, 129, 130, 131, 132, 133, 134, 135, 136, 137, 138, 139, 140, 141, 142, 143, 144, 145, 146, 147, 148, 149, 150, 151, 152, 153, 154, 155, 156, 157] (by decide +kernel) (by decide +kernel)
set_option maxRecDepth 20000 in
theorem gX3_leadPlayed_X3_leadBehind : GoodIn wsX3_leadPlayed (wsV RX3 136 RX3 yX3_leadBehind wsX3_leadBehind) := goodIn_app (goodIn_of _ (by decide +kernel)) ggX3_leadPlayed_X3_leadBehind
theorem dX3_leadPlayed_32 : decode cX3_leadPlayed 32 = .ok (.invokevirtual 136, 3) := by decide +kernel
theorem dX3_leadPlayed_35 : decode cX3_leadPlayed 35 = .ok (.aload_n 0, 1) := by decide +kernel
theorem dX3_leadPlayed_36 : decode cX3_leadPlayed 36 = .ok (.aload_n 3, 1) := by decide +kernel
theorem dX3_leadPlayed_37 : decode cX3_leadPlayed 37 = .ok (.getfield 99, 3) := by decide +kernel
theorem dX3_leadPlayed_40 : decode cX3_leadPlayed 40 = .ok (.aload 5, 2) := by decide +kernel
theorem dX3_leadPlayed_42 : decode cX3_leadPlayed 42 = .ok (.invokevirtual 118, 3) := by decide +kernel
theorem dX3_leadPlayed_45 : decode cX3_leadPlayed 45 = .ok (.if_icmp .le 7, 3) := by decide +kernel
theorem dX3_leadPlayed_48 : decode cX3_leadPlayed 48 = .ok (.iconst 1, 1) := by decide +kernel
theorem dX3_leadPlayed_49 : decode cX3_leadPlayed 49 = .ok (.goto 4, 3) := by decide +kernel
theorem dX3_leadPlayed_65 : decode cX3_leadPlayed 65 = .ok (.aload_n 0, 1) := by decide +kernel
theorem dX3_leadPlayed_66 : decode cX3_leadPlayed 66 = .ok (.getfield 49, 3) := by decide +kernel
theorem dX3_leadPlayed_69 : decode cX3_leadPlayed 69 = .ok (.goto 5, 3) := by decide +kernel
set_option maxRecDepth 100000 in
set_option maxHeartbeats 4000000 in
theorem c_X11_isCell {E : XE} {B N : Nat} {v : Nat → va_E} {x : Int} (hq0 : (-2147483648 ≤ x ∧ x ≤ 2147483647)) : gM yX11_isCell wsX11_isCell ({ frames := 0, cells := 0, slots := 0, locals := 0 }) E B N v [.int (zI x)] (po0 N (fun ρ v' => ρ = some (.int (zI (bI (0 ≤ x ∧ x < 48)))) ∧ v = v')) := by
  refine x_met (nm := "isCell") (by decide +kernel) rfl (Nat.le_of_ble_eq_true rfl) rfl (fun Γ K KR hnL hnm => ?_)
  show XW Γ N v [(0, .int (zI x))] 0 0 0 []
  refine x_iload_n (pc := 0) 0 K rfl rfl dX11_isCell_0 ?_
  refine x_if_lt (pc := 1) (tgt := 14) K (by omega) dX11_isCell_1 (by decide) (fun h_1 => ?_) (fun h_1 => ?_)
  · skip
    refine x_iconst (pc := 14) K dX11_isCell_14 ?_
    refine x_zret (pc := 15) K KR (by omega) (Nat.le_of_ble_eq_true rfl) (Nat.le_of_ble_eq_true rfl) rfl dX11_isCell_15 ?_
    exact ⟨rfl, ri (by unfold bI; split <;> omega), rfl⟩
  · skip
    refine x_iload_n (pc := 4) 0 K rfl rfl dX11_isCell_4 ?_
    refine x_bipush (pc := 5) K (by decide) dX11_isCell_5 ?_
    refine x_icmp_ge (pc := 7) (tgt := 14) K (by omega) (by decide) dX11_isCell_7 (by decide) (fun h_7 => ?_) (fun h_7 => ?_)
    · skip
      refine x_iconst (pc := 14) K dX11_isCell_14 ?_
      refine x_zret (pc := 15) K KR (by omega) (Nat.le_of_ble_eq_true rfl) (Nat.le_of_ble_eq_true rfl) rfl dX11_isCell_15 ?_
      exact ⟨rfl, ri (by unfold bI; split <;> omega), rfl⟩
    · skip
      refine x_iconst (pc := 10) K dX11_isCell_10 ?_
      refine x_goto (pc := 11) (tgt := 15) K dX11_isCell_11 (by decide) ?_
      refine x_zret (pc := 15) K KR (by omega) (Nat.le_of_ble_eq_true rfl) (Nat.le_of_ble_eq_true rfl) rfl dX11_isCell_15 ?_
      exact ⟨rfl, ri (by unfold bI; split <;> omega), rfl⟩

set_option maxRecDepth 100000 in
set_option maxHeartbeats 4000000 in
theorem c_X11_isLand {E : XE} {B N : Nat} {v : Nat → va_E} {x : Int} (hq0 : (-2147483648 ≤ x ∧ x ≤ 2147483647)) : gM yX11_isLand wsX11_isLand ({ frames := 0, cells := 0, slots := 0, locals := 0 }) E B N v [.int (zI x)] (po0 N (fun ρ v' => ρ = some (.int (zI (bI (0 ≤ x ∧ x ≤ 1)))) ∧ v = v')) := by
  refine x_met (nm := "isLand") (by decide +kernel) rfl (Nat.le_of_ble_eq_true rfl) rfl (fun Γ K KR hnL hnm => ?_)
  show XW Γ N v [(0, .int (zI x))] 0 0 0 []
  refine x_iload_n (pc := 0) 0 K rfl rfl dX11_isLand_0 ?_
  refine x_if_eq (pc := 1) (tgt := 9) K (by omega) dX11_isLand_1 (by decide) (fun h_1 => ?_) (fun h_1 => ?_)
  · skip
    refine x_iconst (pc := 9) K dX11_isLand_9 ?_
    refine x_goto (pc := 10) (tgt := 14) K dX11_isLand_10 (by decide) ?_
    refine x_zret (pc := 14) K KR (by omega) (Nat.le_of_ble_eq_true rfl) (Nat.le_of_ble_eq_true rfl) rfl dX11_isLand_14 ?_
    exact ⟨rfl, ri (by unfold bI; split <;> omega), rfl⟩
  · skip
    refine x_iload_n (pc := 4) 0 K rfl rfl dX11_isLand_4 ?_
    refine x_iconst (pc := 5) K dX11_isLand_5 ?_
    refine x_icmp_ne (pc := 6) (tgt := 13) K (by omega) (by decide) dX11_isLand_6 (by decide) (fun h_6 => ?_) (fun h_6 => ?_)
    · skip
      refine x_iconst (pc := 13) K dX11_isLand_13 ?_
      refine x_zret (pc := 14) K KR (by omega) (Nat.le_of_ble_eq_true rfl) (Nat.le_of_ble_eq_true rfl) rfl dX11_isLand_14 ?_
      exact ⟨rfl, ri (by unfold bI; split <;> omega), rfl⟩
    · skip
      refine x_iconst (pc := 9) K dX11_isLand_9 ?_
      refine x_goto (pc := 10) (tgt := 14) K dX11_isLand_10 (by decide) ?_
      refine x_zret (pc := 14) K KR (by omega) (Nat.le_of_ble_eq_true rfl) (Nat.le_of_ble_eq_true rfl) rfl dX11_isLand_14 ?_
      exact ⟨rfl, ri (by unfold bI; split <;> omega), rfl⟩

set_option maxRecDepth 100000 in
set_option maxHeartbeats 4000000 in
theorem c_X3_lineBehind {E : XE} {B N : Nat} {v : Nat → va_E} {c d n o who k : Nat} {p g h s t : Nat → Int} {l : Cor} {ci : Int} {g8 h8 s8 t8 : Nat → Int} {n8 : Nat} (hc0 : Cel N v c (.inr (3, [.int (zI (p 0)), .int (zI (p 1)), .int (zI (p 2)), .ref (B + (c + 1)), .ref (B + (c + 2)), .int (zI (p 3)), .ref (B + (c + 3)), .int (zI (p 4)), .ref (B + (c + 4)), .ref (B + (c + 13)), .ref (B + (c + 18))]))) (hc1 : Cel N v (c + 18) (.inr (4, [.ref (B + (c + 19)), .ref (B + (c + 20)), .int (zI (n8 : Int)), .ref (B + (c + 21)), .ref (B + (c + 22))]))) (hc2 : Cel N v (c + 19) (iarr E 8 g8)) (hc3 : Cel N v (c + 20) (barr E 8 h8)) (hc4 : Cel N v (c + 21) (iarr E 8 s8)) (hc5 : Cel N v (c + 22) (iarr E 8 t8)) (hc6 : Cel N v d (.inr (4, [.ref (B + (d + 1)), .ref (B + (d + 2)), .int (zI (n : Int)), .ref (B + (d + 3)), .ref (B + (d + 4))]))) (hc7 : Cel N v (d + 1) (iarr E 8 g)) (hc8 : Cel N v (d + 2) (barr E 8 h)) (hc9 : Cel N v (d + 3) (iarr E 8 s)) (hc10 : Cel N v (d + 4) (iarr E 8 t)) (hc11 : Cel N v o (.inr ((kci (p (5 + who))), [.int (zI (who : Int)), .int (zI (p (10 + who))), .int (zI (p (15 + who))), .int (zI (p (20 + who)))]))) (hq0 : LR g h l) (hq1 : n = l.length ∧ (l.length : Int) ≤ p 2) (hq2 : CorOk l) (hq3 : SR (p 0) (p 1) l s t) (hq4 : POk p) (hq5 : who < 5) (hq6 : (ci = (k : Int) - 1 ∧ 1 ≤ k ∧ k ≤ 48) ∨ (ci < 0 ∧ k = 0)) (hq7 : (-2147483648 ≤ ci ∧ ci ≤ 2147483647)) (hq8 : 1 ≤ p (5 + who) ∧ p (5 + who) ≤ 5) (hq9 : d + 5 ≤ c) (hq10 : c + 23 ≤ o) : gM yX3_lineBehind wsX3_lineBehind ({ frames := 3, cells := 0, slots := 0, locals := 78 }) E B N v [.ref (B + c), .ref (B + o), .int (zI ci), .ref (B + d)] (po0 N (fun ρ v' => ∃ (g2 : Nat → Int), ∃ (h2 : Nat → Int), ∃ (s2 : Nat → Int), ∃ (t2 : Nat → Int), (LR g2 h2 (mvA p l who k)) ∧ (SR (p 0) (p 1) (mvA p l who k) s2 t2) ∧ ρ = some (.ref (B + (c + 18))) ∧ (va_up (va_up (va_up (va_up (va_up v (c + 18) (.inr (4, [.ref (B + (c + 19)), .ref (B + (c + 20)), .int (zI (((mvA p l who k).length : Nat) : Int)), .ref (B + (c + 21)), .ref (B + (c + 22))]))) (c + 19) (iarr E 8 g2)) (c + 20) (barr E 8 h2)) (c + 21) (iarr E 8 s2)) (c + 22) (iarr E 8 t2)) = v')) := by
  refine x_met (nm := "lineBehind") (by decide +kernel) rfl (Nat.le_of_ble_eq_true rfl) rfl (fun Γ K KR hnL hnm => ?_)
  show XW Γ N v [(0, .ref (B + c)), (1, .ref (B + o)), (2, .int (zI ci)), (3, .ref (B + d))] 0 0 0 []
  have hP0 := hq4.1
  have hP1 := hq4.2.1
  have hP2 := hq4.2.2.1
  refine x_v (cel_pad hc1) ?_
  refine x_v (cel_pad (cel_ne hc2 (by omega))) ?_
  refine x_v (cel_pad (cel_ne (cel_ne hc3 (by omega)) (by omega))) ?_
  refine x_v (cel_pad (cel_ne (cel_ne (cel_ne hc4 (by omega)) (by omega)) (by omega))) ?_
  refine x_v (cel_pad (cel_ne (cel_ne (cel_ne (cel_ne hc5 (by omega)) (by omega)) (by omega)) (by omega))) ?_
  refine x_aload_n (pc := 0) 0 K rfl rfl dX3_lineBehind_0 ?_
  refine x_get (pc := 1) (C := RX3) (T := TX3) (n := 11) (ci := 3) (idx := 53) (ref := "BorderBeds$Ground") (x := .ref (B + (c + 18)))  K (cel_ne (cel_ne (cel_ne (cel_ne (cel_ne hc0 (by omega)) (by omega)) (by omega)) (by omega)) (by omega)) rfl (by decide +kernel) 10 (by decide) (by decide +kernel) rfl rfl dX3_lineBehind_1 ?_
  refine x_aload_n (pc := 4) 3 K rfl rfl dX3_lineBehind_4 ?_
  refine x_callV (pc := 5) (C := RX4) (T := TX4) (n := 5) (ci := 4) (As := [.ref (B + d)]) K (c_X4_become (E := E) (B := B) (N := N)   (cel_ne (cel_ne (cel_ne (cel_ne (cel_self hc1.1) (by omega)) (by omega)) (by omega)) (by omega)) (cel_ne (cel_ne (cel_ne (cel_self hc2.1) (by omega)) (by omega)) (by omega)) (cel_ne (cel_ne (cel_self hc3.1) (by omega)) (by omega)) (cel_ne (cel_self hc4.1) (by omega)) (cel_self hc5.1) (cel_ne (cel_ne (cel_ne (cel_ne (cel_ne hc6 (by omega)) (by omega)) (by omega)) (by omega)) (by omega)) (cel_ne (cel_ne (cel_ne (cel_ne (cel_ne hc7 (by omega)) (by omega)) (by omega)) (by omega)) (by omega)) (cel_ne (cel_ne (cel_ne (cel_ne (cel_ne hc8 (by omega)) (by omega)) (by omega)) (by omega)) (by omega)) (cel_ne (cel_ne (cel_ne (cel_ne (cel_ne hc9 (by omega)) (by omega)) (by omega)) (by omega)) (by omega)) (cel_ne (cel_ne (cel_ne (cel_ne (cel_ne hc10 (by omega)) (by omega)) (by omega)) (by omega)) (by omega)) (by omega) hq0.2) gX3_lineBehind_X4_become rfl (na := 1) (by decide +kernel) rfl ⟨(Nat.le_of_ble_eq_true rfl), (Nat.le_of_ble_eq_true rfl)⟩ (cel_ne (cel_ne (cel_ne (cel_ne (cel_self hc1.1) (by omega)) (by omega)) (by omega)) (by omega)) rfl (st := []) rfl (Nat.le_of_ble_eq_true rfl) ⟨(Nat.le_of_ble_eq_true rfl), (Nat.le_of_ble_eq_true rfl)⟩ dX3_lineBehind_5 (fun r5 N5 w5 hpo5 hN5 => ?_)
  obtain ⟨rfl, rfl, rfl⟩ := hpo5
  refine x_v (congrArg (fun w => (va_up (va_up (va_up (va_up w (c + 19) (iarr E 8 g)) (c + 20) (barr E 8 h)) (c + 21) (iarr E 8 s)) (c + 22) (iarr E 8 t))) (show (va_up (va_up (va_up (va_up (va_up v (c + 18) (.inr (4, [.ref (B + (c + 19)), .ref (B + (c + 20)), .int (zI (n : Int)), .ref (B + (c + 21)), .ref (B + (c + 22))]))) (c + 19) (iarr E 8 g8)) (c + 20) (barr E 8 h8)) (c + 21) (iarr E 8 s8)) (c + 22) (iarr E 8 t8)) = _ from (up_at4 (by omega) (by omega) (by omega) (by omega)).symm)) ?_
  refine x_v (congrArg (fun w => (va_up (va_up (va_up w (c + 20) (barr E 8 h)) (c + 21) (iarr E 8 s)) (c + 22) (iarr E 8 t))) (show (va_up (va_up (va_up (va_up (va_up v (c + 18) (.inr (4, [.ref (B + (c + 19)), .ref (B + (c + 20)), .int (zI (n : Int)), .ref (B + (c + 21)), .ref (B + (c + 22))]))) (c + 19) (iarr E 8 g)) (c + 20) (barr E 8 h8)) (c + 21) (iarr E 8 s8)) (c + 22) (iarr E 8 t8)) = _ from (up_at3 (by omega) (by omega) (by omega)).symm)) ?_
  refine x_v (congrArg (fun w => (va_up (va_up w (c + 21) (iarr E 8 s)) (c + 22) (iarr E 8 t))) (show (va_up (va_up (va_up (va_up (va_up v (c + 18) (.inr (4, [.ref (B + (c + 19)), .ref (B + (c + 20)), .int (zI (n : Int)), .ref (B + (c + 21)), .ref (B + (c + 22))]))) (c + 19) (iarr E 8 g)) (c + 20) (barr E 8 h)) (c + 21) (iarr E 8 s8)) (c + 22) (iarr E 8 t8)) = _ from (up_at2 (by omega) (by omega)).symm)) ?_
  refine x_v (congrArg (fun w => (va_up w (c + 22) (iarr E 8 t))) (show (va_up (va_up (va_up (va_up (va_up v (c + 18) (.inr (4, [.ref (B + (c + 19)), .ref (B + (c + 20)), .int (zI (n : Int)), .ref (B + (c + 21)), .ref (B + (c + 22))]))) (c + 19) (iarr E 8 g)) (c + 20) (barr E 8 h)) (c + 21) (iarr E 8 s)) (c + 22) (iarr E 8 t8)) = _ from (up_at1 (by omega)).symm)) ?_
  refine x_v (w := (va_up (va_up (va_up (va_up (va_up v (c + 18) (.inr (4, [.ref (B + (c + 19)), .ref (B + (c + 20)), .int (zI (n : Int)), .ref (B + (c + 21)), .ref (B + (c + 22))]))) (c + 19) (iarr E 8 g)) (c + 20) (barr E 8 h)) (c + 21) (iarr E 8 s)) (c + 22) (iarr E 8 t))) (up_at0).symm ?_
  refine x_st (st' := []) rfl ?_
  refine x_iload_n (pc := 8) 2 K rfl rfl dX3_lineBehind_8 ?_
  refine x_callSN (pc := 9) (As := [.int (zI ci)]) K (c_X11_isCell (E := E) (B := B) (N := N)    (by omega)) gX3_lineBehind_X11_isCell_n125 rfl (by decide +kernel) (by decide +kernel) (by decide +kernel) (na := 1) (by decide +kernel) rfl ⟨(Nat.le_of_ble_eq_true rfl), (Nat.le_of_ble_eq_true rfl)⟩ (st := []) rfl (Nat.le_of_ble_eq_true rfl) ⟨(Nat.le_of_ble_eq_true rfl), (Nat.le_of_ble_eq_true rfl)⟩ dX3_lineBehind_9 (fun r9 N9 w9 hpo9 hN9 => ?_)
  obtain ⟨rfl, rfl, rfl⟩ := hpo9
  refine x_st (st' := [.int (zI (bI (0 ≤ ci ∧ ci < 48)))]) rfl ?_
  have hrg9 := bI_rng (0 ≤ ci ∧ ci < 48)
  refine x_if_eq (pc := 12) (tgt := 25) K (by omega) dX3_lineBehind_12 (by decide) (fun h_12 => ?_) (fun h_12 => ?_)
  · skip
    have h_12 := bI_t h_12
    have hmv : (mvA p l who k) = l := by unfold mvA; rw [if_pos (by omega)]
    refine x_aload_n (pc := 25) 0 K rfl rfl dX3_lineBehind_25 ?_
    refine x_get (pc := 26) (C := RX3) (T := TX3) (n := 11) (ci := 3) (idx := 53) (ref := "BorderBeds$Ground") (x := .ref (B + (c + 18)))  K (cel_ne (cel_ne (cel_ne (cel_ne (cel_ne hc0 (by omega)) (by omega)) (by omega)) (by omega)) (by omega)) rfl (by decide +kernel) 10 (by decide) (by decide +kernel) rfl rfl dX3_lineBehind_26 ?_
    refine x_aret (pc := 29) K KR (by omega) (Nat.le_of_ble_eq_true rfl) (Nat.le_of_ble_eq_true rfl) (Or.inr ⟨_, rfl⟩) dX3_lineBehind_29 ?_
    exact ⟨rfl, g, h, s, t, by rw [hmv]; exact hq0, by rw [hmv]; exact hq3, rfl, by rw [hmv, hq1.1]⟩
  · skip
    have h_12 := bI_f h_12
    obtain ⟨kk, rfl⟩ : ∃ kk : Nat, ci = (kk : Int) := ⟨ci.toNat, by omega⟩
    refine x_aload_n (pc := 15) 0 K rfl rfl dX3_lineBehind_15 ?_
    refine x_get (pc := 16) (C := RX3) (T := TX3) (n := 11) (ci := 3) (idx := 53) (ref := "BorderBeds$Ground") (x := .ref (B + (c + 18)))  K (cel_ne (cel_ne (cel_ne (cel_ne (cel_ne hc0 (by omega)) (by omega)) (by omega)) (by omega)) (by omega)) rfl (by decide +kernel) 10 (by decide) (by decide +kernel) rfl rfl dX3_lineBehind_16 ?_
    refine x_aload_n (pc := 19) 1 K rfl rfl dX3_lineBehind_19 ?_
    refine x_iload_n (pc := 20) 2 K rfl rfl dX3_lineBehind_20 ?_
    refine x_aload_n (pc := 21) 0 K rfl rfl dX3_lineBehind_21 ?_
    refine x_callV (pc := 22) (C := RX4) (T := TX4) (n := 5) (ci := 4) (As := [.ref (B + o), .int (zI (kk : Int)), .ref (B + c)]) K (c_X4_move (E := E) (B := B) (N := N) (l := l) (w := (p 0)) (e := (p 1)) (kp := (p 2)) (cell := kk) rfl (cel_ne (cel_ne (cel_ne (cel_ne (cel_self hc1.1) (by omega)) (by omega)) (by omega)) (by omega)) (cel_ne (cel_ne (cel_ne (cel_self hc2.1) (by omega)) (by omega)) (by omega)) (cel_ne (cel_ne (cel_self hc3.1) (by omega)) (by omega)) (cel_ne (cel_self hc4.1) (by omega)) (cel_self hc5.1) (cel_ne (cel_ne (cel_ne (cel_ne (cel_ne hc0 (by omega)) (by omega)) (by omega)) (by omega)) (by omega)) (cel_ne (cel_ne (cel_ne (cel_ne (cel_ne hc11 (by omega)) (by omega)) (by omega)) (by omega)) (by omega)) hq0 (by omega) hq2 (by omega) (by omega) (by omega) (by omega) hq3 (by omega) (by omega) (by omega)) gX3_lineBehind_X4_move rfl (na := 3) (by decide +kernel) rfl ⟨(Nat.le_of_ble_eq_true rfl), (Nat.le_of_ble_eq_true rfl)⟩ (cel_ne (cel_ne (cel_ne (cel_ne (cel_self hc1.1) (by omega)) (by omega)) (by omega)) (by omega)) rfl (st := []) rfl (Nat.le_of_ble_eq_true rfl) ⟨(Nat.le_of_ble_eq_true rfl), (Nat.le_of_ble_eq_true rfl)⟩ dX3_lineBehind_22 (fun r22 N22 w22 hpo22 hN22 => ?_)
    obtain ⟨rfl, g2_22, h2_22, s2_22, t2_22, z2_22, hp22_0, hp22_1, hp22_2, rfl, rfl⟩ := hpo22
    refine x_v (congrArg (fun w => (va_up (va_up (va_up (va_up w (c + 19) (iarr E 8 g2_22)) (c + 20) (barr E 8 h2_22)) (c + 21) (iarr E 8 s2_22)) (c + 22) (iarr E 8 t2_22))) (show (va_up (va_up (va_up (va_up (va_up v (c + 18) (.inr (4, [.ref (B + (c + 19)), .ref (B + (c + 20)), .int (zI z2_22), .ref (B + (c + 21)), .ref (B + (c + 22))]))) (c + 19) (iarr E 8 g)) (c + 20) (barr E 8 h)) (c + 21) (iarr E 8 s)) (c + 22) (iarr E 8 t)) = _ from (up_at4 (by omega) (by omega) (by omega) (by omega)).symm)) ?_
    refine x_v (congrArg (fun w => (va_up (va_up (va_up w (c + 20) (barr E 8 h2_22)) (c + 21) (iarr E 8 s2_22)) (c + 22) (iarr E 8 t2_22))) (show (va_up (va_up (va_up (va_up (va_up v (c + 18) (.inr (4, [.ref (B + (c + 19)), .ref (B + (c + 20)), .int (zI z2_22), .ref (B + (c + 21)), .ref (B + (c + 22))]))) (c + 19) (iarr E 8 g2_22)) (c + 20) (barr E 8 h)) (c + 21) (iarr E 8 s)) (c + 22) (iarr E 8 t)) = _ from (up_at3 (by omega) (by omega) (by omega)).symm)) ?_
    refine x_v (congrArg (fun w => (va_up (va_up w (c + 21) (iarr E 8 s2_22)) (c + 22) (iarr E 8 t2_22))) (show (va_up (va_up (va_up (va_up (va_up v (c + 18) (.inr (4, [.ref (B + (c + 19)), .ref (B + (c + 20)), .int (zI z2_22), .ref (B + (c + 21)), .ref (B + (c + 22))]))) (c + 19) (iarr E 8 g2_22)) (c + 20) (barr E 8 h2_22)) (c + 21) (iarr E 8 s)) (c + 22) (iarr E 8 t)) = _ from (up_at2 (by omega) (by omega)).symm)) ?_
    refine x_v (congrArg (fun w => (va_up w (c + 22) (iarr E 8 t2_22))) (show (va_up (va_up (va_up (va_up (va_up v (c + 18) (.inr (4, [.ref (B + (c + 19)), .ref (B + (c + 20)), .int (zI z2_22), .ref (B + (c + 21)), .ref (B + (c + 22))]))) (c + 19) (iarr E 8 g2_22)) (c + 20) (barr E 8 h2_22)) (c + 21) (iarr E 8 s2_22)) (c + 22) (iarr E 8 t)) = _ from (up_at1 (by omega)).symm)) ?_
    refine x_v (w := (va_up (va_up (va_up (va_up (va_up v (c + 18) (.inr (4, [.ref (B + (c + 19)), .ref (B + (c + 20)), .int (zI z2_22), .ref (B + (c + 21)), .ref (B + (c + 22))]))) (c + 19) (iarr E 8 g2_22)) (c + 20) (barr E 8 h2_22)) (c + 21) (iarr E 8 s2_22)) (c + 22) (iarr E 8 t2_22))) (up_at0).symm ?_
    refine x_st (st' := []) rfl ?_
    subst hp22_2
    have hmv : (mvA p l who k) = (crossA (p (5 + who)) (p 2) kk l) := by unfold mvA; rw [if_neg (by omega), show k - 1 = kk by omega]
    rw [← hmv] at hp22_0 hp22_1
    refine x_aload_n (pc := 25) 0 K rfl rfl dX3_lineBehind_25 ?_
    refine x_get (pc := 26) (C := RX3) (T := TX3) (n := 11) (ci := 3) (idx := 53) (ref := "BorderBeds$Ground") (x := .ref (B + (c + 18)))  K (cel_ne (cel_ne (cel_ne (cel_ne (cel_ne hc0 (by omega)) (by omega)) (by omega)) (by omega)) (by omega)) rfl (by decide +kernel) 10 (by decide) (by decide +kernel) rfl rfl dX3_lineBehind_26 ?_
    refine x_aret (pc := 29) K KR (by omega) (Nat.le_of_ble_eq_true rfl) (Nat.le_of_ble_eq_true rfl) (Or.inr ⟨_, rfl⟩) dX3_lineBehind_29 ?_
    exact ⟨rfl, g2_22, h2_22, s2_22, t2_22, hp22_0, hp22_1, rfl, by rw [hmv]⟩

set_option maxRecDepth 100000 in
set_option maxHeartbeats 4000000 in
theorem c_X3_leadPlayed {E : XE} {B N : Nat} {v : Nat → va_E} {c d n o o2 who w2 k : Nat} {p g h s t : Nat → Int} {l : Cor} {ci : Int} {g1 h1 s1 t1 : Nat → Int} {n1 : Nat} {g8 h8 s8 t8 : Nat → Int} {n8 : Nat} (hc0 : Cel N v c (.inr (3, [.int (zI (p 0)), .int (zI (p 1)), .int (zI (p 2)), .ref (B + (c + 1)), .ref (B + (c + 2)), .int (zI (p 3)), .ref (B + (c + 3)), .int (zI (p 4)), .ref (B + (c + 4)), .ref (B + (c + 13)), .ref (B + (c + 18))]))) (hc1 : Cel N v (c + 13) (.inr (4, [.ref (B + (c + 14)), .ref (B + (c + 15)), .int (zI (n1 : Int)), .ref (B + (c + 16)), .ref (B + (c + 17))]))) (hc2 : Cel N v (c + 14) (iarr E 8 g1)) (hc3 : Cel N v (c + 15) (barr E 8 h1)) (hc4 : Cel N v (c + 16) (iarr E 8 s1)) (hc5 : Cel N v (c + 17) (iarr E 8 t1)) (hc6 : Cel N v (c + 18) (.inr (4, [.ref (B + (c + 19)), .ref (B + (c + 20)), .int (zI (n8 : Int)), .ref (B + (c + 21)), .ref (B + (c + 22))]))) (hc7 : Cel N v (c + 19) (iarr E 8 g8)) (hc8 : Cel N v (c + 20) (barr E 8 h8)) (hc9 : Cel N v (c + 21) (iarr E 8 s8)) (hc10 : Cel N v (c + 22) (iarr E 8 t8)) (hc11 : Cel N v d (.inr (4, [.ref (B + (d + 1)), .ref (B + (d + 2)), .int (zI (n : Int)), .ref (B + (d + 3)), .ref (B + (d + 4))]))) (hc12 : Cel N v (d + 1) (iarr E 8 g)) (hc13 : Cel N v (d + 2) (barr E 8 h)) (hc14 : Cel N v (d + 3) (iarr E 8 s)) (hc15 : Cel N v (d + 4) (iarr E 8 t)) (hc16 : Cel N v o (.inr ((kci (p (5 + who))), [.int (zI (who : Int)), .int (zI (p (10 + who))), .int (zI (p (15 + who))), .int (zI (p (20 + who)))]))) (hc17 : Cel N v o2 (.inr ((kci (p (5 + w2))), [.int (zI (w2 : Int)), .int (zI (p (10 + w2))), .int (zI (p (15 + w2))), .int (zI (p (20 + w2)))]))) (hc18 : Cel N v (c + 4) (rarr E 6 8 B (ouA c))) (hc19 : Cel N v (c + 2) (barr E 48 (gA p))) (hF0 : ∀ x : Nat, x < 8 → Cel N v (c + 5 + x) (iarr E 7 (wbS p x))) (hq0 : LR g h l) (hq1 : n = l.length ∧ (l.length : Int) ≤ p 2) (hq2 : CorOk l) (hq3 : SR (p 0) (p 1) l s t) (hq4 : POk p) (hq5 : who < 5) (hq6 : (ci = (k : Int) - 1 ∧ 1 ≤ k ∧ k ≤ 48) ∨ (ci < 0 ∧ k = 0)) (hq7 : (-2147483648 ≤ ci ∧ ci ≤ 2147483647)) (hq8 : 1 ≤ p (5 + who) ∧ p (5 + who) ≤ 5) (hq9 : d + 5 ≤ c) (hq10 : c + 23 ≤ o) (hq11 : w2 < 5) (hq12 : 1 ≤ p (5 + w2) ∧ p (5 + w2) ≤ 5) (hq13 : c + 23 ≤ o2) : gM yX3_leadPlayed wsX3_leadPlayed ({ frames := 5, cells := 0, slots := 0, locals := 130 }) E B N v [.ref (B + c), .ref (B + o), .int (zI ci), .ref (B + o2), .ref (B + d)] (po0 N (fun ρ v' => ∃ (n9 : Nat), ∃ (g9 : Nat → Int), ∃ (h9 : Nat → Int), ∃ (s9 : Nat → Int), ∃ (t9 : Nat → Int), ∃ (n7 : Nat), ∃ (g7 : Nat → Int), ∃ (h7 : Nat → Int), ∃ (s7 : Nat → Int), ∃ (t7 : Nat → Int), ρ = some (.int (zI (gameV p l who w2 k))) ∧ (va_up (va_up (va_up (va_up (va_up (va_up (va_up (va_up (va_up (va_up v (c + 13) (.inr (4, [.ref (B + (c + 14)), .ref (B + (c + 15)), .int (zI (n9 : Int)), .ref (B + (c + 16)), .ref (B + (c + 17))]))) (c + 14) (iarr E 8 g9)) (c + 15) (barr E 8 h9)) (c + 16) (iarr E 8 s9)) (c + 17) (iarr E 8 t9)) (c + 18) (.inr (4, [.ref (B + (c + 19)), .ref (B + (c + 20)), .int (zI (n7 : Int)), .ref (B + (c + 21)), .ref (B + (c + 22))]))) (c + 19) (iarr E 8 g7)) (c + 20) (barr E 8 h7)) (c + 21) (iarr E 8 s7)) (c + 22) (iarr E 8 t7)) = v')) := by
  refine x_met (nm := "leadPlayed") (by decide +kernel) rfl (Nat.le_of_ble_eq_true rfl) rfl (fun Γ K KR hnL hnm => ?_)
  show XW Γ N v [(0, .ref (B + c)), (1, .ref (B + o)), (2, .int (zI ci)), (3, .ref (B + o2)), (4, .ref (B + d))] 0 0 0 []
  have hP0 := hq4.1
  have hP1 := hq4.2.1
  have hP2 := hq4.2.2.1
  have hld := (hq4.2.2.2.2.2.1 who hq5).2.1
  have hld2 := (hq4.2.2.2.2.2.1 w2 hq11).2.1
  refine x_v (cel_pad hc1) ?_
  refine x_v (cel_pad (cel_ne hc2 (by omega))) ?_
  refine x_v (cel_pad (cel_ne (cel_ne hc3 (by omega)) (by omega))) ?_
  refine x_v (cel_pad (cel_ne (cel_ne (cel_ne hc4 (by omega)) (by omega)) (by omega))) ?_
  refine x_v (cel_pad (cel_ne (cel_ne (cel_ne (cel_ne hc5 (by omega)) (by omega)) (by omega)) (by omega))) ?_
  refine x_v (cel_pad (cel_ne (cel_ne (cel_ne (cel_ne (cel_ne hc6 (by omega)) (by omega)) (by omega)) (by omega)) (by omega))) ?_
  refine x_v (cel_pad (cel_ne (cel_ne (cel_ne (cel_ne (cel_ne (cel_ne hc7 (by omega)) (by omega)) (by omega)) (by omega)) (by omega)) (by omega))) ?_
  refine x_v (cel_pad (cel_ne (cel_ne (cel_ne (cel_ne (cel_ne (cel_ne (cel_ne hc8 (by omega)) (by omega)) (by omega)) (by omega)) (by omega)) (by omega)) (by omega))) ?_
  refine x_v (cel_pad (cel_ne (cel_ne (cel_ne (cel_ne (cel_ne (cel_ne (cel_ne (cel_ne hc9 (by omega)) (by omega)) (by omega)) (by omega)) (by omega)) (by omega)) (by omega)) (by omega))) ?_
  refine x_v (cel_pad (cel_ne (cel_ne (cel_ne (cel_ne (cel_ne (cel_ne (cel_ne (cel_ne (cel_ne hc10 (by omega)) (by omega)) (by omega)) (by omega)) (by omega)) (by omega)) (by omega)) (by omega)) (by omega))) ?_
  refine x_aload_n (pc := 0) 0 K rfl rfl dX3_leadPlayed_0 ?_
  refine x_aload_n (pc := 1) 1 K rfl rfl dX3_leadPlayed_1 ?_
  refine x_iload_n (pc := 2) 2 K rfl rfl dX3_leadPlayed_2 ?_
  refine x_aload (pc := 3) 4 K rfl dX3_leadPlayed_3 ?_
  refine x_callV (pc := 5) (C := RX3) (T := TX3) (n := 11) (ci := 3) (As := [.ref (B + o), .int (zI ci), .ref (B + d)]) K (c_X3_lineBehind (E := E) (B := B) (N := N) (l := l) (who := who) (k := k)  (cel_ne (cel_ne (cel_ne (cel_ne (cel_ne (cel_ne (cel_ne (cel_ne (cel_ne (cel_ne hc0 (by omega)) (by omega)) (by omega)) (by omega)) (by omega)) (by omega)) (by omega)) (by omega)) (by omega)) (by omega)) (cel_ne (cel_ne (cel_ne (cel_ne (cel_self hc6.1) (by omega)) (by omega)) (by omega)) (by omega)) (cel_ne (cel_ne (cel_ne (cel_self hc7.1) (by omega)) (by omega)) (by omega)) (cel_ne (cel_ne (cel_self hc8.1) (by omega)) (by omega)) (cel_ne (cel_self hc9.1) (by omega)) (cel_self hc10.1) (cel_ne (cel_ne (cel_ne (cel_ne (cel_ne (cel_ne (cel_ne (cel_ne (cel_ne (cel_ne hc11 (by omega)) (by omega)) (by omega)) (by omega)) (by omega)) (by omega)) (by omega)) (by omega)) (by omega)) (by omega)) (cel_ne (cel_ne (cel_ne (cel_ne (cel_ne (cel_ne (cel_ne (cel_ne (cel_ne (cel_ne hc12 (by omega)) (by omega)) (by omega)) (by omega)) (by omega)) (by omega)) (by omega)) (by omega)) (by omega)) (by omega)) (cel_ne (cel_ne (cel_ne (cel_ne (cel_ne (cel_ne (cel_ne (cel_ne (cel_ne (cel_ne hc13 (by omega)) (by omega)) (by omega)) (by omega)) (by omega)) (by omega)) (by omega)) (by omega)) (by omega)) (by omega)) (cel_ne (cel_ne (cel_ne (cel_ne (cel_ne (cel_ne (cel_ne (cel_ne (cel_ne (cel_ne hc14 (by omega)) (by omega)) (by omega)) (by omega)) (by omega)) (by omega)) (by omega)) (by omega)) (by omega)) (by omega)) (cel_ne (cel_ne (cel_ne (cel_ne (cel_ne (cel_ne (cel_ne (cel_ne (cel_ne (cel_ne hc15 (by omega)) (by omega)) (by omega)) (by omega)) (by omega)) (by omega)) (by omega)) (by omega)) (by omega)) (by omega)) (cel_ne (cel_ne (cel_ne (cel_ne (cel_ne (cel_ne (cel_ne (cel_ne (cel_ne (cel_ne hc16 (by omega)) (by omega)) (by omega)) (by omega)) (by omega)) (by omega)) (by omega)) (by omega)) (by omega)) (by omega)) hq0 hq1 hq2 hq3 hq4 (by omega) (by omega) (by omega) (by omega) (by omega) (by omega)) gX3_leadPlayed_X3_lineBehind rfl (na := 3) (by decide +kernel) rfl ⟨(Nat.le_of_ble_eq_true rfl), (Nat.le_of_ble_eq_true rfl)⟩ (cel_ne (cel_ne (cel_ne (cel_ne (cel_ne (cel_ne (cel_ne (cel_ne (cel_ne (cel_ne hc0 (by omega)) (by omega)) (by omega)) (by omega)) (by omega)) (by omega)) (by omega)) (by omega)) (by omega)) (by omega)) rfl (st := []) rfl (Nat.le_of_ble_eq_true rfl) ⟨(Nat.le_of_ble_eq_true rfl), (Nat.le_of_ble_eq_true rfl)⟩ dX3_leadPlayed_5 (fun r5 N5 w5 hpo5 hN5 => ?_)
  obtain ⟨rfl, g2_5, h2_5, s2_5, t2_5, hp5_0, hp5_1, rfl, rfl⟩ := hpo5
  refine x_v (congrArg (fun w => (va_up (va_up (va_up (va_up w (c + 19) (iarr E 8 g2_5)) (c + 20) (barr E 8 h2_5)) (c + 21) (iarr E 8 s2_5)) (c + 22) (iarr E 8 t2_5))) (show (va_up (va_up (va_up (va_up (va_up (va_up (va_up (va_up (va_up (va_up v (c + 13) (.inr (4, [.ref (B + (c + 14)), .ref (B + (c + 15)), .int (zI (n1 : Int)), .ref (B + (c + 16)), .ref (B + (c + 17))]))) (c + 14) (iarr E 8 g1)) (c + 15) (barr E 8 h1)) (c + 16) (iarr E 8 s1)) (c + 17) (iarr E 8 t1)) (c + 18) (.inr (4, [.ref (B + (c + 19)), .ref (B + (c + 20)), .int (zI (((mvA p l who k).length : Nat) : Int)), .ref (B + (c + 21)), .ref (B + (c + 22))]))) (c + 19) (iarr E 8 g8)) (c + 20) (barr E 8 h8)) (c + 21) (iarr E 8 s8)) (c + 22) (iarr E 8 t8)) = _ from (up_at4 (by omega) (by omega) (by omega) (by omega)).symm)) ?_
  refine x_v (congrArg (fun w => (va_up (va_up (va_up w (c + 20) (barr E 8 h2_5)) (c + 21) (iarr E 8 s2_5)) (c + 22) (iarr E 8 t2_5))) (show (va_up (va_up (va_up (va_up (va_up (va_up (va_up (va_up (va_up (va_up v (c + 13) (.inr (4, [.ref (B + (c + 14)), .ref (B + (c + 15)), .int (zI (n1 : Int)), .ref (B + (c + 16)), .ref (B + (c + 17))]))) (c + 14) (iarr E 8 g1)) (c + 15) (barr E 8 h1)) (c + 16) (iarr E 8 s1)) (c + 17) (iarr E 8 t1)) (c + 18) (.inr (4, [.ref (B + (c + 19)), .ref (B + (c + 20)), .int (zI (((mvA p l who k).length : Nat) : Int)), .ref (B + (c + 21)), .ref (B + (c + 22))]))) (c + 19) (iarr E 8 g2_5)) (c + 20) (barr E 8 h8)) (c + 21) (iarr E 8 s8)) (c + 22) (iarr E 8 t8)) = _ from (up_at3 (by omega) (by omega) (by omega)).symm)) ?_
  refine x_v (congrArg (fun w => (va_up (va_up w (c + 21) (iarr E 8 s2_5)) (c + 22) (iarr E 8 t2_5))) (show (va_up (va_up (va_up (va_up (va_up (va_up (va_up (va_up (va_up (va_up v (c + 13) (.inr (4, [.ref (B + (c + 14)), .ref (B + (c + 15)), .int (zI (n1 : Int)), .ref (B + (c + 16)), .ref (B + (c + 17))]))) (c + 14) (iarr E 8 g1)) (c + 15) (barr E 8 h1)) (c + 16) (iarr E 8 s1)) (c + 17) (iarr E 8 t1)) (c + 18) (.inr (4, [.ref (B + (c + 19)), .ref (B + (c + 20)), .int (zI (((mvA p l who k).length : Nat) : Int)), .ref (B + (c + 21)), .ref (B + (c + 22))]))) (c + 19) (iarr E 8 g2_5)) (c + 20) (barr E 8 h2_5)) (c + 21) (iarr E 8 s8)) (c + 22) (iarr E 8 t8)) = _ from (up_at2 (by omega) (by omega)).symm)) ?_
  refine x_v (congrArg (fun w => (va_up w (c + 22) (iarr E 8 t2_5))) (show (va_up (va_up (va_up (va_up (va_up (va_up (va_up (va_up (va_up (va_up v (c + 13) (.inr (4, [.ref (B + (c + 14)), .ref (B + (c + 15)), .int (zI (n1 : Int)), .ref (B + (c + 16)), .ref (B + (c + 17))]))) (c + 14) (iarr E 8 g1)) (c + 15) (barr E 8 h1)) (c + 16) (iarr E 8 s1)) (c + 17) (iarr E 8 t1)) (c + 18) (.inr (4, [.ref (B + (c + 19)), .ref (B + (c + 20)), .int (zI (((mvA p l who k).length : Nat) : Int)), .ref (B + (c + 21)), .ref (B + (c + 22))]))) (c + 19) (iarr E 8 g2_5)) (c + 20) (barr E 8 h2_5)) (c + 21) (iarr E 8 s2_5)) (c + 22) (iarr E 8 t8)) = _ from (up_at1 (by omega)).symm)) ?_
  refine x_v (w := (va_up (va_up (va_up (va_up (va_up (va_up (va_up (va_up (va_up (va_up v (c + 13) (.inr (4, [.ref (B + (c + 14)), .ref (B + (c + 15)), .int (zI (n1 : Int)), .ref (B + (c + 16)), .ref (B + (c + 17))]))) (c + 14) (iarr E 8 g1)) (c + 15) (barr E 8 h1)) (c + 16) (iarr E 8 s1)) (c + 17) (iarr E 8 t1)) (c + 18) (.inr (4, [.ref (B + (c + 19)), .ref (B + (c + 20)), .int (zI (((mvA p l who k).length : Nat) : Int)), .ref (B + (c + 21)), .ref (B + (c + 22))]))) (c + 19) (iarr E 8 g2_5)) (c + 20) (barr E 8 h2_5)) (c + 21) (iarr E 8 s2_5)) (c + 22) (iarr E 8 t2_5))) (up_at0).symm ?_
  refine x_st (st' := [.ref (B + (c + 18))]) rfl ?_
  have hmvo := mvA_ok (p := p) (who := who) (k := k) hq2 (by omega)
  have hmvl := mvA_len (who := who) (k := k) hq1.2 hP2
  refine x_astore (pc := 8) K (L' := [(5, .ref (B + (c + 18))), (0, .ref (B + c)), (1, .ref (B + o)), (2, .int (zI ci)), (3, .ref (B + o2)), (4, .ref (B + d))]) hnL (by decide) rfl dX3_leadPlayed_8 ?_
  refine x_aload_n (pc := 10) 1 K rfl rfl dX3_leadPlayed_10 ?_
  refine x_aload_n (pc := 11) 4 K rfl rfl dX3_leadPlayed_11 ?_
  refine x_aload (pc := 12) 0 K rfl dX3_leadPlayed_12 ?_
  refine x_callV (pc := 14) (C := RX3) (T := TX3) (n := 11) (ci := 3) (As := [.ref (B + o2), .ref (B + (c + 18))]) K (c_X3_bestOf (E := E) (B := B) (N := N) (l := (mvA p l who k)) (who := w2)  (cel_ne (cel_ne (cel_ne (cel_ne (cel_ne (cel_ne (cel_ne (cel_ne (cel_ne (cel_ne hc0 (by omega)) (by omega)) (by omega)) (by omega)) (by omega)) (by omega)) (by omega)) (by omega)) (by omega)) (by omega)) (cel_ne (cel_ne (cel_ne (cel_ne (cel_ne (cel_ne (cel_ne (cel_ne (cel_ne (cel_self hc1.1) (by omega)) (by omega)) (by omega)) (by omega)) (by omega)) (by omega)) (by omega)) (by omega)) (by omega)) (cel_ne (cel_ne (cel_ne (cel_ne (cel_ne (cel_ne (cel_ne (cel_ne (cel_self hc2.1) (by omega)) (by omega)) (by omega)) (by omega)) (by omega)) (by omega)) (by omega)) (by omega)) (cel_ne (cel_ne (cel_ne (cel_ne (cel_ne (cel_ne (cel_ne (cel_self hc3.1) (by omega)) (by omega)) (by omega)) (by omega)) (by omega)) (by omega)) (by omega)) (cel_ne (cel_ne (cel_ne (cel_ne (cel_ne (cel_ne (cel_self hc4.1) (by omega)) (by omega)) (by omega)) (by omega)) (by omega)) (by omega)) (cel_ne (cel_ne (cel_ne (cel_ne (cel_ne (cel_self hc5.1) (by omega)) (by omega)) (by omega)) (by omega)) (by omega)) (cel_ne (cel_ne (cel_ne (cel_ne (cel_self hc6.1) (by omega)) (by omega)) (by omega)) (by omega)) (cel_ne (cel_ne (cel_ne (cel_self hc7.1) (by omega)) (by omega)) (by omega)) (cel_ne (cel_ne (cel_self hc8.1) (by omega)) (by omega)) (cel_ne (cel_self hc9.1) (by omega)) (cel_self hc10.1) (cel_ne (cel_ne (cel_ne (cel_ne (cel_ne (cel_ne (cel_ne (cel_ne (cel_ne (cel_ne hc17 (by omega)) (by omega)) (by omega)) (by omega)) (by omega)) (by omega)) (by omega)) (by omega)) (by omega)) (by omega)) (cel_ne (cel_ne (cel_ne (cel_ne (cel_ne (cel_ne (cel_ne (cel_ne (cel_ne (cel_ne hc18 (by omega)) (by omega)) (by omega)) (by omega)) (by omega)) (by omega)) (by omega)) (by omega)) (by omega)) (by omega)) (cel_ne (cel_ne (cel_ne (cel_ne (cel_ne (cel_ne (cel_ne (cel_ne (cel_ne (cel_ne hc19 (by omega)) (by omega)) (by omega)) (by omega)) (by omega)) (by omega)) (by omega)) (by omega)) (by omega)) (by omega)) (fun x hx => (cel_ne (cel_ne (cel_ne (cel_ne (cel_ne (cel_ne (cel_ne (cel_ne (cel_ne (cel_ne (hF0 x hx) (by omega)) (by omega)) (by omega)) (by omega)) (by omega)) (by omega)) (by omega)) (by omega)) (by omega)) (by omega))) hp5_0 (by exact ⟨rfl, hmvl⟩) hmvo hp5_1 hq4 (by omega) (by omega) (by omega) (by omega)) gX3_leadPlayed_X3_bestOf rfl (na := 2) (by decide +kernel) rfl ⟨(Nat.le_of_ble_eq_true rfl), (Nat.le_of_ble_eq_true rfl)⟩ (cel_ne (cel_ne (cel_ne (cel_ne (cel_ne (cel_ne (cel_ne (cel_ne (cel_ne (cel_ne hc0 (by omega)) (by omega)) (by omega)) (by omega)) (by omega)) (by omega)) (by omega)) (by omega)) (by omega)) (by omega)) rfl (st := []) rfl (Nat.le_of_ble_eq_true rfl) ⟨(Nat.le_of_ble_eq_true rfl), (Nat.le_of_ble_eq_true rfl)⟩ dX3_leadPlayed_14 (fun r14 N14 w14 hpo14 hN14 => ?_)
  obtain ⟨rfl, res_14, n9_14, g9_14, h9_14, s9_14, t9_14, hp14_0, hp14_1, rfl, rfl⟩ := hpo14
  refine x_v (congrArg (fun w => (va_up (va_up (va_up (va_up w (c + 14) (iarr E 8 g9_14)) (c + 15) (barr E 8 h9_14)) (c + 16) (iarr E 8 s9_14)) (c + 17) (iarr E 8 t9_14))) (show (va_up (va_up (va_up (va_up (va_up (va_up (va_up (va_up (va_up (va_up v (c + 13) (.inr (4, [.ref (B + (c + 14)), .ref (B + (c + 15)), .int (zI (n9_14 : Int)), .ref (B + (c + 16)), .ref (B + (c + 17))]))) (c + 14) (iarr E 8 g1)) (c + 15) (barr E 8 h1)) (c + 16) (iarr E 8 s1)) (c + 17) (iarr E 8 t1)) (c + 18) (.inr (4, [.ref (B + (c + 19)), .ref (B + (c + 20)), .int (zI (((mvA p l who k).length : Nat) : Int)), .ref (B + (c + 21)), .ref (B + (c + 22))]))) (c + 19) (iarr E 8 g2_5)) (c + 20) (barr E 8 h2_5)) (c + 21) (iarr E 8 s2_5)) (c + 22) (iarr E 8 t2_5)) = _ from (up_at9 (by omega) (by omega) (by omega) (by omega) (by omega) (by omega) (by omega) (by omega) (by omega)).symm)) ?_
  refine x_v (congrArg (fun w => (va_up (va_up (va_up w (c + 15) (barr E 8 h9_14)) (c + 16) (iarr E 8 s9_14)) (c + 17) (iarr E 8 t9_14))) (show (va_up (va_up (va_up (va_up (va_up (va_up (va_up (va_up (va_up (va_up v (c + 13) (.inr (4, [.ref (B + (c + 14)), .ref (B + (c + 15)), .int (zI (n9_14 : Int)), .ref (B + (c + 16)), .ref (B + (c + 17))]))) (c + 14) (iarr E 8 g9_14)) (c + 15) (barr E 8 h1)) (c + 16) (iarr E 8 s1)) (c + 17) (iarr E 8 t1)) (c + 18) (.inr (4, [.ref (B + (c + 19)), .ref (B + (c + 20)), .int (zI (((mvA p l who k).length : Nat) : Int)), .ref (B + (c + 21)), .ref (B + (c + 22))]))) (c + 19) (iarr E 8 g2_5)) (c + 20) (barr E 8 h2_5)) (c + 21) (iarr E 8 s2_5)) (c + 22) (iarr E 8 t2_5)) = _ from (up_at8 (by omega) (by omega) (by omega) (by omega) (by omega) (by omega) (by omega) (by omega)).symm)) ?_
  refine x_v (congrArg (fun w => (va_up (va_up w (c + 16) (iarr E 8 s9_14)) (c + 17) (iarr E 8 t9_14))) (show (va_up (va_up (va_up (va_up (va_up (va_up (va_up (va_up (va_up (va_up v (c + 13) (.inr (4, [.ref (B + (c + 14)), .ref (B + (c + 15)), .int (zI (n9_14 : Int)), .ref (B + (c + 16)), .ref (B + (c + 17))]))) (c + 14) (iarr E 8 g9_14)) (c + 15) (barr E 8 h9_14)) (c + 16) (iarr E 8 s1)) (c + 17) (iarr E 8 t1)) (c + 18) (.inr (4, [.ref (B + (c + 19)), .ref (B + (c + 20)), .int (zI (((mvA p l who k).length : Nat) : Int)), .ref (B + (c + 21)), .ref (B + (c + 22))]))) (c + 19) (iarr E 8 g2_5)) (c + 20) (barr E 8 h2_5)) (c + 21) (iarr E 8 s2_5)) (c + 22) (iarr E 8 t2_5)) = _ from (up_at7 (by omega) (by omega) (by omega) (by omega) (by omega) (by omega) (by omega)).symm)) ?_
  refine x_v (congrArg (fun w => (va_up w (c + 17) (iarr E 8 t9_14))) (show (va_up (va_up (va_up (va_up (va_up (va_up (va_up (va_up (va_up (va_up v (c + 13) (.inr (4, [.ref (B + (c + 14)), .ref (B + (c + 15)), .int (zI (n9_14 : Int)), .ref (B + (c + 16)), .ref (B + (c + 17))]))) (c + 14) (iarr E 8 g9_14)) (c + 15) (barr E 8 h9_14)) (c + 16) (iarr E 8 s9_14)) (c + 17) (iarr E 8 t1)) (c + 18) (.inr (4, [.ref (B + (c + 19)), .ref (B + (c + 20)), .int (zI (((mvA p l who k).length : Nat) : Int)), .ref (B + (c + 21)), .ref (B + (c + 22))]))) (c + 19) (iarr E 8 g2_5)) (c + 20) (barr E 8 h2_5)) (c + 21) (iarr E 8 s2_5)) (c + 22) (iarr E 8 t2_5)) = _ from (up_at6 (by omega) (by omega) (by omega) (by omega) (by omega) (by omega)).symm)) ?_
  refine x_v (w := (va_up (va_up (va_up (va_up (va_up (va_up (va_up (va_up (va_up (va_up v (c + 13) (.inr (4, [.ref (B + (c + 14)), .ref (B + (c + 15)), .int (zI (n9_14 : Int)), .ref (B + (c + 16)), .ref (B + (c + 17))]))) (c + 14) (iarr E 8 g9_14)) (c + 15) (barr E 8 h9_14)) (c + 16) (iarr E 8 s9_14)) (c + 17) (iarr E 8 t9_14)) (c + 18) (.inr (4, [.ref (B + (c + 19)), .ref (B + (c + 20)), .int (zI (((mvA p l who k).length : Nat) : Int)), .ref (B + (c + 21)), .ref (B + (c + 22))]))) (c + 19) (iarr E 8 g2_5)) (c + 20) (barr E 8 h2_5)) (c + 21) (iarr E 8 s2_5)) (c + 22) (iarr E 8 t2_5))) (up_at5 (by omega) (by omega) (by omega) (by omega) (by omega)).symm ?_
  refine x_st (st' := [.int (zI res_14)]) rfl ?_
  obtain ⟨bl, m9, hb8⟩ := hp14_0
  have hbc := bestR_cases hb8
  refine x_istore (pc := 17) K (L' := [(6, .int (zI res_14)), (5, .ref (B + (c + 18))), (0, .ref (B + c)), (1, .ref (B + o)), (2, .int (zI ci)), (3, .ref (B + o2)), (4, .ref (B + d))]) hnL (by decide) rfl dX3_leadPlayed_17 ?_
  refine x_iload (pc := 19) 0 K rfl dX3_leadPlayed_19 ?_
  refine x_ldc (pc := 21) (x := (-1000000)) (-1000000) K (by decide) (by decide +kernel) dX3_leadPlayed_21 ?_
  refine x_icmp_eq (pc := 23) (tgt := 52) K (by omega) (by decide) dX3_leadPlayed_23 (by decide) (fun h_23 => ?_) (fun h_23 => ?_)
  · skip
    refine x_iconst (pc := 52) K dX3_leadPlayed_52 ?_
    refine x_istore (pc := 53) K (L' := [(7, .int (zI 0)), (6, .int (zI res_14)), (5, .ref (B + (c + 18))), (0, .ref (B + c)), (1, .ref (B + o)), (2, .int (zI ci)), (3, .ref (B + o2)), (4, .ref (B + d))]) hnL (by decide) rfl dX3_leadPlayed_53 ?_
    refine x_aload_n (pc := 55) 3 K rfl rfl dX3_leadPlayed_55 ?_
    refine x_aload_n (pc := 56) 4 K rfl rfl dX3_leadPlayed_56 ?_
    refine x_getP (pc := 57) (idx := 99) (x := .int (zI (p (10 + who)))) K (by omega) (cel_ne (cel_ne (cel_ne (cel_ne (cel_ne (cel_ne (cel_ne (cel_ne (cel_ne (cel_ne hc16 (by omega)) (by omega)) (by omega)) (by omega)) (by omega)) (by omega)) (by omega)) (by omega)) (by omega)) (by omega)) (by decide +kernel) (by decide +kernel) (by decide +kernel) (by decide +kernel) (by decide +kernel) 1 (by decide) (by decide +kernel) rfl dX3_leadPlayed_57 ?_
    refine x_iload (pc := 60) 0 K rfl dX3_leadPlayed_60 ?_
    refine x_if_eq (pc := 62) (tgt := 72) K (by decide) dX3_leadPlayed_62 (by decide) (fun h_62 => ?_) (fun h_62 => ?_)
    · skip
      refine x_aload (pc := 72) 2 K rfl dX3_leadPlayed_72 ?_
      refine x_callV (pc := 74) (C := RX3) (T := TX3) (n := 11) (ci := 3) (As := [.int (zI (p (10 + who))), .ref (B + (c + 18))]) K (c_X3_leadOf (E := E) (B := B) (N := N) (l := (mvA p l who k))  (cel_ne (cel_ne (cel_ne (cel_ne (cel_ne (cel_ne (cel_ne (cel_ne (cel_ne (cel_ne hc0 (by omega)) (by omega)) (by omega)) (by omega)) (by omega)) (by omega)) (by omega)) (by omega)) (by omega)) (by omega)) (cel_ne (cel_ne (cel_ne (cel_ne (cel_self hc6.1) (by omega)) (by omega)) (by omega)) (by omega)) (cel_ne (cel_self hc9.1) (by omega)) (cel_self hc10.1) (cel_ne (cel_ne (cel_ne (cel_ne (cel_ne (cel_ne (cel_ne (cel_ne (cel_ne (cel_ne hc18 (by omega)) (by omega)) (by omega)) (by omega)) (by omega)) (by omega)) (by omega)) (by omega)) (by omega)) (by omega)) (fun x hx => (cel_ne (cel_ne (cel_ne (cel_ne (cel_ne (cel_ne (cel_ne (cel_ne (cel_ne (cel_ne (hF0 x hx) (by omega)) (by omega)) (by omega)) (by omega)) (by omega)) (by omega)) (by omega)) (by omega)) (by omega)) (by omega))) hp5_1 (by omega) hq4) gX3_leadPlayed_X3_leadOf rfl (na := 2) (by decide +kernel) rfl ⟨(Nat.le_of_ble_eq_true rfl), (Nat.le_of_ble_eq_true rfl)⟩ (cel_ne (cel_ne (cel_ne (cel_ne (cel_ne (cel_ne (cel_ne (cel_ne (cel_ne (cel_ne hc0 (by omega)) (by omega)) (by omega)) (by omega)) (by omega)) (by omega)) (by omega)) (by omega)) (by omega)) (by omega)) rfl (st := []) rfl (Nat.le_of_ble_eq_true rfl) ⟨(Nat.le_of_ble_eq_true rfl), (Nat.le_of_ble_eq_true rfl)⟩ dX3_leadPlayed_74 (fun r74 N74 w74 hpo74 hN74 => ?_)
      obtain ⟨rfl, rfl, rfl⟩ := hpo74
      refine x_st (st' := [.int (zI (leadA p (mvA p l who k) (p (10 + who))))]) rfl ?_
      refine x_iret (pc := 77) K KR (by omega) (Nat.le_of_ble_eq_true rfl) (Nat.le_of_ble_eq_true rfl) dX3_leadPlayed_77 ?_
      have hV : (leadA p (mvA p l who k) (p (10 + who))) = gameV p l who w2 k := by
        unfold gameV
        rw [repA_none (by
          rcases hbc with ⟨-, q⟩ | ⟨c9, h1, h2, -⟩
          · exact q
          · exfalso; omega)]
      exact ⟨rfl, (((n9_14 : Int)).toNat), g9_14, h9_14, s9_14, t9_14, ((mvA p l who k).length), g2_5, h2_5, s2_5, t2_5, ri hV, rfl⟩
    · skip
      exfalso; omega
  · skip
    obtain ⟨bb, rfl⟩ : ∃ bb : Nat, res_14 = (bb : Int) := ⟨res_14.toNat, by omega⟩
    refine x_aload_n (pc := 26) 2 K rfl rfl dX3_leadPlayed_26 ?_
    refine x_aload_n (pc := 27) 5 K rfl rfl dX3_leadPlayed_27 ?_
    refine x_iload (pc := 28) 0 K rfl dX3_leadPlayed_28 ?_
    refine x_aload (pc := 30) 1 K rfl dX3_leadPlayed_30 ?_
    refine x_callV (pc := 32) (C := RX3) (T := TX3) (n := 11) (ci := 3) (As := [.ref (B + o2), .int (zI (bb : Int)), .ref (B + (c + 18))]) K (c_X3_leadBehind (E := E) (B := B) (N := N) (l := (mvA p l who k)) (who := w2) (cell := bb) rfl (cel_ne (cel_ne (cel_ne (cel_ne (cel_ne (cel_ne (cel_ne (cel_ne (cel_ne (cel_ne hc0 (by omega)) (by omega)) (by omega)) (by omega)) (by omega)) (by omega)) (by omega)) (by omega)) (by omega)) (by omega)) (cel_ne (cel_ne (cel_ne (cel_ne (cel_ne (cel_ne (cel_ne (cel_ne (cel_ne (cel_self hc1.1) (by omega)) (by omega)) (by omega)) (by omega)) (by omega)) (by omega)) (by omega)) (by omega)) (by omega)) (cel_ne (cel_ne (cel_ne (cel_ne (cel_ne (cel_ne (cel_ne (cel_ne (cel_self hc2.1) (by omega)) (by omega)) (by omega)) (by omega)) (by omega)) (by omega)) (by omega)) (by omega)) (cel_ne (cel_ne (cel_ne (cel_ne (cel_ne (cel_ne (cel_ne (cel_self hc3.1) (by omega)) (by omega)) (by omega)) (by omega)) (by omega)) (by omega)) (by omega)) (cel_ne (cel_ne (cel_ne (cel_ne (cel_ne (cel_ne (cel_self hc4.1) (by omega)) (by omega)) (by omega)) (by omega)) (by omega)) (by omega)) (cel_ne (cel_ne (cel_ne (cel_ne (cel_ne (cel_self hc5.1) (by omega)) (by omega)) (by omega)) (by omega)) (by omega)) (cel_ne (cel_ne (cel_ne (cel_ne (cel_self hc6.1) (by omega)) (by omega)) (by omega)) (by omega)) (cel_ne (cel_ne (cel_ne (cel_self hc7.1) (by omega)) (by omega)) (by omega)) (cel_ne (cel_ne (cel_self hc8.1) (by omega)) (by omega)) (cel_ne (cel_self hc9.1) (by omega)) (cel_self hc10.1) (cel_ne (cel_ne (cel_ne (cel_ne (cel_ne (cel_ne (cel_ne (cel_ne (cel_ne (cel_ne hc17 (by omega)) (by omega)) (by omega)) (by omega)) (by omega)) (by omega)) (by omega)) (by omega)) (by omega)) (by omega)) (cel_ne (cel_ne (cel_ne (cel_ne (cel_ne (cel_ne (cel_ne (cel_ne (cel_ne (cel_ne hc18 (by omega)) (by omega)) (by omega)) (by omega)) (by omega)) (by omega)) (by omega)) (by omega)) (by omega)) (by omega)) (fun x hx => (cel_ne (cel_ne (cel_ne (cel_ne (cel_ne (cel_ne (cel_ne (cel_ne (cel_ne (cel_ne (hF0 x hx) (by omega)) (by omega)) (by omega)) (by omega)) (by omega)) (by omega)) (by omega)) (by omega)) (by omega)) (by omega))) hp5_0 (by exact ⟨rfl, hmvl⟩) hmvo hp5_1 hq4 (by omega) (by omega) (by omega) (by omega) (by omega)) gX3_leadPlayed_X3_leadBehind rfl (na := 3) (by decide +kernel) rfl ⟨(Nat.le_of_ble_eq_true rfl), (Nat.le_of_ble_eq_true rfl)⟩ (cel_ne (cel_ne (cel_ne (cel_ne (cel_ne (cel_ne (cel_ne (cel_ne (cel_ne (cel_ne hc0 (by omega)) (by omega)) (by omega)) (by omega)) (by omega)) (by omega)) (by omega)) (by omega)) (by omega)) (by omega)) rfl (st := []) rfl (Nat.le_of_ble_eq_true rfl) ⟨(Nat.le_of_ble_eq_true rfl), (Nat.le_of_ble_eq_true rfl)⟩ dX3_leadPlayed_32 (fun r32 N32 w32 hpo32 hN32 => ?_)
    obtain ⟨rfl, g2_32, h2_32, s2_32, t2_32, hp32_0, hp32_1, rfl, rfl⟩ := hpo32
    refine x_v (congrArg (fun w => (va_up (va_up (va_up (va_up w (c + 14) (iarr E 8 g2_32)) (c + 15) (barr E 8 h2_32)) (c + 16) (iarr E 8 s2_32)) (c + 17) (iarr E 8 t2_32))) (show (va_up (va_up (va_up (va_up (va_up (va_up (va_up (va_up (va_up (va_up v (c + 13) (.inr (4, [.ref (B + (c + 14)), .ref (B + (c + 15)), .int (zI (((crossA (p (5 + w2)) (p 2) bb (mvA p l who k)).length : Nat) : Int)), .ref (B + (c + 16)), .ref (B + (c + 17))]))) (c + 14) (iarr E 8 g9_14)) (c + 15) (barr E 8 h9_14)) (c + 16) (iarr E 8 s9_14)) (c + 17) (iarr E 8 t9_14)) (c + 18) (.inr (4, [.ref (B + (c + 19)), .ref (B + (c + 20)), .int (zI (((mvA p l who k).length : Nat) : Int)), .ref (B + (c + 21)), .ref (B + (c + 22))]))) (c + 19) (iarr E 8 g2_5)) (c + 20) (barr E 8 h2_5)) (c + 21) (iarr E 8 s2_5)) (c + 22) (iarr E 8 t2_5)) = _ from (up_at9 (by omega) (by omega) (by omega) (by omega) (by omega) (by omega) (by omega) (by omega) (by omega)).symm)) ?_
    refine x_v (congrArg (fun w => (va_up (va_up (va_up w (c + 15) (barr E 8 h2_32)) (c + 16) (iarr E 8 s2_32)) (c + 17) (iarr E 8 t2_32))) (show (va_up (va_up (va_up (va_up (va_up (va_up (va_up (va_up (va_up (va_up v (c + 13) (.inr (4, [.ref (B + (c + 14)), .ref (B + (c + 15)), .int (zI (((crossA (p (5 + w2)) (p 2) bb (mvA p l who k)).length : Nat) : Int)), .ref (B + (c + 16)), .ref (B + (c + 17))]))) (c + 14) (iarr E 8 g2_32)) (c + 15) (barr E 8 h9_14)) (c + 16) (iarr E 8 s9_14)) (c + 17) (iarr E 8 t9_14)) (c + 18) (.inr (4, [.ref (B + (c + 19)), .ref (B + (c + 20)), .int (zI (((mvA p l who k).length : Nat) : Int)), .ref (B + (c + 21)), .ref (B + (c + 22))]))) (c + 19) (iarr E 8 g2_5)) (c + 20) (barr E 8 h2_5)) (c + 21) (iarr E 8 s2_5)) (c + 22) (iarr E 8 t2_5)) = _ from (up_at8 (by omega) (by omega) (by omega) (by omega) (by omega) (by omega) (by omega) (by omega)).symm)) ?_
    refine x_v (congrArg (fun w => (va_up (va_up w (c + 16) (iarr E 8 s2_32)) (c + 17) (iarr E 8 t2_32))) (show (va_up (va_up (va_up (va_up (va_up (va_up (va_up (va_up (va_up (va_up v (c + 13) (.inr (4, [.ref (B + (c + 14)), .ref (B + (c + 15)), .int (zI (((crossA (p (5 + w2)) (p 2) bb (mvA p l who k)).length : Nat) : Int)), .ref (B + (c + 16)), .ref (B + (c + 17))]))) (c + 14) (iarr E 8 g2_32)) (c + 15) (barr E 8 h2_32)) (c + 16) (iarr E 8 s9_14)) (c + 17) (iarr E 8 t9_14)) (c + 18) (.inr (4, [.ref (B + (c + 19)), .ref (B + (c + 20)), .int (zI (((mvA p l who k).length : Nat) : Int)), .ref (B + (c + 21)), .ref (B + (c + 22))]))) (c + 19) (iarr E 8 g2_5)) (c + 20) (barr E 8 h2_5)) (c + 21) (iarr E 8 s2_5)) (c + 22) (iarr E 8 t2_5)) = _ from (up_at7 (by omega) (by omega) (by omega) (by omega) (by omega) (by omega) (by omega)).symm)) ?_
    refine x_v (congrArg (fun w => (va_up w (c + 17) (iarr E 8 t2_32))) (show (va_up (va_up (va_up (va_up (va_up (va_up (va_up (va_up (va_up (va_up v (c + 13) (.inr (4, [.ref (B + (c + 14)), .ref (B + (c + 15)), .int (zI (((crossA (p (5 + w2)) (p 2) bb (mvA p l who k)).length : Nat) : Int)), .ref (B + (c + 16)), .ref (B + (c + 17))]))) (c + 14) (iarr E 8 g2_32)) (c + 15) (barr E 8 h2_32)) (c + 16) (iarr E 8 s2_32)) (c + 17) (iarr E 8 t9_14)) (c + 18) (.inr (4, [.ref (B + (c + 19)), .ref (B + (c + 20)), .int (zI (((mvA p l who k).length : Nat) : Int)), .ref (B + (c + 21)), .ref (B + (c + 22))]))) (c + 19) (iarr E 8 g2_5)) (c + 20) (barr E 8 h2_5)) (c + 21) (iarr E 8 s2_5)) (c + 22) (iarr E 8 t2_5)) = _ from (up_at6 (by omega) (by omega) (by omega) (by omega) (by omega) (by omega)).symm)) ?_
    refine x_v (w := (va_up (va_up (va_up (va_up (va_up (va_up (va_up (va_up (va_up (va_up v (c + 13) (.inr (4, [.ref (B + (c + 14)), .ref (B + (c + 15)), .int (zI (((crossA (p (5 + w2)) (p 2) bb (mvA p l who k)).length : Nat) : Int)), .ref (B + (c + 16)), .ref (B + (c + 17))]))) (c + 14) (iarr E 8 g2_32)) (c + 15) (barr E 8 h2_32)) (c + 16) (iarr E 8 s2_32)) (c + 17) (iarr E 8 t2_32)) (c + 18) (.inr (4, [.ref (B + (c + 19)), .ref (B + (c + 20)), .int (zI (((mvA p l who k).length : Nat) : Int)), .ref (B + (c + 21)), .ref (B + (c + 22))]))) (c + 19) (iarr E 8 g2_5)) (c + 20) (barr E 8 h2_5)) (c + 21) (iarr E 8 s2_5)) (c + 22) (iarr E 8 t2_5))) (up_at5 (by omega) (by omega) (by omega) (by omega) (by omega)).symm ?_
    refine x_st (st' := [.int (zI (leadA p (crossA (p (5 + w2)) (p 2) bb (mvA p l who k)) (p (10 + w2))))]) rfl ?_
    have hbl : bestF p (mvA p l who k) w2 48 = some (bb, bl, m9) ∧ bl = leadA p (crossA (p (5 + w2)) (p 2) bb (mvA p l who k)) (p (10 + w2)) := by
      rcases hbc with ⟨q, -⟩ | ⟨c9, h1, h2, h3, h4, h5⟩
      · exfalso; omega
      · have : c9 = bb := by omega
        subst this; exact ⟨h4, h5⟩
    have hr32 := leadA_rng (l := (crossA (p (5 + w2)) (p 2) bb (mvA p l who k))) (land := p (10 + w2)) hq4
    refine x_aload_n (pc := 35) 2 K rfl rfl dX3_leadPlayed_35 ?_
    refine x_aload_n (pc := 36) 5 K rfl rfl dX3_leadPlayed_36 ?_
    refine x_getP (pc := 37) (idx := 99) (x := .int (zI (p (10 + w2)))) K (by omega) (cel_ne (cel_ne (cel_ne (cel_ne (cel_ne (cel_ne (cel_ne (cel_ne (cel_ne (cel_ne hc17 (by omega)) (by omega)) (by omega)) (by omega)) (by omega)) (by omega)) (by omega)) (by omega)) (by omega)) (by omega)) (by decide +kernel) (by decide +kernel) (by decide +kernel) (by decide +kernel) (by decide +kernel) 1 (by decide) (by decide +kernel) rfl dX3_leadPlayed_37 ?_
    refine x_aload (pc := 40) 1 K rfl dX3_leadPlayed_40 ?_
    refine x_callV (pc := 42) (C := RX3) (T := TX3) (n := 11) (ci := 3) (As := [.int (zI (p (10 + w2))), .ref (B + (c + 18))]) K (c_X3_leadOf (E := E) (B := B) (N := N) (l := (mvA p l who k))  (cel_ne (cel_ne (cel_ne (cel_ne (cel_ne (cel_ne (cel_ne (cel_ne (cel_ne (cel_ne hc0 (by omega)) (by omega)) (by omega)) (by omega)) (by omega)) (by omega)) (by omega)) (by omega)) (by omega)) (by omega)) (cel_ne (cel_ne (cel_ne (cel_ne (cel_self hc6.1) (by omega)) (by omega)) (by omega)) (by omega)) (cel_ne (cel_self hc9.1) (by omega)) (cel_self hc10.1) (cel_ne (cel_ne (cel_ne (cel_ne (cel_ne (cel_ne (cel_ne (cel_ne (cel_ne (cel_ne hc18 (by omega)) (by omega)) (by omega)) (by omega)) (by omega)) (by omega)) (by omega)) (by omega)) (by omega)) (by omega)) (fun x hx => (cel_ne (cel_ne (cel_ne (cel_ne (cel_ne (cel_ne (cel_ne (cel_ne (cel_ne (cel_ne (hF0 x hx) (by omega)) (by omega)) (by omega)) (by omega)) (by omega)) (by omega)) (by omega)) (by omega)) (by omega)) (by omega))) hp5_1 (by omega) hq4) gX3_leadPlayed_X3_leadOf rfl (na := 2) (by decide +kernel) rfl ⟨(Nat.le_of_ble_eq_true rfl), (Nat.le_of_ble_eq_true rfl)⟩ (cel_ne (cel_ne (cel_ne (cel_ne (cel_ne (cel_ne (cel_ne (cel_ne (cel_ne (cel_ne hc0 (by omega)) (by omega)) (by omega)) (by omega)) (by omega)) (by omega)) (by omega)) (by omega)) (by omega)) (by omega)) rfl (st := [.int (zI (leadA p (crossA (p (5 + w2)) (p 2) bb (mvA p l who k)) (p (10 + w2))))]) rfl (Nat.le_of_ble_eq_true rfl) ⟨(Nat.le_of_ble_eq_true rfl), (Nat.le_of_ble_eq_true rfl)⟩ dX3_leadPlayed_42 (fun r42 N42 w42 hpo42 hN42 => ?_)
    obtain ⟨rfl, rfl, rfl⟩ := hpo42
    refine x_st (st' := [.int (zI (leadA p (mvA p l who k) (p (10 + w2)))), .int (zI (leadA p (crossA (p (5 + w2)) (p 2) bb (mvA p l who k)) (p (10 + w2))))]) rfl ?_
    have hr42 := leadA_rng (l := (mvA p l who k)) (land := p (10 + w2)) hq4
    refine x_icmp_le (pc := 45) (tgt := 52) K (by omega) (by omega) dX3_leadPlayed_45 (by decide) (fun h_45 => ?_) (fun h_45 => ?_)
    · skip
      refine x_iconst (pc := 52) K dX3_leadPlayed_52 ?_
      refine x_istore (pc := 53) K (L' := [(7, .int (zI 0)), (6, .int (zI (bb : Int))), (5, .ref (B + (c + 18))), (0, .ref (B + c)), (1, .ref (B + o)), (2, .int (zI ci)), (3, .ref (B + o2)), (4, .ref (B + d))]) hnL (by decide) rfl dX3_leadPlayed_53 ?_
      refine x_aload_n (pc := 55) 3 K rfl rfl dX3_leadPlayed_55 ?_
      refine x_aload_n (pc := 56) 4 K rfl rfl dX3_leadPlayed_56 ?_
      refine x_getP (pc := 57) (idx := 99) (x := .int (zI (p (10 + who)))) K (by omega) (cel_ne (cel_ne (cel_ne (cel_ne (cel_ne (cel_ne (cel_ne (cel_ne (cel_ne (cel_ne hc16 (by omega)) (by omega)) (by omega)) (by omega)) (by omega)) (by omega)) (by omega)) (by omega)) (by omega)) (by omega)) (by decide +kernel) (by decide +kernel) (by decide +kernel) (by decide +kernel) (by decide +kernel) 1 (by decide) (by decide +kernel) rfl dX3_leadPlayed_57 ?_
      refine x_iload (pc := 60) 0 K rfl dX3_leadPlayed_60 ?_
      refine x_if_eq (pc := 62) (tgt := 72) K (by decide) dX3_leadPlayed_62 (by decide) (fun h_62 => ?_) (fun h_62 => ?_)
      · skip
        refine x_aload (pc := 72) 2 K rfl dX3_leadPlayed_72 ?_
        refine x_callV (pc := 74) (C := RX3) (T := TX3) (n := 11) (ci := 3) (As := [.int (zI (p (10 + who))), .ref (B + (c + 18))]) K (c_X3_leadOf (E := E) (B := B) (N := N) (l := (mvA p l who k))  (cel_ne (cel_ne (cel_ne (cel_ne (cel_ne (cel_ne (cel_ne (cel_ne (cel_ne (cel_ne hc0 (by omega)) (by omega)) (by omega)) (by omega)) (by omega)) (by omega)) (by omega)) (by omega)) (by omega)) (by omega)) (cel_ne (cel_ne (cel_ne (cel_ne (cel_self hc6.1) (by omega)) (by omega)) (by omega)) (by omega)) (cel_ne (cel_self hc9.1) (by omega)) (cel_self hc10.1) (cel_ne (cel_ne (cel_ne (cel_ne (cel_ne (cel_ne (cel_ne (cel_ne (cel_ne (cel_ne hc18 (by omega)) (by omega)) (by omega)) (by omega)) (by omega)) (by omega)) (by omega)) (by omega)) (by omega)) (by omega)) (fun x hx => (cel_ne (cel_ne (cel_ne (cel_ne (cel_ne (cel_ne (cel_ne (cel_ne (cel_ne (cel_ne (hF0 x hx) (by omega)) (by omega)) (by omega)) (by omega)) (by omega)) (by omega)) (by omega)) (by omega)) (by omega)) (by omega))) hp5_1 (by omega) hq4) gX3_leadPlayed_X3_leadOf rfl (na := 2) (by decide +kernel) rfl ⟨(Nat.le_of_ble_eq_true rfl), (Nat.le_of_ble_eq_true rfl)⟩ (cel_ne (cel_ne (cel_ne (cel_ne (cel_ne (cel_ne (cel_ne (cel_ne (cel_ne (cel_ne hc0 (by omega)) (by omega)) (by omega)) (by omega)) (by omega)) (by omega)) (by omega)) (by omega)) (by omega)) (by omega)) rfl (st := []) rfl (Nat.le_of_ble_eq_true rfl) ⟨(Nat.le_of_ble_eq_true rfl), (Nat.le_of_ble_eq_true rfl)⟩ dX3_leadPlayed_74 (fun r74 N74 w74 hpo74 hN74 => ?_)
        obtain ⟨rfl, rfl, rfl⟩ := hpo74
        refine x_st (st' := [.int (zI (leadA p (mvA p l who k) (p (10 + who))))]) rfl ?_
        refine x_iret (pc := 77) K KR (by omega) (Nat.le_of_ble_eq_true rfl) (Nat.le_of_ble_eq_true rfl) dX3_leadPlayed_77 ?_
        have hV : (leadA p (mvA p l who k) (p (10 + who))) = gameV p l who w2 k := by
          unfold gameV
          rw [repA_no hbl.1 (by rw [hbl.2]; omega)]
        exact ⟨rfl, ((crossA (p (5 + w2)) (p 2) bb (mvA p l who k)).length), g2_32, h2_32, s2_32, t2_32, ((mvA p l who k).length), g2_5, h2_5, s2_5, t2_5, ri hV, rfl⟩
      · skip
        exfalso; omega
    · skip
      refine x_iconst (pc := 48) K dX3_leadPlayed_48 ?_
      refine x_goto (pc := 49) (tgt := 53) K dX3_leadPlayed_49 (by decide) ?_
      refine x_istore (pc := 53) K (L' := [(7, .int (zI 1)), (6, .int (zI (bb : Int))), (5, .ref (B + (c + 18))), (0, .ref (B + c)), (1, .ref (B + o)), (2, .int (zI ci)), (3, .ref (B + o2)), (4, .ref (B + d))]) hnL (by decide) rfl dX3_leadPlayed_53 ?_
      refine x_aload_n (pc := 55) 3 K rfl rfl dX3_leadPlayed_55 ?_
      refine x_aload_n (pc := 56) 4 K rfl rfl dX3_leadPlayed_56 ?_
      refine x_getP (pc := 57) (idx := 99) (x := .int (zI (p (10 + who)))) K (by omega) (cel_ne (cel_ne (cel_ne (cel_ne (cel_ne (cel_ne (cel_ne (cel_ne (cel_ne (cel_ne hc16 (by omega)) (by omega)) (by omega)) (by omega)) (by omega)) (by omega)) (by omega)) (by omega)) (by omega)) (by omega)) (by decide +kernel) (by decide +kernel) (by decide +kernel) (by decide +kernel) (by decide +kernel) 1 (by decide) (by decide +kernel) rfl dX3_leadPlayed_57 ?_
      refine x_iload (pc := 60) 0 K rfl dX3_leadPlayed_60 ?_
      refine x_if_eq (pc := 62) (tgt := 72) K (by decide) dX3_leadPlayed_62 (by decide) (fun h_62 => ?_) (fun h_62 => ?_)
      · skip
        exfalso; omega
      · skip
        refine x_aload_n (pc := 65) 3 K rfl rfl dX3_leadPlayed_65 ?_
        refine x_get (pc := 66) (C := RX3) (T := TX3) (n := 11) (ci := 3) (idx := 49) (ref := "BorderBeds$Ground") (x := .ref (B + (c + 13)))  K (cel_ne (cel_ne (cel_ne (cel_ne (cel_ne (cel_ne (cel_ne (cel_ne (cel_ne (cel_ne hc0 (by omega)) (by omega)) (by omega)) (by omega)) (by omega)) (by omega)) (by omega)) (by omega)) (by omega)) (by omega)) rfl (by decide +kernel) 9 (by decide) (by decide +kernel) rfl rfl dX3_leadPlayed_66 ?_
        refine x_goto (pc := 69) (tgt := 74) K dX3_leadPlayed_69 (by decide) ?_
        refine x_callV (pc := 74) (C := RX3) (T := TX3) (n := 11) (ci := 3) (As := [.int (zI (p (10 + who))), .ref (B + (c + 13))]) K (c_X3_leadOf (E := E) (B := B) (N := N) (l := (crossA (p (5 + w2)) (p 2) bb (mvA p l who k)))  (cel_ne (cel_ne (cel_ne (cel_ne (cel_ne (cel_ne (cel_ne (cel_ne (cel_ne (cel_ne hc0 (by omega)) (by omega)) (by omega)) (by omega)) (by omega)) (by omega)) (by omega)) (by omega)) (by omega)) (by omega)) (cel_ne (cel_ne (cel_ne (cel_ne (cel_ne (cel_ne (cel_ne (cel_ne (cel_ne (cel_self hc1.1) (by omega)) (by omega)) (by omega)) (by omega)) (by omega)) (by omega)) (by omega)) (by omega)) (by omega)) (cel_ne (cel_ne (cel_ne (cel_ne (cel_ne (cel_ne (cel_self hc4.1) (by omega)) (by omega)) (by omega)) (by omega)) (by omega)) (by omega)) (cel_ne (cel_ne (cel_ne (cel_ne (cel_ne (cel_self hc5.1) (by omega)) (by omega)) (by omega)) (by omega)) (by omega)) (cel_ne (cel_ne (cel_ne (cel_ne (cel_ne (cel_ne (cel_ne (cel_ne (cel_ne (cel_ne hc18 (by omega)) (by omega)) (by omega)) (by omega)) (by omega)) (by omega)) (by omega)) (by omega)) (by omega)) (by omega)) (fun x hx => (cel_ne (cel_ne (cel_ne (cel_ne (cel_ne (cel_ne (cel_ne (cel_ne (cel_ne (cel_ne (hF0 x hx) (by omega)) (by omega)) (by omega)) (by omega)) (by omega)) (by omega)) (by omega)) (by omega)) (by omega)) (by omega))) hp32_1 (by omega) hq4) gX3_leadPlayed_X3_leadOf rfl (na := 2) (by decide +kernel) rfl ⟨(Nat.le_of_ble_eq_true rfl), (Nat.le_of_ble_eq_true rfl)⟩ (cel_ne (cel_ne (cel_ne (cel_ne (cel_ne (cel_ne (cel_ne (cel_ne (cel_ne (cel_ne hc0 (by omega)) (by omega)) (by omega)) (by omega)) (by omega)) (by omega)) (by omega)) (by omega)) (by omega)) (by omega)) rfl (st := []) rfl (Nat.le_of_ble_eq_true rfl) ⟨(Nat.le_of_ble_eq_true rfl), (Nat.le_of_ble_eq_true rfl)⟩ dX3_leadPlayed_74 (fun r74 N74 w74 hpo74 hN74 => ?_)
        obtain ⟨rfl, rfl, rfl⟩ := hpo74
        refine x_st (st' := [.int (zI (leadA p (crossA (p (5 + w2)) (p 2) bb (mvA p l who k)) (p (10 + who))))]) rfl ?_
        refine x_iret (pc := 77) K KR (by omega) (Nat.le_of_ble_eq_true rfl) (Nat.le_of_ble_eq_true rfl) dX3_leadPlayed_77 ?_
        have hV : (leadA p (crossA (p (5 + w2)) (p 2) bb (mvA p l who k)) (p (10 + who))) = gameV p l who w2 k := by
          unfold gameV
          rw [repA_yes hbl.1 (by rw [hbl.2]; omega)]
        exact ⟨rfl, ((crossA (p (5 + w2)) (p 2) bb (mvA p l who k)).length), g2_32, h2_32, s2_32, t2_32, ((mvA p l who k).length), g2_5, h2_5, s2_5, t2_5, ri hV, rfl⟩
