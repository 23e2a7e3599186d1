theorem dX11_rowAt_0 : decode cX11_rowAt 0 = .ok (.iload_n 1, 1) := by decide +kernel
theorem dX11_rowAt_1 : decode cX11_rowAt 1 = .ok (.ifCond .lt 9, 3) := by decide +kernel
theorem dX11_rowAt_4 : decode cX11_rowAt 4 = .ok (.iload_n 1, 1) := by decide +kernel
theorem dX11_rowAt_5 : decode cX11_rowAt 5 = .ok (.bipush 8, 2) := by decide +kernel
theorem dX11_rowAt_7 : decode cX11_rowAt 7 = .ok (.if_icmp .lt 7, 3) := by decide +kernel
theorem dX11_rowAt_14 : decode cX11_rowAt 14 = .ok (.aload_n 0, 1) := by decide +kernel
theorem dX11_rowAt_15 : decode cX11_rowAt 15 = .ok (.getfield 11, 3) := by decide +kernel
theorem dX11_rowAt_18 : decode cX11_rowAt 18 = .ok (.iload_n 1, 1) := by decide +kernel
theorem dX11_rowAt_19 : decode cX11_rowAt 19 = .ok (.aaload, 1) := by decide +kernel
theorem dX11_rowAt_20 : decode cX11_rowAt 20 = .ok (.areturn, 1) := by decide +kernel
theorem dX11_rowAt_10 : decode cX11_rowAt 10 = .ok (.aconst_null, 1) := by decide +kernel
theorem dX11_rowAt_11 : decode cX11_rowAt 11 = .ok (.goto 9, 3) := by decide +kernel
theorem dX11_finding_0 : decode cX11_finding 0 = .ok (.aload_n 0, 1) := by decide +kernel
theorem dX11_finding_1 : decode cX11_finding 1 = .ok (.iload_n 1, 1) := by decide +kernel
theorem dX11_finding_2 : decode cX11_finding 2 = .ok (.putfield 63, 3) := by decide +kernel
theorem dX11_finding_5 : decode cX11_finding 5 = .ok (.ldc 111, 2) := by decide +kernel
theorem dX11_finding_7 : decode cX11_finding 7 = .ok (.iload_n 1, 1) := by decide +kernel
theorem dX11_finding_8 : decode cX11_finding 8 = .ok (.isub, 1) := by decide +kernel
theorem dX11_finding_9 : decode cX11_finding 9 = .ok (.ireturn, 1) := by decide +kernel
theorem dX11_withoutFinding_0 : decode cX11_withoutFinding 0 = .ok (.aload_n 0, 1) := by decide +kernel
theorem dX11_withoutFinding_1 : decode cX11_withoutFinding 1 = .ok (.iconst 0, 1) := by decide +kernel
theorem dX11_withoutFinding_2 : decode cX11_withoutFinding 2 = .ok (.putfield 63, 3) := by decide +kernel
theorem dX11_withoutFinding_5 : decode cX11_withoutFinding 5 = .ok (.iload_n 1, 1) := by decide +kernel
theorem dX11_withoutFinding_6 : decode cX11_withoutFinding 6 = .ok (.ireturn, 1) := by decide +kernel
theorem dX11_fault_0 : decode cX11_fault 0 = .ok (.aload_n 0, 1) := by decide +kernel
theorem dX11_fault_1 : decode cX11_fault 1 = .ok (.getfield 60, 3) := by decide +kernel
theorem dX11_fault_4 : decode cX11_fault 4 = .ok (.ireturn, 1) := by decide +kernel
theorem dX11_status_0 : decode cX11_status 0 = .ok (.aload_n 0, 1) := by decide +kernel
theorem dX11_status_1 : decode cX11_status 1 = .ok (.getfield 63, 3) := by decide +kernel
theorem dX11_status_4 : decode cX11_status 4 = .ok (.ireturn, 1) := by decide +kernel
theorem dX11_row_0 : decode cX11_row 0 = .ok (.aload_n 0, 1) := by decide +kernel
theorem dX11_row_1 : decode cX11_row 1 = .ok (.iload_n 1, 1) := by decide +kernel
set_option maxRecDepth 20000 in
theorem ggX11_row_X11_rowAt : GoodIn wsX11_row wsX11_rowAt := goodIn_r _ [6, 7, 33, 34, 35, 36, 37, 38, 39, 40, 41, 42, 43, 44] (by decide +kernel) (by decide +kernel)
set_option maxRecDepth 20000 in
theorem gX11_row_X11_rowAt : GoodIn wsX11_row (wsV RX11 67 RX11 yX11_rowAt wsX11_rowAt) := goodIn_app (goodIn_of _ (by decide +kernel)) ggX11_row_X11_rowAt
theorem dX11_row_2 : decode cX11_row 2 = .ok (.invokevirtual 67, 3) := by decide +kernel
theorem dX11_row_5 : decode cX11_row 5 = .ok (.astore 4, 2) := by decide +kernel
theorem dX11_row_7 : decode cX11_row 7 = .ok (.aload 4, 2) := by decide +kernel
theorem dX11_row_9 : decode cX11_row 9 = .ok (.ifnull 18, 3) := by decide +kernel
theorem dX11_row_12 : decode cX11_row 12 = .ok (.iload_n 2, 1) := by decide +kernel
theorem dX11_row_13 : decode cX11_row 13 = .ok (.ifCond .lt 14, 3) := by decide +kernel
theorem dX11_row_27 : decode cX11_row 27 = .ok (.ldc 71, 2) := by decide +kernel
theorem dX11_row_29 : decode cX11_row 29 = .ok (.ireturn, 1) := by decide +kernel
theorem dX11_row_16 : decode cX11_row 16 = .ok (.iload_n 2, 1) := by decide +kernel
theorem dX11_row_17 : decode cX11_row 17 = .ok (.iconst 3, 1) := by decide +kernel
theorem dX11_row_18 : decode cX11_row 18 = .ok (.if_icmp .ge 9, 3) := by decide +kernel
theorem dX11_row_21 : decode cX11_row 21 = .ok (.iload_n 3, 1) := by decide +kernel
theorem dX11_row_22 : decode cX11_row 22 = .ok (.bipush 40, 2) := by decide +kernel
theorem dX11_row_24 : decode cX11_row 24 = .ok (.if_icmp .le 6, 3) := by decide +kernel
theorem dX11_row_30 : decode cX11_row 30 = .ok (.iload_n 3, 1) := by decide +kernel
theorem dX11_row_31 : decode cX11_row 31 = .ok (.ifCond .ge 9, 3) := by decide +kernel
theorem dX11_row_40 : decode cX11_row 40 = .ok (.aload 4, 2) := by decide +kernel
theorem dX11_row_42 : decode cX11_row 42 = .ok (.iload_n 2, 1) := by decide +kernel
theorem dX11_row_43 : decode cX11_row 43 = .ok (.iload_n 3, 1) := by decide +kernel
set_option maxRecDepth 20000 in
theorem ggX11_row_X7_begin : GoodIn wsX11_row wsX7_begin := goodIn_r _ [18, 19, 20, 21, 22, 23, 24, 25, 26, 27, 28, 45, 46, 47] (by decide +kernel) (by decide +kernel)
set_option maxRecDepth 20000 in
theorem gX11_row_X7_begin : GoodIn wsX11_row (wsV RX11 76 RX7 yX7_begin wsX7_begin) := goodIn_app (goodIn_of _ (by decide +kernel)) ggX11_row_X7_begin
theorem dX11_row_44 : decode cX11_row 44 = .ok (.invokevirtual 76, 3) := by decide +kernel
theorem dX11_row_47 : decode cX11_row 47 = .ok (.aload_n 0, 1) := by decide +kernel
theorem dX11_row_48 : decode cX11_row 48 = .ok (.iload_n 3, 1) := by decide +kernel
set_option maxRecDepth 20000 in
theorem ggX11_row_X11_withoutFinding : GoodIn wsX11_row wsX11_withoutFinding := goodIn_r _ [32, 12, 33, 34, 35, 36, 37, 38, 39, 40, 41, 42, 43, 44] (by decide +kernel) (by decide +kernel)
set_option maxRecDepth 20000 in
theorem gX11_row_X11_withoutFinding : GoodIn wsX11_row (wsV RX11 80 RX11 yX11_withoutFinding wsX11_withoutFinding) := goodIn_app (goodIn_of _ (by decide +kernel)) ggX11_row_X11_withoutFinding
theorem dX11_row_49 : decode cX11_row 49 = .ok (.invokevirtual 80, 3) := by decide +kernel
theorem dX11_row_52 : decode cX11_row 52 = .ok (.ireturn, 1) := by decide +kernel
theorem dX11_row_34 : decode cX11_row 34 = .ok (.aload_n 0, 1) := by decide +kernel
theorem dX11_row_35 : decode cX11_row 35 = .ok (.iconst 4, 1) := by decide +kernel
set_option maxRecDepth 20000 in
theorem ggX11_row_X11_finding : GoodIn wsX11_row wsX11_finding := goodIn_r _ [11, 12, 13, 33, 34, 35, 36, 37, 38, 39, 40, 41, 42, 43, 44] (by decide +kernel) (by decide +kernel)
set_option maxRecDepth 20000 in
theorem gX11_row_X11_finding : GoodIn wsX11_row (wsV RX11 72 RX11 yX11_finding wsX11_finding) := goodIn_app (goodIn_of _ (by decide +kernel)) ggX11_row_X11_finding
theorem dX11_row_36 : decode cX11_row 36 = .ok (.invokevirtual 72, 3) := by decide +kernel
theorem dX11_row_39 : decode cX11_row 39 = .ok (.ireturn, 1) := by decide +kernel
theorem dX11_drop_0 : decode cX11_drop 0 = .ok (.aload_n 0, 1) := by decide +kernel
theorem dX11_drop_1 : decode cX11_drop 1 = .ok (.iload_n 1, 1) := by decide +kernel
set_option maxRecDepth 20000 in
theorem ggX11_drop_X11_rowAt : GoodIn wsX11_drop wsX11_rowAt := goodIn_r _ [8, 9, 29, 30, 31, 32, 33, 34, 35, 36, 37, 38, 39, 40] (by decide +kernel) (by decide +kernel)
set_option maxRecDepth 20000 in
theorem gX11_drop_X11_rowAt : GoodIn wsX11_drop (wsV RX11 67 RX11 yX11_rowAt wsX11_rowAt) := goodIn_app (goodIn_of _ (by decide +kernel)) ggX11_drop_X11_rowAt
theorem dX11_drop_2 : decode cX11_drop 2 = .ok (.invokevirtual 67, 3) := by decide +kernel
theorem dX11_drop_5 : decode cX11_drop 5 = .ok (.astore_n 2, 1) := by decide +kernel
theorem dX11_drop_6 : decode cX11_drop 6 = .ok (.aload_n 2, 1) := by decide +kernel
theorem dX11_drop_7 : decode cX11_drop 7 = .ok (.ifnonnull 6, 3) := by decide +kernel
theorem dX11_drop_13 : decode cX11_drop 13 = .ok (.aload_n 2, 1) := by decide +kernel
set_option maxRecDepth 20000 in
theorem ggX11_drop_X7_isMissing : GoodIn wsX11_drop wsX7_isMissing := goodIn_r _ [14, 15, 26, 27, 28] (by decide +kernel) (by decide +kernel)
set_option maxRecDepth 20000 in
theorem gX11_drop_X7_isMissing : GoodIn wsX11_drop (wsV RX11 83 RX7 yX7_isMissing wsX7_isMissing) := goodIn_app (goodIn_of _ (by decide +kernel)) ggX11_drop_X7_isMissing
theorem dX11_drop_14 : decode cX11_drop 14 = .ok (.invokevirtual 83, 3) := by decide +kernel
theorem dX11_drop_17 : decode cX11_drop 17 = .ok (.ifCond .eq 9, 3) := by decide +kernel
theorem dX11_drop_26 : decode cX11_drop 26 = .ok (.aload_n 2, 1) := by decide +kernel
theorem dX11_drop_27 : decode cX11_drop 27 = .ok (.iconst (-1), 1) := by decide +kernel
theorem dX11_drop_28 : decode cX11_drop 28 = .ok (.putfield 95, 3) := by decide +kernel
theorem dX11_drop_31 : decode cX11_drop 31 = .ok (.aload_n 0, 1) := by decide +kernel
theorem dX11_drop_32 : decode cX11_drop 32 = .ok (.aload_n 2, 1) := by decide +kernel
theorem dX11_drop_33 : decode cX11_drop 33 = .ok (.getfield 108, 3) := by decide +kernel
set_option maxRecDepth 20000 in
theorem ggX11_drop_X11_withoutFinding : GoodIn wsX11_drop wsX11_withoutFinding := goodIn_r _ [25, 20, 29, 30, 31, 32, 33, 34, 35, 36, 37, 38, 39, 40] (by decide +kernel) (by decide +kernel)
set_option maxRecDepth 20000 in
theorem gX11_drop_X11_withoutFinding : GoodIn wsX11_drop (wsV RX11 80 RX11 yX11_withoutFinding wsX11_withoutFinding) := goodIn_app (goodIn_of _ (by decide +kernel)) ggX11_drop_X11_withoutFinding
theorem dX11_drop_36 : decode cX11_drop 36 = .ok (.invokevirtual 80, 3) := by decide +kernel
theorem dX11_drop_39 : decode cX11_drop 39 = .ok (.ireturn, 1) := by decide +kernel
theorem dX11_drop_20 : decode cX11_drop 20 = .ok (.aload_n 0, 1) := by decide +kernel
theorem dX11_drop_21 : decode cX11_drop 21 = .ok (.iconst 1, 1) := by decide +kernel
set_option maxRecDepth 20000 in
theorem ggX11_drop_X11_finding : GoodIn wsX11_drop wsX11_finding := goodIn_r _ [19, 20, 21, 29, 30, 31, 32, 33, 34, 35, 36, 37, 38, 39, 40] (by decide +kernel) (by decide +kernel)
set_option maxRecDepth 20000 in
theorem gX11_drop_X11_finding : GoodIn wsX11_drop (wsV RX11 72 RX11 yX11_finding wsX11_finding) := goodIn_app (goodIn_of _ (by decide +kernel)) ggX11_drop_X11_finding
theorem dX11_drop_22 : decode cX11_drop 22 = .ok (.invokevirtual 72, 3) := by decide +kernel
theorem dX11_drop_25 : decode cX11_drop 25 = .ok (.ireturn, 1) := by decide +kernel
theorem dX11_drop_10 : decode cX11_drop 10 = .ok (.ldc 71, 2) := by decide +kernel
theorem dX11_drop_12 : decode cX11_drop 12 = .ok (.ireturn, 1) := by decide +kernel
theorem dX11_set_0 : decode cX11_set 0 = .ok (.aload_n 0, 1) := by decide +kernel
theorem dX11_set_1 : decode cX11_set 1 = .ok (.iload_n 1, 1) := by decide +kernel
set_option maxRecDepth 20000 in
theorem ggX11_set_X11_rowAt : GoodIn wsX11_set wsX11_rowAt := goodIn_r _ [6, 7, 34, 35, 36, 37, 38, 39, 40, 41, 42, 43, 44, 45] (by decide +kernel) (by decide +kernel)
set_option maxRecDepth 20000 in
theorem gX11_set_X11_rowAt : GoodIn wsX11_set (wsV RX11 67 RX11 yX11_rowAt wsX11_rowAt) := goodIn_app (goodIn_of _ (by decide +kernel)) ggX11_set_X11_rowAt
theorem dX11_set_2 : decode cX11_set 2 = .ok (.invokevirtual 67, 3) := by decide +kernel
theorem dX11_set_5 : decode cX11_set 5 = .ok (.astore 4, 2) := by decide +kernel
theorem dX11_set_7 : decode cX11_set 7 = .ok (.aload 4, 2) := by decide +kernel
theorem dX11_set_9 : decode cX11_set 9 = .ok (.ifnonnull 6, 3) := by decide +kernel
theorem dX11_set_15 : decode cX11_set 15 = .ok (.aload 4, 2) := by decide +kernel
set_option maxRecDepth 20000 in
theorem ggX11_set_X7_isMissing : GoodIn wsX11_set wsX7_isMissing := goodIn_r _ [12, 13, 46, 47, 48] (by decide +kernel) (by decide +kernel)
set_option maxRecDepth 20000 in
theorem gX11_set_X7_isMissing : GoodIn wsX11_set (wsV RX11 83 RX7 yX7_isMissing wsX7_isMissing) := goodIn_app (goodIn_of _ (by decide +kernel)) ggX11_set_X7_isMissing
theorem dX11_set_17 : decode cX11_set 17 = .ok (.invokevirtual 83, 3) := by decide +kernel
theorem dX11_set_20 : decode cX11_set 20 = .ok (.ifCond .eq 9, 3) := by decide +kernel
theorem dX11_set_29 : decode cX11_set 29 = .ok (.aload 4, 2) := by decide +kernel
theorem dX11_set_31 : decode cX11_set 31 = .ok (.iload_n 2, 1) := by decide +kernel
theorem dX11_set_32 : decode cX11_set 32 = .ok (.iconst 1, 1) := by decide +kernel
set_option maxRecDepth 20000 in
theorem ggX11_set_X7_hasPlaces : GoodIn wsX11_set wsX7_hasPlaces := goodIn_r _ [23, 24, 46, 47, 48] (by decide +kernel) (by decide +kernel)
set_option maxRecDepth 20000 in
theorem gX11_set_X7_hasPlaces : GoodIn wsX11_set (wsV RX11 87 RX7 yX7_hasPlaces wsX7_hasPlaces) := goodIn_app (goodIn_of _ (by decide +kernel)) ggX11_set_X7_hasPlaces
theorem dX11_set_33 : decode cX11_set 33 = .ok (.invokevirtual 87, 3) := by decide +kernel
theorem dX11_set_36 : decode cX11_set 36 = .ok (.ifCond .ne 9, 3) := by decide +kernel
theorem dX11_set_45 : decode cX11_set 45 = .ok (.aload_n 0, 1) := by decide +kernel
theorem dX11_set_46 : decode cX11_set 46 = .ok (.aload 4, 2) := by decide +kernel
theorem dX11_set_48 : decode cX11_set 48 = .ok (.iload_n 2, 1) := by decide +kernel
theorem dX11_set_49 : decode cX11_set 49 = .ok (.iload_n 3, 1) := by decide +kernel
set_option maxRecDepth 20000 in
theorem ggX11_set_X7_keep : GoodIn wsX11_set wsX7_keep := goodIn_r _ [28, 29, 13, 46, 47, 48] (by decide +kernel) (by decide +kernel)
set_option maxRecDepth 20000 in
theorem gX11_set_X7_keep : GoodIn wsX11_set (wsV RX11 91 RX7 yX7_keep wsX7_keep) := goodIn_app (goodIn_of _ (by decide +kernel)) ggX11_set_X7_keep
theorem dX11_set_50 : decode cX11_set 50 = .ok (.invokevirtual 91, 3) := by decide +kernel
set_option maxRecDepth 20000 in
theorem ggX11_set_X11_withoutFinding : GoodIn wsX11_set wsX11_withoutFinding := goodIn_r _ [33, 18, 34, 35, 36, 37, 38, 39, 40, 41, 42, 43, 44, 45] (by decide +kernel) (by decide +kernel)
set_option maxRecDepth 20000 in
theorem gX11_set_X11_withoutFinding : GoodIn wsX11_set (wsV RX11 80 RX11 yX11_withoutFinding wsX11_withoutFinding) := goodIn_app (goodIn_of _ (by decide +kernel)) ggX11_set_X11_withoutFinding
theorem dX11_set_53 : decode cX11_set 53 = .ok (.invokevirtual 80, 3) := by decide +kernel
theorem dX11_set_56 : decode cX11_set 56 = .ok (.ireturn, 1) := by decide +kernel
theorem dX11_set_39 : decode cX11_set 39 = .ok (.aload_n 0, 1) := by decide +kernel
theorem dX11_set_40 : decode cX11_set 40 = .ok (.iconst 2, 1) := by decide +kernel
set_option maxRecDepth 20000 in
theorem ggX11_set_X11_finding : GoodIn wsX11_set wsX11_finding := goodIn_r _ [17, 18, 19, 34, 35, 36, 37, 38, 39, 40, 41, 42, 43, 44, 45] (by decide +kernel) (by decide +kernel)
set_option maxRecDepth 20000 in
theorem gX11_set_X11_finding : GoodIn wsX11_set (wsV RX11 72 RX11 yX11_finding wsX11_finding) := goodIn_app (goodIn_of _ (by decide +kernel)) ggX11_set_X11_finding
theorem dX11_set_41 : decode cX11_set 41 = .ok (.invokevirtual 72, 3) := by decide +kernel
theorem dX11_set_44 : decode cX11_set 44 = .ok (.ireturn, 1) := by decide +kernel
theorem dX11_set_23 : decode cX11_set 23 = .ok (.aload_n 0, 1) := by decide +kernel
theorem dX11_set_24 : decode cX11_set 24 = .ok (.iconst 1, 1) := by decide +kernel
theorem dX11_set_25 : decode cX11_set 25 = .ok (.invokevirtual 72, 3) := by decide +kernel
theorem dX11_set_28 : decode cX11_set 28 = .ok (.ireturn, 1) := by decide +kernel
theorem dX11_set_12 : decode cX11_set 12 = .ok (.ldc 71, 2) := by decide +kernel
theorem dX11_set_14 : decode cX11_set 14 = .ok (.ireturn, 1) := by decide +kernel
set_option maxRecDepth 100000 in
set_option maxHeartbeats 4000000 in
theorem c_X11_rowAt_y {E : XE} {B N : Nat} {v : Nat → va_E} {c r : Nat} {cu : Value} {old kept fau fin : Int} {r_i : Int} (ha_r : r_i = (r : Int)) (hc0 : Cel N v 0 (.inr (10, [.ref (B + 1), .ref (B + 2), .ref (B + 5), .ref (B + 7), .ref (B + 12), .ref (B + 13), .ref (B + 14), cu, .int (zI old), .int (zI kept), .int (zI fau), .int (zI fin)]))) (hc1 : Cel N v 1 (rarr E 2 8 B rowQ)) (hq0 : r ≤ 7) (hq1 : c = 15 + 2 * r) : gM yX11_rowAt wsX11_rowAt ({ frames := 0, cells := 0, slots := 0, locals := 0 }) E B N v [.ref (B + 0), .int (zI r_i)] (po0 N (fun ρ v' => ρ = some (.ref (B + c)) ∧ v = v')) := by
  subst ha_r
  refine x_met (nm := "rowAt") (by decide +kernel) rfl (Nat.le_of_ble_eq_true rfl) rfl (fun Γ K KR hnL hnm => ?_)
  show XW Γ N v [(0, .ref (B + 0)), (1, .int (zI (r : Int)))] 0 0 0 []
  refine x_iload_n (pc := 0) 1 K rfl rfl dX11_rowAt_0 ?_
  refine x_if_lt (pc := 1) (tgt := 10) K (by omega) dX11_rowAt_1 (by decide) (fun h_1 => ?_) (fun h_1 => ?_)
  · skip
    exfalso; omega
  · skip
    refine x_iload_n (pc := 4) 1 K rfl rfl dX11_rowAt_4 ?_
    refine x_bipush (pc := 5) K (by decide) dX11_rowAt_5 ?_
    refine x_icmp_lt (pc := 7) (tgt := 14) K (by omega) (by decide) dX11_rowAt_7 (by decide) (fun h_7 => ?_) (fun h_7 => ?_)
    · skip
      refine x_aload_n (pc := 14) 0 K rfl rfl dX11_rowAt_14 ?_
      refine x_get (pc := 15) (C := RX11) (T := TX11) (n := 12) (ci := 10) (idx := 11) (ref := "BorderBeds") (x := .ref (B + 1))  K hc0 rfl (by decide +kernel) 0 (by decide) (by decide +kernel) rfl rfl dX11_rowAt_15 ?_
      refine x_iload_n (pc := 18) 1 K rfl rfl dX11_rowAt_18 ?_
      refine x_aald (pc := 19) r K hc1 rfl rfl rfl (by omega) (by decide) dX11_rowAt_19 ?_
      refine x_st (st' := [.ref (B + c)]) (by rw [rf_some (h := rowQ) (j := r) (o := c) (by rw [rowQ_at (by omega)]; congr 1; omega)]) ?_
      refine x_aret (pc := 20) K KR (by omega) (Nat.le_of_ble_eq_true rfl) (Nat.le_of_ble_eq_true rfl) (Or.inr ⟨_, rfl⟩) dX11_rowAt_20 ?_
      exact ⟨rfl, rfl, rfl⟩
    · skip
      exfalso; omega

set_option maxRecDepth 100000 in
set_option maxHeartbeats 4000000 in
theorem c_X11_rowAt_n {E : XE} {B N : Nat} {v : Nat → va_E} {r : Int} {cu : Value} {old kept fau fin : Int} (hc0 : Cel N v 0 (.inr (10, [.ref (B + 1), .ref (B + 2), .ref (B + 5), .ref (B + 7), .ref (B + 12), .ref (B + 13), .ref (B + 14), cu, .int (zI old), .int (zI kept), .int (zI fau), .int (zI fin)]))) (hc1 : Cel N v 1 (rarr E 2 8 B rowQ)) (hq0 : ¬ (0 ≤ r ∧ r ≤ 7)) (hq1 : (-2147483648 ≤ r ∧ r ≤ 2147483647)) : gM yX11_rowAt wsX11_rowAt ({ frames := 0, cells := 0, slots := 0, locals := 0 }) E B N v [.ref (B + 0), .int (zI r)] (po0 N (fun ρ v' => ρ = some (.null) ∧ v = v')) := by
  refine x_met (nm := "rowAt") (by decide +kernel) rfl (Nat.le_of_ble_eq_true rfl) rfl (fun Γ K KR hnL hnm => ?_)
  show XW Γ N v [(0, .ref (B + 0)), (1, .int (zI r))] 0 0 0 []
  refine x_iload_n (pc := 0) 1 K rfl rfl dX11_rowAt_0 ?_
  refine x_if_lt (pc := 1) (tgt := 10) K (by omega) dX11_rowAt_1 (by decide) (fun h_1 => ?_) (fun h_1 => ?_)
  · skip
    refine x_null (pc := 10) K dX11_rowAt_10 ?_
    refine x_goto (pc := 11) (tgt := 20) K dX11_rowAt_11 (by decide) ?_
    refine x_aret (pc := 20) K KR (by omega) (Nat.le_of_ble_eq_true rfl) (Nat.le_of_ble_eq_true rfl) (Or.inl rfl) dX11_rowAt_20 ?_
    exact ⟨rfl, rfl, rfl⟩
  · skip
    refine x_iload_n (pc := 4) 1 K rfl rfl dX11_rowAt_4 ?_
    refine x_bipush (pc := 5) K (by decide) dX11_rowAt_5 ?_
    refine x_icmp_lt (pc := 7) (tgt := 14) K (by omega) (by decide) dX11_rowAt_7 (by decide) (fun h_7 => ?_) (fun h_7 => ?_)
    · skip
      exfalso; omega
    · skip
      refine x_null (pc := 10) K dX11_rowAt_10 ?_
      refine x_goto (pc := 11) (tgt := 20) K dX11_rowAt_11 (by decide) ?_
      refine x_aret (pc := 20) K KR (by omega) (Nat.le_of_ble_eq_true rfl) (Nat.le_of_ble_eq_true rfl) (Or.inl rfl) dX11_rowAt_20 ?_
      exact ⟨rfl, rfl, rfl⟩

set_option maxRecDepth 100000 in
set_option maxHeartbeats 4000000 in
theorem c_X11_finding {E : XE} {B N : Nat} {v : Nat → va_E} {k : Int} {cu : Value} {old kept fau fin : Int} (hc0 : Cel N v 0 (.inr (10, [.ref (B + 1), .ref (B + 2), .ref (B + 5), .ref (B + 7), .ref (B + 12), .ref (B + 13), .ref (B + 14), cu, .int (zI old), .int (zI kept), .int (zI fau), .int (zI fin)]))) : gM yX11_finding wsX11_finding ({ frames := 0, cells := 0, slots := 0, locals := 0 }) E B N v [.ref (B + 0), .int (zI k)] (po0 N (fun ρ v' => ρ = some (.int (zI (-1000010 - k))) ∧ (va_up v 0 (.inr (10, [.ref (B + 1), .ref (B + 2), .ref (B + 5), .ref (B + 7), .ref (B + 12), .ref (B + 13), .ref (B + 14), cu, .int (zI old), .int (zI kept), .int (zI fau), .int (zI k)]))) = v')) := by
  refine x_met (nm := "finding") (by decide +kernel) rfl (Nat.le_of_ble_eq_true rfl) rfl (fun Γ K KR hnL hnm => ?_)
  show XW Γ N v [(0, .ref (B + 0)), (1, .int (zI k))] 0 0 0 []
  refine x_v (cel_pad hc0) ?_
  refine x_aload_n (pc := 0) 0 K rfl rfl dX11_finding_0 ?_
  refine x_iload_n (pc := 1) 1 K rfl rfl dX11_finding_1 ?_
  refine x_put (pc := 2) (C := RX11) (T := TX11) (n := 12) (ci := 10) (idx := 63) (ref := "BorderBeds") (ty := .int)  K (cel_self hc0.1) rfl (by decide +kernel) tyX11 tyX11_ok nmX11 11 (by decide) (by decide +kernel) rfl rfl (by decide +kernel) rfl rfl (Nat.le_of_ble_eq_true rfl) dX11_finding_2 ?_
  refine x_v (w := (va_up v 0 (.inr (10, [.ref (B + 1), .ref (B + 2), .ref (B + 5), .ref (B + 7), .ref (B + 12), .ref (B + 13), .ref (B + 14), cu, .int (zI old), .int (zI kept), .int (zI fau), .int (zI k)])))) (up_at0).symm ?_
  refine x_ldc (pc := 5) (x := (-1000010)) (-1000010) K (by decide) (by decide +kernel) dX11_finding_5 ?_
  refine x_iload_n (pc := 7) 1 K rfl rfl dX11_finding_7 ?_
  refine x_isub (pc := 8) K dX11_finding_8 ?_
  refine x_iret (pc := 9) K KR (by omega) (Nat.le_of_ble_eq_true rfl) (Nat.le_of_ble_eq_true rfl) dX11_finding_9 ?_
  exact ⟨rfl, rfl, rfl⟩

set_option maxRecDepth 100000 in
set_option maxHeartbeats 4000000 in
theorem c_X11_withoutFinding {E : XE} {B N : Nat} {v : Nat → va_E} {x : Int} {cu : Value} {old kept fau fin : Int} (hc0 : Cel N v 0 (.inr (10, [.ref (B + 1), .ref (B + 2), .ref (B + 5), .ref (B + 7), .ref (B + 12), .ref (B + 13), .ref (B + 14), cu, .int (zI old), .int (zI kept), .int (zI fau), .int (zI fin)]))) : gM yX11_withoutFinding wsX11_withoutFinding ({ frames := 0, cells := 0, slots := 0, locals := 0 }) E B N v [.ref (B + 0), .int (zI x)] (po0 N (fun ρ v' => ρ = some (.int (zI x)) ∧ (va_up v 0 (.inr (10, [.ref (B + 1), .ref (B + 2), .ref (B + 5), .ref (B + 7), .ref (B + 12), .ref (B + 13), .ref (B + 14), cu, .int (zI old), .int (zI kept), .int (zI fau), .int (zI 0)]))) = v')) := by
  refine x_met (nm := "withoutFinding") (by decide +kernel) rfl (Nat.le_of_ble_eq_true rfl) rfl (fun Γ K KR hnL hnm => ?_)
  show XW Γ N v [(0, .ref (B + 0)), (1, .int (zI x))] 0 0 0 []
  refine x_v (cel_pad hc0) ?_
  refine x_aload_n (pc := 0) 0 K rfl rfl dX11_withoutFinding_0 ?_
  refine x_iconst (pc := 1) K dX11_withoutFinding_1 ?_
  refine x_put (pc := 2) (C := RX11) (T := TX11) (n := 12) (ci := 10) (idx := 63) (ref := "BorderBeds") (ty := .int)  K (cel_self hc0.1) rfl (by decide +kernel) tyX11 tyX11_ok nmX11 11 (by decide) (by decide +kernel) rfl rfl (by decide +kernel) rfl rfl (Nat.le_of_ble_eq_true rfl) dX11_withoutFinding_2 ?_
  refine x_v (w := (va_up v 0 (.inr (10, [.ref (B + 1), .ref (B + 2), .ref (B + 5), .ref (B + 7), .ref (B + 12), .ref (B + 13), .ref (B + 14), cu, .int (zI old), .int (zI kept), .int (zI fau), .int (zI 0)])))) (up_at0).symm ?_
  refine x_iload_n (pc := 5) 1 K rfl rfl dX11_withoutFinding_5 ?_
  refine x_iret (pc := 6) K KR (by omega) (Nat.le_of_ble_eq_true rfl) (Nat.le_of_ble_eq_true rfl) dX11_withoutFinding_6 ?_
  exact ⟨rfl, rfl, rfl⟩

set_option maxRecDepth 100000 in
set_option maxHeartbeats 4000000 in
theorem c_X11_fault {E : XE} {B N : Nat} {v : Nat → va_E} {cu : Value} {old kept fau fin : Int} (hc0 : Cel N v 0 (.inr (10, [.ref (B + 1), .ref (B + 2), .ref (B + 5), .ref (B + 7), .ref (B + 12), .ref (B + 13), .ref (B + 14), cu, .int (zI old), .int (zI kept), .int (zI fau), .int (zI fin)]))) : gM yX11_fault wsX11_fault ({ frames := 0, cells := 0, slots := 0, locals := 0 }) E B N v [.ref (B + 0)] (po0 N (fun ρ v' => ρ = some (.int (zI fau)) ∧ v = v')) := by
  refine x_met (nm := "fault") (by decide +kernel) rfl (Nat.le_of_ble_eq_true rfl) rfl (fun Γ K KR hnL hnm => ?_)
  show XW Γ N v [(0, .ref (B + 0))] 0 0 0 []
  refine x_aload_n (pc := 0) 0 K rfl rfl dX11_fault_0 ?_
  refine x_get (pc := 1) (C := RX11) (T := TX11) (n := 12) (ci := 10) (idx := 60) (ref := "BorderBeds") (x := .int (zI fau))  K hc0 rfl (by decide +kernel) 10 (by decide) (by decide +kernel) rfl rfl dX11_fault_1 ?_
  refine x_iret (pc := 4) K KR (by omega) (Nat.le_of_ble_eq_true rfl) (Nat.le_of_ble_eq_true rfl) dX11_fault_4 ?_
  exact ⟨rfl, rfl, rfl⟩

set_option maxRecDepth 100000 in
set_option maxHeartbeats 4000000 in
theorem c_X11_status {E : XE} {B N : Nat} {v : Nat → va_E} {cu : Value} {old kept fau fin : Int} (hc0 : Cel N v 0 (.inr (10, [.ref (B + 1), .ref (B + 2), .ref (B + 5), .ref (B + 7), .ref (B + 12), .ref (B + 13), .ref (B + 14), cu, .int (zI old), .int (zI kept), .int (zI fau), .int (zI fin)]))) : gM yX11_status wsX11_status ({ frames := 0, cells := 0, slots := 0, locals := 0 }) E B N v [.ref (B + 0)] (po0 N (fun ρ v' => ρ = some (.int (zI fin)) ∧ v = v')) := by
  refine x_met (nm := "status") (by decide +kernel) rfl (Nat.le_of_ble_eq_true rfl) rfl (fun Γ K KR hnL hnm => ?_)
  show XW Γ N v [(0, .ref (B + 0))] 0 0 0 []
  refine x_aload_n (pc := 0) 0 K rfl rfl dX11_status_0 ?_
  refine x_get (pc := 1) (C := RX11) (T := TX11) (n := 12) (ci := 10) (idx := 63) (ref := "BorderBeds") (x := .int (zI fin))  K hc0 rfl (by decide +kernel) 11 (by decide) (by decide +kernel) rfl rfl dX11_status_1 ?_
  refine x_iret (pc := 4) K KR (by omega) (Nat.le_of_ble_eq_true rfl) (Nat.le_of_ble_eq_true rfl) dX11_status_4 ?_
  exact ⟨rfl, rfl, rfl⟩

set_option maxRecDepth 100000 in
set_option maxHeartbeats 4000000 in
theorem c_X11_row {E : XE} {B N : Nat} {v : Nat → va_E} {c : Nat} {cu : Value} {old kept fau fin : Int} {la sz : Int} {g : Nat → Int} {r lane n : Int} (hc0 : Cel N v 0 (.inr (10, [.ref (B + 1), .ref (B + 2), .ref (B + 5), .ref (B + 7), .ref (B + 12), .ref (B + 13), .ref (B + 14), cu, .int (zI old), .int (zI kept), .int (zI fau), .int (zI fin)]))) (hc1 : Cel N v 1 (rarr E 2 8 B rowQ)) (hc2 : Cel N v c (.inr (6, [.ref (B + (c + 1)), .int (zI la), .int (zI sz)]))) (hc3 : Cel N v (c + 1) (iarr E 40 g)) (hq0 : c = rowC r) (hq1 : (-2147483648 ≤ r ∧ r ≤ 2147483647)) (hq2 : (-2147483648 ≤ lane ∧ lane ≤ 2147483647)) (hq3 : (-2147483648 ≤ n ∧ n ≤ 2147483647)) (hq4 : (-2147483648 ≤ sz ∧ sz ≤ 2147483647)) : gM yX11_row wsX11_row ({ frames := 2, cells := 0, slots := 0, locals := 44 }) E B N v [.ref (B + 0), .int (zI r), .int (zI lane), .int (zI n)] (po0 N (fun ρ v' => ∃ (res : Int), ∃ (fin2 : Int), ∃ (la2 : Int), ∃ (sz2 : Int), ∃ (g2 : Nat → Int), ((¬ (0 ≤ r ∧ r ≤ 7 ∧ 0 ≤ lane ∧ lane ≤ 2 ∧ n ≤ 40) ∧ res = -1000001 ∧ fin2 = fin ∧ la2 = la ∧ sz2 = sz ∧ g2 = g) ∨ ((0 ≤ r ∧ r ≤ 7 ∧ 0 ≤ lane ∧ lane ≤ 2 ∧ n ≤ 40) ∧ n < 0 ∧ res = -1000014 ∧ fin2 = 4 ∧ la2 = la ∧ sz2 = sz ∧ g2 = g) ∨ ((0 ≤ r ∧ r ≤ 7 ∧ 0 ≤ lane ∧ lane ≤ 2 ∧ n ≤ 40) ∧ 0 ≤ n ∧ res = n ∧ fin2 = 0 ∧ la2 = lane ∧ sz2 = n ∧ ∀ q : Nat, (q : Int) < n → g2 q = 0)) ∧ ρ = some (.int (zI res)) ∧ (va_up (va_up (va_up v 0 (.inr (10, [.ref (B + 1), .ref (B + 2), .ref (B + 5), .ref (B + 7), .ref (B + 12), .ref (B + 13), .ref (B + 14), cu, .int (zI old), .int (zI kept), .int (zI fau), .int (zI fin2)]))) c (.inr (6, [.ref (B + (c + 1)), .int (zI la2), .int (zI sz2)]))) (c + 1) (iarr E 40 g2)) = v')) := by
  refine x_met (nm := "row") (by decide +kernel) rfl (Nat.le_of_ble_eq_true rfl) rfl (fun Γ K KR hnL hnm => ?_)
  show XW Γ N v [(0, .ref (B + 0)), (1, .int (zI r)), (2, .int (zI lane)), (3, .int (zI n))] 0 0 0 []
  have hcr := rowC_rng r
  refine x_v (cel_pad hc0) ?_
  refine x_v (cel_pad (cel_ne hc2 (by omega))) ?_
  refine x_v (cel_pad (cel_ne (cel_ne hc3 (by omega)) (by omega))) ?_
  by_cases hr : 0 ≤ r ∧ r ≤ 7
  · skip
    obtain ⟨rr, rfl⟩ : ∃ rr : Nat, r = (rr : Int) := ⟨r.toNat, by omega⟩
    have hcc := rowC_y (r := rr) (by omega)
    refine x_aload_n (pc := 0) 0 K rfl rfl dX11_row_0 ?_
    refine x_iload_n (pc := 1) 1 K rfl rfl dX11_row_1 ?_
    refine x_callV (pc := 2) (C := RX11) (T := TX11) (n := 12) (ci := 10) (As := [.int (zI (rr : Int))]) K (c_X11_rowAt_y (E := E) (B := B) (N := N) (c := c) (r := rr) rfl (cel_ne (cel_ne (cel_self hc0.1) (by omega)) (by omega)) (cel_ne (cel_ne (cel_ne hc1 (by decide)) (by omega)) (by omega)) (by omega) (by omega)) gX11_row_X11_rowAt rfl (na := 1) (by decide +kernel) rfl ⟨(Nat.le_of_ble_eq_true rfl), (Nat.le_of_ble_eq_true rfl)⟩ (cel_ne (cel_ne (cel_self hc0.1) (by omega)) (by omega)) rfl (st := []) rfl (Nat.le_of_ble_eq_true rfl) ⟨(Nat.le_of_ble_eq_true rfl), (Nat.le_of_ble_eq_true rfl)⟩ dX11_row_2 (fun r2 N2 w2 hpo2 hN2 => ?_)
    obtain ⟨rfl, rfl, rfl⟩ := hpo2
    refine x_st (st' := [.ref (B + c)]) rfl ?_
    refine x_astore (pc := 5) K (L' := [(4, .ref (B + c)), (0, .ref (B + 0)), (1, .int (zI (rr : Int))), (2, .int (zI lane)), (3, .int (zI n))]) hnL (by decide) rfl dX11_row_5 ?_
    refine x_aload (pc := 7) 0 K rfl dX11_row_7 ?_
    refine x_ifnull (pc := 9) K dX11_row_9 ?_
    refine x_iload_n (pc := 12) 3 K rfl rfl dX11_row_12 ?_
    refine x_if_lt (pc := 13) (tgt := 27) K (by omega) dX11_row_13 (by decide) (fun h_13 => ?_) (fun h_13 => ?_)
    · skip
      refine x_ldc (pc := 27) (x := (-1000001)) (-1000001) K (by decide) (by decide +kernel) dX11_row_27 ?_
      refine x_iret (pc := 29) K KR (by omega) (Nat.le_of_ble_eq_true rfl) (Nat.le_of_ble_eq_true rfl) dX11_row_29 ?_
      exact ⟨rfl, (-1000001), fin, la, sz, g, (Or.inl ⟨by omega, rfl, rfl, rfl, rfl, rfl⟩), rfl, rfl⟩
    · skip
      refine x_iload_n (pc := 16) 3 K rfl rfl dX11_row_16 ?_
      refine x_iconst (pc := 17) K dX11_row_17 ?_
      refine x_icmp_ge (pc := 18) (tgt := 27) K (by omega) (by decide) dX11_row_18 (by decide) (fun h_18 => ?_) (fun h_18 => ?_)
      · skip
        refine x_ldc (pc := 27) (x := (-1000001)) (-1000001) K (by decide) (by decide +kernel) dX11_row_27 ?_
        refine x_iret (pc := 29) K KR (by omega) (Nat.le_of_ble_eq_true rfl) (Nat.le_of_ble_eq_true rfl) dX11_row_29 ?_
        exact ⟨rfl, (-1000001), fin, la, sz, g, (Or.inl ⟨by omega, rfl, rfl, rfl, rfl, rfl⟩), rfl, rfl⟩
      · skip
        refine x_iload_n (pc := 21) 4 K rfl rfl dX11_row_21 ?_
        refine x_bipush (pc := 22) K (by decide) dX11_row_22 ?_
        refine x_icmp_le (pc := 24) (tgt := 30) K (by omega) (by decide) dX11_row_24 (by decide) (fun h_24 => ?_) (fun h_24 => ?_)
        · skip
          refine x_iload_n (pc := 30) 4 K rfl rfl dX11_row_30 ?_
          refine x_if_ge (pc := 31) (tgt := 40) K (by omega) dX11_row_31 (by decide) (fun h_31 => ?_) (fun h_31 => ?_)
          · skip
            refine x_aload (pc := 40) 0 K rfl dX11_row_40 ?_
            refine x_iload_n (pc := 42) 3 K rfl rfl dX11_row_42 ?_
            refine x_iload_n (pc := 43) 4 K rfl rfl dX11_row_43 ?_
            refine x_callV (pc := 44) (C := RX7) (T := TX7) (n := 3) (ci := 6) (As := [.int (zI lane), .int (zI n)]) K (c_X7_begin (E := E) (B := B) (N := N)   (cel_ne (cel_self hc2.1) (by omega)) (cel_self hc3.1) (by omega) (by omega) (by omega)) gX11_row_X7_begin rfl (na := 2) (by decide +kernel) rfl ⟨(Nat.le_of_ble_eq_true rfl), (Nat.le_of_ble_eq_true rfl)⟩ (cel_ne (cel_self hc2.1) (by omega)) rfl (st := []) rfl (Nat.le_of_ble_eq_true rfl) ⟨(Nat.le_of_ble_eq_true rfl), (Nat.le_of_ble_eq_true rfl)⟩ dX11_row_44 (fun r44 N44 w44 hpo44 hN44 => ?_)
            obtain ⟨rfl, g2_44, hp44_0, rfl, rfl⟩ := hpo44
            refine x_v (congrArg (fun w => (va_up w (c + 1) (iarr E 40 g2_44))) (show (va_up (va_up (va_up v 0 (.inr (10, [.ref (B + 1), .ref (B + 2), .ref (B + 5), .ref (B + 7), .ref (B + 12), .ref (B + 13), .ref (B + 14), cu, .int (zI old), .int (zI kept), .int (zI fau), .int (zI fin)]))) c (.inr (6, [.ref (B + (c + 1)), .int (zI lane), .int (zI n)]))) (c + 1) (iarr E 40 g)) = _ from (up_at1 (by omega)).symm)) ?_
            refine x_v (w := (va_up (va_up (va_up v 0 (.inr (10, [.ref (B + 1), .ref (B + 2), .ref (B + 5), .ref (B + 7), .ref (B + 12), .ref (B + 13), .ref (B + 14), cu, .int (zI old), .int (zI kept), .int (zI fau), .int (zI fin)]))) c (.inr (6, [.ref (B + (c + 1)), .int (zI lane), .int (zI n)]))) (c + 1) (iarr E 40 g2_44))) (up_at0).symm ?_
            refine x_st (st' := []) rfl ?_
            refine x_aload_n (pc := 47) 1 K rfl rfl dX11_row_47 ?_
            refine x_iload_n (pc := 48) 4 K rfl rfl dX11_row_48 ?_
            refine x_callV (pc := 49) (C := RX11) (T := TX11) (n := 12) (ci := 10) (As := [.int (zI n)]) K (c_X11_withoutFinding (E := E) (B := B) (N := N)   (cel_ne (cel_ne (cel_self hc0.1) (by omega)) (by omega)) ) gX11_row_X11_withoutFinding rfl (na := 1) (by decide +kernel) rfl ⟨(Nat.le_of_ble_eq_true rfl), (Nat.le_of_ble_eq_true rfl)⟩ (cel_ne (cel_ne (cel_self hc0.1) (by omega)) (by omega)) rfl (st := []) rfl (Nat.le_of_ble_eq_true rfl) ⟨(Nat.le_of_ble_eq_true rfl), (Nat.le_of_ble_eq_true rfl)⟩ dX11_row_49 (fun r49 N49 w49 hpo49 hN49 => ?_)
            obtain ⟨rfl, rfl, rfl⟩ := hpo49
            refine x_v (w := (va_up (va_up (va_up v 0 (.inr (10, [.ref (B + 1), .ref (B + 2), .ref (B + 5), .ref (B + 7), .ref (B + 12), .ref (B + 13), .ref (B + 14), cu, .int (zI old), .int (zI kept), .int (zI fau), .int (zI 0)]))) c (.inr (6, [.ref (B + (c + 1)), .int (zI lane), .int (zI n)]))) (c + 1) (iarr E 40 g2_44))) (up_at2 (by omega) (by omega)).symm ?_
            refine x_st (st' := [.int (zI n)]) rfl ?_
            refine x_iret (pc := 52) K KR (by omega) (Nat.le_of_ble_eq_true rfl) (Nat.le_of_ble_eq_true rfl) dX11_row_52 ?_
            exact ⟨rfl, n, 0, lane, n, g2_44, (Or.inr (Or.inr ⟨by omega, by omega, rfl, rfl, rfl, rfl, hp44_0⟩)), rfl, rfl⟩
          · skip
            refine x_aload_n (pc := 34) 1 K rfl rfl dX11_row_34 ?_
            refine x_iconst (pc := 35) K dX11_row_35 ?_
            refine x_callV (pc := 36) (C := RX11) (T := TX11) (n := 12) (ci := 10) (As := [.int (zI 4)]) K (c_X11_finding (E := E) (B := B) (N := N)   (cel_ne (cel_ne (cel_self hc0.1) (by omega)) (by omega)) ) gX11_row_X11_finding rfl (na := 1) (by decide +kernel) rfl ⟨(Nat.le_of_ble_eq_true rfl), (Nat.le_of_ble_eq_true rfl)⟩ (cel_ne (cel_ne (cel_self hc0.1) (by omega)) (by omega)) rfl (st := []) rfl (Nat.le_of_ble_eq_true rfl) ⟨(Nat.le_of_ble_eq_true rfl), (Nat.le_of_ble_eq_true rfl)⟩ dX11_row_36 (fun r36 N36 w36 hpo36 hN36 => ?_)
            obtain ⟨rfl, rfl, rfl⟩ := hpo36
            refine x_v (w := (va_up (va_up (va_up v 0 (.inr (10, [.ref (B + 1), .ref (B + 2), .ref (B + 5), .ref (B + 7), .ref (B + 12), .ref (B + 13), .ref (B + 14), cu, .int (zI old), .int (zI kept), .int (zI fau), .int (zI 4)]))) c (.inr (6, [.ref (B + (c + 1)), .int (zI la), .int (zI sz)]))) (c + 1) (iarr E 40 g))) (up_at2 (by omega) (by omega)).symm ?_
            refine x_st (st' := [.int (zI (-1000010 - 4))]) rfl ?_
            refine x_iret (pc := 39) K KR (by omega) (Nat.le_of_ble_eq_true rfl) (Nat.le_of_ble_eq_true rfl) dX11_row_39 ?_
            exact ⟨rfl, (-1000010 - 4), 4, la, sz, g, (Or.inr (Or.inl ⟨by omega, by omega, rfl, rfl, rfl, rfl, rfl⟩)), rfl, rfl⟩
        · skip
          refine x_ldc (pc := 27) (x := (-1000001)) (-1000001) K (by decide) (by decide +kernel) dX11_row_27 ?_
          refine x_iret (pc := 29) K KR (by omega) (Nat.le_of_ble_eq_true rfl) (Nat.le_of_ble_eq_true rfl) dX11_row_29 ?_
          exact ⟨rfl, (-1000001), fin, la, sz, g, (Or.inl ⟨by omega, rfl, rfl, rfl, rfl, rfl⟩), rfl, rfl⟩
  · skip
    refine x_aload_n (pc := 0) 0 K rfl rfl dX11_row_0 ?_
    refine x_iload_n (pc := 1) 1 K rfl rfl dX11_row_1 ?_
    refine x_callV (pc := 2) (C := RX11) (T := TX11) (n := 12) (ci := 10) (As := [.int (zI r)]) K (c_X11_rowAt_n (E := E) (B := B) (N := N)   (cel_ne (cel_ne (cel_self hc0.1) (by omega)) (by omega)) (cel_ne (cel_ne (cel_ne hc1 (by decide)) (by omega)) (by omega)) hr (by omega)) gX11_row_X11_rowAt rfl (na := 1) (by decide +kernel) rfl ⟨(Nat.le_of_ble_eq_true rfl), (Nat.le_of_ble_eq_true rfl)⟩ (cel_ne (cel_ne (cel_self hc0.1) (by omega)) (by omega)) rfl (st := []) rfl (Nat.le_of_ble_eq_true rfl) ⟨(Nat.le_of_ble_eq_true rfl), (Nat.le_of_ble_eq_true rfl)⟩ dX11_row_2 (fun r2 N2 w2 hpo2 hN2 => ?_)
    obtain ⟨rfl, rfl, rfl⟩ := hpo2
    refine x_st (st' := [.null]) rfl ?_
    refine x_astoreN (pc := 5) K (L' := [(4, .null), (0, .ref (B + 0)), (1, .int (zI r)), (2, .int (zI lane)), (3, .int (zI n))]) hnL (by decide) rfl dX11_row_5 ?_
    refine x_aloadN (pc := 7) 0 K rfl dX11_row_7 ?_
    refine x_ifnullN (pc := 9) (tgt := 27) K dX11_row_9 (by decide) ?_
    refine x_ldc (pc := 27) (x := (-1000001)) (-1000001) K (by decide) (by decide +kernel) dX11_row_27 ?_
    refine x_iret (pc := 29) K KR (by omega) (Nat.le_of_ble_eq_true rfl) (Nat.le_of_ble_eq_true rfl) dX11_row_29 ?_
    exact ⟨rfl, (-1000001), fin, la, sz, g, (Or.inl ⟨by omega, rfl, rfl, rfl, rfl, rfl⟩), rfl, rfl⟩

set_option maxRecDepth 100000 in
set_option maxHeartbeats 4000000 in
theorem c_X11_drop {E : XE} {B N : Nat} {v : Nat → va_E} {c : Nat} {cu : Value} {old kept fau fin : Int} {la sz : Int} {g : Nat → Int} {r : Int} (hc0 : Cel N v 0 (.inr (10, [.ref (B + 1), .ref (B + 2), .ref (B + 5), .ref (B + 7), .ref (B + 12), .ref (B + 13), .ref (B + 14), cu, .int (zI old), .int (zI kept), .int (zI fau), .int (zI fin)]))) (hc1 : Cel N v 1 (rarr E 2 8 B rowQ)) (hc2 : Cel N v c (.inr (6, [.ref (B + (c + 1)), .int (zI la), .int (zI sz)]))) (hq0 : c = rowC r) (hq1 : (-2147483648 ≤ r ∧ r ≤ 2147483647)) (hq2 : (-2147483648 ≤ la ∧ la ≤ 2147483647)) (hq3 : (-2147483648 ≤ sz ∧ sz ≤ 2147483647)) : gM yX11_drop wsX11_drop ({ frames := 1, cells := 0, slots := 0, locals := 21 }) E B N v [.ref (B + 0), .int (zI r)] (po0 N (fun ρ v' => ∃ (res : Int), ∃ (fin2 : Int), ∃ (la2 : Int), ((¬ (0 ≤ r ∧ r ≤ 7) ∧ res = -1000001 ∧ fin2 = fin ∧ la2 = la) ∨ ((0 ≤ r ∧ r ≤ 7) ∧ la = -1 ∧ res = -1000011 ∧ fin2 = 1 ∧ la2 = la) ∨ ((0 ≤ r ∧ r ≤ 7) ∧ la ≠ -1 ∧ res = sz ∧ fin2 = 0 ∧ la2 = -1)) ∧ ρ = some (.int (zI res)) ∧ (va_up (va_up v 0 (.inr (10, [.ref (B + 1), .ref (B + 2), .ref (B + 5), .ref (B + 7), .ref (B + 12), .ref (B + 13), .ref (B + 14), cu, .int (zI old), .int (zI kept), .int (zI fau), .int (zI fin2)]))) c (.inr (6, [.ref (B + (c + 1)), .int (zI la2), .int (zI sz)]))) = v')) := by
  refine x_met (nm := "drop") (by decide +kernel) rfl (Nat.le_of_ble_eq_true rfl) rfl (fun Γ K KR hnL hnm => ?_)
  show XW Γ N v [(0, .ref (B + 0)), (1, .int (zI r))] 0 0 0 []
  have hcr := rowC_rng r
  refine x_v (cel_pad hc0) ?_
  refine x_v (cel_pad (cel_ne hc2 (by omega))) ?_
  by_cases hr : 0 ≤ r ∧ r ≤ 7
  · skip
    obtain ⟨rr, rfl⟩ : ∃ rr : Nat, r = (rr : Int) := ⟨r.toNat, by omega⟩
    have hcc := rowC_y (r := rr) (by omega)
    refine x_aload_n (pc := 0) 0 K rfl rfl dX11_drop_0 ?_
    refine x_iload_n (pc := 1) 1 K rfl rfl dX11_drop_1 ?_
    refine x_callV (pc := 2) (C := RX11) (T := TX11) (n := 12) (ci := 10) (As := [.int (zI (rr : Int))]) K (c_X11_rowAt_y (E := E) (B := B) (N := N) (c := c) (r := rr) rfl (cel_ne (cel_self hc0.1) (by omega)) (cel_ne (cel_ne hc1 (by decide)) (by omega)) (by omega) (by omega)) gX11_drop_X11_rowAt rfl (na := 1) (by decide +kernel) rfl ⟨(Nat.le_of_ble_eq_true rfl), (Nat.le_of_ble_eq_true rfl)⟩ (cel_ne (cel_self hc0.1) (by omega)) rfl (st := []) rfl (Nat.le_of_ble_eq_true rfl) ⟨(Nat.le_of_ble_eq_true rfl), (Nat.le_of_ble_eq_true rfl)⟩ dX11_drop_2 (fun r2 N2 w2 hpo2 hN2 => ?_)
    obtain ⟨rfl, rfl, rfl⟩ := hpo2
    refine x_st (st' := [.ref (B + c)]) rfl ?_
    refine x_astore_n (pc := 5) K (L' := [(2, .ref (B + c)), (0, .ref (B + 0)), (1, .int (zI (rr : Int)))]) hnL rfl (by decide) rfl dX11_drop_5 ?_
    refine x_aload_n (pc := 6) 0 K rfl rfl dX11_drop_6 ?_
    refine x_ifnonnull (pc := 7) (tgt := 13) K dX11_drop_7 (by decide) ?_
    refine x_aload_n (pc := 13) 0 K rfl rfl dX11_drop_13 ?_
    refine x_callV (pc := 14) (C := RX7) (T := TX7) (n := 3) (ci := 6) (As := []) K (c_X7_isMissing (E := E) (B := B) (N := N) (g := (fun _ => (0 : Int)))  (cel_self hc2.1) (by omega)) gX11_drop_X7_isMissing rfl (na := 0) (by decide +kernel) rfl ⟨(Nat.le_of_ble_eq_true rfl), (Nat.le_of_ble_eq_true rfl)⟩ (cel_self hc2.1) rfl (st := []) rfl (Nat.le_of_ble_eq_true rfl) ⟨(Nat.le_of_ble_eq_true rfl), (Nat.le_of_ble_eq_true rfl)⟩ dX11_drop_14 (fun r14 N14 w14 hpo14 hN14 => ?_)
    obtain ⟨rfl, rfl, rfl⟩ := hpo14
    refine x_st (st' := [.int (zI (bI (la = -1)))]) rfl ?_
    have hrg14 := bI_rng (la = -1)
    refine x_if_eq (pc := 17) (tgt := 26) K (by omega) dX11_drop_17 (by decide) (fun h_17 => ?_) (fun h_17 => ?_)
    · skip
      have h_17 := bI_t h_17
      refine x_aload_n (pc := 26) 0 K rfl rfl dX11_drop_26 ?_
      refine x_iconst (pc := 27) K dX11_drop_27 ?_
      refine x_put (pc := 28) (C := RX7) (T := TX7) (n := 3) (ci := 6) (idx := 95) (ref := "BorderBeds$Row") (ty := .int)  K (cel_self hc2.1) rfl (by decide +kernel) tyX7 tyX7_ok nmX7 1 (by decide) (by decide +kernel) rfl rfl (by decide +kernel) rfl rfl (Nat.le_of_ble_eq_true rfl) dX11_drop_28 ?_
      refine x_v (w := (va_up (va_up v 0 (.inr (10, [.ref (B + 1), .ref (B + 2), .ref (B + 5), .ref (B + 7), .ref (B + 12), .ref (B + 13), .ref (B + 14), cu, .int (zI old), .int (zI kept), .int (zI fau), .int (zI fin)]))) c (.inr (6, [.ref (B + (c + 1)), .int (zI (-1)), .int (zI sz)])))) (up_at0).symm ?_
      refine x_aload_n (pc := 31) 1 K rfl rfl dX11_drop_31 ?_
      refine x_aload_n (pc := 32) 0 K rfl rfl dX11_drop_32 ?_
      refine x_get (pc := 33) (C := RX7) (T := TX7) (n := 3) (ci := 6) (idx := 108) (ref := "BorderBeds$Row") (x := .int (zI sz))  K (cel_self hc2.1) rfl (by decide +kernel) 2 (by decide) (by decide +kernel) rfl rfl dX11_drop_33 ?_
      refine x_callV (pc := 36) (C := RX11) (T := TX11) (n := 12) (ci := 10) (As := [.int (zI sz)]) K (c_X11_withoutFinding (E := E) (B := B) (N := N)   (cel_ne (cel_self hc0.1) (by omega)) ) gX11_drop_X11_withoutFinding rfl (na := 1) (by decide +kernel) rfl ⟨(Nat.le_of_ble_eq_true rfl), (Nat.le_of_ble_eq_true rfl)⟩ (cel_ne (cel_self hc0.1) (by omega)) rfl (st := []) rfl (Nat.le_of_ble_eq_true rfl) ⟨(Nat.le_of_ble_eq_true rfl), (Nat.le_of_ble_eq_true rfl)⟩ dX11_drop_36 (fun r36 N36 w36 hpo36 hN36 => ?_)
      obtain ⟨rfl, rfl, rfl⟩ := hpo36
      refine x_v (w := (va_up (va_up v 0 (.inr (10, [.ref (B + 1), .ref (B + 2), .ref (B + 5), .ref (B + 7), .ref (B + 12), .ref (B + 13), .ref (B + 14), cu, .int (zI old), .int (zI kept), .int (zI fau), .int (zI 0)]))) c (.inr (6, [.ref (B + (c + 1)), .int (zI (-1)), .int (zI sz)])))) (up_at1 (by omega)).symm ?_
      refine x_st (st' := [.int (zI sz)]) rfl ?_
      refine x_iret (pc := 39) K KR (by omega) (Nat.le_of_ble_eq_true rfl) (Nat.le_of_ble_eq_true rfl) dX11_drop_39 ?_
      exact ⟨rfl, sz, 0, (-1), (Or.inr (Or.inr ⟨hr, by omega, rfl, rfl, rfl⟩)), rfl, rfl⟩
    · skip
      have h_17 := bI_f h_17
      refine x_aload_n (pc := 20) 1 K rfl rfl dX11_drop_20 ?_
      refine x_iconst (pc := 21) K dX11_drop_21 ?_
      refine x_callV (pc := 22) (C := RX11) (T := TX11) (n := 12) (ci := 10) (As := [.int (zI 1)]) K (c_X11_finding (E := E) (B := B) (N := N)   (cel_ne (cel_self hc0.1) (by omega)) ) gX11_drop_X11_finding rfl (na := 1) (by decide +kernel) rfl ⟨(Nat.le_of_ble_eq_true rfl), (Nat.le_of_ble_eq_true rfl)⟩ (cel_ne (cel_self hc0.1) (by omega)) rfl (st := []) rfl (Nat.le_of_ble_eq_true rfl) ⟨(Nat.le_of_ble_eq_true rfl), (Nat.le_of_ble_eq_true rfl)⟩ dX11_drop_22 (fun r22 N22 w22 hpo22 hN22 => ?_)
      obtain ⟨rfl, rfl, rfl⟩ := hpo22
      refine x_v (w := (va_up (va_up v 0 (.inr (10, [.ref (B + 1), .ref (B + 2), .ref (B + 5), .ref (B + 7), .ref (B + 12), .ref (B + 13), .ref (B + 14), cu, .int (zI old), .int (zI kept), .int (zI fau), .int (zI 1)]))) c (.inr (6, [.ref (B + (c + 1)), .int (zI la), .int (zI sz)])))) (up_at1 (by omega)).symm ?_
      refine x_st (st' := [.int (zI (-1000010 - 1))]) rfl ?_
      refine x_iret (pc := 25) K KR (by omega) (Nat.le_of_ble_eq_true rfl) (Nat.le_of_ble_eq_true rfl) dX11_drop_25 ?_
      exact ⟨rfl, (-1000010 - 1), 1, la, (Or.inr (Or.inl ⟨hr, by omega, rfl, rfl, rfl⟩)), rfl, rfl⟩
  · skip
    refine x_aload_n (pc := 0) 0 K rfl rfl dX11_drop_0 ?_
    refine x_iload_n (pc := 1) 1 K rfl rfl dX11_drop_1 ?_
    refine x_callV (pc := 2) (C := RX11) (T := TX11) (n := 12) (ci := 10) (As := [.int (zI r)]) K (c_X11_rowAt_n (E := E) (B := B) (N := N)   (cel_ne (cel_self hc0.1) (by omega)) (cel_ne (cel_ne hc1 (by decide)) (by omega)) hr (by omega)) gX11_drop_X11_rowAt rfl (na := 1) (by decide +kernel) rfl ⟨(Nat.le_of_ble_eq_true rfl), (Nat.le_of_ble_eq_true rfl)⟩ (cel_ne (cel_self hc0.1) (by omega)) rfl (st := []) rfl (Nat.le_of_ble_eq_true rfl) ⟨(Nat.le_of_ble_eq_true rfl), (Nat.le_of_ble_eq_true rfl)⟩ dX11_drop_2 (fun r2 N2 w2 hpo2 hN2 => ?_)
    obtain ⟨rfl, rfl, rfl⟩ := hpo2
    refine x_st (st' := [.null]) rfl ?_
    refine x_astore_nN (pc := 5) K (L' := [(2, .null), (0, .ref (B + 0)), (1, .int (zI r))]) hnL rfl (by decide) rfl dX11_drop_5 ?_
    refine x_aload_nN (pc := 6) 0 K rfl rfl dX11_drop_6 ?_
    refine x_ifnonnullN (pc := 7) K dX11_drop_7 ?_
    refine x_ldc (pc := 10) (x := (-1000001)) (-1000001) K (by decide) (by decide +kernel) dX11_drop_10 ?_
    refine x_iret (pc := 12) K KR (by omega) (Nat.le_of_ble_eq_true rfl) (Nat.le_of_ble_eq_true rfl) dX11_drop_12 ?_
    exact ⟨rfl, (-1000001), fin, la, (Or.inl ⟨hr, rfl, rfl, rfl⟩), rfl, rfl⟩

set_option maxRecDepth 100000 in
set_option maxHeartbeats 4000000 in
theorem c_X11_set {E : XE} {B N : Nat} {v : Nat → va_E} {c : Nat} {cu : Value} {old kept fau fin : Int} {la sz : Int} {g : Nat → Int} {r i w : Int} (hc0 : Cel N v 0 (.inr (10, [.ref (B + 1), .ref (B + 2), .ref (B + 5), .ref (B + 7), .ref (B + 12), .ref (B + 13), .ref (B + 14), cu, .int (zI old), .int (zI kept), .int (zI fau), .int (zI fin)]))) (hc1 : Cel N v 1 (rarr E 2 8 B rowQ)) (hc2 : Cel N v c (.inr (6, [.ref (B + (c + 1)), .int (zI la), .int (zI sz)]))) (hc3 : Cel N v (c + 1) (iarr E 40 g)) (hq0 : c = rowC r) (hq1 : (-2147483648 ≤ r ∧ r ≤ 2147483647)) (hq2 : (-2147483648 ≤ i ∧ i ≤ 2147483647)) (hq3 : (-2147483648 ≤ w ∧ w ≤ 2147483647)) (hq4 : -1 ≤ la ∧ la ≤ 2) (hq5 : 0 ≤ sz ∧ sz ≤ 40) : gM yX11_set wsX11_set ({ frames := 1, cells := 0, slots := 0, locals := 22 }) E B N v [.ref (B + 0), .int (zI r), .int (zI i), .int (zI w)] (po0 N (fun ρ v' => ∃ (res : Int), ∃ (fin2 : Int), ∃ (g2 : Nat → Int), ((¬ (0 ≤ r ∧ r ≤ 7) ∧ res = -1000001 ∧ fin2 = fin ∧ g2 = g) ∨ ((0 ≤ r ∧ r ≤ 7) ∧ la = -1 ∧ res = -1000011 ∧ fin2 = 1 ∧ g2 = g) ∨ ((0 ≤ r ∧ r ≤ 7) ∧ la ≠ -1 ∧ ¬ (0 ≤ i ∧ i < sz) ∧ res = -1000012 ∧ fin2 = 2 ∧ g2 = g) ∨ ((0 ≤ r ∧ r ≤ 7) ∧ la ≠ -1 ∧ (0 ≤ i ∧ i < sz) ∧ res = narA la w ∧ fin2 = 0 ∧ g2 = va_up g i.toNat (narA la w))) ∧ ρ = some (.int (zI res)) ∧ (va_up (va_up v 0 (.inr (10, [.ref (B + 1), .ref (B + 2), .ref (B + 5), .ref (B + 7), .ref (B + 12), .ref (B + 13), .ref (B + 14), cu, .int (zI old), .int (zI kept), .int (zI fau), .int (zI fin2)]))) (c + 1) (iarr E 40 g2)) = v')) := by
  refine x_met (nm := "set") (by decide +kernel) rfl (Nat.le_of_ble_eq_true rfl) rfl (fun Γ K KR hnL hnm => ?_)
  show XW Γ N v [(0, .ref (B + 0)), (1, .int (zI r)), (2, .int (zI i)), (3, .int (zI w))] 0 0 0 []
  have hcr := rowC_rng r
  refine x_v (cel_pad hc0) ?_
  refine x_v (cel_pad (cel_ne hc3 (by omega))) ?_
  by_cases hr : 0 ≤ r ∧ r ≤ 7
  · skip
    obtain ⟨rr, rfl⟩ : ∃ rr : Nat, r = (rr : Int) := ⟨r.toNat, by omega⟩
    have hcc := rowC_y (r := rr) (by omega)
    refine x_aload_n (pc := 0) 0 K rfl rfl dX11_set_0 ?_
    refine x_iload_n (pc := 1) 1 K rfl rfl dX11_set_1 ?_
    refine x_callV (pc := 2) (C := RX11) (T := TX11) (n := 12) (ci := 10) (As := [.int (zI (rr : Int))]) K (c_X11_rowAt_y (E := E) (B := B) (N := N) (c := c) (r := rr) rfl (cel_ne (cel_self hc0.1) (by omega)) (cel_ne (cel_ne hc1 (by decide)) (by omega)) (by omega) (by omega)) gX11_set_X11_rowAt rfl (na := 1) (by decide +kernel) rfl ⟨(Nat.le_of_ble_eq_true rfl), (Nat.le_of_ble_eq_true rfl)⟩ (cel_ne (cel_self hc0.1) (by omega)) rfl (st := []) rfl (Nat.le_of_ble_eq_true rfl) ⟨(Nat.le_of_ble_eq_true rfl), (Nat.le_of_ble_eq_true rfl)⟩ dX11_set_2 (fun r2 N2 w2 hpo2 hN2 => ?_)
    obtain ⟨rfl, rfl, rfl⟩ := hpo2
    refine x_st (st' := [.ref (B + c)]) rfl ?_
    refine x_astore (pc := 5) K (L' := [(4, .ref (B + c)), (0, .ref (B + 0)), (1, .int (zI (rr : Int))), (2, .int (zI i)), (3, .int (zI w))]) hnL (by decide) rfl dX11_set_5 ?_
    refine x_aload (pc := 7) 0 K rfl dX11_set_7 ?_
    refine x_ifnonnull (pc := 9) (tgt := 15) K dX11_set_9 (by decide) ?_
    refine x_aload (pc := 15) 0 K rfl dX11_set_15 ?_
    refine x_callV (pc := 17) (C := RX7) (T := TX7) (n := 3) (ci := 6) (As := []) K (c_X7_isMissing (E := E) (B := B) (N := N) (g := (fun _ => (0 : Int)))  (cel_ne (cel_ne hc2 (by omega)) (by omega)) (by omega)) gX11_set_X7_isMissing rfl (na := 0) (by decide +kernel) rfl ⟨(Nat.le_of_ble_eq_true rfl), (Nat.le_of_ble_eq_true rfl)⟩ (cel_ne (cel_ne hc2 (by omega)) (by omega)) rfl (st := []) rfl (Nat.le_of_ble_eq_true rfl) ⟨(Nat.le_of_ble_eq_true rfl), (Nat.le_of_ble_eq_true rfl)⟩ dX11_set_17 (fun r17 N17 w17 hpo17 hN17 => ?_)
    obtain ⟨rfl, rfl, rfl⟩ := hpo17
    refine x_st (st' := [.int (zI (bI (la = -1)))]) rfl ?_
    have hrg17 := bI_rng (la = -1)
    refine x_if_eq (pc := 20) (tgt := 29) K (by omega) dX11_set_20 (by decide) (fun h_20 => ?_) (fun h_20 => ?_)
    · skip
      have h_20 := bI_t h_20
      refine x_aload (pc := 29) 0 K rfl dX11_set_29 ?_
      refine x_iload_n (pc := 31) 3 K rfl rfl dX11_set_31 ?_
      refine x_iconst (pc := 32) K dX11_set_32 ?_
      refine x_callV (pc := 33) (C := RX7) (T := TX7) (n := 3) (ci := 6) (As := [.int (zI i), .int (zI (1 : Int))]) K (c_X7_hasPlaces (E := E) (B := B) (N := N) (g := (fun _ => (0 : Int)))  (cel_ne (cel_ne hc2 (by omega)) (by omega)) (by omega) (by omega) (by omega)) gX11_set_X7_hasPlaces rfl (na := 2) (by decide +kernel) rfl ⟨(Nat.le_of_ble_eq_true rfl), (Nat.le_of_ble_eq_true rfl)⟩ (cel_ne (cel_ne hc2 (by omega)) (by omega)) rfl (st := []) rfl (Nat.le_of_ble_eq_true rfl) ⟨(Nat.le_of_ble_eq_true rfl), (Nat.le_of_ble_eq_true rfl)⟩ dX11_set_33 (fun r33 N33 w33 hpo33 hN33 => ?_)
      obtain ⟨rfl, rfl, rfl⟩ := hpo33
      refine x_st (st' := [.int (zI (bI (0 ≤ i ∧ 0 ≤ (1 : Int) ∧ i + (1 : Int) ≤ sz)))]) rfl ?_
      have hrg33 := bI_rng (0 ≤ i ∧ 0 ≤ (1 : Int) ∧ i + (1 : Int) ≤ sz)
      refine x_if_ne (pc := 36) (tgt := 45) K (by omega) dX11_set_36 (by decide) (fun h_36 => ?_) (fun h_36 => ?_)
      · skip
        have h_36 := bI_f h_36
        obtain ⟨ii, rfl⟩ : ∃ ii : Nat, i = (ii : Int) := ⟨i.toNat, by omega⟩
        refine x_aload_n (pc := 45) 1 K rfl rfl dX11_set_45 ?_
        refine x_aload (pc := 46) 0 K rfl dX11_set_46 ?_
        refine x_iload_n (pc := 48) 3 K rfl rfl dX11_set_48 ?_
        refine x_iload_n (pc := 49) 4 K rfl rfl dX11_set_49 ?_
        refine x_callV (pc := 50) (C := RX7) (T := TX7) (n := 3) (ci := 6) (As := [.int (zI (ii : Int)), .int (zI w)]) K (c_X7_keep (E := E) (B := B) (N := N) (i := ii) rfl (cel_ne (cel_ne hc2 (by omega)) (by omega)) (cel_self hc3.1) (by omega) (by omega) (by omega)) gX11_set_X7_keep rfl (na := 2) (by decide +kernel) rfl ⟨(Nat.le_of_ble_eq_true rfl), (Nat.le_of_ble_eq_true rfl)⟩ (cel_ne (cel_ne hc2 (by omega)) (by omega)) rfl (st := [.ref (B + 0)]) rfl (Nat.le_of_ble_eq_true rfl) ⟨(Nat.le_of_ble_eq_true rfl), (Nat.le_of_ble_eq_true rfl)⟩ dX11_set_50 (fun r50 N50 w50 hpo50 hN50 => ?_)
        obtain ⟨rfl, rfl, rfl⟩ := hpo50
        refine x_v (w := (va_up (va_up v 0 (.inr (10, [.ref (B + 1), .ref (B + 2), .ref (B + 5), .ref (B + 7), .ref (B + 12), .ref (B + 13), .ref (B + 14), cu, .int (zI old), .int (zI kept), .int (zI fau), .int (zI fin)]))) (c + 1) (iarr E 40 (va_up g ii (narA la w))))) (up_at0).symm ?_
        refine x_st (st' := [.int (zI (narA la w)), .ref (B + 0)]) rfl ?_
        refine x_callV (pc := 53) (C := RX11) (T := TX11) (n := 12) (ci := 10) (As := [.int (zI (narA la w))]) K (c_X11_withoutFinding (E := E) (B := B) (N := N)   (cel_ne (cel_self hc0.1) (by omega)) ) gX11_set_X11_withoutFinding rfl (na := 1) (by decide +kernel) rfl ⟨(Nat.le_of_ble_eq_true rfl), (Nat.le_of_ble_eq_true rfl)⟩ (cel_ne (cel_self hc0.1) (by omega)) rfl (st := []) rfl (Nat.le_of_ble_eq_true rfl) ⟨(Nat.le_of_ble_eq_true rfl), (Nat.le_of_ble_eq_true rfl)⟩ dX11_set_53 (fun r53 N53 w53 hpo53 hN53 => ?_)
        obtain ⟨rfl, rfl, rfl⟩ := hpo53
        refine x_v (w := (va_up (va_up v 0 (.inr (10, [.ref (B + 1), .ref (B + 2), .ref (B + 5), .ref (B + 7), .ref (B + 12), .ref (B + 13), .ref (B + 14), cu, .int (zI old), .int (zI kept), .int (zI fau), .int (zI 0)]))) (c + 1) (iarr E 40 (va_up g ii (narA la w))))) (up_at1 (by omega)).symm ?_
        refine x_st (st' := [.int (zI (narA la w))]) rfl ?_
        refine x_iret (pc := 56) K KR (by omega) (Nat.le_of_ble_eq_true rfl) (Nat.le_of_ble_eq_true rfl) dX11_set_56 ?_
        exact ⟨rfl, (narA la w), 0, (va_up g ii (narA la w)), (Or.inr (Or.inr (Or.inr ⟨hr, by omega, by omega, rfl, rfl, by rw [Int.toNat_natCast]⟩))), rfl, rfl⟩
      · skip
        have h_36 := bI_t h_36
        refine x_aload_n (pc := 39) 1 K rfl rfl dX11_set_39 ?_
        refine x_iconst (pc := 40) K dX11_set_40 ?_
        refine x_callV (pc := 41) (C := RX11) (T := TX11) (n := 12) (ci := 10) (As := [.int (zI 2)]) K (c_X11_finding (E := E) (B := B) (N := N)   (cel_ne (cel_self hc0.1) (by omega)) ) gX11_set_X11_finding rfl (na := 1) (by decide +kernel) rfl ⟨(Nat.le_of_ble_eq_true rfl), (Nat.le_of_ble_eq_true rfl)⟩ (cel_ne (cel_self hc0.1) (by omega)) rfl (st := []) rfl (Nat.le_of_ble_eq_true rfl) ⟨(Nat.le_of_ble_eq_true rfl), (Nat.le_of_ble_eq_true rfl)⟩ dX11_set_41 (fun r41 N41 w41 hpo41 hN41 => ?_)
        obtain ⟨rfl, rfl, rfl⟩ := hpo41
        refine x_v (w := (va_up (va_up v 0 (.inr (10, [.ref (B + 1), .ref (B + 2), .ref (B + 5), .ref (B + 7), .ref (B + 12), .ref (B + 13), .ref (B + 14), cu, .int (zI old), .int (zI kept), .int (zI fau), .int (zI 2)]))) (c + 1) (iarr E 40 g))) (up_at1 (by omega)).symm ?_
        refine x_st (st' := [.int (zI (-1000010 - 2))]) rfl ?_
        refine x_iret (pc := 44) K KR (by omega) (Nat.le_of_ble_eq_true rfl) (Nat.le_of_ble_eq_true rfl) dX11_set_44 ?_
        exact ⟨rfl, (-1000010 - 2), 2, g, (Or.inr (Or.inr (Or.inl ⟨hr, by omega, by omega, rfl, rfl, rfl⟩))), rfl, rfl⟩
    · skip
      have h_20 := bI_f h_20
      refine x_aload_n (pc := 23) 1 K rfl rfl dX11_set_23 ?_
      refine x_iconst (pc := 24) K dX11_set_24 ?_
      refine x_callV (pc := 25) (C := RX11) (T := TX11) (n := 12) (ci := 10) (As := [.int (zI 1)]) K (c_X11_finding (E := E) (B := B) (N := N)   (cel_ne (cel_self hc0.1) (by omega)) ) gX11_set_X11_finding rfl (na := 1) (by decide +kernel) rfl ⟨(Nat.le_of_ble_eq_true rfl), (Nat.le_of_ble_eq_true rfl)⟩ (cel_ne (cel_self hc0.1) (by omega)) rfl (st := []) rfl (Nat.le_of_ble_eq_true rfl) ⟨(Nat.le_of_ble_eq_true rfl), (Nat.le_of_ble_eq_true rfl)⟩ dX11_set_25 (fun r25 N25 w25 hpo25 hN25 => ?_)
      obtain ⟨rfl, rfl, rfl⟩ := hpo25
      refine x_v (w := (va_up (va_up v 0 (.inr (10, [.ref (B + 1), .ref (B + 2), .ref (B + 5), .ref (B + 7), .ref (B + 12), .ref (B + 13), .ref (B + 14), cu, .int (zI old), .int (zI kept), .int (zI fau), .int (zI 1)]))) (c + 1) (iarr E 40 g))) (up_at1 (by omega)).symm ?_
      refine x_st (st' := [.int (zI (-1000010 - 1))]) rfl ?_
      refine x_iret (pc := 28) K KR (by omega) (Nat.le_of_ble_eq_true rfl) (Nat.le_of_ble_eq_true rfl) dX11_set_28 ?_
      exact ⟨rfl, (-1000010 - 1), 1, g, (Or.inr (Or.inl ⟨hr, by omega, rfl, rfl, rfl⟩)), rfl, rfl⟩
  · skip
    refine x_aload_n (pc := 0) 0 K rfl rfl dX11_set_0 ?_
    refine x_iload_n (pc := 1) 1 K rfl rfl dX11_set_1 ?_
    refine x_callV (pc := 2) (C := RX11) (T := TX11) (n := 12) (ci := 10) (As := [.int (zI r)]) K (c_X11_rowAt_n (E := E) (B := B) (N := N)   (cel_ne (cel_self hc0.1) (by omega)) (cel_ne (cel_ne hc1 (by decide)) (by omega)) hr (by omega)) gX11_set_X11_rowAt rfl (na := 1) (by decide +kernel) rfl ⟨(Nat.le_of_ble_eq_true rfl), (Nat.le_of_ble_eq_true rfl)⟩ (cel_ne (cel_self hc0.1) (by omega)) rfl (st := []) rfl (Nat.le_of_ble_eq_true rfl) ⟨(Nat.le_of_ble_eq_true rfl), (Nat.le_of_ble_eq_true rfl)⟩ dX11_set_2 (fun r2 N2 w2 hpo2 hN2 => ?_)
    obtain ⟨rfl, rfl, rfl⟩ := hpo2
    refine x_st (st' := [.null]) rfl ?_
    refine x_astoreN (pc := 5) K (L' := [(4, .null), (0, .ref (B + 0)), (1, .int (zI r)), (2, .int (zI i)), (3, .int (zI w))]) hnL (by decide) rfl dX11_set_5 ?_
    refine x_aloadN (pc := 7) 0 K rfl dX11_set_7 ?_
    refine x_ifnonnullN (pc := 9) K dX11_set_9 ?_
    refine x_ldc (pc := 12) (x := (-1000001)) (-1000001) K (by decide) (by decide +kernel) dX11_set_12 ?_
    refine x_iret (pc := 14) K KR (by omega) (Nat.le_of_ble_eq_true rfl) (Nat.le_of_ble_eq_true rfl) dX11_set_14 ?_
    exact ⟨rfl, (-1000001), fin, g, (Or.inl ⟨hr, rfl, rfl, rfl⟩), rfl, rfl⟩
