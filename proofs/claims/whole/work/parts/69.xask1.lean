theorem dX11_person_0 : decode cX11_person 0 = .ok (.aload_n 0, 1) := by decide +kernel
theorem dX11_person_1 : decode cX11_person 1 = .ok (.getfield 49, 3) := by decide +kernel
theorem dX11_person_4 : decode cX11_person 4 = .ok (.astore_n 3, 1) := by decide +kernel
theorem dX11_person_5 : decode cX11_person 5 = .ok (.aload_n 0, 1) := by decide +kernel
theorem dX11_person_6 : decode cX11_person 6 = .ok (.iload_n 1, 1) := by decide +kernel
set_option maxRecDepth 20000 in
theorem ggX11_person_X11_personAt : GoodIn wsX11_person wsX11_personAt := goodIn_r _ [11, 1, 12, 13, 14, 15, 16, 17, 18, 58, 59, 60, 61, 62, 63, 64, 65, 66, 67, 68, 69, 90, 91, 92, 93, 94, 95, 96, 97, 98, 99, 100] (by decide +kernel) (by decide +kernel)
set_option maxRecDepth 20000 in
theorem gX11_person_X11_personAt : GoodIn wsX11_person (wsV RX11 135 RX11 yX11_personAt wsX11_personAt) := goodIn_app (goodIn_of _ (by decide +kernel)) ggX11_person_X11_personAt
theorem dX11_person_7 : decode cX11_person 7 = .ok (.invokevirtual 135, 3) := by decide +kernel
theorem dX11_person_10 : decode cX11_person 10 = .ok (.astore 4, 2) := by decide +kernel
theorem dX11_person_12 : decode cX11_person 12 = .ok (.aload_n 3, 1) := by decide +kernel
theorem dX11_person_13 : decode cX11_person 13 = .ok (.ifnull 8, 3) := by decide +kernel
theorem dX11_person_21 : decode cX11_person 21 = .ok (.ldc 71, 2) := by decide +kernel
theorem dX11_person_23 : decode cX11_person 23 = .ok (.ireturn, 1) := by decide +kernel
theorem dX11_person_16 : decode cX11_person 16 = .ok (.aload 4, 2) := by decide +kernel
theorem dX11_person_18 : decode cX11_person 18 = .ok (.ifnonnull 6, 3) := by decide +kernel
theorem dX11_person_24 : decode cX11_person 24 = .ok (.iload_n 2, 1) := by decide +kernel
theorem dX11_person_25 : decode cX11_person 25 = .ok (.tableswitch 60 0 3 #[31, 37, 43, 49], 31) := by decide +kernel
theorem dX11_person_56 : decode cX11_person 56 = .ok (.aload 4, 2) := by decide +kernel
theorem dX11_person_58 : decode cX11_person 58 = .ok (.getfield 160, 3) := by decide +kernel
theorem dX11_person_61 : decode cX11_person 61 = .ok (.ireturn, 1) := by decide +kernel
theorem dX11_person_62 : decode cX11_person 62 = .ok (.aload 4, 2) := by decide +kernel
theorem dX11_person_64 : decode cX11_person 64 = .ok (.getfield 165, 3) := by decide +kernel
theorem dX11_person_67 : decode cX11_person 67 = .ok (.ireturn, 1) := by decide +kernel
theorem dX11_person_68 : decode cX11_person 68 = .ok (.aload 4, 2) := by decide +kernel
theorem dX11_person_70 : decode cX11_person 70 = .ok (.getfield 168, 3) := by decide +kernel
theorem dX11_person_73 : decode cX11_person 73 = .ok (.ireturn, 1) := by decide +kernel
theorem dX11_person_74 : decode cX11_person 74 = .ok (.aload_n 3, 1) := by decide +kernel
theorem dX11_person_75 : decode cX11_person 75 = .ok (.aload 4, 2) := by decide +kernel
theorem dX11_person_77 : decode cX11_person 77 = .ok (.aload_n 0, 1) := by decide +kernel
theorem dX11_person_78 : decode cX11_person 78 = .ok (.getfield 32, 3) := by decide +kernel
set_option maxRecDepth 20000 in
theorem ggX11_person_X3_waysOf : GoodIn wsX11_person wsX3_waysOf := goodIn_r _ [22, 23, 24, 25, 15, 26, 27, 28, 29, 30, 31, 32, 33, 34, 35, 36, 37, 38, 39, 40, 41, 42, 43, 44, 45, 46, 47, 48, 49, 50, 51, 52, 53, 54, 55, 56, 57, 70, 71, 72, 73, 74, 75, 76, 77, 78, 79, 80, 81, 82, 83, 84, 85, 86, 87, 88, 89, 90, 91, 92, 93, 94, 95, 96, 97, 98, 99, 100, 101, 102, 103, 104, 105] (by decide +kernel) (by decide +kernel)
set_option maxRecDepth 20000 in
theorem gX11_person_X3_waysOf : GoodIn wsX11_person (wsV RX11 171 RX3 yX3_waysOf wsX3_waysOf) := goodIn_app (goodIn_of _ (by decide +kernel)) ggX11_person_X3_waysOf
theorem dX11_person_81 : decode cX11_person 81 = .ok (.invokevirtual 171, 3) := by decide +kernel
theorem dX11_person_84 : decode cX11_person 84 = .ok (.ireturn, 1) := by decide +kernel
theorem dX11_person_85 : decode cX11_person 85 = .ok (.ldc 71, 2) := by decide +kernel
theorem dX11_person_87 : decode cX11_person 87 = .ok (.ireturn, 1) := by decide +kernel
theorem dX11_cell_0 : decode cX11_cell 0 = .ok (.aload_n 0, 1) := by decide +kernel
theorem dX11_cell_1 : decode cX11_cell 1 = .ok (.getfield 49, 3) := by decide +kernel
theorem dX11_cell_4 : decode cX11_cell 4 = .ok (.astore_n 3, 1) := by decide +kernel
theorem dX11_cell_5 : decode cX11_cell 5 = .ok (.aload_n 3, 1) := by decide +kernel
theorem dX11_cell_6 : decode cX11_cell 6 = .ok (.ifnonnull 6, 3) := by decide +kernel
theorem dX11_cell_9 : decode cX11_cell 9 = .ok (.ldc 147, 2) := by decide +kernel
theorem dX11_cell_11 : decode cX11_cell 11 = .ok (.ireturn, 1) := by decide +kernel
theorem dX11_cell_12 : decode cX11_cell 12 = .ok (.iload_n 1, 1) := by decide +kernel
set_option maxRecDepth 20000 in
theorem ggX11_cell_X11_isCell : GoodIn wsX11_cell wsX11_isCell := goodIn_r _ [10] (by decide +kernel) (by decide +kernel)
set_option maxRecDepth 20000 in
theorem gX11_cell_X11_isCell : GoodIn wsX11_cell (va_wsS RX11 139 yX11_isCell wsX11_isCell) := goodIn_app (goodIn_of _ (by decide +kernel)) ggX11_cell_X11_isCell
theorem dX11_cell_13 : decode cX11_cell 13 = .ok (.invokestatic 139, 3) := by decide +kernel
theorem dX11_cell_16 : decode cX11_cell 16 = .ok (.ifCond .ne 6, 3) := by decide +kernel
theorem dX11_cell_22 : decode cX11_cell 22 = .ok (.iload_n 2, 1) := by decide +kernel
theorem dX11_cell_23 : decode cX11_cell 23 = .ok (.tableswitch 77 0 3 #[29, 38, 53, 60], 29) := by decide +kernel
theorem dX11_cell_52 : decode cX11_cell 52 = .ok (.aload_n 0, 1) := by decide +kernel
theorem dX11_cell_53 : decode cX11_cell 53 = .ok (.getfield 32, 3) := by decide +kernel
theorem dX11_cell_56 : decode cX11_cell 56 = .ok (.iload_n 1, 1) := by decide +kernel
set_option maxRecDepth 20000 in
theorem ggX11_cell_X4_ownerOf : GoodIn wsX11_cell wsX4_ownerOf := goodIn_r _ [15, 16, 17, 51, 52, 53, 54, 55] (by decide +kernel) (by decide +kernel)
set_option maxRecDepth 20000 in
theorem gX11_cell_X4_ownerOf : GoodIn wsX11_cell (wsV RX11 175 RX4 yX4_ownerOf wsX4_ownerOf) := goodIn_app (goodIn_of _ (by decide +kernel)) ggX11_cell_X4_ownerOf
theorem dX11_cell_57 : decode cX11_cell 57 = .ok (.invokevirtual 175, 3) := by decide +kernel
theorem dX11_cell_60 : decode cX11_cell 60 = .ok (.ireturn, 1) := by decide +kernel
theorem dX11_cell_61 : decode cX11_cell 61 = .ok (.aload_n 3, 1) := by decide +kernel
theorem dX11_cell_62 : decode cX11_cell 62 = .ok (.getfield 178, 3) := by decide +kernel
theorem dX11_cell_65 : decode cX11_cell 65 = .ok (.iload_n 1, 1) := by decide +kernel
theorem dX11_cell_66 : decode cX11_cell 66 = .ok (.baload, 1) := by decide +kernel
theorem dX11_cell_67 : decode cX11_cell 67 = .ok (.ifCond .eq 7, 3) := by decide +kernel
theorem dX11_cell_74 : decode cX11_cell 74 = .ok (.iconst 0, 1) := by decide +kernel
theorem dX11_cell_75 : decode cX11_cell 75 = .ok (.ireturn, 1) := by decide +kernel
theorem dX11_cell_70 : decode cX11_cell 70 = .ok (.iconst 1, 1) := by decide +kernel
theorem dX11_cell_71 : decode cX11_cell 71 = .ok (.goto 4, 3) := by decide +kernel
theorem dX11_cell_76 : decode cX11_cell 76 = .ok (.aload_n 3, 1) := by decide +kernel
theorem dX11_cell_77 : decode cX11_cell 77 = .ok (.getfield 182, 3) := by decide +kernel
theorem dX11_cell_80 : decode cX11_cell 80 = .ok (.iload_n 1, 1) := by decide +kernel
theorem dX11_cell_81 : decode cX11_cell 81 = .ok (.iaload, 1) := by decide +kernel
theorem dX11_cell_82 : decode cX11_cell 82 = .ok (.ireturn, 1) := by decide +kernel
theorem dX11_cell_83 : decode cX11_cell 83 = .ok (.aload_n 0, 1) := by decide +kernel
theorem dX11_cell_84 : decode cX11_cell 84 = .ok (.getfield 32, 3) := by decide +kernel
theorem dX11_cell_87 : decode cX11_cell 87 = .ok (.iload_n 1, 1) := by decide +kernel
set_option maxRecDepth 20000 in
theorem ggX11_cell_X4_isCorner : GoodIn wsX11_cell wsX4_isCorner := goodIn_r _ [21, 22, 23, 24, 25, 14, 26, 27, 51, 52, 53, 54, 55] (by decide +kernel) (by decide +kernel)
set_option maxRecDepth 20000 in
theorem gX11_cell_X4_isCorner : GoodIn wsX11_cell (wsV RX11 185 RX4 yX4_isCorner wsX4_isCorner) := goodIn_app (goodIn_of _ (by decide +kernel)) ggX11_cell_X4_isCorner
theorem dX11_cell_88 : decode cX11_cell 88 = .ok (.invokevirtual 185, 3) := by decide +kernel
theorem dX11_cell_91 : decode cX11_cell 91 = .ok (.ifCond .eq 7, 3) := by decide +kernel
theorem dX11_cell_98 : decode cX11_cell 98 = .ok (.iconst 0, 1) := by decide +kernel
theorem dX11_cell_99 : decode cX11_cell 99 = .ok (.ireturn, 1) := by decide +kernel
theorem dX11_cell_94 : decode cX11_cell 94 = .ok (.iconst 1, 1) := by decide +kernel
theorem dX11_cell_95 : decode cX11_cell 95 = .ok (.goto 4, 3) := by decide +kernel
theorem dX11_cell_100 : decode cX11_cell 100 = .ok (.ldc 71, 2) := by decide +kernel
theorem dX11_cell_102 : decode cX11_cell 102 = .ok (.ireturn, 1) := by decide +kernel
theorem dX11_cell_19 : decode cX11_cell 19 = .ok (.ldc 71, 2) := by decide +kernel
theorem dX11_cell_21 : decode cX11_cell 21 = .ok (.ireturn, 1) := by decide +kernel
theorem dX11_land_0 : decode cX11_land 0 = .ok (.aload_n 0, 1) := by decide +kernel
theorem dX11_land_1 : decode cX11_land 1 = .ok (.getfield 49, 3) := by decide +kernel
theorem dX11_land_4 : decode cX11_land 4 = .ok (.astore_n 3, 1) := by decide +kernel
theorem dX11_land_5 : decode cX11_land 5 = .ok (.aload_n 3, 1) := by decide +kernel
theorem dX11_land_6 : decode cX11_land 6 = .ok (.ifnonnull 6, 3) := by decide +kernel
theorem dX11_land_9 : decode cX11_land 9 = .ok (.ldc 147, 2) := by decide +kernel
theorem dX11_land_11 : decode cX11_land 11 = .ok (.ireturn, 1) := by decide +kernel
theorem dX11_land_12 : decode cX11_land 12 = .ok (.iload_n 1, 1) := by decide +kernel
set_option maxRecDepth 20000 in
theorem ggX11_land_X11_isLand : GoodIn wsX11_land wsX11_isLand := goodIn_r _ [8] (by decide +kernel) (by decide +kernel)
set_option maxRecDepth 20000 in
theorem gX11_land_X11_isLand : GoodIn wsX11_land (va_wsS RX11 188 yX11_isLand wsX11_isLand) := goodIn_app (goodIn_of _ (by decide +kernel)) ggX11_land_X11_isLand
theorem dX11_land_13 : decode cX11_land 13 = .ok (.invokestatic 188, 3) := by decide +kernel
theorem dX11_land_16 : decode cX11_land 16 = .ok (.ifCond .ne 6, 3) := by decide +kernel
theorem dX11_land_22 : decode cX11_land 22 = .ok (.iload_n 2, 1) := by decide +kernel
theorem dX11_land_23 : decode cX11_land 23 = .ok (.tableswitch 55 0 2 #[25, 35, 45], 25) := by decide +kernel
theorem dX11_land_48 : decode cX11_land 48 = .ok (.aload_n 3, 1) := by decide +kernel
theorem dX11_land_49 : decode cX11_land 49 = .ok (.iload_n 1, 1) := by decide +kernel
theorem dX11_land_50 : decode cX11_land 50 = .ok (.aload_n 0, 1) := by decide +kernel
theorem dX11_land_51 : decode cX11_land 51 = .ok (.getfield 32, 3) := by decide +kernel
set_option maxRecDepth 20000 in
theorem ggX11_land_X3_cellsOf : GoodIn wsX11_land wsX3_cellsOf := goodIn_r _ [13, 14, 15, 38, 39, 40, 41, 42] (by decide +kernel) (by decide +kernel)
set_option maxRecDepth 20000 in
theorem gX11_land_X3_cellsOf : GoodIn wsX11_land (wsV RX11 191 RX3 yX3_cellsOf wsX3_cellsOf) := goodIn_app (goodIn_of _ (by decide +kernel)) ggX11_land_X3_cellsOf
theorem dX11_land_54 : decode cX11_land 54 = .ok (.invokevirtual 191, 3) := by decide +kernel
theorem dX11_land_57 : decode cX11_land 57 = .ok (.ireturn, 1) := by decide +kernel
theorem dX11_land_58 : decode cX11_land 58 = .ok (.aload_n 3, 1) := by decide +kernel
theorem dX11_land_59 : decode cX11_land 59 = .ok (.iload_n 1, 1) := by decide +kernel
theorem dX11_land_60 : decode cX11_land 60 = .ok (.aload_n 0, 1) := by decide +kernel
theorem dX11_land_61 : decode cX11_land 61 = .ok (.getfield 32, 3) := by decide +kernel
set_option maxRecDepth 20000 in
theorem ggX11_land_X3_worthOf : GoodIn wsX11_land wsX3_worthOf := goodIn_r _ [19, 20, 14, 15, 43, 44, 45, 46, 47, 48, 49, 50, 51, 52, 53, 38, 39, 40, 41, 42] (by decide +kernel) (by decide +kernel)
set_option maxRecDepth 20000 in
theorem gX11_land_X3_worthOf : GoodIn wsX11_land (wsV RX11 195 RX3 yX3_worthOf wsX3_worthOf) := goodIn_app (goodIn_of _ (by decide +kernel)) ggX11_land_X3_worthOf
theorem dX11_land_64 : decode cX11_land 64 = .ok (.invokevirtual 195, 3) := by decide +kernel
theorem dX11_land_67 : decode cX11_land 67 = .ok (.ireturn, 1) := by decide +kernel
theorem dX11_land_68 : decode cX11_land 68 = .ok (.aload_n 3, 1) := by decide +kernel
theorem dX11_land_69 : decode cX11_land 69 = .ok (.iload_n 1, 1) := by decide +kernel
theorem dX11_land_70 : decode cX11_land 70 = .ok (.aload_n 0, 1) := by decide +kernel
theorem dX11_land_71 : decode cX11_land 71 = .ok (.getfield 32, 3) := by decide +kernel
set_option maxRecDepth 20000 in
theorem ggX11_land_X3_leadOf : GoodIn wsX11_land wsX3_leadOf := goodIn_r _ [24, 25, 17, 18, 12, 19, 20, 14, 15, 43, 44, 45, 46, 47, 48, 49, 50, 51, 52, 53, 38, 39, 40, 41, 42] (by decide +kernel) (by decide +kernel)
set_option maxRecDepth 20000 in
theorem gX11_land_X3_leadOf : GoodIn wsX11_land (wsV RX11 198 RX3 yX3_leadOf wsX3_leadOf) := goodIn_app (goodIn_of _ (by decide +kernel)) ggX11_land_X3_leadOf
theorem dX11_land_74 : decode cX11_land 74 = .ok (.invokevirtual 198, 3) := by decide +kernel
theorem dX11_land_77 : decode cX11_land 77 = .ok (.ireturn, 1) := by decide +kernel
theorem dX11_land_78 : decode cX11_land 78 = .ok (.ldc 71, 2) := by decide +kernel
theorem dX11_land_80 : decode cX11_land 80 = .ok (.ireturn, 1) := by decide +kernel
theorem dX11_land_19 : decode cX11_land 19 = .ok (.ldc 71, 2) := by decide +kernel
theorem dX11_land_21 : decode cX11_land 21 = .ok (.ireturn, 1) := by decide +kernel
set_option maxRecDepth 100000 in
set_option maxHeartbeats 4000000 in
theorem c_X11_person_0 {E : XE} {B N : Nat} {v : Nat → va_E} {old kept fau fin : Int} {x what : Int} (hc0 : Cel N v 0 (.inr (10, [.ref (B + 1), .ref (B + 2), .ref (B + 5), .ref (B + 7), .ref (B + 12), .ref (B + 13), .ref (B + 14), .null, .int (zI old), .int (zI kept), .int (zI fau), .int (zI fin)]))) : gM yX11_person wsX11_person ({ frames := 3, cells := 0, slots := 0, locals := 71 }) E B N v [.ref (B + 0), .int (zI x), .int (zI what)] (po0 N (fun ρ v' => ρ = some (.int (zI (-1000001))) ∧ v = v')) := by
  refine x_met (nm := "person") (by decide +kernel) rfl (Nat.le_of_ble_eq_true rfl) rfl (fun Γ K KR hnL hnm => ?_)
  show XW Γ N v [(0, .ref (B + 0)), (1, .int (zI x)), (2, .int (zI what))] 0 0 0 []
  refine x_aload_n (pc := 0) 0 K rfl rfl dX11_person_0 ?_
  refine x_get (pc := 1) (C := RX11) (T := TX11) (n := 12) (ci := 10) (idx := 49) (ref := "BorderBeds") (x := .null)  K hc0 rfl (by decide +kernel) 7 (by decide) (by decide +kernel) rfl rfl dX11_person_1 ?_
  refine x_astore_nN (pc := 4) K (L' := [(3, .null), (0, .ref (B + 0)), (1, .int (zI x)), (2, .int (zI what))]) hnL rfl (by decide) rfl dX11_person_4 ?_
  refine x_aload_n (pc := 5) 1 K rfl rfl dX11_person_5 ?_
  refine x_iload_n (pc := 6) 2 K rfl rfl dX11_person_6 ?_
  refine x_callV (pc := 7) (C := RX11) (T := TX11) (n := 12) (ci := 10) (As := [.int (zI x)]) K (c_X11_personAt_0 (E := E) (B := B) (N := N)   hc0 ) gX11_person_X11_personAt rfl (na := 1) (by decide +kernel) rfl ⟨(Nat.le_of_ble_eq_true rfl), (Nat.le_of_ble_eq_true rfl)⟩ hc0 rfl (st := []) rfl (Nat.le_of_ble_eq_true rfl) ⟨(Nat.le_of_ble_eq_true rfl), (Nat.le_of_ble_eq_true rfl)⟩ dX11_person_7 (fun r7 N7 w7 hpo7 hN7 => ?_)
  obtain ⟨rfl, rfl, rfl⟩ := hpo7
  refine x_st (st' := [.null]) rfl ?_
  refine x_astoreN (pc := 10) K (L' := [(4, .null), (3, .null), (0, .ref (B + 0)), (1, .int (zI x)), (2, .int (zI what))]) hnL (by decide) rfl dX11_person_10 ?_
  refine x_aload_nN (pc := 12) 1 K rfl rfl dX11_person_12 ?_
  refine x_ifnullN (pc := 13) (tgt := 21) K dX11_person_13 (by decide) ?_
  refine x_ldc (pc := 21) (x := (-1000001)) (-1000001) K (by decide) (by decide +kernel) dX11_person_21 ?_
  refine x_iret (pc := 23) K KR (by omega) (Nat.le_of_ble_eq_true rfl) (Nat.le_of_ble_eq_true rfl) dX11_person_23 ?_
  exact ⟨rfl, rfl, rfl⟩

set_option maxRecDepth 100000 in
set_option maxHeartbeats 4000000 in
theorem c_X11_person_c {E : XE} {B N : Nat} {v : Nat → va_E} {old kept fau fin : Int} {c n : Nat} {p g h s t : Nat → Int} {l : Cor} {x what : Int} (hc0 : Cel N v 0 (.inr (10, [.ref (B + 1), .ref (B + 2), .ref (B + 5), .ref (B + 7), .ref (B + 12), .ref (B + 13), .ref (B + 14), .ref (B + c), .int (zI old), .int (zI kept), .int (zI fau), .int (zI fin)]))) (hc1 : Cel N v c (.inr (3, [.int (zI (p 0)), .int (zI (p 1)), .int (zI (p 2)), .ref (B + (c + 1)), .ref (B + (c + 2)), .int (zI (p 3)), .ref (B + (c + 3)), .int (zI (p 4)), .ref (B + (c + 4)), .ref (B + (c + 13)), .ref (B + (c + 18))]))) (hc2 : Cel N v 7 (.inr (4, [.ref (B + 8), .ref (B + 9), .int (zI (n : Int)), .ref (B + 10), .ref (B + 11)]))) (hc3 : Cel N v 8 (iarr E 8 g)) (hc4 : Cel N v 9 (barr E 8 h)) (hc5 : Cel N v 10 (iarr E 8 s)) (hc6 : Cel N v 11 (iarr E 8 t)) (hc7 : Cel N v (c + 2) (barr E 48 (gA p))) (hc8 : Cel N v (c + 3) (rarr E 5 5 B (psA c p))) (hF0 : ∀ x : Nat, (x : Int) < p 4 → Cel N v (c + 23 + x) (perE p x)) (hq0 : LR g h l) (hq1 : n = l.length ∧ (l.length : Int) ≤ p 2) (hq2 : CorOk l) (hq3 : SR (p 0) (p 1) l s t) (hq4 : POk p) (hq5 : ∀ i : Nat, i < 5 → (i : Int) < p 4 → 1 ≤ p (5 + i)) (hq6 : 12 ≤ c) (hq7 : (-2147483648 ≤ x ∧ x ≤ 2147483647)) (hq8 : (-2147483648 ≤ what ∧ what ≤ 2147483647)) : gM yX11_person wsX11_person ({ frames := 3, cells := 0, slots := 0, locals := 71 }) E B N v [.ref (B + 0), .int (zI x), .int (zI what)] (po0 N (fun ρ v' => ∃ (res : Int), ((¬ ((0 ≤ x ∧ x ≤ p 4 - 1) ∧ 0 ≤ what ∧ what ≤ 3) ∧ res = -1000001) ∨ (((0 ≤ x ∧ x ≤ p 4 - 1) ∧ 0 ≤ what ∧ what ≤ 3) ∧ res = (if what = 0 then p (10 + x.toNat) else if what = 1 then p (15 + x.toNat) else if what = 2 then p (20 + x.toNat) else waysA p l x.toNat 48))) ∧ ρ = some (.int (zI res)) ∧ v = v')) := by
  refine x_met (nm := "person") (by decide +kernel) rfl (Nat.le_of_ble_eq_true rfl) rfl (fun Γ K KR hnL hnm => ?_)
  show XW Γ N v [(0, .ref (B + 0)), (1, .int (zI x)), (2, .int (zI what))] 0 0 0 []
  have hP2 := hq4.2.2.1
  have hp4 := hq4.2.2.2.2.1
  by_cases hx : 0 ≤ x ∧ x ≤ p 4 - 1
  · skip
    obtain ⟨xx, rfl⟩ : ∃ xx : Nat, x = (xx : Int) := ⟨x.toNat, by omega⟩
    obtain ⟨o, ho⟩ : ∃ o : Nat, o = c + 23 + xx := ⟨_, rfl⟩
    have hco : Cel N v o (perE p xx) := by rw [ho]; exact hF0 xx (by omega)
    have hwo := hq4.2.2.2.2.2.1 xx (by omega)
    have hko := hq5 xx (by omega) (by omega)
    refine x_aload_n (pc := 0) 0 K rfl rfl dX11_person_0 ?_
    refine x_get (pc := 1) (C := RX11) (T := TX11) (n := 12) (ci := 10) (idx := 49) (ref := "BorderBeds") (x := .ref (B + c))  K hc0 rfl (by decide +kernel) 7 (by decide) (by decide +kernel) rfl rfl dX11_person_1 ?_
    refine x_astore_n (pc := 4) K (L' := [(3, .ref (B + c)), (0, .ref (B + 0)), (1, .int (zI (xx : Int))), (2, .int (zI what))]) hnL rfl (by decide) rfl dX11_person_4 ?_
    refine x_aload_n (pc := 5) 1 K rfl rfl dX11_person_5 ?_
    refine x_iload_n (pc := 6) 2 K rfl rfl dX11_person_6 ?_
    refine x_callV (pc := 7) (C := RX11) (T := TX11) (n := 12) (ci := 10) (As := [.int (zI (xx : Int))]) K (c_X11_personAt_y (E := E) (B := B) (N := N) (o := o) (x := xx) rfl hc0 hc1 hc8 (by omega) (by omega) ho) gX11_person_X11_personAt rfl (na := 1) (by decide +kernel) rfl ⟨(Nat.le_of_ble_eq_true rfl), (Nat.le_of_ble_eq_true rfl)⟩ hc0 rfl (st := []) rfl (Nat.le_of_ble_eq_true rfl) ⟨(Nat.le_of_ble_eq_true rfl), (Nat.le_of_ble_eq_true rfl)⟩ dX11_person_7 (fun r7 N7 w7 hpo7 hN7 => ?_)
    obtain ⟨rfl, rfl, rfl⟩ := hpo7
    refine x_st (st' := [.ref (B + o)]) rfl ?_
    refine x_astore (pc := 10) K (L' := [(4, .ref (B + o)), (3, .ref (B + c)), (0, .ref (B + 0)), (1, .int (zI (xx : Int))), (2, .int (zI what))]) hnL (by decide) rfl dX11_person_10 ?_
    refine x_aload_n (pc := 12) 1 K rfl rfl dX11_person_12 ?_
    refine x_ifnull (pc := 13) K dX11_person_13 ?_
    refine x_aload (pc := 16) 0 K rfl dX11_person_16 ?_
    refine x_ifnonnull (pc := 18) (tgt := 24) K dX11_person_18 (by decide) ?_
    refine x_iload_n (pc := 24) 4 K rfl rfl dX11_person_24 ?_
    by_cases h_25_0 : what = 0
    · skip
      refine x_tswIn (pc := 25) (tgt := 56) K (by omega) (by omega) (by omega) dX11_person_25 (by rw [h_25_0]; rfl) (by decide) ?_
      refine x_aload (pc := 56) 0 K rfl dX11_person_56 ?_
      refine x_getP (pc := 58) (idx := 160) (x := .int (zI (p (10 + xx)))) K (by omega) hco (by decide +kernel) (by decide +kernel) (by decide +kernel) (by decide +kernel) (by decide +kernel) 1 (by decide) (by decide +kernel) rfl dX11_person_58 ?_
      refine x_iret (pc := 61) K KR (by omega) (Nat.le_of_ble_eq_true rfl) (Nat.le_of_ble_eq_true rfl) dX11_person_61 ?_
      exact ⟨rfl, (p (10 + xx)), (Or.inr ⟨by omega, by rw [if_pos (by omega), Int.toNat_natCast]⟩), rfl, rfl⟩
    by_cases h_25_1 : what = 1
    · skip
      refine x_tswIn (pc := 25) (tgt := 62) K (by omega) (by omega) (by omega) dX11_person_25 (by rw [h_25_1]; rfl) (by decide) ?_
      refine x_aload (pc := 62) 0 K rfl dX11_person_62 ?_
      refine x_getP (pc := 64) (idx := 165) (x := .int (zI (p (15 + xx)))) K (by omega) hco (by decide +kernel) (by decide +kernel) (by decide +kernel) (by decide +kernel) (by decide +kernel) 2 (by decide) (by decide +kernel) rfl dX11_person_64 ?_
      refine x_iret (pc := 67) K KR (by omega) (Nat.le_of_ble_eq_true rfl) (Nat.le_of_ble_eq_true rfl) dX11_person_67 ?_
      exact ⟨rfl, (p (15 + xx)), (Or.inr ⟨by omega, by rw [if_neg (by omega), if_pos (by omega), Int.toNat_natCast]⟩), rfl, rfl⟩
    by_cases h_25_2 : what = 2
    · skip
      refine x_tswIn (pc := 25) (tgt := 68) K (by omega) (by omega) (by omega) dX11_person_25 (by rw [h_25_2]; rfl) (by decide) ?_
      refine x_aload (pc := 68) 0 K rfl dX11_person_68 ?_
      refine x_getP (pc := 70) (idx := 168) (x := .int (zI (p (20 + xx)))) K (by omega) hco (by decide +kernel) (by decide +kernel) (by decide +kernel) (by decide +kernel) (by decide +kernel) 3 (by decide) (by decide +kernel) rfl dX11_person_70 ?_
      refine x_iret (pc := 73) K KR (by omega) (Nat.le_of_ble_eq_true rfl) (Nat.le_of_ble_eq_true rfl) dX11_person_73 ?_
      exact ⟨rfl, (p (20 + xx)), (Or.inr ⟨by omega, by rw [if_neg (by omega), if_neg (by omega), if_pos (by omega), Int.toNat_natCast]⟩), rfl, rfl⟩
    by_cases h_25_3 : what = 3
    · skip
      refine x_tswIn (pc := 25) (tgt := 74) K (by omega) (by omega) (by omega) dX11_person_25 (by rw [h_25_3]; rfl) (by decide) ?_
      refine x_aload_n (pc := 74) 1 K rfl rfl dX11_person_74 ?_
      refine x_aload (pc := 75) 0 K rfl dX11_person_75 ?_
      refine x_aload_n (pc := 77) 2 K rfl rfl dX11_person_77 ?_
      refine x_get (pc := 78) (C := RX11) (T := TX11) (n := 12) (ci := 10) (idx := 32) (ref := "BorderBeds") (x := .ref (B + 7))  K hc0 rfl (by decide +kernel) 3 (by decide) (by decide +kernel) rfl rfl dX11_person_78 ?_
      refine x_callV (pc := 81) (C := RX3) (T := TX3) (n := 11) (ci := 3) (As := [.ref (B + o), .ref (B + 7)]) K (c_X3_waysOf (E := E) (B := B) (N := N) (l := l) (who := xx)  hc1 hc2 hc5 hc6 hc7 hco hq3 hq4 (by omega) (by omega)) gX11_person_X3_waysOf rfl (na := 2) (by decide +kernel) rfl ⟨(Nat.le_of_ble_eq_true rfl), (Nat.le_of_ble_eq_true rfl)⟩ hc1 rfl (st := []) rfl (Nat.le_of_ble_eq_true rfl) ⟨(Nat.le_of_ble_eq_true rfl), (Nat.le_of_ble_eq_true rfl)⟩ dX11_person_81 (fun r81 N81 w81 hpo81 hN81 => ?_)
      obtain ⟨rfl, rfl, rfl⟩ := hpo81
      refine x_st (st' := [.int (zI (waysA p l xx 48))]) rfl ?_
      refine x_iret (pc := 84) K KR (by omega) (Nat.le_of_ble_eq_true rfl) (Nat.le_of_ble_eq_true rfl) dX11_person_84 ?_
      exact ⟨rfl, (waysA p l xx 48), (Or.inr ⟨by omega, by rw [if_neg (by omega), if_neg (by omega), if_neg (by omega), Int.toNat_natCast]⟩), rfl, rfl⟩
    refine x_tswOut (pc := 25) (tgt := 85) K (by omega) (by omega) dX11_person_25 (by decide) ?_
    refine x_ldc (pc := 85) (x := (-1000001)) (-1000001) K (by decide) (by decide +kernel) dX11_person_85 ?_
    refine x_iret (pc := 87) K KR (by omega) (Nat.le_of_ble_eq_true rfl) (Nat.le_of_ble_eq_true rfl) dX11_person_87 ?_
    exact ⟨rfl, (-1000001), (Or.inl ⟨by omega, rfl⟩), rfl, rfl⟩
  · skip
    refine x_aload_n (pc := 0) 0 K rfl rfl dX11_person_0 ?_
    refine x_get (pc := 1) (C := RX11) (T := TX11) (n := 12) (ci := 10) (idx := 49) (ref := "BorderBeds") (x := .ref (B + c))  K hc0 rfl (by decide +kernel) 7 (by decide) (by decide +kernel) rfl rfl dX11_person_1 ?_
    refine x_astore_n (pc := 4) K (L' := [(3, .ref (B + c)), (0, .ref (B + 0)), (1, .int (zI x)), (2, .int (zI what))]) hnL rfl (by decide) rfl dX11_person_4 ?_
    refine x_aload_n (pc := 5) 1 K rfl rfl dX11_person_5 ?_
    refine x_iload_n (pc := 6) 2 K rfl rfl dX11_person_6 ?_
    refine x_callV (pc := 7) (C := RX11) (T := TX11) (n := 12) (ci := 10) (As := [.int (zI x)]) K (c_X11_personAt_n (E := E) (B := B) (N := N)   hc0 hc1 hc8 hx (by omega) (by omega)) gX11_person_X11_personAt rfl (na := 1) (by decide +kernel) rfl ⟨(Nat.le_of_ble_eq_true rfl), (Nat.le_of_ble_eq_true rfl)⟩ hc0 rfl (st := []) rfl (Nat.le_of_ble_eq_true rfl) ⟨(Nat.le_of_ble_eq_true rfl), (Nat.le_of_ble_eq_true rfl)⟩ dX11_person_7 (fun r7 N7 w7 hpo7 hN7 => ?_)
    obtain ⟨rfl, rfl, rfl⟩ := hpo7
    refine x_st (st' := [.null]) rfl ?_
    refine x_astoreN (pc := 10) K (L' := [(4, .null), (3, .ref (B + c)), (0, .ref (B + 0)), (1, .int (zI x)), (2, .int (zI what))]) hnL (by decide) rfl dX11_person_10 ?_
    refine x_aload_n (pc := 12) 1 K rfl rfl dX11_person_12 ?_
    refine x_ifnull (pc := 13) K dX11_person_13 ?_
    refine x_aloadN (pc := 16) 0 K rfl dX11_person_16 ?_
    refine x_ifnonnullN (pc := 18) K dX11_person_18 ?_
    refine x_ldc (pc := 21) (x := (-1000001)) (-1000001) K (by decide) (by decide +kernel) dX11_person_21 ?_
    refine x_iret (pc := 23) K KR (by omega) (Nat.le_of_ble_eq_true rfl) (Nat.le_of_ble_eq_true rfl) dX11_person_23 ?_
    exact ⟨rfl, (-1000001), (Or.inl ⟨by omega, rfl⟩), rfl, rfl⟩

set_option maxRecDepth 100000 in
set_option maxHeartbeats 4000000 in
theorem c_X11_cell_0 {E : XE} {B N : Nat} {v : Nat → va_E} {old kept fau fin : Int} {x what : Int} (hc0 : Cel N v 0 (.inr (10, [.ref (B + 1), .ref (B + 2), .ref (B + 5), .ref (B + 7), .ref (B + 12), .ref (B + 13), .ref (B + 14), .null, .int (zI old), .int (zI kept), .int (zI fau), .int (zI fin)]))) : gM yX11_cell wsX11_cell ({ frames := 2, cells := 0, slots := 0, locals := 44 }) E B N v [.ref (B + 0), .int (zI x), .int (zI what)] (po0 N (fun ρ v' => ρ = some (.int (zI (-1000002))) ∧ v = v')) := by
  refine x_met (nm := "cell") (by decide +kernel) rfl (Nat.le_of_ble_eq_true rfl) rfl (fun Γ K KR hnL hnm => ?_)
  show XW Γ N v [(0, .ref (B + 0)), (1, .int (zI x)), (2, .int (zI what))] 0 0 0 []
  refine x_aload_n (pc := 0) 0 K rfl rfl dX11_cell_0 ?_
  refine x_get (pc := 1) (C := RX11) (T := TX11) (n := 12) (ci := 10) (idx := 49) (ref := "BorderBeds") (x := .null)  K hc0 rfl (by decide +kernel) 7 (by decide) (by decide +kernel) rfl rfl dX11_cell_1 ?_
  refine x_astore_nN (pc := 4) K (L' := [(3, .null), (0, .ref (B + 0)), (1, .int (zI x)), (2, .int (zI what))]) hnL rfl (by decide) rfl dX11_cell_4 ?_
  refine x_aload_nN (pc := 5) 0 K rfl rfl dX11_cell_5 ?_
  refine x_ifnonnullN (pc := 6) K dX11_cell_6 ?_
  refine x_ldc (pc := 9) (x := (-1000002)) (-1000002) K (by decide) (by decide +kernel) dX11_cell_9 ?_
  refine x_iret (pc := 11) K KR (by omega) (Nat.le_of_ble_eq_true rfl) (Nat.le_of_ble_eq_true rfl) dX11_cell_11 ?_
  exact ⟨rfl, rfl, rfl⟩

set_option maxRecDepth 100000 in
set_option maxHeartbeats 4000000 in
theorem c_X11_cell_c {E : XE} {B N : Nat} {v : Nat → va_E} {old kept fau fin : Int} {c n : Nat} {p g h s t : Nat → Int} {l : Cor} {x what : Int} (hc0 : Cel N v 0 (.inr (10, [.ref (B + 1), .ref (B + 2), .ref (B + 5), .ref (B + 7), .ref (B + 12), .ref (B + 13), .ref (B + 14), .ref (B + c), .int (zI old), .int (zI kept), .int (zI fau), .int (zI fin)]))) (hc1 : Cel N v c (.inr (3, [.int (zI (p 0)), .int (zI (p 1)), .int (zI (p 2)), .ref (B + (c + 1)), .ref (B + (c + 2)), .int (zI (p 3)), .ref (B + (c + 3)), .int (zI (p 4)), .ref (B + (c + 4)), .ref (B + (c + 13)), .ref (B + (c + 18))]))) (hc2 : Cel N v 7 (.inr (4, [.ref (B + 8), .ref (B + 9), .int (zI (n : Int)), .ref (B + 10), .ref (B + 11)]))) (hc3 : Cel N v 8 (iarr E 8 g)) (hc4 : Cel N v 9 (barr E 8 h)) (hc5 : Cel N v 10 (iarr E 8 s)) (hc6 : Cel N v 11 (iarr E 8 t)) (hc7 : Cel N v (c + 2) (barr E 48 (gA p))) (hc8 : Cel N v (c + 1) (iarr E 48 (wA p))) (hq0 : LR g h l) (hq1 : n = l.length ∧ (l.length : Int) ≤ p 2) (hq2 : CorOk l) (hq3 : SR (p 0) (p 1) l s t) (hq4 : POk p) (hq5 : ∀ i : Nat, i < 5 → (i : Int) < p 4 → 1 ≤ p (5 + i)) (hq6 : 12 ≤ c) (hq7 : (-2147483648 ≤ x ∧ x ≤ 2147483647)) (hq8 : (-2147483648 ≤ what ∧ what ≤ 2147483647)) : gM yX11_cell wsX11_cell ({ frames := 2, cells := 0, slots := 0, locals := 44 }) E B N v [.ref (B + 0), .int (zI x), .int (zI what)] (po0 N (fun ρ v' => ∃ (res : Int), ((¬ (0 ≤ x ∧ x ≤ 47 ∧ 0 ≤ what ∧ what ≤ 3) ∧ res = -1000001) ∨ ((0 ≤ x ∧ x ≤ 47 ∧ 0 ≤ what ∧ what ≤ 3) ∧ res = (if what = 0 then whoseA (p 0) (p 1) l x.toNat else if what = 1 then p (25 + x.toNat) else if what = 2 then p (73 + x.toNat) else isCorA l x))) ∧ ρ = some (.int (zI res)) ∧ v = v')) := by
  refine x_met (nm := "cell") (by decide +kernel) rfl (Nat.le_of_ble_eq_true rfl) rfl (fun Γ K KR hnL hnm => ?_)
  show XW Γ N v [(0, .ref (B + 0)), (1, .int (zI x)), (2, .int (zI what))] 0 0 0 []
  have hP2 := hq4.2.2.1
  have hp4 := hq4.2.2.2.2.1
  refine x_aload_n (pc := 0) 0 K rfl rfl dX11_cell_0 ?_
  refine x_get (pc := 1) (C := RX11) (T := TX11) (n := 12) (ci := 10) (idx := 49) (ref := "BorderBeds") (x := .ref (B + c))  K hc0 rfl (by decide +kernel) 7 (by decide) (by decide +kernel) rfl rfl dX11_cell_1 ?_
  refine x_astore_n (pc := 4) K (L' := [(3, .ref (B + c)), (0, .ref (B + 0)), (1, .int (zI x)), (2, .int (zI what))]) hnL rfl (by decide) rfl dX11_cell_4 ?_
  refine x_aload_n (pc := 5) 0 K rfl rfl dX11_cell_5 ?_
  refine x_ifnonnull (pc := 6) (tgt := 12) K dX11_cell_6 (by decide) ?_
  refine x_iload_n (pc := 12) 2 K rfl rfl dX11_cell_12 ?_
  refine x_callS (pc := 13) (As := [.int (zI x)]) K (c_X11_isCell (E := E) (B := B) (N := N)    (by omega)) gX11_cell_X11_isCell rfl (na := 1) (by decide +kernel) rfl ⟨(Nat.le_of_ble_eq_true rfl), (Nat.le_of_ble_eq_true rfl)⟩ (st := []) rfl (Nat.le_of_ble_eq_true rfl) ⟨(Nat.le_of_ble_eq_true rfl), (Nat.le_of_ble_eq_true rfl)⟩ dX11_cell_13 (fun r13 N13 w13 hpo13 hN13 => ?_)
  obtain ⟨rfl, rfl, rfl⟩ := hpo13
  refine x_st (st' := [.int (zI (bI (0 ≤ x ∧ x < 48)))]) rfl ?_
  have hrg13 := bI_rng (0 ≤ x ∧ x < 48)
  refine x_if_ne (pc := 16) (tgt := 22) K (by omega) dX11_cell_16 (by decide) (fun h_16 => ?_) (fun h_16 => ?_)
  · skip
    have h_16 := bI_f h_16
    obtain ⟨xx, rfl⟩ : ∃ xx : Nat, x = (xx : Int) := ⟨x.toNat, by omega⟩
    have hg9 := (hq4.2.2.2.2.2.2 xx (by omega)).1
    have hga := gA_at (p := p) (show xx < 48 by omega)
    have hwa := wA_at (p := p) (show xx < 48 by omega)
    refine x_iload_n (pc := 22) 3 K rfl rfl dX11_cell_22 ?_
    by_cases h_23_0 : what = 0
    · skip
      refine x_tswIn (pc := 23) (tgt := 52) K (by omega) (by omega) (by omega) dX11_cell_23 (by rw [h_23_0]; rfl) (by decide) ?_
      refine x_aload_n (pc := 52) 1 K rfl rfl dX11_cell_52 ?_
      refine x_get (pc := 53) (C := RX11) (T := TX11) (n := 12) (ci := 10) (idx := 32) (ref := "BorderBeds") (x := .ref (B + 7))  K hc0 rfl (by decide +kernel) 3 (by decide) (by decide +kernel) rfl rfl dX11_cell_53 ?_
      refine x_iload_n (pc := 56) 2 K rfl rfl dX11_cell_56 ?_
      refine x_callV (pc := 57) (C := RX4) (T := TX4) (n := 5) (ci := 4) (As := [.int (zI (xx : Int))]) K (c_X4_ownerOf (E := E) (B := B) (N := N) (l := l) (w := (p 0)) (e := (p 1)) (cell := xx) rfl hc2 hc5 hc6 hq3 (by omega)) gX11_cell_X4_ownerOf rfl (na := 1) (by decide +kernel) rfl ⟨(Nat.le_of_ble_eq_true rfl), (Nat.le_of_ble_eq_true rfl)⟩ hc2 rfl (st := []) rfl (Nat.le_of_ble_eq_true rfl) ⟨(Nat.le_of_ble_eq_true rfl), (Nat.le_of_ble_eq_true rfl)⟩ dX11_cell_57 (fun r57 N57 w57 hpo57 hN57 => ?_)
      obtain ⟨rfl, rfl, rfl⟩ := hpo57
      refine x_st (st' := [.int (zI (whoseA (p 0) (p 1) l xx))]) rfl ?_
      have hrg57 := whoseA_rng (p 0) (p 1) l xx
      refine x_iret (pc := 60) K KR (by omega) (Nat.le_of_ble_eq_true rfl) (Nat.le_of_ble_eq_true rfl) dX11_cell_60 ?_
      exact ⟨rfl, (whoseA (p 0) (p 1) l xx), (Or.inr ⟨by omega, by rw [if_pos (by omega), Int.toNat_natCast]⟩), rfl, rfl⟩
    by_cases h_23_1 : what = 1
    · skip
      refine x_tswIn (pc := 23) (tgt := 61) K (by omega) (by omega) (by omega) dX11_cell_23 (by rw [h_23_1]; rfl) (by decide) ?_
      refine x_aload_n (pc := 61) 0 K rfl rfl dX11_cell_61 ?_
      refine x_get (pc := 62) (C := RX3) (T := TX3) (n := 11) (ci := 3) (idx := 178) (ref := "BorderBeds$Ground") (x := .ref (B + (c + 2)))  K hc1 rfl (by decide +kernel) 4 (by decide) (by decide +kernel) rfl rfl dX11_cell_62 ?_
      refine x_iload_n (pc := 65) 2 K rfl rfl dX11_cell_65 ?_
      refine x_zald (pc := 66) xx K hc7 rfl (by omega) (by decide) dX11_cell_66 ?_
      refine x_if_eq (pc := 67) (tgt := 74) K (by omega) dX11_cell_67 (by decide) (fun h_67 => ?_) (fun h_67 => ?_)
      · skip
        refine x_iconst (pc := 74) K dX11_cell_74 ?_
        refine x_iret (pc := 75) K KR (by omega) (Nat.le_of_ble_eq_true rfl) (Nat.le_of_ble_eq_true rfl) dX11_cell_75 ?_
        exact ⟨rfl, 0, (Or.inr ⟨by omega, by rw [if_neg (by omega), if_pos (by omega), Int.toNat_natCast]; omega⟩), rfl, rfl⟩
      · skip
        refine x_iconst (pc := 70) K dX11_cell_70 ?_
        refine x_goto (pc := 71) (tgt := 75) K dX11_cell_71 (by decide) ?_
        refine x_iret (pc := 75) K KR (by omega) (Nat.le_of_ble_eq_true rfl) (Nat.le_of_ble_eq_true rfl) dX11_cell_75 ?_
        exact ⟨rfl, 1, (Or.inr ⟨by omega, by rw [if_neg (by omega), if_pos (by omega), Int.toNat_natCast]; omega⟩), rfl, rfl⟩
    by_cases h_23_2 : what = 2
    · skip
      refine x_tswIn (pc := 23) (tgt := 76) K (by omega) (by omega) (by omega) dX11_cell_23 (by rw [h_23_2]; rfl) (by decide) ?_
      refine x_aload_n (pc := 76) 0 K rfl rfl dX11_cell_76 ?_
      refine x_get (pc := 77) (C := RX3) (T := TX3) (n := 11) (ci := 3) (idx := 182) (ref := "BorderBeds$Ground") (x := .ref (B + (c + 1)))  K hc1 rfl (by decide +kernel) 3 (by decide) (by decide +kernel) rfl rfl dX11_cell_77 ?_
      refine x_iload_n (pc := 80) 2 K rfl rfl dX11_cell_80 ?_
      refine x_iald (pc := 81) xx K hc8 rfl (by omega) (by decide) dX11_cell_81 ?_
      refine x_iret (pc := 82) K KR (by omega) (Nat.le_of_ble_eq_true rfl) (Nat.le_of_ble_eq_true rfl) dX11_cell_82 ?_
      exact ⟨rfl, ((wA p) xx), (Or.inr ⟨by omega, by rw [if_neg (by omega), if_neg (by omega), if_pos (by omega), Int.toNat_natCast]; omega⟩), rfl, rfl⟩
    by_cases h_23_3 : what = 3
    · skip
      refine x_tswIn (pc := 23) (tgt := 83) K (by omega) (by omega) (by omega) dX11_cell_23 (by rw [h_23_3]; rfl) (by decide) ?_
      refine x_aload_n (pc := 83) 1 K rfl rfl dX11_cell_83 ?_
      refine x_get (pc := 84) (C := RX11) (T := TX11) (n := 12) (ci := 10) (idx := 32) (ref := "BorderBeds") (x := .ref (B + 7))  K hc0 rfl (by decide +kernel) 3 (by decide) (by decide +kernel) rfl rfl dX11_cell_84 ?_
      refine x_iload_n (pc := 87) 2 K rfl rfl dX11_cell_87 ?_
      refine x_callV (pc := 88) (C := RX4) (T := TX4) (n := 5) (ci := 4) (As := [.int (zI (xx : Int))]) K (c_X4_isCorner (E := E) (B := B) (N := N) (l := l)  hc2 hc3 hq0 (by omega) hq2 (by omega)) gX11_cell_X4_isCorner rfl (na := 1) (by decide +kernel) rfl ⟨(Nat.le_of_ble_eq_true rfl), (Nat.le_of_ble_eq_true rfl)⟩ hc2 rfl (st := []) rfl (Nat.le_of_ble_eq_true rfl) ⟨(Nat.le_of_ble_eq_true rfl), (Nat.le_of_ble_eq_true rfl)⟩ dX11_cell_88 (fun r88 N88 w88 hpo88 hN88 => ?_)
      obtain ⟨rfl, rfl, rfl⟩ := hpo88
      refine x_st (st' := [.int (zI (isCorA l (xx : Int)))]) rfl ?_
      have hir := isCorA_rng l (xx : Int)
      refine x_if_eq (pc := 91) (tgt := 98) K (by omega) dX11_cell_91 (by decide) (fun h_91 => ?_) (fun h_91 => ?_)
      · skip
        refine x_iconst (pc := 98) K dX11_cell_98 ?_
        refine x_iret (pc := 99) K KR (by omega) (Nat.le_of_ble_eq_true rfl) (Nat.le_of_ble_eq_true rfl) dX11_cell_99 ?_
        exact ⟨rfl, 0, (Or.inr ⟨by omega, by rw [if_neg (by omega), if_neg (by omega), if_neg (by omega)]; omega⟩), rfl, rfl⟩
      · skip
        refine x_iconst (pc := 94) K dX11_cell_94 ?_
        refine x_goto (pc := 95) (tgt := 99) K dX11_cell_95 (by decide) ?_
        refine x_iret (pc := 99) K KR (by omega) (Nat.le_of_ble_eq_true rfl) (Nat.le_of_ble_eq_true rfl) dX11_cell_99 ?_
        exact ⟨rfl, 1, (Or.inr ⟨by omega, by rw [if_neg (by omega), if_neg (by omega), if_neg (by omega)]; omega⟩), rfl, rfl⟩
    refine x_tswOut (pc := 23) (tgt := 100) K (by omega) (by omega) dX11_cell_23 (by decide) ?_
    refine x_ldc (pc := 100) (x := (-1000001)) (-1000001) K (by decide) (by decide +kernel) dX11_cell_100 ?_
    refine x_iret (pc := 102) K KR (by omega) (Nat.le_of_ble_eq_true rfl) (Nat.le_of_ble_eq_true rfl) dX11_cell_102 ?_
    exact ⟨rfl, (-1000001), (Or.inl ⟨by omega, rfl⟩), rfl, rfl⟩
  · skip
    have h_16 := bI_t h_16
    refine x_ldc (pc := 19) (x := (-1000001)) (-1000001) K (by decide) (by decide +kernel) dX11_cell_19 ?_
    refine x_iret (pc := 21) K KR (by omega) (Nat.le_of_ble_eq_true rfl) (Nat.le_of_ble_eq_true rfl) dX11_cell_21 ?_
    exact ⟨rfl, (-1000001), (Or.inl ⟨by omega, rfl⟩), rfl, rfl⟩

set_option maxRecDepth 100000 in
set_option maxHeartbeats 4000000 in
theorem c_X11_land_0 {E : XE} {B N : Nat} {v : Nat → va_E} {old kept fau fin : Int} {x what : Int} (hc0 : Cel N v 0 (.inr (10, [.ref (B + 1), .ref (B + 2), .ref (B + 5), .ref (B + 7), .ref (B + 12), .ref (B + 13), .ref (B + 14), .null, .int (zI old), .int (zI kept), .int (zI fau), .int (zI fin)]))) : gM yX11_land wsX11_land ({ frames := 2, cells := 0, slots := 0, locals := 47 }) E B N v [.ref (B + 0), .int (zI x), .int (zI what)] (po0 N (fun ρ v' => ρ = some (.int (zI (-1000002))) ∧ v = v')) := by
  refine x_met (nm := "land") (by decide +kernel) rfl (Nat.le_of_ble_eq_true rfl) rfl (fun Γ K KR hnL hnm => ?_)
  show XW Γ N v [(0, .ref (B + 0)), (1, .int (zI x)), (2, .int (zI what))] 0 0 0 []
  refine x_aload_n (pc := 0) 0 K rfl rfl dX11_land_0 ?_
  refine x_get (pc := 1) (C := RX11) (T := TX11) (n := 12) (ci := 10) (idx := 49) (ref := "BorderBeds") (x := .null)  K hc0 rfl (by decide +kernel) 7 (by decide) (by decide +kernel) rfl rfl dX11_land_1 ?_
  refine x_astore_nN (pc := 4) K (L' := [(3, .null), (0, .ref (B + 0)), (1, .int (zI x)), (2, .int (zI what))]) hnL rfl (by decide) rfl dX11_land_4 ?_
  refine x_aload_nN (pc := 5) 0 K rfl rfl dX11_land_5 ?_
  refine x_ifnonnullN (pc := 6) K dX11_land_6 ?_
  refine x_ldc (pc := 9) (x := (-1000002)) (-1000002) K (by decide) (by decide +kernel) dX11_land_9 ?_
  refine x_iret (pc := 11) K KR (by omega) (Nat.le_of_ble_eq_true rfl) (Nat.le_of_ble_eq_true rfl) dX11_land_11 ?_
  exact ⟨rfl, rfl, rfl⟩

set_option maxRecDepth 100000 in
set_option maxHeartbeats 4000000 in
theorem c_X11_land_c {E : XE} {B N : Nat} {v : Nat → va_E} {old kept fau fin : Int} {c n : Nat} {p g h s t : Nat → Int} {l : Cor} {x what : Int} (hc0 : Cel N v 0 (.inr (10, [.ref (B + 1), .ref (B + 2), .ref (B + 5), .ref (B + 7), .ref (B + 12), .ref (B + 13), .ref (B + 14), .ref (B + c), .int (zI old), .int (zI kept), .int (zI fau), .int (zI fin)]))) (hc1 : Cel N v c (.inr (3, [.int (zI (p 0)), .int (zI (p 1)), .int (zI (p 2)), .ref (B + (c + 1)), .ref (B + (c + 2)), .int (zI (p 3)), .ref (B + (c + 3)), .int (zI (p 4)), .ref (B + (c + 4)), .ref (B + (c + 13)), .ref (B + (c + 18))]))) (hc2 : Cel N v 7 (.inr (4, [.ref (B + 8), .ref (B + 9), .int (zI (n : Int)), .ref (B + 10), .ref (B + 11)]))) (hc3 : Cel N v 8 (iarr E 8 g)) (hc4 : Cel N v 9 (barr E 8 h)) (hc5 : Cel N v 10 (iarr E 8 s)) (hc6 : Cel N v 11 (iarr E 8 t)) (hc7 : Cel N v (c + 4) (rarr E 6 8 B (ouA c))) (hF0 : ∀ x : Nat, x < 8 → Cel N v (c + 5 + x) (iarr E 7 (wbS p x))) (hq0 : LR g h l) (hq1 : n = l.length ∧ (l.length : Int) ≤ p 2) (hq2 : CorOk l) (hq3 : SR (p 0) (p 1) l s t) (hq4 : POk p) (hq5 : ∀ i : Nat, i < 5 → (i : Int) < p 4 → 1 ≤ p (5 + i)) (hq6 : 12 ≤ c) (hq7 : (-2147483648 ≤ x ∧ x ≤ 2147483647)) (hq8 : (-2147483648 ≤ what ∧ what ≤ 2147483647)) : gM yX11_land wsX11_land ({ frames := 2, cells := 0, slots := 0, locals := 47 }) E B N v [.ref (B + 0), .int (zI x), .int (zI what)] (po0 N (fun ρ v' => ∃ (res : Int), ((¬ (0 ≤ x ∧ x ≤ 1 ∧ 0 ≤ what ∧ what ≤ 2) ∧ res = -1000001) ∨ ((0 ≤ x ∧ x ≤ 1 ∧ 0 ≤ what ∧ what ≤ 2) ∧ res = (if what = 2 then leadA p l x else sumA p l x what 48))) ∧ ρ = some (.int (zI res)) ∧ v = v')) := by
  refine x_met (nm := "land") (by decide +kernel) rfl (Nat.le_of_ble_eq_true rfl) rfl (fun Γ K KR hnL hnm => ?_)
  show XW Γ N v [(0, .ref (B + 0)), (1, .int (zI x)), (2, .int (zI what))] 0 0 0 []
  have hP2 := hq4.2.2.1
  have hp4 := hq4.2.2.2.2.1
  refine x_aload_n (pc := 0) 0 K rfl rfl dX11_land_0 ?_
  refine x_get (pc := 1) (C := RX11) (T := TX11) (n := 12) (ci := 10) (idx := 49) (ref := "BorderBeds") (x := .ref (B + c))  K hc0 rfl (by decide +kernel) 7 (by decide) (by decide +kernel) rfl rfl dX11_land_1 ?_
  refine x_astore_n (pc := 4) K (L' := [(3, .ref (B + c)), (0, .ref (B + 0)), (1, .int (zI x)), (2, .int (zI what))]) hnL rfl (by decide) rfl dX11_land_4 ?_
  refine x_aload_n (pc := 5) 0 K rfl rfl dX11_land_5 ?_
  refine x_ifnonnull (pc := 6) (tgt := 12) K dX11_land_6 (by decide) ?_
  refine x_iload_n (pc := 12) 2 K rfl rfl dX11_land_12 ?_
  refine x_callS (pc := 13) (As := [.int (zI x)]) K (c_X11_isLand (E := E) (B := B) (N := N)    (by omega)) gX11_land_X11_isLand rfl (na := 1) (by decide +kernel) rfl ⟨(Nat.le_of_ble_eq_true rfl), (Nat.le_of_ble_eq_true rfl)⟩ (st := []) rfl (Nat.le_of_ble_eq_true rfl) ⟨(Nat.le_of_ble_eq_true rfl), (Nat.le_of_ble_eq_true rfl)⟩ dX11_land_13 (fun r13 N13 w13 hpo13 hN13 => ?_)
  obtain ⟨rfl, rfl, rfl⟩ := hpo13
  refine x_st (st' := [.int (zI (bI (0 ≤ x ∧ x ≤ 1)))]) rfl ?_
  have hrg13 := bI_rng (0 ≤ x ∧ x ≤ 1)
  refine x_if_ne (pc := 16) (tgt := 22) K (by omega) dX11_land_16 (by decide) (fun h_16 => ?_) (fun h_16 => ?_)
  · skip
    have h_16 := bI_f h_16
    refine x_iload_n (pc := 22) 3 K rfl rfl dX11_land_22 ?_
    by_cases h_23_0 : what = 0
    · skip
      refine x_tswIn (pc := 23) (tgt := 48) K (by omega) (by omega) (by omega) dX11_land_23 (by rw [h_23_0]; rfl) (by decide) ?_
      refine x_aload_n (pc := 48) 0 K rfl rfl dX11_land_48 ?_
      refine x_iload_n (pc := 49) 2 K rfl rfl dX11_land_49 ?_
      refine x_aload_n (pc := 50) 1 K rfl rfl dX11_land_50 ?_
      refine x_get (pc := 51) (C := RX11) (T := TX11) (n := 12) (ci := 10) (idx := 32) (ref := "BorderBeds") (x := .ref (B + 7))  K hc0 rfl (by decide +kernel) 3 (by decide) (by decide +kernel) rfl rfl dX11_land_51 ?_
      refine x_callV (pc := 54) (C := RX3) (T := TX3) (n := 11) (ci := 3) (As := [.int (zI x), .ref (B + 7)]) K (c_X3_cellsOf (E := E) (B := B) (N := N) (l := l)  hc1 hc2 hc5 hc6 hq3 (by omega)) gX11_land_X3_cellsOf rfl (na := 2) (by decide +kernel) rfl ⟨(Nat.le_of_ble_eq_true rfl), (Nat.le_of_ble_eq_true rfl)⟩ hc1 rfl (st := []) rfl (Nat.le_of_ble_eq_true rfl) ⟨(Nat.le_of_ble_eq_true rfl), (Nat.le_of_ble_eq_true rfl)⟩ dX11_land_54 (fun r54 N54 w54 hpo54 hN54 => ?_)
      obtain ⟨rfl, rfl, rfl⟩ := hpo54
      refine x_st (st' := [.int (zI (sumA p l x 0 48))]) rfl ?_
      refine x_iret (pc := 57) K KR (by omega) (Nat.le_of_ble_eq_true rfl) (Nat.le_of_ble_eq_true rfl) dX11_land_57 ?_
      exact ⟨rfl, (sumA p l x 0 48), (Or.inr ⟨by omega, by rw [if_neg (by omega), show what = 0 by omega]⟩), rfl, rfl⟩
    by_cases h_23_1 : what = 1
    · skip
      refine x_tswIn (pc := 23) (tgt := 58) K (by omega) (by omega) (by omega) dX11_land_23 (by rw [h_23_1]; rfl) (by decide) ?_
      refine x_aload_n (pc := 58) 0 K rfl rfl dX11_land_58 ?_
      refine x_iload_n (pc := 59) 2 K rfl rfl dX11_land_59 ?_
      refine x_aload_n (pc := 60) 1 K rfl rfl dX11_land_60 ?_
      refine x_get (pc := 61) (C := RX11) (T := TX11) (n := 12) (ci := 10) (idx := 32) (ref := "BorderBeds") (x := .ref (B + 7))  K hc0 rfl (by decide +kernel) 3 (by decide) (by decide +kernel) rfl rfl dX11_land_61 ?_
      refine x_callV (pc := 64) (C := RX3) (T := TX3) (n := 11) (ci := 3) (As := [.int (zI x), .ref (B + 7)]) K (c_X3_worthOf (E := E) (B := B) (N := N) (l := l)  hc1 hc2 hc5 hc6 hc7 (fun x hx => (hF0 x hx)) hq3 (by omega) hq4) gX11_land_X3_worthOf rfl (na := 2) (by decide +kernel) rfl ⟨(Nat.le_of_ble_eq_true rfl), (Nat.le_of_ble_eq_true rfl)⟩ hc1 rfl (st := []) rfl (Nat.le_of_ble_eq_true rfl) ⟨(Nat.le_of_ble_eq_true rfl), (Nat.le_of_ble_eq_true rfl)⟩ dX11_land_64 (fun r64 N64 w64 hpo64 hN64 => ?_)
      obtain ⟨rfl, rfl, rfl⟩ := hpo64
      refine x_st (st' := [.int (zI (sumA p l x 1 48))]) rfl ?_
      refine x_iret (pc := 67) K KR (by omega) (Nat.le_of_ble_eq_true rfl) (Nat.le_of_ble_eq_true rfl) dX11_land_67 ?_
      exact ⟨rfl, (sumA p l x 1 48), (Or.inr ⟨by omega, by rw [if_neg (by omega), show what = 1 by omega]⟩), rfl, rfl⟩
    by_cases h_23_2 : what = 2
    · skip
      refine x_tswIn (pc := 23) (tgt := 68) K (by omega) (by omega) (by omega) dX11_land_23 (by rw [h_23_2]; rfl) (by decide) ?_
      refine x_aload_n (pc := 68) 0 K rfl rfl dX11_land_68 ?_
      refine x_iload_n (pc := 69) 2 K rfl rfl dX11_land_69 ?_
      refine x_aload_n (pc := 70) 1 K rfl rfl dX11_land_70 ?_
      refine x_get (pc := 71) (C := RX11) (T := TX11) (n := 12) (ci := 10) (idx := 32) (ref := "BorderBeds") (x := .ref (B + 7))  K hc0 rfl (by decide +kernel) 3 (by decide) (by decide +kernel) rfl rfl dX11_land_71 ?_
      refine x_callV (pc := 74) (C := RX3) (T := TX3) (n := 11) (ci := 3) (As := [.int (zI x), .ref (B + 7)]) K (c_X3_leadOf (E := E) (B := B) (N := N) (l := l)  hc1 hc2 hc5 hc6 hc7 (fun x hx => (hF0 x hx)) hq3 (by omega) hq4) gX11_land_X3_leadOf rfl (na := 2) (by decide +kernel) rfl ⟨(Nat.le_of_ble_eq_true rfl), (Nat.le_of_ble_eq_true rfl)⟩ hc1 rfl (st := []) rfl (Nat.le_of_ble_eq_true rfl) ⟨(Nat.le_of_ble_eq_true rfl), (Nat.le_of_ble_eq_true rfl)⟩ dX11_land_74 (fun r74 N74 w74 hpo74 hN74 => ?_)
      obtain ⟨rfl, rfl, rfl⟩ := hpo74
      refine x_st (st' := [.int (zI (leadA p l x))]) rfl ?_
      refine x_iret (pc := 77) K KR (by omega) (Nat.le_of_ble_eq_true rfl) (Nat.le_of_ble_eq_true rfl) dX11_land_77 ?_
      exact ⟨rfl, (leadA p l x), (Or.inr ⟨by omega, by rw [if_pos (by omega)]⟩), rfl, rfl⟩
    refine x_tswOut (pc := 23) (tgt := 78) K (by omega) (by omega) dX11_land_23 (by decide) ?_
    refine x_ldc (pc := 78) (x := (-1000001)) (-1000001) K (by decide) (by decide +kernel) dX11_land_78 ?_
    refine x_iret (pc := 80) K KR (by omega) (Nat.le_of_ble_eq_true rfl) (Nat.le_of_ble_eq_true rfl) dX11_land_80 ?_
    exact ⟨rfl, (-1000001), (Or.inl ⟨by omega, rfl⟩), rfl, rfl⟩
  · skip
    have h_16 := bI_t h_16
    refine x_ldc (pc := 19) (x := (-1000001)) (-1000001) K (by decide) (by decide +kernel) dX11_land_19 ?_
    refine x_iret (pc := 21) K KR (by omega) (Nat.le_of_ble_eq_true rfl) (Nat.le_of_ble_eq_true rfl) dX11_land_21 ?_
    exact ⟨rfl, (-1000001), (Or.inl ⟨by omega, rfl⟩), rfl, rfl⟩
