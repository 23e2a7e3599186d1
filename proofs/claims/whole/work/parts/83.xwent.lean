theorem dX11_went_0 : decode cX11_went 0 = .ok (.aload_n 0, 1) := by decide +kernel
theorem dX11_went_1 : decode cX11_went 1 = .ok (.getfield 49, 3) := by decide +kernel
theorem dX11_went_4 : decode cX11_went 4 = .ok (.astore 4, 2) := by decide +kernel
theorem dX11_went_6 : decode cX11_went 6 = .ok (.aload 4, 2) := by decide +kernel
theorem dX11_went_8 : decode cX11_went 8 = .ok (.ifnonnull 6, 3) := by decide +kernel
theorem dX11_went_11 : decode cX11_went 11 = .ok (.ldc 147, 2) := by decide +kernel
theorem dX11_went_13 : decode cX11_went 13 = .ok (.ireturn, 1) := by decide +kernel
theorem dX11_went_14 : decode cX11_went 14 = .ok (.aload_n 0, 1) := by decide +kernel
theorem dX11_went_15 : decode cX11_went 15 = .ok (.iload_n 1, 1) := by decide +kernel
set_option maxRecDepth 20000 in
theorem ggX11_went_X11_rowAt : GoodIn wsX11_went wsX11_rowAt := goodIn_r _ [9, 10, 139, 140, 141, 142, 143, 144, 145, 146, 147, 148, 149, 150] (by decide +kernel) (by decide +kernel)
set_option maxRecDepth 20000 in
theorem gX11_went_X11_rowAt : GoodIn wsX11_went (wsV RX11 67 RX11 yX11_rowAt wsX11_rowAt) := goodIn_app (goodIn_of _ (by decide +kernel)) ggX11_went_X11_rowAt
theorem dX11_went_16 : decode cX11_went 16 = .ok (.invokevirtual 67, 3) := by decide +kernel
theorem dX11_went_19 : decode cX11_went 19 = .ok (.astore 5, 2) := by decide +kernel
theorem dX11_went_21 : decode cX11_went 21 = .ok (.aload 5, 2) := by decide +kernel
theorem dX11_went_23 : decode cX11_went 23 = .ok (.ifnull 12, 3) := by decide +kernel
theorem dX11_went_26 : decode cX11_went 26 = .ok (.iload_n 3, 1) := by decide +kernel
theorem dX11_went_27 : decode cX11_went 27 = .ok (.ifCond .lt 8, 3) := by decide +kernel
theorem dX11_went_35 : decode cX11_went 35 = .ok (.ldc 71, 2) := by decide +kernel
theorem dX11_went_37 : decode cX11_went 37 = .ok (.ireturn, 1) := by decide +kernel
theorem dX11_went_30 : decode cX11_went 30 = .ok (.iload_n 3, 1) := by decide +kernel
theorem dX11_went_31 : decode cX11_went 31 = .ok (.iconst 2, 1) := by decide +kernel
theorem dX11_went_32 : decode cX11_went 32 = .ok (.if_icmp .le 6, 3) := by decide +kernel
theorem dX11_went_38 : decode cX11_went 38 = .ok (.aload 5, 2) := by decide +kernel
set_option maxRecDepth 20000 in
theorem ggX11_went_X7_isMissing : GoodIn wsX11_went wsX7_isMissing := goodIn_r _ [15, 16, 151, 152, 153] (by decide +kernel) (by decide +kernel)
set_option maxRecDepth 20000 in
theorem gX11_went_X7_isMissing : GoodIn wsX11_went (wsV RX11 83 RX7 yX7_isMissing wsX7_isMissing) := goodIn_app (goodIn_of _ (by decide +kernel)) ggX11_went_X7_isMissing
theorem dX11_went_40 : decode cX11_went 40 = .ok (.invokevirtual 83, 3) := by decide +kernel
theorem dX11_went_43 : decode cX11_went 43 = .ok (.ifCond .eq 9, 3) := by decide +kernel
theorem dX11_went_52 : decode cX11_went 52 = .ok (.aload 5, 2) := by decide +kernel
theorem dX11_went_54 : decode cX11_went 54 = .ok (.iload_n 2, 1) := by decide +kernel
theorem dX11_went_55 : decode cX11_went 55 = .ok (.bipush 8, 2) := by decide +kernel
set_option maxRecDepth 20000 in
theorem ggX11_went_X7_hasPlaces : GoodIn wsX11_went wsX7_hasPlaces := goodIn_r _ [26, 27, 151, 152, 153] (by decide +kernel) (by decide +kernel)
set_option maxRecDepth 20000 in
theorem gX11_went_X7_hasPlaces : GoodIn wsX11_went (wsV RX11 87 RX7 yX7_hasPlaces wsX7_hasPlaces) := goodIn_app (goodIn_of _ (by decide +kernel)) ggX11_went_X7_hasPlaces
theorem dX11_went_57 : decode cX11_went 57 = .ok (.invokevirtual 87, 3) := by decide +kernel
theorem dX11_went_60 : decode cX11_went 60 = .ok (.ifCond .ne 9, 3) := by decide +kernel
theorem dX11_went_69 : decode cX11_went 69 = .ok (.aload 5, 2) := by decide +kernel
theorem dX11_went_71 : decode cX11_went 71 = .ok (.iload_n 2, 1) := by decide +kernel
set_option maxRecDepth 20000 in
theorem ggX11_went_X7_hasHeights : GoodIn wsX11_went wsX7_hasHeights := goodIn_r _ [31, 32, 151, 152, 153] (by decide +kernel) (by decide +kernel)
set_option maxRecDepth 20000 in
theorem gX11_went_X7_hasHeights : GoodIn wsX11_went (wsV RX11 222 RX7 yX7_hasHeights wsX7_hasHeights) := goodIn_app (goodIn_of _ (by decide +kernel)) ggX11_went_X7_hasHeights
theorem dX11_went_72 : decode cX11_went 72 = .ok (.invokevirtual 222, 3) := by decide +kernel
theorem dX11_went_75 : decode cX11_went 75 = .ok (.ifCond .ne 6, 3) := by decide +kernel
theorem dX11_went_81 : decode cX11_went 81 = .ok (.iload_n 3, 1) := by decide +kernel
theorem dX11_went_82 : decode cX11_went 82 = .ok (.iconst 2, 1) := by decide +kernel
theorem dX11_went_83 : decode cX11_went 83 = .ok (.if_icmp .ne 26, 3) := by decide +kernel
theorem dX11_went_109 : decode cX11_went 109 = .ok (.aload_n 0, 1) := by decide +kernel
theorem dX11_went_110 : decode cX11_went 110 = .ok (.aload 4, 2) := by decide +kernel
theorem dX11_went_112 : decode cX11_went 112 = .ok (.aload 5, 2) := by decide +kernel
theorem dX11_went_114 : decode cX11_went 114 = .ok (.iload_n 2, 1) := by decide +kernel
theorem dX11_went_115 : decode cX11_went 115 = .ok (.iload_n 3, 1) := by decide +kernel
theorem dX11_went_116 : decode cX11_went 116 = .ok (.iconst 1, 1) := by decide +kernel
theorem dX11_went_117 : decode cX11_went 117 = .ok (.if_icmp .ne 7, 3) := by decide +kernel
theorem dX11_went_124 : decode cX11_went 124 = .ok (.iconst 0, 1) := by decide +kernel
theorem dX11_went_125 : decode cX11_went 125 = .ok (.aload_n 0, 1) := by decide +kernel
theorem dX11_went_126 : decode cX11_went 126 = .ok (.getfield 32, 3) := by decide +kernel
set_option maxRecDepth 20000 in
theorem ggX11_went_X3_waysTo : GoodIn wsX11_went wsX3_waysTo := goodIn_r _ [48, 49, 50, 51, 52, 53, 54, 47, 55, 56, 57, 58, 59, 60, 61, 62, 63, 64, 65, 66, 67, 68, 69, 70, 71, 72, 73, 74, 75, 76, 77, 78, 79, 80, 81, 82, 36, 83, 38, 84, 85, 86, 87, 88, 89, 90, 91, 92, 93, 94, 95, 96, 97, 98, 99, 100, 101, 102, 103, 104, 105, 106, 107, 108, 109, 110, 111, 112, 113, 114, 115, 116, 117, 118, 119, 120, 121, 122, 123, 124, 125, 126, 127, 128, 129, 130, 131, 132, 133, 134, 135, 136, 137, 138, 34, 35, 37, 39, 159, 160, 161, 162, 163, 164, 165, 166, 167, 168, 169, 170, 171, 172, 173, 174, 175, 176, 177, 178, 179, 180, 181, 182, 183, 184, 185, 186, 187, 188, 189, 154, 155, 156, 157, 158, 151, 152, 153] (by decide +kernel) (by decide +kernel)
set_option maxRecDepth 20000 in
theorem gX11_went_X3_waysTo : GoodIn wsX11_went (wsV RX11 229 RX3 yX3_waysTo wsX3_waysTo) := goodIn_app (goodIn_of _ (by decide +kernel)) ggX11_went_X3_waysTo
theorem dX11_went_129 : decode cX11_went 129 = .ok (.invokevirtual 229, 3) := by decide +kernel
set_option maxRecDepth 20000 in
theorem ggX11_went_X11_withoutFinding : GoodIn wsX11_went wsX11_withoutFinding := goodIn_r _ [43, 21, 139, 140, 141, 142, 143, 144, 145, 146, 147, 148, 149, 150] (by decide +kernel) (by decide +kernel)
set_option maxRecDepth 20000 in
theorem gX11_went_X11_withoutFinding : GoodIn wsX11_went (wsV RX11 80 RX11 yX11_withoutFinding wsX11_withoutFinding) := goodIn_app (goodIn_of _ (by decide +kernel)) ggX11_went_X11_withoutFinding
theorem dX11_went_132 : decode cX11_went 132 = .ok (.invokevirtual 80, 3) := by decide +kernel
theorem dX11_went_135 : decode cX11_went 135 = .ok (.ireturn, 1) := by decide +kernel
theorem dX11_went_120 : decode cX11_went 120 = .ok (.iconst 1, 1) := by decide +kernel
theorem dX11_went_121 : decode cX11_went 121 = .ok (.goto 4, 3) := by decide +kernel
theorem dX11_went_86 : decode cX11_went 86 = .ok (.aload_n 0, 1) := by decide +kernel
theorem dX11_went_87 : decode cX11_went 87 = .ok (.aload_n 0, 1) := by decide +kernel
theorem dX11_went_88 : decode cX11_went 88 = .ok (.getfield 32, 3) := by decide +kernel
theorem dX11_went_91 : decode cX11_went 91 = .ok (.aload 5, 2) := by decide +kernel
theorem dX11_went_93 : decode cX11_went 93 = .ok (.iload_n 2, 1) := by decide +kernel
set_option maxRecDepth 20000 in
theorem ggX11_went_X4_liesAs : GoodIn wsX11_went wsX4_liesAs := goodIn_r _ [37, 38, 39, 154, 155, 156, 157, 158, 151, 152, 153] (by decide +kernel) (by decide +kernel)
set_option maxRecDepth 20000 in
theorem gX11_went_X4_liesAs : GoodIn wsX11_went (wsV RX11 225 RX4 yX4_liesAs wsX4_liesAs) := goodIn_app (goodIn_of _ (by decide +kernel)) ggX11_went_X4_liesAs
theorem dX11_went_94 : decode cX11_went 94 = .ok (.invokevirtual 225, 3) := by decide +kernel
theorem dX11_went_97 : decode cX11_went 97 = .ok (.ifCond .eq 7, 3) := by decide +kernel
theorem dX11_went_104 : decode cX11_went 104 = .ok (.iconst 0, 1) := by decide +kernel
theorem dX11_went_105 : decode cX11_went 105 = .ok (.invokevirtual 80, 3) := by decide +kernel
theorem dX11_went_108 : decode cX11_went 108 = .ok (.ireturn, 1) := by decide +kernel
theorem dX11_went_100 : decode cX11_went 100 = .ok (.iconst 1, 1) := by decide +kernel
theorem dX11_went_101 : decode cX11_went 101 = .ok (.goto 4, 3) := by decide +kernel
theorem dX11_went_78 : decode cX11_went 78 = .ok (.ldc 71, 2) := by decide +kernel
theorem dX11_went_80 : decode cX11_went 80 = .ok (.ireturn, 1) := by decide +kernel
theorem dX11_went_63 : decode cX11_went 63 = .ok (.aload_n 0, 1) := by decide +kernel
theorem dX11_went_64 : decode cX11_went 64 = .ok (.iconst 2, 1) := by decide +kernel
set_option maxRecDepth 20000 in
theorem ggX11_went_X11_finding : GoodIn wsX11_went wsX11_finding := goodIn_r _ [20, 21, 22, 139, 140, 141, 142, 143, 144, 145, 146, 147, 148, 149, 150] (by decide +kernel) (by decide +kernel)
set_option maxRecDepth 20000 in
theorem gX11_went_X11_finding : GoodIn wsX11_went (wsV RX11 72 RX11 yX11_finding wsX11_finding) := goodIn_app (goodIn_of _ (by decide +kernel)) ggX11_went_X11_finding
theorem dX11_went_65 : decode cX11_went 65 = .ok (.invokevirtual 72, 3) := by decide +kernel
theorem dX11_went_68 : decode cX11_went 68 = .ok (.ireturn, 1) := by decide +kernel
theorem dX11_went_46 : decode cX11_went 46 = .ok (.aload_n 0, 1) := by decide +kernel
theorem dX11_went_47 : decode cX11_went 47 = .ok (.iconst 1, 1) := by decide +kernel
theorem dX11_went_48 : decode cX11_went 48 = .ok (.invokevirtual 72, 3) := by decide +kernel
theorem dX11_went_51 : decode cX11_went 51 = .ok (.ireturn, 1) := by decide +kernel
set_option maxRecDepth 100000 in
set_option maxHeartbeats 4000000 in
theorem c_X11_went_0 {E : XE} {B N : Nat} {v : Nat → va_E} {old kept fau fin : Int} {r i what : Int} (hc0 : Cel N v 0 (.inr (10, [.ref (B + 1), .ref (B + 2), .ref (B + 5), .ref (B + 7), .ref (B + 12), .ref (B + 13), .ref (B + 14), .null, .int (zI old), .int (zI kept), .int (zI fau), .int (zI fin)]))) : gM yX11_went wsX11_went ({ frames := 5, cells := 0, slots := 0, locals := 128 }) E B N v [.ref (B + 0), .int (zI r), .int (zI i), .int (zI what)] (po0 N (fun ρ v' => ρ = some (.int (zI (-1000002))) ∧ v = v')) := by
  refine x_met (nm := "went") (by decide +kernel) rfl (Nat.le_of_ble_eq_true rfl) rfl (fun Γ K KR hnL hnm => ?_)
  show XW Γ N v [(0, .ref (B + 0)), (1, .int (zI r)), (2, .int (zI i)), (3, .int (zI what))] 0 0 0 []
  refine x_aload_n (pc := 0) 0 K rfl rfl dX11_went_0 ?_
  refine x_get (pc := 1) (C := RX11) (T := TX11) (n := 12) (ci := 10) (idx := 49) (ref := "BorderBeds") (x := .null)  K hc0 rfl (by decide +kernel) 7 (by decide) (by decide +kernel) rfl rfl dX11_went_1 ?_
  refine x_astoreN (pc := 4) K (L' := [(4, .null), (0, .ref (B + 0)), (1, .int (zI r)), (2, .int (zI i)), (3, .int (zI what))]) hnL (by decide) rfl dX11_went_4 ?_
  refine x_aloadN (pc := 6) 0 K rfl dX11_went_6 ?_
  refine x_ifnonnullN (pc := 8) K dX11_went_8 ?_
  refine x_ldc (pc := 11) (x := (-1000002)) (-1000002) K (by decide) (by decide +kernel) dX11_went_11 ?_
  refine x_iret (pc := 13) K KR (by omega) (Nat.le_of_ble_eq_true rfl) (Nat.le_of_ble_eq_true rfl) dX11_went_13 ?_
  exact ⟨rfl, rfl, rfl⟩

set_option maxRecDepth 100000 in
set_option maxHeartbeats 4000000 in
theorem c_X11_went_c {E : XE} {B N : Nat} {v : Nat → va_E} {old kept fau fin : Int} {c d n : Nat} {p g h s t it : Nat → Int} {l : Cor} {g1 h1 s1 t1 : Nat → Int} {n1 : Nat} {la sz r i what : Int} (hc0 : Cel N v 0 (.inr (10, [.ref (B + 1), .ref (B + 2), .ref (B + 5), .ref (B + 7), .ref (B + 12), .ref (B + 13), .ref (B + 14), .ref (B + c), .int (zI old), .int (zI kept), .int (zI fau), .int (zI fin)]))) (hc1 : Cel N v 1 (rarr E 2 8 B rowQ)) (hc2 : Cel N v d (.inr (6, [.ref (B + (d + 1)), .int (zI la), .int (zI sz)]))) (hc3 : Cel N v (d + 1) (iarr E 40 it)) (hc4 : Cel N v c (.inr (3, [.int (zI (p 0)), .int (zI (p 1)), .int (zI (p 2)), .ref (B + (c + 1)), .ref (B + (c + 2)), .int (zI (p 3)), .ref (B + (c + 3)), .int (zI (p 4)), .ref (B + (c + 4)), .ref (B + (c + 13)), .ref (B + (c + 18))]))) (hc5 : Cel N v 7 (.inr (4, [.ref (B + 8), .ref (B + 9), .int (zI (n : Int)), .ref (B + 10), .ref (B + 11)]))) (hc6 : Cel N v 8 (iarr E 8 g)) (hc7 : Cel N v 9 (barr E 8 h)) (hc8 : Cel N v 10 (iarr E 8 s)) (hc9 : Cel N v 11 (iarr E 8 t)) (hc10 : Cel N v (c + 13) (.inr (4, [.ref (B + (c + 14)), .ref (B + (c + 15)), .int (zI (n1 : Int)), .ref (B + (c + 16)), .ref (B + (c + 17))]))) (hc11 : Cel N v (c + 14) (iarr E 8 g1)) (hc12 : Cel N v (c + 15) (barr E 8 h1)) (hc13 : Cel N v (c + 16) (iarr E 8 s1)) (hc14 : Cel N v (c + 17) (iarr E 8 t1)) (hc15 : Cel N v (c + 4) (rarr E 6 8 B (ouA c))) (hc16 : Cel N v (c + 2) (barr E 48 (gA p))) (hc17 : Cel N v (c + 3) (rarr E 5 5 B (psA c p))) (hF0 : ∀ x : Nat, x < 8 → Cel N v (c + 5 + x) (iarr E 7 (wbS p x))) (hF1 : ∀ x : Nat, (x : Int) < p 4 → Cel N v (c + 23 + x) (perE p x)) (hq0 : LR g h l) (hq1 : n = l.length ∧ (l.length : Int) ≤ p 2) (hq2 : CorOk l) (hq3 : SR (p 0) (p 1) l s t) (hq4 : POk p) (hq5 : ∀ i : Nat, i < 5 → (i : Int) < p 4 → 1 ≤ p (5 + i)) (hq6 : 12 ≤ c) (hq7 : (-2147483648 ≤ r ∧ r ≤ 2147483647)) (hq8 : (-2147483648 ≤ i ∧ i ≤ 2147483647)) (hq9 : (-2147483648 ≤ what ∧ what ≤ 2147483647)) (hq10 : d = rowC r) (hq11 : -1 ≤ la ∧ la ≤ 2) (hq12 : 0 ≤ sz ∧ sz ≤ 40) (hq13 : ∀ k, k < 40 → -2147483648 ≤ it k ∧ it k ≤ 2147483647) (hq14 : 174 ≤ c) : gM yX11_went wsX11_went ({ frames := 5, cells := 0, slots := 0, locals := 128 }) E B N v [.ref (B + 0), .int (zI r), .int (zI i), .int (zI what)] (po0 N (fun ρ v' => ∃ (res : Int), ∃ (fin2 : Int), ∃ (n9 : Nat), ∃ (g9 : Nat → Int), ∃ (h9 : Nat → Int), ∃ (s9 : Nat → Int), ∃ (t9 : Nat → Int), ((¬ ((0 ≤ r ∧ r ≤ 7) ∧ 0 ≤ what ∧ what ≤ 2) ∧ res = -1000001 ∧ fin2 = fin) ∨ (((0 ≤ r ∧ r ≤ 7) ∧ 0 ≤ what ∧ what ≤ 2) ∧ la = -1 ∧ res = -1000011 ∧ fin2 = 1) ∨ (((0 ≤ r ∧ r ≤ 7) ∧ 0 ≤ what ∧ what ≤ 2) ∧ la ≠ -1 ∧ ¬ (0 ≤ i ∧ i ≤ sz - 8) ∧ res = -1000012 ∧ fin2 = 2) ∨ (((0 ≤ r ∧ r ≤ 7) ∧ 0 ≤ what ∧ what ≤ 2) ∧ la ≠ -1 ∧ (0 ≤ i ∧ i ≤ sz - 8) ∧ rowOk it i.toNat 8 = 0 ∧ res = -1000001 ∧ fin2 = fin) ∨ (((0 ≤ r ∧ r ≤ 7) ∧ 0 ≤ what ∧ what ≤ 2) ∧ la ≠ -1 ∧ (0 ≤ i ∧ i ≤ sz - 8) ∧ rowOk it i.toNat 8 = 1 ∧ res = (if what = 0 then wentC p l it i.toNat (48 * (p 4).toNat) else if what = 1 then wentB p l it i.toNat (48 * (p 4).toNat) else isSoF p l it i.toNat 8) ∧ fin2 = 0)) ∧ ρ = some (.int (zI res)) ∧ (va_up (va_up (va_up (va_up (va_up (va_up v 0 (.inr (10, [.ref (B + 1), .ref (B + 2), .ref (B + 5), .ref (B + 7), .ref (B + 12), .ref (B + 13), .ref (B + 14), .ref (B + c), .int (zI old), .int (zI kept), .int (zI fau), .int (zI fin2)]))) (c + 13) (.inr (4, [.ref (B + (c + 14)), .ref (B + (c + 15)), .int (zI (n9 : Int)), .ref (B + (c + 16)), .ref (B + (c + 17))]))) (c + 14) (iarr E 8 g9)) (c + 15) (barr E 8 h9)) (c + 16) (iarr E 8 s9)) (c + 17) (iarr E 8 t9)) = v')) := by
  refine x_met (nm := "went") (by decide +kernel) rfl (Nat.le_of_ble_eq_true rfl) rfl (fun Γ K KR hnL hnm => ?_)
  show XW Γ N v [(0, .ref (B + 0)), (1, .int (zI r)), (2, .int (zI i)), (3, .int (zI what))] 0 0 0 []
  have hP2 := hq4.2.2.1
  have hp4 := hq4.2.2.2.2.1
  have hcr := rowC_rng r
  refine x_v (cel_pad hc0) ?_
  refine x_v (cel_pad (cel_ne hc10 (by omega))) ?_
  refine x_v (cel_pad (cel_ne (cel_ne hc11 (by omega)) (by omega))) ?_
  refine x_v (cel_pad (cel_ne (cel_ne (cel_ne hc12 (by omega)) (by omega)) (by omega))) ?_
  refine x_v (cel_pad (cel_ne (cel_ne (cel_ne (cel_ne hc13 (by omega)) (by omega)) (by omega)) (by omega))) ?_
  refine x_v (cel_pad (cel_ne (cel_ne (cel_ne (cel_ne (cel_ne hc14 (by omega)) (by omega)) (by omega)) (by omega)) (by omega))) ?_
  by_cases hr : 0 ≤ r ∧ r ≤ 7
  · skip
    obtain ⟨rr, rfl⟩ : ∃ rr : Nat, r = (rr : Int) := ⟨r.toNat, by omega⟩
    have hcc := rowC_y (r := rr) (by omega)
    refine x_aload_n (pc := 0) 0 K rfl rfl dX11_went_0 ?_
    refine x_get (pc := 1) (C := RX11) (T := TX11) (n := 12) (ci := 10) (idx := 49) (ref := "BorderBeds") (x := .ref (B + c))  K (cel_ne (cel_ne (cel_ne (cel_ne (cel_ne (cel_self hc0.1) (by omega)) (by omega)) (by omega)) (by omega)) (by omega)) rfl (by decide +kernel) 7 (by decide) (by decide +kernel) rfl rfl dX11_went_1 ?_
    refine x_astore (pc := 4) K (L' := [(4, .ref (B + c)), (0, .ref (B + 0)), (1, .int (zI (rr : Int))), (2, .int (zI i)), (3, .int (zI what))]) hnL (by decide) rfl dX11_went_4 ?_
    refine x_aload (pc := 6) 0 K rfl dX11_went_6 ?_
    refine x_ifnonnull (pc := 8) (tgt := 14) K dX11_went_8 (by decide) ?_
    refine x_aload_n (pc := 14) 1 K rfl rfl dX11_went_14 ?_
    refine x_iload_n (pc := 15) 2 K rfl rfl dX11_went_15 ?_
    refine x_callV (pc := 16) (C := RX11) (T := TX11) (n := 12) (ci := 10) (As := [.int (zI (rr : Int))]) K (c_X11_rowAt_y (E := E) (B := B) (N := N) (c := d) (r := rr) rfl (cel_ne (cel_ne (cel_ne (cel_ne (cel_ne (cel_self hc0.1) (by omega)) (by omega)) (by omega)) (by omega)) (by omega)) (cel_ne (cel_ne (cel_ne (cel_ne (cel_ne (cel_ne hc1 (by decide)) (by omega)) (by omega)) (by omega)) (by omega)) (by omega)) (by omega) (by omega)) gX11_went_X11_rowAt rfl (na := 1) (by decide +kernel) rfl ⟨(Nat.le_of_ble_eq_true rfl), (Nat.le_of_ble_eq_true rfl)⟩ (cel_ne (cel_ne (cel_ne (cel_ne (cel_ne (cel_self hc0.1) (by omega)) (by omega)) (by omega)) (by omega)) (by omega)) rfl (st := []) rfl (Nat.le_of_ble_eq_true rfl) ⟨(Nat.le_of_ble_eq_true rfl), (Nat.le_of_ble_eq_true rfl)⟩ dX11_went_16 (fun r16 N16 w16 hpo16 hN16 => ?_)
    obtain ⟨rfl, rfl, rfl⟩ := hpo16
    refine x_st (st' := [.ref (B + d)]) rfl ?_
    refine x_astore (pc := 19) K (L' := [(5, .ref (B + d)), (4, .ref (B + c)), (0, .ref (B + 0)), (1, .int (zI (rr : Int))), (2, .int (zI i)), (3, .int (zI what))]) hnL (by decide) rfl dX11_went_19 ?_
    refine x_aload (pc := 21) 0 K rfl dX11_went_21 ?_
    refine x_ifnull (pc := 23) K dX11_went_23 ?_
    refine x_iload_n (pc := 26) 5 K rfl rfl dX11_went_26 ?_
    refine x_if_lt (pc := 27) (tgt := 35) K (by omega) dX11_went_27 (by decide) (fun h_27 => ?_) (fun h_27 => ?_)
    · skip
      refine x_ldc (pc := 35) (x := (-1000001)) (-1000001) K (by decide) (by decide +kernel) dX11_went_35 ?_
      refine x_iret (pc := 37) K KR (by omega) (Nat.le_of_ble_eq_true rfl) (Nat.le_of_ble_eq_true rfl) dX11_went_37 ?_
      exact ⟨rfl, (-1000001), fin, n1, g1, h1, s1, t1, (Or.inl ⟨by omega, rfl, rfl⟩), rfl, rfl⟩
    · skip
      refine x_iload_n (pc := 30) 5 K rfl rfl dX11_went_30 ?_
      refine x_iconst (pc := 31) K dX11_went_31 ?_
      refine x_icmp_le (pc := 32) (tgt := 38) K (by omega) (by decide) dX11_went_32 (by decide) (fun h_32 => ?_) (fun h_32 => ?_)
      · skip
        refine x_aload (pc := 38) 0 K rfl dX11_went_38 ?_
        refine x_callV (pc := 40) (C := RX7) (T := TX7) (n := 3) (ci := 6) (As := []) K (c_X7_isMissing (E := E) (B := B) (N := N) (g := (fun _ => (0 : Int)))  (cel_ne (cel_ne (cel_ne (cel_ne (cel_ne (cel_ne hc2 (by omega)) (by omega)) (by omega)) (by omega)) (by omega)) (by omega)) (by omega)) gX11_went_X7_isMissing rfl (na := 0) (by decide +kernel) rfl ⟨(Nat.le_of_ble_eq_true rfl), (Nat.le_of_ble_eq_true rfl)⟩ (cel_ne (cel_ne (cel_ne (cel_ne (cel_ne (cel_ne hc2 (by omega)) (by omega)) (by omega)) (by omega)) (by omega)) (by omega)) rfl (st := []) rfl (Nat.le_of_ble_eq_true rfl) ⟨(Nat.le_of_ble_eq_true rfl), (Nat.le_of_ble_eq_true rfl)⟩ dX11_went_40 (fun r40 N40 w40 hpo40 hN40 => ?_)
        obtain ⟨rfl, rfl, rfl⟩ := hpo40
        refine x_st (st' := [.int (zI (bI (la = -1)))]) rfl ?_
        have hrg40 := bI_rng (la = -1)
        refine x_if_eq (pc := 43) (tgt := 52) K (by omega) dX11_went_43 (by decide) (fun h_43 => ?_) (fun h_43 => ?_)
        · skip
          have h_43 := bI_t h_43
          refine x_aload (pc := 52) 0 K rfl dX11_went_52 ?_
          refine x_iload_n (pc := 54) 4 K rfl rfl dX11_went_54 ?_
          refine x_bipush (pc := 55) K (by decide) dX11_went_55 ?_
          refine x_callV (pc := 57) (C := RX7) (T := TX7) (n := 3) (ci := 6) (As := [.int (zI i), .int (zI (8 : Int))]) K (c_X7_hasPlaces (E := E) (B := B) (N := N) (g := (fun _ => (0 : Int)))  (cel_ne (cel_ne (cel_ne (cel_ne (cel_ne (cel_ne hc2 (by omega)) (by omega)) (by omega)) (by omega)) (by omega)) (by omega)) (by omega) (by omega) (by omega)) gX11_went_X7_hasPlaces rfl (na := 2) (by decide +kernel) rfl ⟨(Nat.le_of_ble_eq_true rfl), (Nat.le_of_ble_eq_true rfl)⟩ (cel_ne (cel_ne (cel_ne (cel_ne (cel_ne (cel_ne hc2 (by omega)) (by omega)) (by omega)) (by omega)) (by omega)) (by omega)) rfl (st := []) rfl (Nat.le_of_ble_eq_true rfl) ⟨(Nat.le_of_ble_eq_true rfl), (Nat.le_of_ble_eq_true rfl)⟩ dX11_went_57 (fun r57 N57 w57 hpo57 hN57 => ?_)
          obtain ⟨rfl, rfl, rfl⟩ := hpo57
          refine x_st (st' := [.int (zI (bI (0 ≤ i ∧ 0 ≤ (8 : Int) ∧ i + (8 : Int) ≤ sz)))]) rfl ?_
          have hrg57 := bI_rng (0 ≤ i ∧ 0 ≤ (8 : Int) ∧ i + (8 : Int) ≤ sz)
          refine x_if_ne (pc := 60) (tgt := 69) K (by omega) dX11_went_60 (by decide) (fun h_60 => ?_) (fun h_60 => ?_)
          · skip
            have h_60 := bI_f h_60
            obtain ⟨ii, rfl⟩ : ∃ ii : Nat, i = (ii : Int) := ⟨i.toNat, by omega⟩
            refine x_aload (pc := 69) 0 K rfl dX11_went_69 ?_
            refine x_iload_n (pc := 71) 4 K rfl rfl dX11_went_71 ?_
            refine x_callV (pc := 72) (C := RX7) (T := TX7) (n := 3) (ci := 6) (As := [.int (zI (ii : Int))]) K (c_X7_hasHeights (E := E) (B := B) (N := N) (o := ii) rfl (cel_ne (cel_ne (cel_ne (cel_ne (cel_ne (cel_ne hc2 (by omega)) (by omega)) (by omega)) (by omega)) (by omega)) (by omega)) (cel_ne (cel_ne (cel_ne (cel_ne (cel_ne (cel_ne hc3 (by omega)) (by omega)) (by omega)) (by omega)) (by omega)) (by omega)) (by omega) hq13) gX11_went_X7_hasHeights rfl (na := 1) (by decide +kernel) rfl ⟨(Nat.le_of_ble_eq_true rfl), (Nat.le_of_ble_eq_true rfl)⟩ (cel_ne (cel_ne (cel_ne (cel_ne (cel_ne (cel_ne hc2 (by omega)) (by omega)) (by omega)) (by omega)) (by omega)) (by omega)) rfl (st := []) rfl (Nat.le_of_ble_eq_true rfl) ⟨(Nat.le_of_ble_eq_true rfl), (Nat.le_of_ble_eq_true rfl)⟩ dX11_went_72 (fun r72 N72 w72 hpo72 hN72 => ?_)
            obtain ⟨rfl, rfl, rfl⟩ := hpo72
            refine x_st (st' := [.int (zI (rowOk it ii 8))]) rfl ?_
            have hrk := rowOk_rng it ii 8
            refine x_if_ne (pc := 75) (tgt := 81) K (by omega) dX11_went_75 (by decide) (fun h_75 => ?_) (fun h_75 => ?_)
            · skip
              refine x_iload_n (pc := 81) 5 K rfl rfl dX11_went_81 ?_
              refine x_iconst (pc := 82) K dX11_went_82 ?_
              refine x_icmp_ne (pc := 83) (tgt := 109) K (by omega) (by decide) dX11_went_83 (by decide) (fun h_83 => ?_) (fun h_83 => ?_)
              · skip
                refine x_aload_n (pc := 109) 2 K rfl rfl dX11_went_109 ?_
                refine x_aload (pc := 110) 1 K rfl dX11_went_110 ?_
                refine x_aload (pc := 112) 0 K rfl dX11_went_112 ?_
                refine x_iload_n (pc := 114) 4 K rfl rfl dX11_went_114 ?_
                refine x_iload_n (pc := 115) 5 K rfl rfl dX11_went_115 ?_
                refine x_iconst (pc := 116) K dX11_went_116 ?_
                refine x_icmp_ne (pc := 117) (tgt := 124) K (by omega) (by decide) dX11_went_117 (by decide) (fun h_117 => ?_) (fun h_117 => ?_)
                · skip
                  refine x_iconst (pc := 124) K dX11_went_124 ?_
                  refine x_aload_n (pc := 125) 2 K rfl rfl dX11_went_125 ?_
                  refine x_get (pc := 126) (C := RX11) (T := TX11) (n := 12) (ci := 10) (idx := 32) (ref := "BorderBeds") (x := .ref (B + 7))  K (cel_ne (cel_ne (cel_ne (cel_ne (cel_ne (cel_self hc0.1) (by omega)) (by omega)) (by omega)) (by omega)) (by omega)) rfl (by decide +kernel) 3 (by decide) (by decide +kernel) rfl rfl dX11_went_126 ?_
                  refine x_callV (pc := 129) (C := RX3) (T := TX3) (n := 11) (ci := 3) (As := [.ref (B + d), .int (zI (ii : Int)), .int (zI 0), .ref (B + 7)]) K (c_X3_waysTo (E := E) (B := B) (N := N) (l := l) (p := p) (it := it) (off := ii) rfl (cel_ne (cel_ne (cel_ne (cel_ne (cel_ne (cel_ne hc4 (by omega)) (by omega)) (by omega)) (by omega)) (by omega)) (by omega)) (cel_ne (cel_ne (cel_ne (cel_ne (cel_self hc10.1) (by omega)) (by omega)) (by omega)) (by omega)) (cel_ne (cel_ne (cel_ne (cel_self hc11.1) (by omega)) (by omega)) (by omega)) (cel_ne (cel_ne (cel_self hc12.1) (by omega)) (by omega)) (cel_ne (cel_self hc13.1) (by omega)) (cel_self hc14.1) (cel_ne (cel_ne (cel_ne (cel_ne (cel_ne (cel_ne hc5 (by decide)) (by omega)) (by omega)) (by omega)) (by omega)) (by omega)) (cel_ne (cel_ne (cel_ne (cel_ne (cel_ne (cel_ne hc6 (by decide)) (by omega)) (by omega)) (by omega)) (by omega)) (by omega)) (cel_ne (cel_ne (cel_ne (cel_ne (cel_ne (cel_ne hc7 (by decide)) (by omega)) (by omega)) (by omega)) (by omega)) (by omega)) (cel_ne (cel_ne (cel_ne (cel_ne (cel_ne (cel_ne hc8 (by decide)) (by omega)) (by omega)) (by omega)) (by omega)) (by omega)) (cel_ne (cel_ne (cel_ne (cel_ne (cel_ne (cel_ne hc9 (by decide)) (by omega)) (by omega)) (by omega)) (by omega)) (by omega)) (cel_ne (cel_ne (cel_ne (cel_ne (cel_ne (cel_ne hc15 (by omega)) (by omega)) (by omega)) (by omega)) (by omega)) (by omega)) (cel_ne (cel_ne (cel_ne (cel_ne (cel_ne (cel_ne hc16 (by omega)) (by omega)) (by omega)) (by omega)) (by omega)) (by omega)) (cel_ne (cel_ne (cel_ne (cel_ne (cel_ne (cel_ne hc17 (by omega)) (by omega)) (by omega)) (by omega)) (by omega)) (by omega)) (cel_ne (cel_ne (cel_ne (cel_ne (cel_ne (cel_ne hc2 (by omega)) (by omega)) (by omega)) (by omega)) (by omega)) (by omega)) (cel_ne (cel_ne (cel_ne (cel_ne (cel_ne (cel_ne hc3 (by omega)) (by omega)) (by omega)) (by omega)) (by omega)) (by omega)) (fun x hx => (cel_ne (cel_ne (cel_ne (cel_ne (cel_ne (cel_ne (hF0 x hx) (by omega)) (by omega)) (by omega)) (by omega)) (by omega)) (by omega))) (fun x hx => (cel_ne (cel_ne (cel_ne (cel_ne (cel_ne (cel_ne (hF1 x hx) (by omega)) (by omega)) (by omega)) (by omega)) (by omega)) (by omega))) hq0 hq1 hq2 hq3 hq4 (by omega) (by omega) hq13 (by omega) (by omega) hq5) gX11_went_X3_waysTo rfl (na := 4) (by decide +kernel) rfl ⟨(Nat.le_of_ble_eq_true rfl), (Nat.le_of_ble_eq_true rfl)⟩ (cel_ne (cel_ne (cel_ne (cel_ne (cel_ne (cel_ne hc4 (by omega)) (by omega)) (by omega)) (by omega)) (by omega)) (by omega)) rfl (st := [.ref (B + 0)]) rfl (Nat.le_of_ble_eq_true rfl) ⟨(Nat.le_of_ble_eq_true rfl), (Nat.le_of_ble_eq_true rfl)⟩ dX11_went_129 (fun r129 N129 w129 hpo129 hN129 => ?_)
                  obtain ⟨rfl, n9_129, g9_129, h9_129, s9_129, t9_129, rfl, rfl⟩ := hpo129
                  refine x_v (congrArg (fun w => (va_up (va_up (va_up (va_up w (c + 14) (iarr E 8 g9_129)) (c + 15) (barr E 8 h9_129)) (c + 16) (iarr E 8 s9_129)) (c + 17) (iarr E 8 t9_129))) (show (va_up (va_up (va_up (va_up (va_up (va_up v 0 (.inr (10, [.ref (B + 1), .ref (B + 2), .ref (B + 5), .ref (B + 7), .ref (B + 12), .ref (B + 13), .ref (B + 14), .ref (B + c), .int (zI old), .int (zI kept), .int (zI fau), .int (zI fin)]))) (c + 13) (.inr (4, [.ref (B + (c + 14)), .ref (B + (c + 15)), .int (zI (n9_129 : Int)), .ref (B + (c + 16)), .ref (B + (c + 17))]))) (c + 14) (iarr E 8 g1)) (c + 15) (barr E 8 h1)) (c + 16) (iarr E 8 s1)) (c + 17) (iarr E 8 t1)) = _ from (up_at4 (by omega) (by omega) (by omega) (by omega)).symm)) ?_
                  refine x_v (congrArg (fun w => (va_up (va_up (va_up w (c + 15) (barr E 8 h9_129)) (c + 16) (iarr E 8 s9_129)) (c + 17) (iarr E 8 t9_129))) (show (va_up (va_up (va_up (va_up (va_up (va_up v 0 (.inr (10, [.ref (B + 1), .ref (B + 2), .ref (B + 5), .ref (B + 7), .ref (B + 12), .ref (B + 13), .ref (B + 14), .ref (B + c), .int (zI old), .int (zI kept), .int (zI fau), .int (zI fin)]))) (c + 13) (.inr (4, [.ref (B + (c + 14)), .ref (B + (c + 15)), .int (zI (n9_129 : Int)), .ref (B + (c + 16)), .ref (B + (c + 17))]))) (c + 14) (iarr E 8 g9_129)) (c + 15) (barr E 8 h1)) (c + 16) (iarr E 8 s1)) (c + 17) (iarr E 8 t1)) = _ from (up_at3 (by omega) (by omega) (by omega)).symm)) ?_
                  refine x_v (congrArg (fun w => (va_up (va_up w (c + 16) (iarr E 8 s9_129)) (c + 17) (iarr E 8 t9_129))) (show (va_up (va_up (va_up (va_up (va_up (va_up v 0 (.inr (10, [.ref (B + 1), .ref (B + 2), .ref (B + 5), .ref (B + 7), .ref (B + 12), .ref (B + 13), .ref (B + 14), .ref (B + c), .int (zI old), .int (zI kept), .int (zI fau), .int (zI fin)]))) (c + 13) (.inr (4, [.ref (B + (c + 14)), .ref (B + (c + 15)), .int (zI (n9_129 : Int)), .ref (B + (c + 16)), .ref (B + (c + 17))]))) (c + 14) (iarr E 8 g9_129)) (c + 15) (barr E 8 h9_129)) (c + 16) (iarr E 8 s1)) (c + 17) (iarr E 8 t1)) = _ from (up_at2 (by omega) (by omega)).symm)) ?_
                  refine x_v (congrArg (fun w => (va_up w (c + 17) (iarr E 8 t9_129))) (show (va_up (va_up (va_up (va_up (va_up (va_up v 0 (.inr (10, [.ref (B + 1), .ref (B + 2), .ref (B + 5), .ref (B + 7), .ref (B + 12), .ref (B + 13), .ref (B + 14), .ref (B + c), .int (zI old), .int (zI kept), .int (zI fau), .int (zI fin)]))) (c + 13) (.inr (4, [.ref (B + (c + 14)), .ref (B + (c + 15)), .int (zI (n9_129 : Int)), .ref (B + (c + 16)), .ref (B + (c + 17))]))) (c + 14) (iarr E 8 g9_129)) (c + 15) (barr E 8 h9_129)) (c + 16) (iarr E 8 s9_129)) (c + 17) (iarr E 8 t1)) = _ from (up_at1 (by omega)).symm)) ?_
                  refine x_v (w := (va_up (va_up (va_up (va_up (va_up (va_up v 0 (.inr (10, [.ref (B + 1), .ref (B + 2), .ref (B + 5), .ref (B + 7), .ref (B + 12), .ref (B + 13), .ref (B + 14), .ref (B + c), .int (zI old), .int (zI kept), .int (zI fau), .int (zI fin)]))) (c + 13) (.inr (4, [.ref (B + (c + 14)), .ref (B + (c + 15)), .int (zI (n9_129 : Int)), .ref (B + (c + 16)), .ref (B + (c + 17))]))) (c + 14) (iarr E 8 g9_129)) (c + 15) (barr E 8 h9_129)) (c + 16) (iarr E 8 s9_129)) (c + 17) (iarr E 8 t9_129))) (up_at0).symm ?_
                  refine x_st (st' := [.int (zI (if 0 = 1 then wentB p l it ii (48 * (p 4).toNat) else wentC p l it ii (48 * (p 4).toNat))), .ref (B + 0)]) rfl ?_
                  refine x_callV (pc := 132) (C := RX11) (T := TX11) (n := 12) (ci := 10) (As := [.int (zI (if 0 = 1 then wentB p l it ii (48 * (p 4).toNat) else wentC p l it ii (48 * (p 4).toNat)))]) K (c_X11_withoutFinding (E := E) (B := B) (N := N)   (cel_ne (cel_ne (cel_ne (cel_ne (cel_ne (cel_self hc0.1) (by omega)) (by omega)) (by omega)) (by omega)) (by omega)) ) gX11_went_X11_withoutFinding rfl (na := 1) (by decide +kernel) rfl ⟨(Nat.le_of_ble_eq_true rfl), (Nat.le_of_ble_eq_true rfl)⟩ (cel_ne (cel_ne (cel_ne (cel_ne (cel_ne (cel_self hc0.1) (by omega)) (by omega)) (by omega)) (by omega)) (by omega)) rfl (st := []) rfl (Nat.le_of_ble_eq_true rfl) ⟨(Nat.le_of_ble_eq_true rfl), (Nat.le_of_ble_eq_true rfl)⟩ dX11_went_132 (fun r132 N132 w132 hpo132 hN132 => ?_)
                  obtain ⟨rfl, rfl, rfl⟩ := hpo132
                  refine x_v (w := (va_up (va_up (va_up (va_up (va_up (va_up v 0 (.inr (10, [.ref (B + 1), .ref (B + 2), .ref (B + 5), .ref (B + 7), .ref (B + 12), .ref (B + 13), .ref (B + 14), .ref (B + c), .int (zI old), .int (zI kept), .int (zI fau), .int (zI 0)]))) (c + 13) (.inr (4, [.ref (B + (c + 14)), .ref (B + (c + 15)), .int (zI (n9_129 : Int)), .ref (B + (c + 16)), .ref (B + (c + 17))]))) (c + 14) (iarr E 8 g9_129)) (c + 15) (barr E 8 h9_129)) (c + 16) (iarr E 8 s9_129)) (c + 17) (iarr E 8 t9_129))) (up_at5 (by omega) (by omega) (by omega) (by omega) (by omega)).symm ?_
                  refine x_st (st' := [.int (zI (if 0 = 1 then wentB p l it ii (48 * (p 4).toNat) else wentC p l it ii (48 * (p 4).toNat)))]) rfl ?_
                  refine x_iret (pc := 135) K KR (by omega) (Nat.le_of_ble_eq_true rfl) (Nat.le_of_ble_eq_true rfl) dX11_went_135 ?_
                  exact ⟨rfl, (if 0 = 1 then wentB p l it ii (48 * (p 4).toNat) else wentC p l it ii (48 * (p 4).toNat)), 0, (((n9_129 : Int)).toNat), g9_129, h9_129, s9_129, t9_129, (Or.inr (Or.inr (Or.inr (Or.inr ⟨by omega, by omega, by omega, by show rowOk it ii 8 = 1; omega, (by (first | rw [if_neg (show ¬ what = 0 by omega), if_pos (show what = 1 by omega), if_pos rfl] | rw [if_pos (show what = 0 by omega), if_neg (by decide)]) <;> rfl), rfl⟩)))), rfl, rfl⟩
                · skip
                  refine x_iconst (pc := 120) K dX11_went_120 ?_
                  refine x_goto (pc := 121) (tgt := 125) K dX11_went_121 (by decide) ?_
                  refine x_aload_n (pc := 125) 2 K rfl rfl dX11_went_125 ?_
                  refine x_get (pc := 126) (C := RX11) (T := TX11) (n := 12) (ci := 10) (idx := 32) (ref := "BorderBeds") (x := .ref (B + 7))  K (cel_ne (cel_ne (cel_ne (cel_ne (cel_ne (cel_self hc0.1) (by omega)) (by omega)) (by omega)) (by omega)) (by omega)) rfl (by decide +kernel) 3 (by decide) (by decide +kernel) rfl rfl dX11_went_126 ?_
                  refine x_callV (pc := 129) (C := RX3) (T := TX3) (n := 11) (ci := 3) (As := [.ref (B + d), .int (zI (ii : Int)), .int (zI 1), .ref (B + 7)]) K (c_X3_waysTo (E := E) (B := B) (N := N) (l := l) (p := p) (it := it) (off := ii) rfl (cel_ne (cel_ne (cel_ne (cel_ne (cel_ne (cel_ne hc4 (by omega)) (by omega)) (by omega)) (by omega)) (by omega)) (by omega)) (cel_ne (cel_ne (cel_ne (cel_ne (cel_self hc10.1) (by omega)) (by omega)) (by omega)) (by omega)) (cel_ne (cel_ne (cel_ne (cel_self hc11.1) (by omega)) (by omega)) (by omega)) (cel_ne (cel_ne (cel_self hc12.1) (by omega)) (by omega)) (cel_ne (cel_self hc13.1) (by omega)) (cel_self hc14.1) (cel_ne (cel_ne (cel_ne (cel_ne (cel_ne (cel_ne hc5 (by decide)) (by omega)) (by omega)) (by omega)) (by omega)) (by omega)) (cel_ne (cel_ne (cel_ne (cel_ne (cel_ne (cel_ne hc6 (by decide)) (by omega)) (by omega)) (by omega)) (by omega)) (by omega)) (cel_ne (cel_ne (cel_ne (cel_ne (cel_ne (cel_ne hc7 (by decide)) (by omega)) (by omega)) (by omega)) (by omega)) (by omega)) (cel_ne (cel_ne (cel_ne (cel_ne (cel_ne (cel_ne hc8 (by decide)) (by omega)) (by omega)) (by omega)) (by omega)) (by omega)) (cel_ne (cel_ne (cel_ne (cel_ne (cel_ne (cel_ne hc9 (by decide)) (by omega)) (by omega)) (by omega)) (by omega)) (by omega)) (cel_ne (cel_ne (cel_ne (cel_ne (cel_ne (cel_ne hc15 (by omega)) (by omega)) (by omega)) (by omega)) (by omega)) (by omega)) (cel_ne (cel_ne (cel_ne (cel_ne (cel_ne (cel_ne hc16 (by omega)) (by omega)) (by omega)) (by omega)) (by omega)) (by omega)) (cel_ne (cel_ne (cel_ne (cel_ne (cel_ne (cel_ne hc17 (by omega)) (by omega)) (by omega)) (by omega)) (by omega)) (by omega)) (cel_ne (cel_ne (cel_ne (cel_ne (cel_ne (cel_ne hc2 (by omega)) (by omega)) (by omega)) (by omega)) (by omega)) (by omega)) (cel_ne (cel_ne (cel_ne (cel_ne (cel_ne (cel_ne hc3 (by omega)) (by omega)) (by omega)) (by omega)) (by omega)) (by omega)) (fun x hx => (cel_ne (cel_ne (cel_ne (cel_ne (cel_ne (cel_ne (hF0 x hx) (by omega)) (by omega)) (by omega)) (by omega)) (by omega)) (by omega))) (fun x hx => (cel_ne (cel_ne (cel_ne (cel_ne (cel_ne (cel_ne (hF1 x hx) (by omega)) (by omega)) (by omega)) (by omega)) (by omega)) (by omega))) hq0 hq1 hq2 hq3 hq4 (by omega) (by omega) hq13 (by omega) (by omega) hq5) gX11_went_X3_waysTo rfl (na := 4) (by decide +kernel) rfl ⟨(Nat.le_of_ble_eq_true rfl), (Nat.le_of_ble_eq_true rfl)⟩ (cel_ne (cel_ne (cel_ne (cel_ne (cel_ne (cel_ne hc4 (by omega)) (by omega)) (by omega)) (by omega)) (by omega)) (by omega)) rfl (st := [.ref (B + 0)]) rfl (Nat.le_of_ble_eq_true rfl) ⟨(Nat.le_of_ble_eq_true rfl), (Nat.le_of_ble_eq_true rfl)⟩ dX11_went_129 (fun r129 N129 w129 hpo129 hN129 => ?_)
                  obtain ⟨rfl, n9_129, g9_129, h9_129, s9_129, t9_129, rfl, rfl⟩ := hpo129
                  refine x_v (congrArg (fun w => (va_up (va_up (va_up (va_up w (c + 14) (iarr E 8 g9_129)) (c + 15) (barr E 8 h9_129)) (c + 16) (iarr E 8 s9_129)) (c + 17) (iarr E 8 t9_129))) (show (va_up (va_up (va_up (va_up (va_up (va_up v 0 (.inr (10, [.ref (B + 1), .ref (B + 2), .ref (B + 5), .ref (B + 7), .ref (B + 12), .ref (B + 13), .ref (B + 14), .ref (B + c), .int (zI old), .int (zI kept), .int (zI fau), .int (zI fin)]))) (c + 13) (.inr (4, [.ref (B + (c + 14)), .ref (B + (c + 15)), .int (zI (n9_129 : Int)), .ref (B + (c + 16)), .ref (B + (c + 17))]))) (c + 14) (iarr E 8 g1)) (c + 15) (barr E 8 h1)) (c + 16) (iarr E 8 s1)) (c + 17) (iarr E 8 t1)) = _ from (up_at4 (by omega) (by omega) (by omega) (by omega)).symm)) ?_
                  refine x_v (congrArg (fun w => (va_up (va_up (va_up w (c + 15) (barr E 8 h9_129)) (c + 16) (iarr E 8 s9_129)) (c + 17) (iarr E 8 t9_129))) (show (va_up (va_up (va_up (va_up (va_up (va_up v 0 (.inr (10, [.ref (B + 1), .ref (B + 2), .ref (B + 5), .ref (B + 7), .ref (B + 12), .ref (B + 13), .ref (B + 14), .ref (B + c), .int (zI old), .int (zI kept), .int (zI fau), .int (zI fin)]))) (c + 13) (.inr (4, [.ref (B + (c + 14)), .ref (B + (c + 15)), .int (zI (n9_129 : Int)), .ref (B + (c + 16)), .ref (B + (c + 17))]))) (c + 14) (iarr E 8 g9_129)) (c + 15) (barr E 8 h1)) (c + 16) (iarr E 8 s1)) (c + 17) (iarr E 8 t1)) = _ from (up_at3 (by omega) (by omega) (by omega)).symm)) ?_
                  refine x_v (congrArg (fun w => (va_up (va_up w (c + 16) (iarr E 8 s9_129)) (c + 17) (iarr E 8 t9_129))) (show (va_up (va_up (va_up (va_up (va_up (va_up v 0 (.inr (10, [.ref (B + 1), .ref (B + 2), .ref (B + 5), .ref (B + 7), .ref (B + 12), .ref (B + 13), .ref (B + 14), .ref (B + c), .int (zI old), .int (zI kept), .int (zI fau), .int (zI fin)]))) (c + 13) (.inr (4, [.ref (B + (c + 14)), .ref (B + (c + 15)), .int (zI (n9_129 : Int)), .ref (B + (c + 16)), .ref (B + (c + 17))]))) (c + 14) (iarr E 8 g9_129)) (c + 15) (barr E 8 h9_129)) (c + 16) (iarr E 8 s1)) (c + 17) (iarr E 8 t1)) = _ from (up_at2 (by omega) (by omega)).symm)) ?_
                  refine x_v (congrArg (fun w => (va_up w (c + 17) (iarr E 8 t9_129))) (show (va_up (va_up (va_up (va_up (va_up (va_up v 0 (.inr (10, [.ref (B + 1), .ref (B + 2), .ref (B + 5), .ref (B + 7), .ref (B + 12), .ref (B + 13), .ref (B + 14), .ref (B + c), .int (zI old), .int (zI kept), .int (zI fau), .int (zI fin)]))) (c + 13) (.inr (4, [.ref (B + (c + 14)), .ref (B + (c + 15)), .int (zI (n9_129 : Int)), .ref (B + (c + 16)), .ref (B + (c + 17))]))) (c + 14) (iarr E 8 g9_129)) (c + 15) (barr E 8 h9_129)) (c + 16) (iarr E 8 s9_129)) (c + 17) (iarr E 8 t1)) = _ from (up_at1 (by omega)).symm)) ?_
                  refine x_v (w := (va_up (va_up (va_up (va_up (va_up (va_up v 0 (.inr (10, [.ref (B + 1), .ref (B + 2), .ref (B + 5), .ref (B + 7), .ref (B + 12), .ref (B + 13), .ref (B + 14), .ref (B + c), .int (zI old), .int (zI kept), .int (zI fau), .int (zI fin)]))) (c + 13) (.inr (4, [.ref (B + (c + 14)), .ref (B + (c + 15)), .int (zI (n9_129 : Int)), .ref (B + (c + 16)), .ref (B + (c + 17))]))) (c + 14) (iarr E 8 g9_129)) (c + 15) (barr E 8 h9_129)) (c + 16) (iarr E 8 s9_129)) (c + 17) (iarr E 8 t9_129))) (up_at0).symm ?_
                  refine x_st (st' := [.int (zI (if 1 = 1 then wentB p l it ii (48 * (p 4).toNat) else wentC p l it ii (48 * (p 4).toNat))), .ref (B + 0)]) rfl ?_
                  refine x_callV (pc := 132) (C := RX11) (T := TX11) (n := 12) (ci := 10) (As := [.int (zI (if 1 = 1 then wentB p l it ii (48 * (p 4).toNat) else wentC p l it ii (48 * (p 4).toNat)))]) K (c_X11_withoutFinding (E := E) (B := B) (N := N)   (cel_ne (cel_ne (cel_ne (cel_ne (cel_ne (cel_self hc0.1) (by omega)) (by omega)) (by omega)) (by omega)) (by omega)) ) gX11_went_X11_withoutFinding rfl (na := 1) (by decide +kernel) rfl ⟨(Nat.le_of_ble_eq_true rfl), (Nat.le_of_ble_eq_true rfl)⟩ (cel_ne (cel_ne (cel_ne (cel_ne (cel_ne (cel_self hc0.1) (by omega)) (by omega)) (by omega)) (by omega)) (by omega)) rfl (st := []) rfl (Nat.le_of_ble_eq_true rfl) ⟨(Nat.le_of_ble_eq_true rfl), (Nat.le_of_ble_eq_true rfl)⟩ dX11_went_132 (fun r132 N132 w132 hpo132 hN132 => ?_)
                  obtain ⟨rfl, rfl, rfl⟩ := hpo132
                  refine x_v (w := (va_up (va_up (va_up (va_up (va_up (va_up v 0 (.inr (10, [.ref (B + 1), .ref (B + 2), .ref (B + 5), .ref (B + 7), .ref (B + 12), .ref (B + 13), .ref (B + 14), .ref (B + c), .int (zI old), .int (zI kept), .int (zI fau), .int (zI 0)]))) (c + 13) (.inr (4, [.ref (B + (c + 14)), .ref (B + (c + 15)), .int (zI (n9_129 : Int)), .ref (B + (c + 16)), .ref (B + (c + 17))]))) (c + 14) (iarr E 8 g9_129)) (c + 15) (barr E 8 h9_129)) (c + 16) (iarr E 8 s9_129)) (c + 17) (iarr E 8 t9_129))) (up_at5 (by omega) (by omega) (by omega) (by omega) (by omega)).symm ?_
                  refine x_st (st' := [.int (zI (if 1 = 1 then wentB p l it ii (48 * (p 4).toNat) else wentC p l it ii (48 * (p 4).toNat)))]) rfl ?_
                  refine x_iret (pc := 135) K KR (by omega) (Nat.le_of_ble_eq_true rfl) (Nat.le_of_ble_eq_true rfl) dX11_went_135 ?_
                  exact ⟨rfl, (if 1 = 1 then wentB p l it ii (48 * (p 4).toNat) else wentC p l it ii (48 * (p 4).toNat)), 0, (((n9_129 : Int)).toNat), g9_129, h9_129, s9_129, t9_129, (Or.inr (Or.inr (Or.inr (Or.inr ⟨by omega, by omega, by omega, by show rowOk it ii 8 = 1; omega, (by (first | rw [if_neg (show ¬ what = 0 by omega), if_pos (show what = 1 by omega), if_pos rfl] | rw [if_pos (show what = 0 by omega), if_neg (by decide)]) <;> rfl), rfl⟩)))), rfl, rfl⟩
              · skip
                refine x_aload_n (pc := 86) 2 K rfl rfl dX11_went_86 ?_
                refine x_aload_n (pc := 87) 2 K rfl rfl dX11_went_87 ?_
                refine x_get (pc := 88) (C := RX11) (T := TX11) (n := 12) (ci := 10) (idx := 32) (ref := "BorderBeds") (x := .ref (B + 7))  K (cel_ne (cel_ne (cel_ne (cel_ne (cel_ne (cel_self hc0.1) (by omega)) (by omega)) (by omega)) (by omega)) (by omega)) rfl (by decide +kernel) 3 (by decide) (by decide +kernel) rfl rfl dX11_went_88 ?_
                refine x_aload (pc := 91) 0 K rfl dX11_went_91 ?_
                refine x_iload_n (pc := 93) 4 K rfl rfl dX11_went_93 ?_
                refine x_callV (pc := 94) (C := RX4) (T := TX4) (n := 5) (ci := 4) (As := [.ref (B + d), .int (zI (ii : Int))]) K (c_X4_liesAs (E := E) (B := B) (N := N) (p := p) (l := l) (o := ii) rfl (cel_ne (cel_ne (cel_ne (cel_ne (cel_ne (cel_ne hc5 (by decide)) (by omega)) (by omega)) (by omega)) (by omega)) (by omega)) (cel_ne (cel_ne (cel_ne (cel_ne (cel_ne (cel_ne hc8 (by decide)) (by omega)) (by omega)) (by omega)) (by omega)) (by omega)) (cel_ne (cel_ne (cel_ne (cel_ne (cel_ne (cel_ne hc2 (by omega)) (by omega)) (by omega)) (by omega)) (by omega)) (by omega)) (cel_ne (cel_ne (cel_ne (cel_ne (cel_ne (cel_ne hc3 (by omega)) (by omega)) (by omega)) (by omega)) (by omega)) (by omega)) hq3 (by omega) hq13) gX11_went_X4_liesAs rfl (na := 2) (by decide +kernel) rfl ⟨(Nat.le_of_ble_eq_true rfl), (Nat.le_of_ble_eq_true rfl)⟩ (cel_ne (cel_ne (cel_ne (cel_ne (cel_ne (cel_ne hc5 (by decide)) (by omega)) (by omega)) (by omega)) (by omega)) (by omega)) rfl (st := [.ref (B + 0)]) rfl (Nat.le_of_ble_eq_true rfl) ⟨(Nat.le_of_ble_eq_true rfl), (Nat.le_of_ble_eq_true rfl)⟩ dX11_went_94 (fun r94 N94 w94 hpo94 hN94 => ?_)
                obtain ⟨rfl, rfl, rfl⟩ := hpo94
                refine x_st (st' := [.int (zI (isSoF p l it ii 8)), .ref (B + 0)]) rfl ?_
                have hir := isSoF_rng p l it ii 8
                refine x_if_eq (pc := 97) (tgt := 104) K (by omega) dX11_went_97 (by decide) (fun h_97 => ?_) (fun h_97 => ?_)
                · skip
                  refine x_iconst (pc := 104) K dX11_went_104 ?_
                  refine x_callV (pc := 105) (C := RX11) (T := TX11) (n := 12) (ci := 10) (As := [.int (zI 0)]) K (c_X11_withoutFinding (E := E) (B := B) (N := N)   (cel_ne (cel_ne (cel_ne (cel_ne (cel_ne (cel_self hc0.1) (by omega)) (by omega)) (by omega)) (by omega)) (by omega)) ) gX11_went_X11_withoutFinding rfl (na := 1) (by decide +kernel) rfl ⟨(Nat.le_of_ble_eq_true rfl), (Nat.le_of_ble_eq_true rfl)⟩ (cel_ne (cel_ne (cel_ne (cel_ne (cel_ne (cel_self hc0.1) (by omega)) (by omega)) (by omega)) (by omega)) (by omega)) rfl (st := []) rfl (Nat.le_of_ble_eq_true rfl) ⟨(Nat.le_of_ble_eq_true rfl), (Nat.le_of_ble_eq_true rfl)⟩ dX11_went_105 (fun r105 N105 w105 hpo105 hN105 => ?_)
                  obtain ⟨rfl, rfl, rfl⟩ := hpo105
                  refine x_v (w := (va_up (va_up (va_up (va_up (va_up (va_up v 0 (.inr (10, [.ref (B + 1), .ref (B + 2), .ref (B + 5), .ref (B + 7), .ref (B + 12), .ref (B + 13), .ref (B + 14), .ref (B + c), .int (zI old), .int (zI kept), .int (zI fau), .int (zI 0)]))) (c + 13) (.inr (4, [.ref (B + (c + 14)), .ref (B + (c + 15)), .int (zI (n1 : Int)), .ref (B + (c + 16)), .ref (B + (c + 17))]))) (c + 14) (iarr E 8 g1)) (c + 15) (barr E 8 h1)) (c + 16) (iarr E 8 s1)) (c + 17) (iarr E 8 t1))) (up_at5 (by omega) (by omega) (by omega) (by omega) (by omega)).symm ?_
                  refine x_st (st' := [.int (zI 0)]) rfl ?_
                  refine x_iret (pc := 108) K KR (by omega) (Nat.le_of_ble_eq_true rfl) (Nat.le_of_ble_eq_true rfl) dX11_went_108 ?_
                  exact ⟨rfl, 0, 0, n1, g1, h1, s1, t1, (Or.inr (Or.inr (Or.inr (Or.inr ⟨by omega, by omega, by omega, by show rowOk it ii 8 = 1; omega, (by rw [if_neg (by omega), if_neg (by omega)]; show _ = isSoF p l it ii 8; omega), rfl⟩)))), rfl, rfl⟩
                · skip
                  refine x_iconst (pc := 100) K dX11_went_100 ?_
                  refine x_goto (pc := 101) (tgt := 105) K dX11_went_101 (by decide) ?_
                  refine x_callV (pc := 105) (C := RX11) (T := TX11) (n := 12) (ci := 10) (As := [.int (zI 1)]) K (c_X11_withoutFinding (E := E) (B := B) (N := N)   (cel_ne (cel_ne (cel_ne (cel_ne (cel_ne (cel_self hc0.1) (by omega)) (by omega)) (by omega)) (by omega)) (by omega)) ) gX11_went_X11_withoutFinding rfl (na := 1) (by decide +kernel) rfl ⟨(Nat.le_of_ble_eq_true rfl), (Nat.le_of_ble_eq_true rfl)⟩ (cel_ne (cel_ne (cel_ne (cel_ne (cel_ne (cel_self hc0.1) (by omega)) (by omega)) (by omega)) (by omega)) (by omega)) rfl (st := []) rfl (Nat.le_of_ble_eq_true rfl) ⟨(Nat.le_of_ble_eq_true rfl), (Nat.le_of_ble_eq_true rfl)⟩ dX11_went_105 (fun r105 N105 w105 hpo105 hN105 => ?_)
                  obtain ⟨rfl, rfl, rfl⟩ := hpo105
                  refine x_v (w := (va_up (va_up (va_up (va_up (va_up (va_up v 0 (.inr (10, [.ref (B + 1), .ref (B + 2), .ref (B + 5), .ref (B + 7), .ref (B + 12), .ref (B + 13), .ref (B + 14), .ref (B + c), .int (zI old), .int (zI kept), .int (zI fau), .int (zI 0)]))) (c + 13) (.inr (4, [.ref (B + (c + 14)), .ref (B + (c + 15)), .int (zI (n1 : Int)), .ref (B + (c + 16)), .ref (B + (c + 17))]))) (c + 14) (iarr E 8 g1)) (c + 15) (barr E 8 h1)) (c + 16) (iarr E 8 s1)) (c + 17) (iarr E 8 t1))) (up_at5 (by omega) (by omega) (by omega) (by omega) (by omega)).symm ?_
                  refine x_st (st' := [.int (zI 1)]) rfl ?_
                  refine x_iret (pc := 108) K KR (by omega) (Nat.le_of_ble_eq_true rfl) (Nat.le_of_ble_eq_true rfl) dX11_went_108 ?_
                  exact ⟨rfl, 1, 0, n1, g1, h1, s1, t1, (Or.inr (Or.inr (Or.inr (Or.inr ⟨by omega, by omega, by omega, by show rowOk it ii 8 = 1; omega, (by rw [if_neg (by omega), if_neg (by omega)]; show _ = isSoF p l it ii 8; omega), rfl⟩)))), rfl, rfl⟩
            · skip
              refine x_ldc (pc := 78) (x := (-1000001)) (-1000001) K (by decide) (by decide +kernel) dX11_went_78 ?_
              refine x_iret (pc := 80) K KR (by omega) (Nat.le_of_ble_eq_true rfl) (Nat.le_of_ble_eq_true rfl) dX11_went_80 ?_
              exact ⟨rfl, (-1000001), fin, n1, g1, h1, s1, t1, (Or.inr (Or.inr (Or.inr (Or.inl ⟨by omega, by omega, by omega, by show rowOk it ii 8 = 0; omega, rfl, rfl⟩)))), rfl, rfl⟩
          · skip
            have h_60 := bI_t h_60
            refine x_aload_n (pc := 63) 2 K rfl rfl dX11_went_63 ?_
            refine x_iconst (pc := 64) K dX11_went_64 ?_
            refine x_callV (pc := 65) (C := RX11) (T := TX11) (n := 12) (ci := 10) (As := [.int (zI 2)]) K (c_X11_finding (E := E) (B := B) (N := N)   (cel_ne (cel_ne (cel_ne (cel_ne (cel_ne (cel_self hc0.1) (by omega)) (by omega)) (by omega)) (by omega)) (by omega)) ) gX11_went_X11_finding rfl (na := 1) (by decide +kernel) rfl ⟨(Nat.le_of_ble_eq_true rfl), (Nat.le_of_ble_eq_true rfl)⟩ (cel_ne (cel_ne (cel_ne (cel_ne (cel_ne (cel_self hc0.1) (by omega)) (by omega)) (by omega)) (by omega)) (by omega)) rfl (st := []) rfl (Nat.le_of_ble_eq_true rfl) ⟨(Nat.le_of_ble_eq_true rfl), (Nat.le_of_ble_eq_true rfl)⟩ dX11_went_65 (fun r65 N65 w65 hpo65 hN65 => ?_)
            obtain ⟨rfl, rfl, rfl⟩ := hpo65
            refine x_v (w := (va_up (va_up (va_up (va_up (va_up (va_up v 0 (.inr (10, [.ref (B + 1), .ref (B + 2), .ref (B + 5), .ref (B + 7), .ref (B + 12), .ref (B + 13), .ref (B + 14), .ref (B + c), .int (zI old), .int (zI kept), .int (zI fau), .int (zI 2)]))) (c + 13) (.inr (4, [.ref (B + (c + 14)), .ref (B + (c + 15)), .int (zI (n1 : Int)), .ref (B + (c + 16)), .ref (B + (c + 17))]))) (c + 14) (iarr E 8 g1)) (c + 15) (barr E 8 h1)) (c + 16) (iarr E 8 s1)) (c + 17) (iarr E 8 t1))) (up_at5 (by omega) (by omega) (by omega) (by omega) (by omega)).symm ?_
            refine x_st (st' := [.int (zI (-1000010 - 2))]) rfl ?_
            refine x_iret (pc := 68) K KR (by omega) (Nat.le_of_ble_eq_true rfl) (Nat.le_of_ble_eq_true rfl) dX11_went_68 ?_
            exact ⟨rfl, (-1000010 - 2), 2, n1, g1, h1, s1, t1, (Or.inr (Or.inr (Or.inl ⟨by omega, by omega, by omega, rfl, rfl⟩))), rfl, rfl⟩
        · skip
          have h_43 := bI_f h_43
          refine x_aload_n (pc := 46) 2 K rfl rfl dX11_went_46 ?_
          refine x_iconst (pc := 47) K dX11_went_47 ?_
          refine x_callV (pc := 48) (C := RX11) (T := TX11) (n := 12) (ci := 10) (As := [.int (zI 1)]) K (c_X11_finding (E := E) (B := B) (N := N)   (cel_ne (cel_ne (cel_ne (cel_ne (cel_ne (cel_self hc0.1) (by omega)) (by omega)) (by omega)) (by omega)) (by omega)) ) gX11_went_X11_finding rfl (na := 1) (by decide +kernel) rfl ⟨(Nat.le_of_ble_eq_true rfl), (Nat.le_of_ble_eq_true rfl)⟩ (cel_ne (cel_ne (cel_ne (cel_ne (cel_ne (cel_self hc0.1) (by omega)) (by omega)) (by omega)) (by omega)) (by omega)) rfl (st := []) rfl (Nat.le_of_ble_eq_true rfl) ⟨(Nat.le_of_ble_eq_true rfl), (Nat.le_of_ble_eq_true rfl)⟩ dX11_went_48 (fun r48 N48 w48 hpo48 hN48 => ?_)
          obtain ⟨rfl, rfl, rfl⟩ := hpo48
          refine x_v (w := (va_up (va_up (va_up (va_up (va_up (va_up v 0 (.inr (10, [.ref (B + 1), .ref (B + 2), .ref (B + 5), .ref (B + 7), .ref (B + 12), .ref (B + 13), .ref (B + 14), .ref (B + c), .int (zI old), .int (zI kept), .int (zI fau), .int (zI 1)]))) (c + 13) (.inr (4, [.ref (B + (c + 14)), .ref (B + (c + 15)), .int (zI (n1 : Int)), .ref (B + (c + 16)), .ref (B + (c + 17))]))) (c + 14) (iarr E 8 g1)) (c + 15) (barr E 8 h1)) (c + 16) (iarr E 8 s1)) (c + 17) (iarr E 8 t1))) (up_at5 (by omega) (by omega) (by omega) (by omega) (by omega)).symm ?_
          refine x_st (st' := [.int (zI (-1000010 - 1))]) rfl ?_
          refine x_iret (pc := 51) K KR (by omega) (Nat.le_of_ble_eq_true rfl) (Nat.le_of_ble_eq_true rfl) dX11_went_51 ?_
          exact ⟨rfl, (-1000010 - 1), 1, n1, g1, h1, s1, t1, (Or.inr (Or.inl ⟨by omega, by omega, rfl, rfl⟩)), rfl, rfl⟩
      · skip
        refine x_ldc (pc := 35) (x := (-1000001)) (-1000001) K (by decide) (by decide +kernel) dX11_went_35 ?_
        refine x_iret (pc := 37) K KR (by omega) (Nat.le_of_ble_eq_true rfl) (Nat.le_of_ble_eq_true rfl) dX11_went_37 ?_
        exact ⟨rfl, (-1000001), fin, n1, g1, h1, s1, t1, (Or.inl ⟨by omega, rfl, rfl⟩), rfl, rfl⟩
  · skip
    refine x_aload_n (pc := 0) 0 K rfl rfl dX11_went_0 ?_
    refine x_get (pc := 1) (C := RX11) (T := TX11) (n := 12) (ci := 10) (idx := 49) (ref := "BorderBeds") (x := .ref (B + c))  K (cel_ne (cel_ne (cel_ne (cel_ne (cel_ne (cel_self hc0.1) (by omega)) (by omega)) (by omega)) (by omega)) (by omega)) rfl (by decide +kernel) 7 (by decide) (by decide +kernel) rfl rfl dX11_went_1 ?_
    refine x_astore (pc := 4) K (L' := [(4, .ref (B + c)), (0, .ref (B + 0)), (1, .int (zI r)), (2, .int (zI i)), (3, .int (zI what))]) hnL (by decide) rfl dX11_went_4 ?_
    refine x_aload (pc := 6) 0 K rfl dX11_went_6 ?_
    refine x_ifnonnull (pc := 8) (tgt := 14) K dX11_went_8 (by decide) ?_
    refine x_aload_n (pc := 14) 1 K rfl rfl dX11_went_14 ?_
    refine x_iload_n (pc := 15) 2 K rfl rfl dX11_went_15 ?_
    refine x_callV (pc := 16) (C := RX11) (T := TX11) (n := 12) (ci := 10) (As := [.int (zI r)]) K (c_X11_rowAt_n (E := E) (B := B) (N := N)   (cel_ne (cel_ne (cel_ne (cel_ne (cel_ne (cel_self hc0.1) (by omega)) (by omega)) (by omega)) (by omega)) (by omega)) (cel_ne (cel_ne (cel_ne (cel_ne (cel_ne (cel_ne hc1 (by decide)) (by omega)) (by omega)) (by omega)) (by omega)) (by omega)) hr (by omega)) gX11_went_X11_rowAt rfl (na := 1) (by decide +kernel) rfl ⟨(Nat.le_of_ble_eq_true rfl), (Nat.le_of_ble_eq_true rfl)⟩ (cel_ne (cel_ne (cel_ne (cel_ne (cel_ne (cel_self hc0.1) (by omega)) (by omega)) (by omega)) (by omega)) (by omega)) rfl (st := []) rfl (Nat.le_of_ble_eq_true rfl) ⟨(Nat.le_of_ble_eq_true rfl), (Nat.le_of_ble_eq_true rfl)⟩ dX11_went_16 (fun r16 N16 w16 hpo16 hN16 => ?_)
    obtain ⟨rfl, rfl, rfl⟩ := hpo16
    refine x_st (st' := [.null]) rfl ?_
    refine x_astoreN (pc := 19) K (L' := [(5, .null), (4, .ref (B + c)), (0, .ref (B + 0)), (1, .int (zI r)), (2, .int (zI i)), (3, .int (zI what))]) hnL (by decide) rfl dX11_went_19 ?_
    refine x_aloadN (pc := 21) 0 K rfl dX11_went_21 ?_
    refine x_ifnullN (pc := 23) (tgt := 35) K dX11_went_23 (by decide) ?_
    refine x_ldc (pc := 35) (x := (-1000001)) (-1000001) K (by decide) (by decide +kernel) dX11_went_35 ?_
    refine x_iret (pc := 37) K KR (by omega) (Nat.le_of_ble_eq_true rfl) (Nat.le_of_ble_eq_true rfl) dX11_went_37 ?_
    exact ⟨rfl, (-1000001), fin, n1, g1, h1, s1, t1, (Or.inl ⟨by omega, rfl, rfl⟩), rfl, rfl⟩
