theorem dX11_copy_0 : decode cX11_copy 0 = .ok (.aload_n 0, 1) := by decide +kernel
theorem dX11_copy_1 : decode cX11_copy 1 = .ok (.iload_n 1, 1) := by decide +kernel
set_option maxRecDepth 20000 in
theorem ggX11_copy_X11_rowAt : GoodIn wsX11_copy wsX11_rowAt := goodIn_r _ [12, 13, 38, 39, 40, 41, 42, 43, 44, 45, 46, 47, 48, 49] (by decide +kernel) (by decide +kernel)
set_option maxRecDepth 20000 in
theorem gX11_copy_X11_rowAt : GoodIn wsX11_copy (wsV RX11 67 RX11 yX11_rowAt wsX11_rowAt) := goodIn_app (goodIn_of _ (by decide +kernel)) ggX11_copy_X11_rowAt
theorem dX11_copy_2 : decode cX11_copy 2 = .ok (.invokevirtual 67, 3) := by decide +kernel
theorem dX11_copy_5 : decode cX11_copy 5 = .ok (.astore 6, 2) := by decide +kernel
theorem dX11_copy_7 : decode cX11_copy 7 = .ok (.aload_n 0, 1) := by decide +kernel
theorem dX11_copy_8 : decode cX11_copy 8 = .ok (.iload_n 3, 1) := by decide +kernel
theorem dX11_copy_9 : decode cX11_copy 9 = .ok (.invokevirtual 67, 3) := by decide +kernel
theorem dX11_copy_12 : decode cX11_copy 12 = .ok (.astore 7, 2) := by decide +kernel
theorem dX11_copy_14 : decode cX11_copy 14 = .ok (.aload 6, 2) := by decide +kernel
theorem dX11_copy_16 : decode cX11_copy 16 = .ok (.ifnull 8, 3) := by decide +kernel
theorem dX11_copy_19 : decode cX11_copy 19 = .ok (.aload 7, 2) := by decide +kernel
theorem dX11_copy_21 : decode cX11_copy 21 = .ok (.ifnonnull 6, 3) := by decide +kernel
theorem dX11_copy_27 : decode cX11_copy 27 = .ok (.aload 6, 2) := by decide +kernel
set_option maxRecDepth 20000 in
theorem ggX11_copy_X7_isMissing : GoodIn wsX11_copy wsX7_isMissing := goodIn_r _ [18, 19, 35, 36, 37] (by decide +kernel) (by decide +kernel)
set_option maxRecDepth 20000 in
theorem gX11_copy_X7_isMissing : GoodIn wsX11_copy (wsV RX11 83 RX7 yX7_isMissing wsX7_isMissing) := goodIn_app (goodIn_of _ (by decide +kernel)) ggX11_copy_X7_isMissing
theorem dX11_copy_29 : decode cX11_copy 29 = .ok (.invokevirtual 83, 3) := by decide +kernel
theorem dX11_copy_32 : decode cX11_copy 32 = .ok (.ifCond .ne 11, 3) := by decide +kernel
theorem dX11_copy_43 : decode cX11_copy 43 = .ok (.aload_n 0, 1) := by decide +kernel
theorem dX11_copy_44 : decode cX11_copy 44 = .ok (.iconst 1, 1) := by decide +kernel
set_option maxRecDepth 20000 in
theorem ggX11_copy_X11_finding : GoodIn wsX11_copy wsX11_finding := goodIn_r _ [23, 24, 25, 38, 39, 40, 41, 42, 43, 44, 45, 46, 47, 48, 49] (by decide +kernel) (by decide +kernel)
set_option maxRecDepth 20000 in
theorem gX11_copy_X11_finding : GoodIn wsX11_copy (wsV RX11 72 RX11 yX11_finding wsX11_finding) := goodIn_app (goodIn_of _ (by decide +kernel)) ggX11_copy_X11_finding
theorem dX11_copy_45 : decode cX11_copy 45 = .ok (.invokevirtual 72, 3) := by decide +kernel
theorem dX11_copy_48 : decode cX11_copy 48 = .ok (.ireturn, 1) := by decide +kernel
theorem dX11_copy_35 : decode cX11_copy 35 = .ok (.aload 7, 2) := by decide +kernel
theorem dX11_copy_37 : decode cX11_copy 37 = .ok (.invokevirtual 83, 3) := by decide +kernel
theorem dX11_copy_40 : decode cX11_copy 40 = .ok (.ifCond .eq 9, 3) := by decide +kernel
theorem dX11_copy_49 : decode cX11_copy 49 = .ok (.aload 6, 2) := by decide +kernel
theorem dX11_copy_51 : decode cX11_copy 51 = .ok (.getfield 95, 3) := by decide +kernel
theorem dX11_copy_54 : decode cX11_copy 54 = .ok (.aload 7, 2) := by decide +kernel
theorem dX11_copy_56 : decode cX11_copy 56 = .ok (.getfield 95, 3) := by decide +kernel
theorem dX11_copy_59 : decode cX11_copy 59 = .ok (.if_icmp .eq 9, 3) := by decide +kernel
theorem dX11_copy_68 : decode cX11_copy 68 = .ok (.aload 6, 2) := by decide +kernel
theorem dX11_copy_70 : decode cX11_copy 70 = .ok (.iload_n 2, 1) := by decide +kernel
theorem dX11_copy_71 : decode cX11_copy 71 = .ok (.iload 5, 2) := by decide +kernel
set_option maxRecDepth 20000 in
theorem ggX11_copy_X7_hasPlaces : GoodIn wsX11_copy wsX7_hasPlaces := goodIn_r _ [29, 30, 35, 36, 37] (by decide +kernel) (by decide +kernel)
set_option maxRecDepth 20000 in
theorem gX11_copy_X7_hasPlaces : GoodIn wsX11_copy (wsV RX11 87 RX7 yX7_hasPlaces wsX7_hasPlaces) := goodIn_app (goodIn_of _ (by decide +kernel)) ggX11_copy_X7_hasPlaces
theorem dX11_copy_73 : decode cX11_copy 73 = .ok (.invokevirtual 87, 3) := by decide +kernel
theorem dX11_copy_76 : decode cX11_copy 76 = .ok (.ifCond .eq 15, 3) := by decide +kernel
theorem dX11_copy_91 : decode cX11_copy 91 = .ok (.aload_n 0, 1) := by decide +kernel
theorem dX11_copy_92 : decode cX11_copy 92 = .ok (.iconst 2, 1) := by decide +kernel
theorem dX11_copy_93 : decode cX11_copy 93 = .ok (.invokevirtual 72, 3) := by decide +kernel
theorem dX11_copy_96 : decode cX11_copy 96 = .ok (.ireturn, 1) := by decide +kernel
theorem dX11_copy_79 : decode cX11_copy 79 = .ok (.aload 7, 2) := by decide +kernel
theorem dX11_copy_81 : decode cX11_copy 81 = .ok (.iload 4, 2) := by decide +kernel
theorem dX11_copy_83 : decode cX11_copy 83 = .ok (.iload 5, 2) := by decide +kernel
theorem dX11_copy_85 : decode cX11_copy 85 = .ok (.invokevirtual 87, 3) := by decide +kernel
theorem dX11_copy_88 : decode cX11_copy 88 = .ok (.ifCond .ne 9, 3) := by decide +kernel
theorem dX11_copy_97 : decode cX11_copy 97 = .ok (.aload 6, 2) := by decide +kernel
theorem dX11_copy_99 : decode cX11_copy 99 = .ok (.getfield 98, 3) := by decide +kernel
theorem dX11_copy_102 : decode cX11_copy 102 = .ok (.iload_n 2, 1) := by decide +kernel
theorem dX11_copy_103 : decode cX11_copy 103 = .ok (.aload 7, 2) := by decide +kernel
theorem dX11_copy_105 : decode cX11_copy 105 = .ok (.getfield 98, 3) := by decide +kernel
theorem dX11_copy_108 : decode cX11_copy 108 = .ok (.iload 4, 2) := by decide +kernel
theorem dX11_copy_110 : decode cX11_copy 110 = .ok (.iload 5, 2) := by decide +kernel
theorem dX11_copy_112 : decode cX11_copy 112 = .ok (.invokestatic 102, 3) := by decide +kernel
theorem dX11_copy_115 : decode cX11_copy 115 = .ok (.aload_n 0, 1) := by decide +kernel
theorem dX11_copy_116 : decode cX11_copy 116 = .ok (.iload 5, 2) := by decide +kernel
set_option maxRecDepth 20000 in
theorem ggX11_copy_X11_withoutFinding : GoodIn wsX11_copy wsX11_withoutFinding := goodIn_r _ [34, 24, 38, 39, 40, 41, 42, 43, 44, 45, 46, 47, 48, 49] (by decide +kernel) (by decide +kernel)
set_option maxRecDepth 20000 in
theorem gX11_copy_X11_withoutFinding : GoodIn wsX11_copy (wsV RX11 80 RX11 yX11_withoutFinding wsX11_withoutFinding) := goodIn_app (goodIn_of _ (by decide +kernel)) ggX11_copy_X11_withoutFinding
theorem dX11_copy_118 : decode cX11_copy 118 = .ok (.invokevirtual 80, 3) := by decide +kernel
theorem dX11_copy_121 : decode cX11_copy 121 = .ok (.ireturn, 1) := by decide +kernel
theorem dX11_copy_62 : decode cX11_copy 62 = .ok (.aload_n 0, 1) := by decide +kernel
theorem dX11_copy_63 : decode cX11_copy 63 = .ok (.iconst 5, 1) := by decide +kernel
theorem dX11_copy_64 : decode cX11_copy 64 = .ok (.invokevirtual 72, 3) := by decide +kernel
theorem dX11_copy_67 : decode cX11_copy 67 = .ok (.ireturn, 1) := by decide +kernel
theorem dX11_copy_24 : decode cX11_copy 24 = .ok (.ldc 71, 2) := by decide +kernel
theorem dX11_copy_26 : decode cX11_copy 26 = .ok (.ireturn, 1) := by decide +kernel
set_option maxRecDepth 100000 in
set_option maxHeartbeats 4000000 in
theorem c_X11_copy_d {E : XE} {B N : Nat} {v : Nat → va_E} {c d : Nat} {cu : Value} {old kept fau fin : Int} {la sz la9 sz9 a i b j n : Int} {g h : Nat → Int} (hc0 : Cel N v 0 (.inr (10, [.ref (B + 1), .ref (B + 2), .ref (B + 5), .ref (B + 7), .ref (B + 12), .ref (B + 13), .ref (B + 14), cu, .int (zI old), .int (zI kept), .int (zI fau), .int (zI fin)]))) (hc1 : Cel N v 1 (rarr E 2 8 B rowQ)) (hc2 : Cel N v c (.inr (6, [.ref (B + (c + 1)), .int (zI la), .int (zI sz)]))) (hc3 : Cel N v (c + 1) (iarr E 40 g)) (hc4 : Cel N v d (.inr (6, [.ref (B + (d + 1)), .int (zI la9), .int (zI sz9)]))) (hc5 : Cel N v (d + 1) (iarr E 40 h)) (hq0 : c = rowC a) (hq1 : d = rowC b) (hq2 : c + 2 ≤ d ∨ d + 2 ≤ c) (hq3 : -1 ≤ la ∧ la ≤ 2) (hq4 : -1 ≤ la9 ∧ la9 ≤ 2) (hq5 : 0 ≤ sz ∧ sz ≤ 40) (hq6 : 0 ≤ sz9 ∧ sz9 ≤ 40) (hq7 : (-2147483648 ≤ a ∧ a ≤ 2147483647)) (hq8 : (-2147483648 ≤ i ∧ i ≤ 2147483647)) (hq9 : (-2147483648 ≤ b ∧ b ≤ 2147483647)) (hq10 : (-2147483648 ≤ j ∧ j ≤ 2147483647)) (hq11 : (-2147483648 ≤ n ∧ n ≤ 2147483647)) : gM yX11_copy wsX11_copy ({ frames := 1, cells := 0, slots := 0, locals := 40 }) E B N v [.ref (B + 0), .int (zI a), .int (zI i), .int (zI b), .int (zI j), .int (zI n)] (po0 N (fun ρ v' => ∃ (res : Int), ∃ (fin2 : Int), ∃ (h2 : Nat → Int), ((¬ ((0 ≤ a ∧ a ≤ 7) ∧ (0 ≤ b ∧ b ≤ 7)) ∧ res = -1000001 ∧ fin2 = fin ∧ h2 = h) ∨ (((0 ≤ a ∧ a ≤ 7) ∧ (0 ≤ b ∧ b ≤ 7)) ∧ (la = -1 ∨ la9 = -1) ∧ res = -1000011 ∧ fin2 = 1 ∧ h2 = h) ∨ (((0 ≤ a ∧ a ≤ 7) ∧ (0 ≤ b ∧ b ≤ 7)) ∧ la ≠ -1 ∧ la9 ≠ -1 ∧ la ≠ la9 ∧ res = -1000015 ∧ fin2 = 5 ∧ h2 = h) ∨ (((0 ≤ a ∧ a ≤ 7) ∧ (0 ≤ b ∧ b ≤ 7)) ∧ la ≠ -1 ∧ la9 ≠ -1 ∧ la = la9 ∧ ¬ ((0 ≤ i ∧ 0 ≤ n ∧ i + n ≤ sz) ∧ (0 ≤ j ∧ 0 ≤ n ∧ j + n ≤ sz9)) ∧ res = -1000012 ∧ fin2 = 2 ∧ h2 = h) ∨ (((0 ≤ a ∧ a ≤ 7) ∧ (0 ≤ b ∧ b ≤ 7)) ∧ la ≠ -1 ∧ la9 ≠ -1 ∧ la = la9 ∧ (0 ≤ i ∧ 0 ≤ n ∧ i + n ≤ sz) ∧ (0 ≤ j ∧ 0 ≤ n ∧ j + n ≤ sz9) ∧ res = n ∧ fin2 = 0 ∧ h2 = cpI g h i.toNat j.toNat n.toNat)) ∧ ρ = some (.int (zI res)) ∧ (va_up (va_up v 0 (.inr (10, [.ref (B + 1), .ref (B + 2), .ref (B + 5), .ref (B + 7), .ref (B + 12), .ref (B + 13), .ref (B + 14), cu, .int (zI old), .int (zI kept), .int (zI fau), .int (zI fin2)]))) (d + 1) (iarr E 40 h2)) = v')) := by
  refine x_met (nm := "copy") (by decide +kernel) rfl (Nat.le_of_ble_eq_true rfl) rfl (fun Γ K KR hnL hnm => ?_)
  show XW Γ N v [(0, .ref (B + 0)), (1, .int (zI a)), (2, .int (zI i)), (3, .int (zI b)), (4, .int (zI j)), (5, .int (zI n))] 0 0 0 []
  have hcra := rowC_rng a
  have hcrb := rowC_rng b
  refine x_v (cel_pad hc0) ?_
  refine x_v (cel_pad (cel_ne hc5 (by omega))) ?_
  by_cases ha : 0 ≤ a ∧ a ≤ 7
  · skip
    obtain ⟨aa, rfl⟩ : ∃ aa : Nat, a = (aa : Int) := ⟨a.toNat, by omega⟩
    have hccaa := rowC_y (r := aa) (by omega)
    refine x_aload_n (pc := 0) 0 K rfl rfl dX11_copy_0 ?_
    refine x_iload_n (pc := 1) 1 K rfl rfl dX11_copy_1 ?_
    refine x_callV (pc := 2) (C := RX11) (T := TX11) (n := 12) (ci := 10) (As := [.int (zI (aa : Int))]) K (c_X11_rowAt_y (E := E) (B := B) (N := N) (c := c) (r := aa) rfl (cel_ne (cel_self hc0.1) (by omega)) (cel_ne (cel_ne hc1 (by decide)) (by omega)) (by omega) (by omega)) gX11_copy_X11_rowAt rfl (na := 1) (by decide +kernel) rfl ⟨(Nat.le_of_ble_eq_true rfl), (Nat.le_of_ble_eq_true rfl)⟩ (cel_ne (cel_self hc0.1) (by omega)) rfl (st := []) rfl (Nat.le_of_ble_eq_true rfl) ⟨(Nat.le_of_ble_eq_true rfl), (Nat.le_of_ble_eq_true rfl)⟩ dX11_copy_2 (fun r2 N2 w2 hpo2 hN2 => ?_)
    obtain ⟨rfl, rfl, rfl⟩ := hpo2
    refine x_st (st' := [.ref (B + c)]) rfl ?_
    refine x_astore (pc := 5) K (L' := [(6, .ref (B + c)), (0, .ref (B + 0)), (1, .int (zI (aa : Int))), (2, .int (zI i)), (3, .int (zI b)), (4, .int (zI j)), (5, .int (zI n))]) hnL (by decide) rfl dX11_copy_5 ?_
    by_cases hb : 0 ≤ b ∧ b ≤ 7
    · skip
      obtain ⟨bb, rfl⟩ : ∃ bb : Nat, b = (bb : Int) := ⟨b.toNat, by omega⟩
      have hccbb := rowC_y (r := bb) (by omega)
      refine x_aload_n (pc := 7) 1 K rfl rfl dX11_copy_7 ?_
      refine x_iload_n (pc := 8) 4 K rfl rfl dX11_copy_8 ?_
      refine x_callV (pc := 9) (C := RX11) (T := TX11) (n := 12) (ci := 10) (As := [.int (zI (bb : Int))]) K (c_X11_rowAt_y (E := E) (B := B) (N := N) (c := d) (r := bb) rfl (cel_ne (cel_self hc0.1) (by omega)) (cel_ne (cel_ne hc1 (by decide)) (by omega)) (by omega) (by omega)) gX11_copy_X11_rowAt rfl (na := 1) (by decide +kernel) rfl ⟨(Nat.le_of_ble_eq_true rfl), (Nat.le_of_ble_eq_true rfl)⟩ (cel_ne (cel_self hc0.1) (by omega)) rfl (st := []) rfl (Nat.le_of_ble_eq_true rfl) ⟨(Nat.le_of_ble_eq_true rfl), (Nat.le_of_ble_eq_true rfl)⟩ dX11_copy_9 (fun r9 N9 w9 hpo9 hN9 => ?_)
      obtain ⟨rfl, rfl, rfl⟩ := hpo9
      refine x_st (st' := [.ref (B + d)]) rfl ?_
      refine x_astore (pc := 12) K (L' := [(7, .ref (B + d)), (6, .ref (B + c)), (0, .ref (B + 0)), (1, .int (zI (aa : Int))), (2, .int (zI i)), (3, .int (zI (bb : Int))), (4, .int (zI j)), (5, .int (zI n))]) hnL (by decide) rfl dX11_copy_12 ?_
      refine x_aload (pc := 14) 1 K rfl dX11_copy_14 ?_
      refine x_ifnull (pc := 16) K dX11_copy_16 ?_
      refine x_aload (pc := 19) 0 K rfl dX11_copy_19 ?_
      refine x_ifnonnull (pc := 21) (tgt := 27) K dX11_copy_21 (by decide) ?_
      refine x_aload (pc := 27) 1 K rfl dX11_copy_27 ?_
      refine x_callV (pc := 29) (C := RX7) (T := TX7) (n := 3) (ci := 6) (As := []) K (c_X7_isMissing (E := E) (B := B) (N := N) (g := (fun _ => (0 : Int)))  (cel_ne (cel_ne hc2 (by omega)) (by omega)) (by omega)) gX11_copy_X7_isMissing rfl (na := 0) (by decide +kernel) rfl ⟨(Nat.le_of_ble_eq_true rfl), (Nat.le_of_ble_eq_true rfl)⟩ (cel_ne (cel_ne hc2 (by omega)) (by omega)) rfl (st := []) rfl (Nat.le_of_ble_eq_true rfl) ⟨(Nat.le_of_ble_eq_true rfl), (Nat.le_of_ble_eq_true rfl)⟩ dX11_copy_29 (fun r29 N29 w29 hpo29 hN29 => ?_)
      obtain ⟨rfl, rfl, rfl⟩ := hpo29
      refine x_st (st' := [.int (zI (bI (la = -1)))]) rfl ?_
      have hrg29 := bI_rng (la = -1)
      refine x_if_ne (pc := 32) (tgt := 43) K (by omega) dX11_copy_32 (by decide) (fun h_32 => ?_) (fun h_32 => ?_)
      · skip
        have h_32 := bI_f h_32
        refine x_aload_n (pc := 43) 2 K rfl rfl dX11_copy_43 ?_
        refine x_iconst (pc := 44) K dX11_copy_44 ?_
        refine x_callV (pc := 45) (C := RX11) (T := TX11) (n := 12) (ci := 10) (As := [.int (zI 1)]) K (c_X11_finding (E := E) (B := B) (N := N)   (cel_ne (cel_self hc0.1) (by omega)) ) gX11_copy_X11_finding rfl (na := 1) (by decide +kernel) rfl ⟨(Nat.le_of_ble_eq_true rfl), (Nat.le_of_ble_eq_true rfl)⟩ (cel_ne (cel_self hc0.1) (by omega)) rfl (st := []) rfl (Nat.le_of_ble_eq_true rfl) ⟨(Nat.le_of_ble_eq_true rfl), (Nat.le_of_ble_eq_true rfl)⟩ dX11_copy_45 (fun r45 N45 w45 hpo45 hN45 => ?_)
        obtain ⟨rfl, rfl, rfl⟩ := hpo45
        refine x_v (w := (va_up (va_up v 0 (.inr (10, [.ref (B + 1), .ref (B + 2), .ref (B + 5), .ref (B + 7), .ref (B + 12), .ref (B + 13), .ref (B + 14), cu, .int (zI old), .int (zI kept), .int (zI fau), .int (zI 1)]))) (d + 1) (iarr E 40 h))) (up_at1 (by omega)).symm ?_
        refine x_st (st' := [.int (zI (-1000010 - 1))]) rfl ?_
        refine x_iret (pc := 48) K KR (by omega) (Nat.le_of_ble_eq_true rfl) (Nat.le_of_ble_eq_true rfl) dX11_copy_48 ?_
        exact ⟨rfl, (-1000010 - 1), 1, h, (Or.inr (Or.inl ⟨by omega, by omega, rfl, rfl, rfl⟩)), rfl, rfl⟩
      · skip
        have h_32 := bI_t h_32
        refine x_aload (pc := 35) 0 K rfl dX11_copy_35 ?_
        refine x_callV (pc := 37) (C := RX7) (T := TX7) (n := 3) (ci := 6) (As := []) K (c_X7_isMissing (E := E) (B := B) (N := N) (g := (fun _ => (0 : Int)))  (cel_ne (cel_ne hc4 (by omega)) (by omega)) (by omega)) gX11_copy_X7_isMissing rfl (na := 0) (by decide +kernel) rfl ⟨(Nat.le_of_ble_eq_true rfl), (Nat.le_of_ble_eq_true rfl)⟩ (cel_ne (cel_ne hc4 (by omega)) (by omega)) rfl (st := []) rfl (Nat.le_of_ble_eq_true rfl) ⟨(Nat.le_of_ble_eq_true rfl), (Nat.le_of_ble_eq_true rfl)⟩ dX11_copy_37 (fun r37 N37 w37 hpo37 hN37 => ?_)
        obtain ⟨rfl, rfl, rfl⟩ := hpo37
        refine x_st (st' := [.int (zI (bI (la9 = -1)))]) rfl ?_
        have hrg37 := bI_rng (la9 = -1)
        refine x_if_eq (pc := 40) (tgt := 49) K (by omega) dX11_copy_40 (by decide) (fun h_40 => ?_) (fun h_40 => ?_)
        · skip
          have h_40 := bI_t h_40
          refine x_aload (pc := 49) 1 K rfl dX11_copy_49 ?_
          refine x_get (pc := 51) (C := RX7) (T := TX7) (n := 3) (ci := 6) (idx := 95) (ref := "BorderBeds$Row") (x := .int (zI la))  K (cel_ne (cel_ne hc2 (by omega)) (by omega)) rfl (by decide +kernel) 1 (by decide) (by decide +kernel) rfl rfl dX11_copy_51 ?_
          refine x_aload (pc := 54) 0 K rfl dX11_copy_54 ?_
          refine x_get (pc := 56) (C := RX7) (T := TX7) (n := 3) (ci := 6) (idx := 95) (ref := "BorderBeds$Row") (x := .int (zI la9))  K (cel_ne (cel_ne hc4 (by omega)) (by omega)) rfl (by decide +kernel) 1 (by decide) (by decide +kernel) rfl rfl dX11_copy_56 ?_
          refine x_icmp_eq (pc := 59) (tgt := 68) K (by omega) (by omega) dX11_copy_59 (by decide) (fun h_59 => ?_) (fun h_59 => ?_)
          · skip
            refine x_aload (pc := 68) 1 K rfl dX11_copy_68 ?_
            refine x_iload_n (pc := 70) 4 K rfl rfl dX11_copy_70 ?_
            refine x_iload (pc := 71) 7 K rfl dX11_copy_71 ?_
            refine x_callV (pc := 73) (C := RX7) (T := TX7) (n := 3) (ci := 6) (As := [.int (zI i), .int (zI n)]) K (c_X7_hasPlaces (E := E) (B := B) (N := N) (g := (fun _ => (0 : Int)))  (cel_ne (cel_ne hc2 (by omega)) (by omega)) (by omega) (by omega) (by omega)) gX11_copy_X7_hasPlaces rfl (na := 2) (by decide +kernel) rfl ⟨(Nat.le_of_ble_eq_true rfl), (Nat.le_of_ble_eq_true rfl)⟩ (cel_ne (cel_ne hc2 (by omega)) (by omega)) rfl (st := []) rfl (Nat.le_of_ble_eq_true rfl) ⟨(Nat.le_of_ble_eq_true rfl), (Nat.le_of_ble_eq_true rfl)⟩ dX11_copy_73 (fun r73 N73 w73 hpo73 hN73 => ?_)
            obtain ⟨rfl, rfl, rfl⟩ := hpo73
            refine x_st (st' := [.int (zI (bI (0 ≤ i ∧ 0 ≤ n ∧ i + n ≤ sz)))]) rfl ?_
            have hrg73 := bI_rng (0 ≤ i ∧ 0 ≤ n ∧ i + n ≤ sz)
            refine x_if_eq (pc := 76) (tgt := 91) K (by omega) dX11_copy_76 (by decide) (fun h_76 => ?_) (fun h_76 => ?_)
            · skip
              have h_76 := bI_t h_76
              refine x_aload_n (pc := 91) 2 K rfl rfl dX11_copy_91 ?_
              refine x_iconst (pc := 92) K dX11_copy_92 ?_
              refine x_callV (pc := 93) (C := RX11) (T := TX11) (n := 12) (ci := 10) (As := [.int (zI 2)]) K (c_X11_finding (E := E) (B := B) (N := N)   (cel_ne (cel_self hc0.1) (by omega)) ) gX11_copy_X11_finding rfl (na := 1) (by decide +kernel) rfl ⟨(Nat.le_of_ble_eq_true rfl), (Nat.le_of_ble_eq_true rfl)⟩ (cel_ne (cel_self hc0.1) (by omega)) rfl (st := []) rfl (Nat.le_of_ble_eq_true rfl) ⟨(Nat.le_of_ble_eq_true rfl), (Nat.le_of_ble_eq_true rfl)⟩ dX11_copy_93 (fun r93 N93 w93 hpo93 hN93 => ?_)
              obtain ⟨rfl, rfl, rfl⟩ := hpo93
              refine x_v (w := (va_up (va_up v 0 (.inr (10, [.ref (B + 1), .ref (B + 2), .ref (B + 5), .ref (B + 7), .ref (B + 12), .ref (B + 13), .ref (B + 14), cu, .int (zI old), .int (zI kept), .int (zI fau), .int (zI 2)]))) (d + 1) (iarr E 40 h))) (up_at1 (by omega)).symm ?_
              refine x_st (st' := [.int (zI (-1000010 - 2))]) rfl ?_
              refine x_iret (pc := 96) K KR (by omega) (Nat.le_of_ble_eq_true rfl) (Nat.le_of_ble_eq_true rfl) dX11_copy_96 ?_
              exact ⟨rfl, (-1000010 - 2), 2, h, (Or.inr (Or.inr (Or.inr (Or.inl ⟨by omega, by omega, by omega, by omega, by omega, rfl, rfl, rfl⟩)))), rfl, rfl⟩
            · skip
              have h_76 := bI_f h_76
              refine x_aload (pc := 79) 0 K rfl dX11_copy_79 ?_
              refine x_iload (pc := 81) 6 K rfl dX11_copy_81 ?_
              refine x_iload (pc := 83) 7 K rfl dX11_copy_83 ?_
              refine x_callV (pc := 85) (C := RX7) (T := TX7) (n := 3) (ci := 6) (As := [.int (zI j), .int (zI n)]) K (c_X7_hasPlaces (E := E) (B := B) (N := N) (g := (fun _ => (0 : Int)))  (cel_ne (cel_ne hc4 (by omega)) (by omega)) (by omega) (by omega) (by omega)) gX11_copy_X7_hasPlaces rfl (na := 2) (by decide +kernel) rfl ⟨(Nat.le_of_ble_eq_true rfl), (Nat.le_of_ble_eq_true rfl)⟩ (cel_ne (cel_ne hc4 (by omega)) (by omega)) rfl (st := []) rfl (Nat.le_of_ble_eq_true rfl) ⟨(Nat.le_of_ble_eq_true rfl), (Nat.le_of_ble_eq_true rfl)⟩ dX11_copy_85 (fun r85 N85 w85 hpo85 hN85 => ?_)
              obtain ⟨rfl, rfl, rfl⟩ := hpo85
              refine x_st (st' := [.int (zI (bI (0 ≤ j ∧ 0 ≤ n ∧ j + n ≤ sz9)))]) rfl ?_
              have hrg85 := bI_rng (0 ≤ j ∧ 0 ≤ n ∧ j + n ≤ sz9)
              refine x_if_ne (pc := 88) (tgt := 97) K (by omega) dX11_copy_88 (by decide) (fun h_88 => ?_) (fun h_88 => ?_)
              · skip
                have h_88 := bI_f h_88
                obtain ⟨ii, rfl⟩ : ∃ ii : Nat, i = (ii : Int) := ⟨i.toNat, by omega⟩
                obtain ⟨jj, rfl⟩ : ∃ jj : Nat, j = (jj : Int) := ⟨j.toNat, by omega⟩
                obtain ⟨nn, rfl⟩ : ∃ nn : Nat, n = (nn : Int) := ⟨n.toNat, by omega⟩
                refine x_aload (pc := 97) 1 K rfl dX11_copy_97 ?_
                refine x_get (pc := 99) (C := RX7) (T := TX7) (n := 3) (ci := 6) (idx := 98) (ref := "BorderBeds$Row") (x := .ref (B + (c + 1)))  K (cel_ne (cel_ne hc2 (by omega)) (by omega)) rfl (by decide +kernel) 0 (by decide) (by decide +kernel) rfl rfl dX11_copy_99 ?_
                refine x_iload_n (pc := 102) 4 K rfl rfl dX11_copy_102 ?_
                refine x_aload (pc := 103) 0 K rfl dX11_copy_103 ?_
                refine x_get (pc := 105) (C := RX7) (T := TX7) (n := 3) (ci := 6) (idx := 98) (ref := "BorderBeds$Row") (x := .ref (B + (d + 1)))  K (cel_ne (cel_ne hc4 (by omega)) (by omega)) rfl (by decide +kernel) 0 (by decide) (by decide +kernel) rfl rfl dX11_copy_105 ?_
                refine x_iload (pc := 108) 6 K rfl dX11_copy_108 ?_
                refine x_iload (pc := 110) 7 K rfl dX11_copy_110 ?_
                refine x_copyI (pc := 112) (idx := 102) ii jj nn K (by decide +kernel) (by decide +kernel) (by decide +kernel) (by decide +kernel) (cel_ne (cel_ne hc3 (by omega)) (by omega)) (cel_self hc5.1) (by first | rfl | omega) (by first | rfl | omega) (by first | rfl | omega) (by omega) (by omega) (by omega) (Nat.le_of_ble_eq_true rfl) (Nat.le_of_ble_eq_true rfl) dX11_copy_112 ?_
                refine x_v (w := (va_up (va_up v 0 (.inr (10, [.ref (B + 1), .ref (B + 2), .ref (B + 5), .ref (B + 7), .ref (B + 12), .ref (B + 13), .ref (B + 14), cu, .int (zI old), .int (zI kept), .int (zI fau), .int (zI fin)]))) (d + 1) (iarr E 40 (cpI g h ii jj nn)))) (up_at0).symm ?_
                refine x_aload_n (pc := 115) 2 K rfl rfl dX11_copy_115 ?_
                refine x_iload (pc := 116) 7 K rfl dX11_copy_116 ?_
                refine x_callV (pc := 118) (C := RX11) (T := TX11) (n := 12) (ci := 10) (As := [.int (zI (nn : Int))]) K (c_X11_withoutFinding (E := E) (B := B) (N := N)   (cel_ne (cel_self hc0.1) (by omega)) ) gX11_copy_X11_withoutFinding rfl (na := 1) (by decide +kernel) rfl ⟨(Nat.le_of_ble_eq_true rfl), (Nat.le_of_ble_eq_true rfl)⟩ (cel_ne (cel_self hc0.1) (by omega)) rfl (st := []) rfl (Nat.le_of_ble_eq_true rfl) ⟨(Nat.le_of_ble_eq_true rfl), (Nat.le_of_ble_eq_true rfl)⟩ dX11_copy_118 (fun r118 N118 w118 hpo118 hN118 => ?_)
                obtain ⟨rfl, rfl, rfl⟩ := hpo118
                refine x_v (w := (va_up (va_up v 0 (.inr (10, [.ref (B + 1), .ref (B + 2), .ref (B + 5), .ref (B + 7), .ref (B + 12), .ref (B + 13), .ref (B + 14), cu, .int (zI old), .int (zI kept), .int (zI fau), .int (zI 0)]))) (d + 1) (iarr E 40 (cpI g h ii jj nn)))) (up_at1 (by omega)).symm ?_
                refine x_st (st' := [.int (zI (nn : Int))]) rfl ?_
                refine x_iret (pc := 121) K KR (by omega) (Nat.le_of_ble_eq_true rfl) (Nat.le_of_ble_eq_true rfl) dX11_copy_121 ?_
                exact ⟨rfl, (nn : Int), 0, (cpI g h ii jj nn), (Or.inr (Or.inr (Or.inr (Or.inr ⟨by omega, by omega, by omega, by omega, by omega, by omega, rfl, rfl, by rw [Int.toNat_natCast, Int.toNat_natCast, Int.toNat_natCast]⟩)))), rfl, rfl⟩
              · skip
                have h_88 := bI_t h_88
                refine x_aload_n (pc := 91) 2 K rfl rfl dX11_copy_91 ?_
                refine x_iconst (pc := 92) K dX11_copy_92 ?_
                refine x_callV (pc := 93) (C := RX11) (T := TX11) (n := 12) (ci := 10) (As := [.int (zI 2)]) K (c_X11_finding (E := E) (B := B) (N := N)   (cel_ne (cel_self hc0.1) (by omega)) ) gX11_copy_X11_finding rfl (na := 1) (by decide +kernel) rfl ⟨(Nat.le_of_ble_eq_true rfl), (Nat.le_of_ble_eq_true rfl)⟩ (cel_ne (cel_self hc0.1) (by omega)) rfl (st := []) rfl (Nat.le_of_ble_eq_true rfl) ⟨(Nat.le_of_ble_eq_true rfl), (Nat.le_of_ble_eq_true rfl)⟩ dX11_copy_93 (fun r93 N93 w93 hpo93 hN93 => ?_)
                obtain ⟨rfl, rfl, rfl⟩ := hpo93
                refine x_v (w := (va_up (va_up v 0 (.inr (10, [.ref (B + 1), .ref (B + 2), .ref (B + 5), .ref (B + 7), .ref (B + 12), .ref (B + 13), .ref (B + 14), cu, .int (zI old), .int (zI kept), .int (zI fau), .int (zI 2)]))) (d + 1) (iarr E 40 h))) (up_at1 (by omega)).symm ?_
                refine x_st (st' := [.int (zI (-1000010 - 2))]) rfl ?_
                refine x_iret (pc := 96) K KR (by omega) (Nat.le_of_ble_eq_true rfl) (Nat.le_of_ble_eq_true rfl) dX11_copy_96 ?_
                exact ⟨rfl, (-1000010 - 2), 2, h, (Or.inr (Or.inr (Or.inr (Or.inl ⟨by omega, by omega, by omega, by omega, by omega, rfl, rfl, rfl⟩)))), rfl, rfl⟩
          · skip
            refine x_aload_n (pc := 62) 2 K rfl rfl dX11_copy_62 ?_
            refine x_iconst (pc := 63) K dX11_copy_63 ?_
            refine x_callV (pc := 64) (C := RX11) (T := TX11) (n := 12) (ci := 10) (As := [.int (zI 5)]) K (c_X11_finding (E := E) (B := B) (N := N)   (cel_ne (cel_self hc0.1) (by omega)) ) gX11_copy_X11_finding rfl (na := 1) (by decide +kernel) rfl ⟨(Nat.le_of_ble_eq_true rfl), (Nat.le_of_ble_eq_true rfl)⟩ (cel_ne (cel_self hc0.1) (by omega)) rfl (st := []) rfl (Nat.le_of_ble_eq_true rfl) ⟨(Nat.le_of_ble_eq_true rfl), (Nat.le_of_ble_eq_true rfl)⟩ dX11_copy_64 (fun r64 N64 w64 hpo64 hN64 => ?_)
            obtain ⟨rfl, rfl, rfl⟩ := hpo64
            refine x_v (w := (va_up (va_up v 0 (.inr (10, [.ref (B + 1), .ref (B + 2), .ref (B + 5), .ref (B + 7), .ref (B + 12), .ref (B + 13), .ref (B + 14), cu, .int (zI old), .int (zI kept), .int (zI fau), .int (zI 5)]))) (d + 1) (iarr E 40 h))) (up_at1 (by omega)).symm ?_
            refine x_st (st' := [.int (zI (-1000010 - 5))]) rfl ?_
            refine x_iret (pc := 67) K KR (by omega) (Nat.le_of_ble_eq_true rfl) (Nat.le_of_ble_eq_true rfl) dX11_copy_67 ?_
            exact ⟨rfl, (-1000010 - 5), 5, h, (Or.inr (Or.inr (Or.inl ⟨by omega, by omega, by omega, by omega, rfl, rfl, rfl⟩))), rfl, rfl⟩
        · skip
          have h_40 := bI_f h_40
          refine x_aload_n (pc := 43) 2 K rfl rfl dX11_copy_43 ?_
          refine x_iconst (pc := 44) K dX11_copy_44 ?_
          refine x_callV (pc := 45) (C := RX11) (T := TX11) (n := 12) (ci := 10) (As := [.int (zI 1)]) K (c_X11_finding (E := E) (B := B) (N := N)   (cel_ne (cel_self hc0.1) (by omega)) ) gX11_copy_X11_finding rfl (na := 1) (by decide +kernel) rfl ⟨(Nat.le_of_ble_eq_true rfl), (Nat.le_of_ble_eq_true rfl)⟩ (cel_ne (cel_self hc0.1) (by omega)) rfl (st := []) rfl (Nat.le_of_ble_eq_true rfl) ⟨(Nat.le_of_ble_eq_true rfl), (Nat.le_of_ble_eq_true rfl)⟩ dX11_copy_45 (fun r45 N45 w45 hpo45 hN45 => ?_)
          obtain ⟨rfl, rfl, rfl⟩ := hpo45
          refine x_v (w := (va_up (va_up v 0 (.inr (10, [.ref (B + 1), .ref (B + 2), .ref (B + 5), .ref (B + 7), .ref (B + 12), .ref (B + 13), .ref (B + 14), cu, .int (zI old), .int (zI kept), .int (zI fau), .int (zI 1)]))) (d + 1) (iarr E 40 h))) (up_at1 (by omega)).symm ?_
          refine x_st (st' := [.int (zI (-1000010 - 1))]) rfl ?_
          refine x_iret (pc := 48) K KR (by omega) (Nat.le_of_ble_eq_true rfl) (Nat.le_of_ble_eq_true rfl) dX11_copy_48 ?_
          exact ⟨rfl, (-1000010 - 1), 1, h, (Or.inr (Or.inl ⟨by omega, by omega, rfl, rfl, rfl⟩)), rfl, rfl⟩
    · skip
      refine x_aload_n (pc := 7) 1 K rfl rfl dX11_copy_7 ?_
      refine x_iload_n (pc := 8) 4 K rfl rfl dX11_copy_8 ?_
      refine x_callV (pc := 9) (C := RX11) (T := TX11) (n := 12) (ci := 10) (As := [.int (zI b)]) K (c_X11_rowAt_n (E := E) (B := B) (N := N)   (cel_ne (cel_self hc0.1) (by omega)) (cel_ne (cel_ne hc1 (by decide)) (by omega)) hb (by omega)) gX11_copy_X11_rowAt rfl (na := 1) (by decide +kernel) rfl ⟨(Nat.le_of_ble_eq_true rfl), (Nat.le_of_ble_eq_true rfl)⟩ (cel_ne (cel_self hc0.1) (by omega)) rfl (st := []) rfl (Nat.le_of_ble_eq_true rfl) ⟨(Nat.le_of_ble_eq_true rfl), (Nat.le_of_ble_eq_true rfl)⟩ dX11_copy_9 (fun r9 N9 w9 hpo9 hN9 => ?_)
      obtain ⟨rfl, rfl, rfl⟩ := hpo9
      refine x_st (st' := [.null]) rfl ?_
      refine x_astoreN (pc := 12) K (L' := [(7, .null), (6, .ref (B + c)), (0, .ref (B + 0)), (1, .int (zI (aa : Int))), (2, .int (zI i)), (3, .int (zI b)), (4, .int (zI j)), (5, .int (zI n))]) hnL (by decide) rfl dX11_copy_12 ?_
      refine x_aload (pc := 14) 1 K rfl dX11_copy_14 ?_
      refine x_ifnull (pc := 16) K dX11_copy_16 ?_
      refine x_aloadN (pc := 19) 0 K rfl dX11_copy_19 ?_
      refine x_ifnonnullN (pc := 21) K dX11_copy_21 ?_
      refine x_ldc (pc := 24) (x := (-1000001)) (-1000001) K (by decide) (by decide +kernel) dX11_copy_24 ?_
      refine x_iret (pc := 26) K KR (by omega) (Nat.le_of_ble_eq_true rfl) (Nat.le_of_ble_eq_true rfl) dX11_copy_26 ?_
      exact ⟨rfl, (-1000001), fin, h, (Or.inl ⟨by omega, rfl, rfl, rfl⟩), rfl, rfl⟩
  · skip
    refine x_aload_n (pc := 0) 0 K rfl rfl dX11_copy_0 ?_
    refine x_iload_n (pc := 1) 1 K rfl rfl dX11_copy_1 ?_
    refine x_callV (pc := 2) (C := RX11) (T := TX11) (n := 12) (ci := 10) (As := [.int (zI a)]) K (c_X11_rowAt_n (E := E) (B := B) (N := N)   (cel_ne (cel_self hc0.1) (by omega)) (cel_ne (cel_ne hc1 (by decide)) (by omega)) ha (by omega)) gX11_copy_X11_rowAt rfl (na := 1) (by decide +kernel) rfl ⟨(Nat.le_of_ble_eq_true rfl), (Nat.le_of_ble_eq_true rfl)⟩ (cel_ne (cel_self hc0.1) (by omega)) rfl (st := []) rfl (Nat.le_of_ble_eq_true rfl) ⟨(Nat.le_of_ble_eq_true rfl), (Nat.le_of_ble_eq_true rfl)⟩ dX11_copy_2 (fun r2 N2 w2 hpo2 hN2 => ?_)
    obtain ⟨rfl, rfl, rfl⟩ := hpo2
    refine x_st (st' := [.null]) rfl ?_
    refine x_astoreN (pc := 5) K (L' := [(6, .null), (0, .ref (B + 0)), (1, .int (zI a)), (2, .int (zI i)), (3, .int (zI b)), (4, .int (zI j)), (5, .int (zI n))]) hnL (by decide) rfl dX11_copy_5 ?_
    by_cases hb : 0 ≤ b ∧ b ≤ 7
    · skip
      obtain ⟨bb, rfl⟩ : ∃ bb : Nat, b = (bb : Int) := ⟨b.toNat, by omega⟩
      have hccbb := rowC_y (r := bb) (by omega)
      refine x_aload_n (pc := 7) 1 K rfl rfl dX11_copy_7 ?_
      refine x_iload_n (pc := 8) 4 K rfl rfl dX11_copy_8 ?_
      refine x_callV (pc := 9) (C := RX11) (T := TX11) (n := 12) (ci := 10) (As := [.int (zI (bb : Int))]) K (c_X11_rowAt_y (E := E) (B := B) (N := N) (c := d) (r := bb) rfl (cel_ne (cel_self hc0.1) (by omega)) (cel_ne (cel_ne hc1 (by decide)) (by omega)) (by omega) (by omega)) gX11_copy_X11_rowAt rfl (na := 1) (by decide +kernel) rfl ⟨(Nat.le_of_ble_eq_true rfl), (Nat.le_of_ble_eq_true rfl)⟩ (cel_ne (cel_self hc0.1) (by omega)) rfl (st := []) rfl (Nat.le_of_ble_eq_true rfl) ⟨(Nat.le_of_ble_eq_true rfl), (Nat.le_of_ble_eq_true rfl)⟩ dX11_copy_9 (fun r9 N9 w9 hpo9 hN9 => ?_)
      obtain ⟨rfl, rfl, rfl⟩ := hpo9
      refine x_st (st' := [.ref (B + d)]) rfl ?_
      refine x_astore (pc := 12) K (L' := [(7, .ref (B + d)), (6, .null), (0, .ref (B + 0)), (1, .int (zI a)), (2, .int (zI i)), (3, .int (zI (bb : Int))), (4, .int (zI j)), (5, .int (zI n))]) hnL (by decide) rfl dX11_copy_12 ?_
      refine x_aloadN (pc := 14) 1 K rfl dX11_copy_14 ?_
      refine x_ifnullN (pc := 16) (tgt := 24) K dX11_copy_16 (by decide) ?_
      refine x_ldc (pc := 24) (x := (-1000001)) (-1000001) K (by decide) (by decide +kernel) dX11_copy_24 ?_
      refine x_iret (pc := 26) K KR (by omega) (Nat.le_of_ble_eq_true rfl) (Nat.le_of_ble_eq_true rfl) dX11_copy_26 ?_
      exact ⟨rfl, (-1000001), fin, h, (Or.inl ⟨by omega, rfl, rfl, rfl⟩), rfl, rfl⟩
    · skip
      refine x_aload_n (pc := 7) 1 K rfl rfl dX11_copy_7 ?_
      refine x_iload_n (pc := 8) 4 K rfl rfl dX11_copy_8 ?_
      refine x_callV (pc := 9) (C := RX11) (T := TX11) (n := 12) (ci := 10) (As := [.int (zI b)]) K (c_X11_rowAt_n (E := E) (B := B) (N := N)   (cel_ne (cel_self hc0.1) (by omega)) (cel_ne (cel_ne hc1 (by decide)) (by omega)) hb (by omega)) gX11_copy_X11_rowAt rfl (na := 1) (by decide +kernel) rfl ⟨(Nat.le_of_ble_eq_true rfl), (Nat.le_of_ble_eq_true rfl)⟩ (cel_ne (cel_self hc0.1) (by omega)) rfl (st := []) rfl (Nat.le_of_ble_eq_true rfl) ⟨(Nat.le_of_ble_eq_true rfl), (Nat.le_of_ble_eq_true rfl)⟩ dX11_copy_9 (fun r9 N9 w9 hpo9 hN9 => ?_)
      obtain ⟨rfl, rfl, rfl⟩ := hpo9
      refine x_st (st' := [.null]) rfl ?_
      refine x_astoreN (pc := 12) K (L' := [(7, .null), (6, .null), (0, .ref (B + 0)), (1, .int (zI a)), (2, .int (zI i)), (3, .int (zI b)), (4, .int (zI j)), (5, .int (zI n))]) hnL (by decide) rfl dX11_copy_12 ?_
      refine x_aloadN (pc := 14) 1 K rfl dX11_copy_14 ?_
      refine x_ifnullN (pc := 16) (tgt := 24) K dX11_copy_16 (by decide) ?_
      refine x_ldc (pc := 24) (x := (-1000001)) (-1000001) K (by decide) (by decide +kernel) dX11_copy_24 ?_
      refine x_iret (pc := 26) K KR (by omega) (Nat.le_of_ble_eq_true rfl) (Nat.le_of_ble_eq_true rfl) dX11_copy_26 ?_
      exact ⟨rfl, (-1000001), fin, h, (Or.inl ⟨by omega, rfl, rfl, rfl⟩), rfl, rfl⟩

set_option maxRecDepth 100000 in
set_option maxHeartbeats 4000000 in
theorem c_X11_copy_s {E : XE} {B N : Nat} {v : Nat → va_E} {c : Nat} {cu : Value} {old kept fau fin : Int} {la sz a i b j n : Int} {g : Nat → Int} (hc0 : Cel N v 0 (.inr (10, [.ref (B + 1), .ref (B + 2), .ref (B + 5), .ref (B + 7), .ref (B + 12), .ref (B + 13), .ref (B + 14), cu, .int (zI old), .int (zI kept), .int (zI fau), .int (zI fin)]))) (hc1 : Cel N v 1 (rarr E 2 8 B rowQ)) (hc2 : Cel N v c (.inr (6, [.ref (B + (c + 1)), .int (zI la), .int (zI sz)]))) (hc3 : Cel N v (c + 1) (iarr E 40 g)) (hq0 : c = rowC a) (hq1 : c = rowC b) (hq2 : -1 ≤ la ∧ la ≤ 2) (hq3 : 0 ≤ sz ∧ sz ≤ 40) (hq4 : (-2147483648 ≤ a ∧ a ≤ 2147483647)) (hq5 : (-2147483648 ≤ i ∧ i ≤ 2147483647)) (hq6 : (-2147483648 ≤ b ∧ b ≤ 2147483647)) (hq7 : (-2147483648 ≤ j ∧ j ≤ 2147483647)) (hq8 : (-2147483648 ≤ n ∧ n ≤ 2147483647)) : gM yX11_copy wsX11_copy ({ frames := 1, cells := 0, slots := 0, locals := 40 }) E B N v [.ref (B + 0), .int (zI a), .int (zI i), .int (zI b), .int (zI j), .int (zI n)] (po0 N (fun ρ v' => ∃ (res : Int), ∃ (fin2 : Int), ∃ (h2 : Nat → Int), ((¬ ((0 ≤ a ∧ a ≤ 7) ∧ (0 ≤ b ∧ b ≤ 7)) ∧ res = -1000001 ∧ fin2 = fin ∧ h2 = g) ∨ (((0 ≤ a ∧ a ≤ 7) ∧ (0 ≤ b ∧ b ≤ 7)) ∧ (la = -1 ∨ la = -1) ∧ res = -1000011 ∧ fin2 = 1 ∧ h2 = g) ∨ (((0 ≤ a ∧ a ≤ 7) ∧ (0 ≤ b ∧ b ≤ 7)) ∧ la ≠ -1 ∧ la ≠ -1 ∧ la ≠ la ∧ res = -1000015 ∧ fin2 = 5 ∧ h2 = g) ∨ (((0 ≤ a ∧ a ≤ 7) ∧ (0 ≤ b ∧ b ≤ 7)) ∧ la ≠ -1 ∧ la ≠ -1 ∧ la = la ∧ ¬ ((0 ≤ i ∧ 0 ≤ n ∧ i + n ≤ sz) ∧ (0 ≤ j ∧ 0 ≤ n ∧ j + n ≤ sz)) ∧ res = -1000012 ∧ fin2 = 2 ∧ h2 = g) ∨ (((0 ≤ a ∧ a ≤ 7) ∧ (0 ≤ b ∧ b ≤ 7)) ∧ la ≠ -1 ∧ la ≠ -1 ∧ la = la ∧ (0 ≤ i ∧ 0 ≤ n ∧ i + n ≤ sz) ∧ (0 ≤ j ∧ 0 ≤ n ∧ j + n ≤ sz) ∧ res = n ∧ fin2 = 0 ∧ h2 = cpI g g i.toNat j.toNat n.toNat)) ∧ ρ = some (.int (zI res)) ∧ (va_up (va_up v 0 (.inr (10, [.ref (B + 1), .ref (B + 2), .ref (B + 5), .ref (B + 7), .ref (B + 12), .ref (B + 13), .ref (B + 14), cu, .int (zI old), .int (zI kept), .int (zI fau), .int (zI fin2)]))) (c + 1) (iarr E 40 h2)) = v')) := by
  refine x_met (nm := "copy") (by decide +kernel) rfl (Nat.le_of_ble_eq_true rfl) rfl (fun Γ K KR hnL hnm => ?_)
  show XW Γ N v [(0, .ref (B + 0)), (1, .int (zI a)), (2, .int (zI i)), (3, .int (zI b)), (4, .int (zI j)), (5, .int (zI n))] 0 0 0 []
  have hcra := rowC_rng a
  have hcrb := rowC_rng b
  refine x_v (cel_pad hc0) ?_
  refine x_v (cel_pad (cel_ne hc3 (by omega))) ?_
  by_cases ha : 0 ≤ a ∧ a ≤ 7
  · skip
    obtain ⟨aa, rfl⟩ : ∃ aa : Nat, a = (aa : Int) := ⟨a.toNat, by omega⟩
    have hccaa := rowC_y (r := aa) (by omega)
    refine x_aload_n (pc := 0) 0 K rfl rfl dX11_copy_0 ?_
    refine x_iload_n (pc := 1) 1 K rfl rfl dX11_copy_1 ?_
    refine x_callV (pc := 2) (C := RX11) (T := TX11) (n := 12) (ci := 10) (As := [.int (zI (aa : Int))]) K (c_X11_rowAt_y (E := E) (B := B) (N := N) (c := c) (r := aa) rfl (cel_ne (cel_self hc0.1) (by omega)) (cel_ne (cel_ne hc1 (by decide)) (by omega)) (by omega) (by omega)) gX11_copy_X11_rowAt rfl (na := 1) (by decide +kernel) rfl ⟨(Nat.le_of_ble_eq_true rfl), (Nat.le_of_ble_eq_true rfl)⟩ (cel_ne (cel_self hc0.1) (by omega)) rfl (st := []) rfl (Nat.le_of_ble_eq_true rfl) ⟨(Nat.le_of_ble_eq_true rfl), (Nat.le_of_ble_eq_true rfl)⟩ dX11_copy_2 (fun r2 N2 w2 hpo2 hN2 => ?_)
    obtain ⟨rfl, rfl, rfl⟩ := hpo2
    refine x_st (st' := [.ref (B + c)]) rfl ?_
    refine x_astore (pc := 5) K (L' := [(6, .ref (B + c)), (0, .ref (B + 0)), (1, .int (zI (aa : Int))), (2, .int (zI i)), (3, .int (zI b)), (4, .int (zI j)), (5, .int (zI n))]) hnL (by decide) rfl dX11_copy_5 ?_
    by_cases hb : 0 ≤ b ∧ b ≤ 7
    · skip
      obtain ⟨bb, rfl⟩ : ∃ bb : Nat, b = (bb : Int) := ⟨b.toNat, by omega⟩
      have hccbb := rowC_y (r := bb) (by omega)
      refine x_aload_n (pc := 7) 1 K rfl rfl dX11_copy_7 ?_
      refine x_iload_n (pc := 8) 4 K rfl rfl dX11_copy_8 ?_
      refine x_callV (pc := 9) (C := RX11) (T := TX11) (n := 12) (ci := 10) (As := [.int (zI (bb : Int))]) K (c_X11_rowAt_y (E := E) (B := B) (N := N) (c := c) (r := bb) rfl (cel_ne (cel_self hc0.1) (by omega)) (cel_ne (cel_ne hc1 (by decide)) (by omega)) (by omega) (by omega)) gX11_copy_X11_rowAt rfl (na := 1) (by decide +kernel) rfl ⟨(Nat.le_of_ble_eq_true rfl), (Nat.le_of_ble_eq_true rfl)⟩ (cel_ne (cel_self hc0.1) (by omega)) rfl (st := []) rfl (Nat.le_of_ble_eq_true rfl) ⟨(Nat.le_of_ble_eq_true rfl), (Nat.le_of_ble_eq_true rfl)⟩ dX11_copy_9 (fun r9 N9 w9 hpo9 hN9 => ?_)
      obtain ⟨rfl, rfl, rfl⟩ := hpo9
      refine x_st (st' := [.ref (B + c)]) rfl ?_
      refine x_astore (pc := 12) K (L' := [(7, .ref (B + c)), (6, .ref (B + c)), (0, .ref (B + 0)), (1, .int (zI (aa : Int))), (2, .int (zI i)), (3, .int (zI (bb : Int))), (4, .int (zI j)), (5, .int (zI n))]) hnL (by decide) rfl dX11_copy_12 ?_
      refine x_aload (pc := 14) 1 K rfl dX11_copy_14 ?_
      refine x_ifnull (pc := 16) K dX11_copy_16 ?_
      refine x_aload (pc := 19) 0 K rfl dX11_copy_19 ?_
      refine x_ifnonnull (pc := 21) (tgt := 27) K dX11_copy_21 (by decide) ?_
      refine x_aload (pc := 27) 1 K rfl dX11_copy_27 ?_
      refine x_callV (pc := 29) (C := RX7) (T := TX7) (n := 3) (ci := 6) (As := []) K (c_X7_isMissing (E := E) (B := B) (N := N) (g := (fun _ => (0 : Int)))  (cel_ne (cel_ne hc2 (by omega)) (by omega)) (by omega)) gX11_copy_X7_isMissing rfl (na := 0) (by decide +kernel) rfl ⟨(Nat.le_of_ble_eq_true rfl), (Nat.le_of_ble_eq_true rfl)⟩ (cel_ne (cel_ne hc2 (by omega)) (by omega)) rfl (st := []) rfl (Nat.le_of_ble_eq_true rfl) ⟨(Nat.le_of_ble_eq_true rfl), (Nat.le_of_ble_eq_true rfl)⟩ dX11_copy_29 (fun r29 N29 w29 hpo29 hN29 => ?_)
      obtain ⟨rfl, rfl, rfl⟩ := hpo29
      refine x_st (st' := [.int (zI (bI (la = -1)))]) rfl ?_
      have hrg29 := bI_rng (la = -1)
      refine x_if_ne (pc := 32) (tgt := 43) K (by omega) dX11_copy_32 (by decide) (fun h_32 => ?_) (fun h_32 => ?_)
      · skip
        have h_32 := bI_f h_32
        refine x_aload_n (pc := 43) 2 K rfl rfl dX11_copy_43 ?_
        refine x_iconst (pc := 44) K dX11_copy_44 ?_
        refine x_callV (pc := 45) (C := RX11) (T := TX11) (n := 12) (ci := 10) (As := [.int (zI 1)]) K (c_X11_finding (E := E) (B := B) (N := N)   (cel_ne (cel_self hc0.1) (by omega)) ) gX11_copy_X11_finding rfl (na := 1) (by decide +kernel) rfl ⟨(Nat.le_of_ble_eq_true rfl), (Nat.le_of_ble_eq_true rfl)⟩ (cel_ne (cel_self hc0.1) (by omega)) rfl (st := []) rfl (Nat.le_of_ble_eq_true rfl) ⟨(Nat.le_of_ble_eq_true rfl), (Nat.le_of_ble_eq_true rfl)⟩ dX11_copy_45 (fun r45 N45 w45 hpo45 hN45 => ?_)
        obtain ⟨rfl, rfl, rfl⟩ := hpo45
        refine x_v (w := (va_up (va_up v 0 (.inr (10, [.ref (B + 1), .ref (B + 2), .ref (B + 5), .ref (B + 7), .ref (B + 12), .ref (B + 13), .ref (B + 14), cu, .int (zI old), .int (zI kept), .int (zI fau), .int (zI 1)]))) (c + 1) (iarr E 40 g))) (up_at1 (by omega)).symm ?_
        refine x_st (st' := [.int (zI (-1000010 - 1))]) rfl ?_
        refine x_iret (pc := 48) K KR (by omega) (Nat.le_of_ble_eq_true rfl) (Nat.le_of_ble_eq_true rfl) dX11_copy_48 ?_
        exact ⟨rfl, (-1000010 - 1), 1, g, (Or.inr (Or.inl ⟨by omega, by omega, rfl, rfl, rfl⟩)), rfl, rfl⟩
      · skip
        have h_32 := bI_t h_32
        refine x_aload (pc := 35) 0 K rfl dX11_copy_35 ?_
        refine x_callV (pc := 37) (C := RX7) (T := TX7) (n := 3) (ci := 6) (As := []) K (c_X7_isMissing (E := E) (B := B) (N := N) (g := (fun _ => (0 : Int)))  (cel_ne (cel_ne hc2 (by omega)) (by omega)) (by omega)) gX11_copy_X7_isMissing rfl (na := 0) (by decide +kernel) rfl ⟨(Nat.le_of_ble_eq_true rfl), (Nat.le_of_ble_eq_true rfl)⟩ (cel_ne (cel_ne hc2 (by omega)) (by omega)) rfl (st := []) rfl (Nat.le_of_ble_eq_true rfl) ⟨(Nat.le_of_ble_eq_true rfl), (Nat.le_of_ble_eq_true rfl)⟩ dX11_copy_37 (fun r37 N37 w37 hpo37 hN37 => ?_)
        obtain ⟨rfl, rfl, rfl⟩ := hpo37
        refine x_st (st' := [.int (zI (bI (la = -1)))]) rfl ?_
        have hrg37 := bI_rng (la = -1)
        refine x_if_eq (pc := 40) (tgt := 49) K (by omega) dX11_copy_40 (by decide) (fun h_40 => ?_) (fun h_40 => ?_)
        · skip
          have h_40 := bI_t h_40
          refine x_aload (pc := 49) 1 K rfl dX11_copy_49 ?_
          refine x_get (pc := 51) (C := RX7) (T := TX7) (n := 3) (ci := 6) (idx := 95) (ref := "BorderBeds$Row") (x := .int (zI la))  K (cel_ne (cel_ne hc2 (by omega)) (by omega)) rfl (by decide +kernel) 1 (by decide) (by decide +kernel) rfl rfl dX11_copy_51 ?_
          refine x_aload (pc := 54) 0 K rfl dX11_copy_54 ?_
          refine x_get (pc := 56) (C := RX7) (T := TX7) (n := 3) (ci := 6) (idx := 95) (ref := "BorderBeds$Row") (x := .int (zI la))  K (cel_ne (cel_ne hc2 (by omega)) (by omega)) rfl (by decide +kernel) 1 (by decide) (by decide +kernel) rfl rfl dX11_copy_56 ?_
          refine x_icmp_eq (pc := 59) (tgt := 68) K (by omega) (by omega) dX11_copy_59 (by decide) (fun h_59 => ?_) (fun h_59 => ?_)
          · skip
            refine x_aload (pc := 68) 1 K rfl dX11_copy_68 ?_
            refine x_iload_n (pc := 70) 4 K rfl rfl dX11_copy_70 ?_
            refine x_iload (pc := 71) 7 K rfl dX11_copy_71 ?_
            refine x_callV (pc := 73) (C := RX7) (T := TX7) (n := 3) (ci := 6) (As := [.int (zI i), .int (zI n)]) K (c_X7_hasPlaces (E := E) (B := B) (N := N) (g := (fun _ => (0 : Int)))  (cel_ne (cel_ne hc2 (by omega)) (by omega)) (by omega) (by omega) (by omega)) gX11_copy_X7_hasPlaces rfl (na := 2) (by decide +kernel) rfl ⟨(Nat.le_of_ble_eq_true rfl), (Nat.le_of_ble_eq_true rfl)⟩ (cel_ne (cel_ne hc2 (by omega)) (by omega)) rfl (st := []) rfl (Nat.le_of_ble_eq_true rfl) ⟨(Nat.le_of_ble_eq_true rfl), (Nat.le_of_ble_eq_true rfl)⟩ dX11_copy_73 (fun r73 N73 w73 hpo73 hN73 => ?_)
            obtain ⟨rfl, rfl, rfl⟩ := hpo73
            refine x_st (st' := [.int (zI (bI (0 ≤ i ∧ 0 ≤ n ∧ i + n ≤ sz)))]) rfl ?_
            have hrg73 := bI_rng (0 ≤ i ∧ 0 ≤ n ∧ i + n ≤ sz)
            refine x_if_eq (pc := 76) (tgt := 91) K (by omega) dX11_copy_76 (by decide) (fun h_76 => ?_) (fun h_76 => ?_)
            · skip
              have h_76 := bI_t h_76
              refine x_aload_n (pc := 91) 2 K rfl rfl dX11_copy_91 ?_
              refine x_iconst (pc := 92) K dX11_copy_92 ?_
              refine x_callV (pc := 93) (C := RX11) (T := TX11) (n := 12) (ci := 10) (As := [.int (zI 2)]) K (c_X11_finding (E := E) (B := B) (N := N)   (cel_ne (cel_self hc0.1) (by omega)) ) gX11_copy_X11_finding rfl (na := 1) (by decide +kernel) rfl ⟨(Nat.le_of_ble_eq_true rfl), (Nat.le_of_ble_eq_true rfl)⟩ (cel_ne (cel_self hc0.1) (by omega)) rfl (st := []) rfl (Nat.le_of_ble_eq_true rfl) ⟨(Nat.le_of_ble_eq_true rfl), (Nat.le_of_ble_eq_true rfl)⟩ dX11_copy_93 (fun r93 N93 w93 hpo93 hN93 => ?_)
              obtain ⟨rfl, rfl, rfl⟩ := hpo93
              refine x_v (w := (va_up (va_up v 0 (.inr (10, [.ref (B + 1), .ref (B + 2), .ref (B + 5), .ref (B + 7), .ref (B + 12), .ref (B + 13), .ref (B + 14), cu, .int (zI old), .int (zI kept), .int (zI fau), .int (zI 2)]))) (c + 1) (iarr E 40 g))) (up_at1 (by omega)).symm ?_
              refine x_st (st' := [.int (zI (-1000010 - 2))]) rfl ?_
              refine x_iret (pc := 96) K KR (by omega) (Nat.le_of_ble_eq_true rfl) (Nat.le_of_ble_eq_true rfl) dX11_copy_96 ?_
              exact ⟨rfl, (-1000010 - 2), 2, g, (Or.inr (Or.inr (Or.inr (Or.inl ⟨by omega, by omega, by omega, by omega, by omega, rfl, rfl, rfl⟩)))), rfl, rfl⟩
            · skip
              have h_76 := bI_f h_76
              refine x_aload (pc := 79) 0 K rfl dX11_copy_79 ?_
              refine x_iload (pc := 81) 6 K rfl dX11_copy_81 ?_
              refine x_iload (pc := 83) 7 K rfl dX11_copy_83 ?_
              refine x_callV (pc := 85) (C := RX7) (T := TX7) (n := 3) (ci := 6) (As := [.int (zI j), .int (zI n)]) K (c_X7_hasPlaces (E := E) (B := B) (N := N) (g := (fun _ => (0 : Int)))  (cel_ne (cel_ne hc2 (by omega)) (by omega)) (by omega) (by omega) (by omega)) gX11_copy_X7_hasPlaces rfl (na := 2) (by decide +kernel) rfl ⟨(Nat.le_of_ble_eq_true rfl), (Nat.le_of_ble_eq_true rfl)⟩ (cel_ne (cel_ne hc2 (by omega)) (by omega)) rfl (st := []) rfl (Nat.le_of_ble_eq_true rfl) ⟨(Nat.le_of_ble_eq_true rfl), (Nat.le_of_ble_eq_true rfl)⟩ dX11_copy_85 (fun r85 N85 w85 hpo85 hN85 => ?_)
              obtain ⟨rfl, rfl, rfl⟩ := hpo85
              refine x_st (st' := [.int (zI (bI (0 ≤ j ∧ 0 ≤ n ∧ j + n ≤ sz)))]) rfl ?_
              have hrg85 := bI_rng (0 ≤ j ∧ 0 ≤ n ∧ j + n ≤ sz)
              refine x_if_ne (pc := 88) (tgt := 97) K (by omega) dX11_copy_88 (by decide) (fun h_88 => ?_) (fun h_88 => ?_)
              · skip
                have h_88 := bI_f h_88
                obtain ⟨ii, rfl⟩ : ∃ ii : Nat, i = (ii : Int) := ⟨i.toNat, by omega⟩
                obtain ⟨jj, rfl⟩ : ∃ jj : Nat, j = (jj : Int) := ⟨j.toNat, by omega⟩
                obtain ⟨nn, rfl⟩ : ∃ nn : Nat, n = (nn : Int) := ⟨n.toNat, by omega⟩
                refine x_aload (pc := 97) 1 K rfl dX11_copy_97 ?_
                refine x_get (pc := 99) (C := RX7) (T := TX7) (n := 3) (ci := 6) (idx := 98) (ref := "BorderBeds$Row") (x := .ref (B + (c + 1)))  K (cel_ne (cel_ne hc2 (by omega)) (by omega)) rfl (by decide +kernel) 0 (by decide) (by decide +kernel) rfl rfl dX11_copy_99 ?_
                refine x_iload_n (pc := 102) 4 K rfl rfl dX11_copy_102 ?_
                refine x_aload (pc := 103) 0 K rfl dX11_copy_103 ?_
                refine x_get (pc := 105) (C := RX7) (T := TX7) (n := 3) (ci := 6) (idx := 98) (ref := "BorderBeds$Row") (x := .ref (B + (c + 1)))  K (cel_ne (cel_ne hc2 (by omega)) (by omega)) rfl (by decide +kernel) 0 (by decide) (by decide +kernel) rfl rfl dX11_copy_105 ?_
                refine x_iload (pc := 108) 6 K rfl dX11_copy_108 ?_
                refine x_iload (pc := 110) 7 K rfl dX11_copy_110 ?_
                refine x_copyI (pc := 112) (idx := 102) ii jj nn K (by decide +kernel) (by decide +kernel) (by decide +kernel) (by decide +kernel) (cel_self hc3.1) (cel_self hc3.1) (by first | rfl | omega) (by first | rfl | omega) (by first | rfl | omega) (by omega) (by omega) (by omega) (Nat.le_of_ble_eq_true rfl) (Nat.le_of_ble_eq_true rfl) dX11_copy_112 ?_
                refine x_v (w := (va_up (va_up v 0 (.inr (10, [.ref (B + 1), .ref (B + 2), .ref (B + 5), .ref (B + 7), .ref (B + 12), .ref (B + 13), .ref (B + 14), cu, .int (zI old), .int (zI kept), .int (zI fau), .int (zI fin)]))) (c + 1) (iarr E 40 (cpI g g ii jj nn)))) (up_at0).symm ?_
                refine x_aload_n (pc := 115) 2 K rfl rfl dX11_copy_115 ?_
                refine x_iload (pc := 116) 7 K rfl dX11_copy_116 ?_
                refine x_callV (pc := 118) (C := RX11) (T := TX11) (n := 12) (ci := 10) (As := [.int (zI (nn : Int))]) K (c_X11_withoutFinding (E := E) (B := B) (N := N)   (cel_ne (cel_self hc0.1) (by omega)) ) gX11_copy_X11_withoutFinding rfl (na := 1) (by decide +kernel) rfl ⟨(Nat.le_of_ble_eq_true rfl), (Nat.le_of_ble_eq_true rfl)⟩ (cel_ne (cel_self hc0.1) (by omega)) rfl (st := []) rfl (Nat.le_of_ble_eq_true rfl) ⟨(Nat.le_of_ble_eq_true rfl), (Nat.le_of_ble_eq_true rfl)⟩ dX11_copy_118 (fun r118 N118 w118 hpo118 hN118 => ?_)
                obtain ⟨rfl, rfl, rfl⟩ := hpo118
                refine x_v (w := (va_up (va_up v 0 (.inr (10, [.ref (B + 1), .ref (B + 2), .ref (B + 5), .ref (B + 7), .ref (B + 12), .ref (B + 13), .ref (B + 14), cu, .int (zI old), .int (zI kept), .int (zI fau), .int (zI 0)]))) (c + 1) (iarr E 40 (cpI g g ii jj nn)))) (up_at1 (by omega)).symm ?_
                refine x_st (st' := [.int (zI (nn : Int))]) rfl ?_
                refine x_iret (pc := 121) K KR (by omega) (Nat.le_of_ble_eq_true rfl) (Nat.le_of_ble_eq_true rfl) dX11_copy_121 ?_
                exact ⟨rfl, (nn : Int), 0, (cpI g g ii jj nn), (Or.inr (Or.inr (Or.inr (Or.inr ⟨by omega, by omega, by omega, by omega, by omega, by omega, rfl, rfl, by rw [Int.toNat_natCast, Int.toNat_natCast, Int.toNat_natCast]⟩)))), rfl, rfl⟩
              · skip
                have h_88 := bI_t h_88
                refine x_aload_n (pc := 91) 2 K rfl rfl dX11_copy_91 ?_
                refine x_iconst (pc := 92) K dX11_copy_92 ?_
                refine x_callV (pc := 93) (C := RX11) (T := TX11) (n := 12) (ci := 10) (As := [.int (zI 2)]) K (c_X11_finding (E := E) (B := B) (N := N)   (cel_ne (cel_self hc0.1) (by omega)) ) gX11_copy_X11_finding rfl (na := 1) (by decide +kernel) rfl ⟨(Nat.le_of_ble_eq_true rfl), (Nat.le_of_ble_eq_true rfl)⟩ (cel_ne (cel_self hc0.1) (by omega)) rfl (st := []) rfl (Nat.le_of_ble_eq_true rfl) ⟨(Nat.le_of_ble_eq_true rfl), (Nat.le_of_ble_eq_true rfl)⟩ dX11_copy_93 (fun r93 N93 w93 hpo93 hN93 => ?_)
                obtain ⟨rfl, rfl, rfl⟩ := hpo93
                refine x_v (w := (va_up (va_up v 0 (.inr (10, [.ref (B + 1), .ref (B + 2), .ref (B + 5), .ref (B + 7), .ref (B + 12), .ref (B + 13), .ref (B + 14), cu, .int (zI old), .int (zI kept), .int (zI fau), .int (zI 2)]))) (c + 1) (iarr E 40 g))) (up_at1 (by omega)).symm ?_
                refine x_st (st' := [.int (zI (-1000010 - 2))]) rfl ?_
                refine x_iret (pc := 96) K KR (by omega) (Nat.le_of_ble_eq_true rfl) (Nat.le_of_ble_eq_true rfl) dX11_copy_96 ?_
                exact ⟨rfl, (-1000010 - 2), 2, g, (Or.inr (Or.inr (Or.inr (Or.inl ⟨by omega, by omega, by omega, by omega, by omega, rfl, rfl, rfl⟩)))), rfl, rfl⟩
          · skip
            refine x_aload_n (pc := 62) 2 K rfl rfl dX11_copy_62 ?_
            refine x_iconst (pc := 63) K dX11_copy_63 ?_
            refine x_callV (pc := 64) (C := RX11) (T := TX11) (n := 12) (ci := 10) (As := [.int (zI 5)]) K (c_X11_finding (E := E) (B := B) (N := N)   (cel_ne (cel_self hc0.1) (by omega)) ) gX11_copy_X11_finding rfl (na := 1) (by decide +kernel) rfl ⟨(Nat.le_of_ble_eq_true rfl), (Nat.le_of_ble_eq_true rfl)⟩ (cel_ne (cel_self hc0.1) (by omega)) rfl (st := []) rfl (Nat.le_of_ble_eq_true rfl) ⟨(Nat.le_of_ble_eq_true rfl), (Nat.le_of_ble_eq_true rfl)⟩ dX11_copy_64 (fun r64 N64 w64 hpo64 hN64 => ?_)
            obtain ⟨rfl, rfl, rfl⟩ := hpo64
            refine x_v (w := (va_up (va_up v 0 (.inr (10, [.ref (B + 1), .ref (B + 2), .ref (B + 5), .ref (B + 7), .ref (B + 12), .ref (B + 13), .ref (B + 14), cu, .int (zI old), .int (zI kept), .int (zI fau), .int (zI 5)]))) (c + 1) (iarr E 40 g))) (up_at1 (by omega)).symm ?_
            refine x_st (st' := [.int (zI (-1000010 - 5))]) rfl ?_
            refine x_iret (pc := 67) K KR (by omega) (Nat.le_of_ble_eq_true rfl) (Nat.le_of_ble_eq_true rfl) dX11_copy_67 ?_
            exact ⟨rfl, (-1000010 - 5), 5, g, (Or.inr (Or.inr (Or.inl ⟨by omega, by omega, by omega, by omega, rfl, rfl, rfl⟩))), rfl, rfl⟩
        · skip
          have h_40 := bI_f h_40
          refine x_aload_n (pc := 43) 2 K rfl rfl dX11_copy_43 ?_
          refine x_iconst (pc := 44) K dX11_copy_44 ?_
          refine x_callV (pc := 45) (C := RX11) (T := TX11) (n := 12) (ci := 10) (As := [.int (zI 1)]) K (c_X11_finding (E := E) (B := B) (N := N)   (cel_ne (cel_self hc0.1) (by omega)) ) gX11_copy_X11_finding rfl (na := 1) (by decide +kernel) rfl ⟨(Nat.le_of_ble_eq_true rfl), (Nat.le_of_ble_eq_true rfl)⟩ (cel_ne (cel_self hc0.1) (by omega)) rfl (st := []) rfl (Nat.le_of_ble_eq_true rfl) ⟨(Nat.le_of_ble_eq_true rfl), (Nat.le_of_ble_eq_true rfl)⟩ dX11_copy_45 (fun r45 N45 w45 hpo45 hN45 => ?_)
          obtain ⟨rfl, rfl, rfl⟩ := hpo45
          refine x_v (w := (va_up (va_up v 0 (.inr (10, [.ref (B + 1), .ref (B + 2), .ref (B + 5), .ref (B + 7), .ref (B + 12), .ref (B + 13), .ref (B + 14), cu, .int (zI old), .int (zI kept), .int (zI fau), .int (zI 1)]))) (c + 1) (iarr E 40 g))) (up_at1 (by omega)).symm ?_
          refine x_st (st' := [.int (zI (-1000010 - 1))]) rfl ?_
          refine x_iret (pc := 48) K KR (by omega) (Nat.le_of_ble_eq_true rfl) (Nat.le_of_ble_eq_true rfl) dX11_copy_48 ?_
          exact ⟨rfl, (-1000010 - 1), 1, g, (Or.inr (Or.inl ⟨by omega, by omega, rfl, rfl, rfl⟩)), rfl, rfl⟩
    · skip
      refine x_aload_n (pc := 7) 1 K rfl rfl dX11_copy_7 ?_
      refine x_iload_n (pc := 8) 4 K rfl rfl dX11_copy_8 ?_
      refine x_callV (pc := 9) (C := RX11) (T := TX11) (n := 12) (ci := 10) (As := [.int (zI b)]) K (c_X11_rowAt_n (E := E) (B := B) (N := N)   (cel_ne (cel_self hc0.1) (by omega)) (cel_ne (cel_ne hc1 (by decide)) (by omega)) hb (by omega)) gX11_copy_X11_rowAt rfl (na := 1) (by decide +kernel) rfl ⟨(Nat.le_of_ble_eq_true rfl), (Nat.le_of_ble_eq_true rfl)⟩ (cel_ne (cel_self hc0.1) (by omega)) rfl (st := []) rfl (Nat.le_of_ble_eq_true rfl) ⟨(Nat.le_of_ble_eq_true rfl), (Nat.le_of_ble_eq_true rfl)⟩ dX11_copy_9 (fun r9 N9 w9 hpo9 hN9 => ?_)
      obtain ⟨rfl, rfl, rfl⟩ := hpo9
      refine x_st (st' := [.null]) rfl ?_
      refine x_astoreN (pc := 12) K (L' := [(7, .null), (6, .ref (B + c)), (0, .ref (B + 0)), (1, .int (zI (aa : Int))), (2, .int (zI i)), (3, .int (zI b)), (4, .int (zI j)), (5, .int (zI n))]) hnL (by decide) rfl dX11_copy_12 ?_
      refine x_aload (pc := 14) 1 K rfl dX11_copy_14 ?_
      refine x_ifnull (pc := 16) K dX11_copy_16 ?_
      refine x_aloadN (pc := 19) 0 K rfl dX11_copy_19 ?_
      refine x_ifnonnullN (pc := 21) K dX11_copy_21 ?_
      refine x_ldc (pc := 24) (x := (-1000001)) (-1000001) K (by decide) (by decide +kernel) dX11_copy_24 ?_
      refine x_iret (pc := 26) K KR (by omega) (Nat.le_of_ble_eq_true rfl) (Nat.le_of_ble_eq_true rfl) dX11_copy_26 ?_
      exact ⟨rfl, (-1000001), fin, g, (Or.inl ⟨by omega, rfl, rfl, rfl⟩), rfl, rfl⟩
  · skip
    refine x_aload_n (pc := 0) 0 K rfl rfl dX11_copy_0 ?_
    refine x_iload_n (pc := 1) 1 K rfl rfl dX11_copy_1 ?_
    refine x_callV (pc := 2) (C := RX11) (T := TX11) (n := 12) (ci := 10) (As := [.int (zI a)]) K (c_X11_rowAt_n (E := E) (B := B) (N := N)   (cel_ne (cel_self hc0.1) (by omega)) (cel_ne (cel_ne hc1 (by decide)) (by omega)) ha (by omega)) gX11_copy_X11_rowAt rfl (na := 1) (by decide +kernel) rfl ⟨(Nat.le_of_ble_eq_true rfl), (Nat.le_of_ble_eq_true rfl)⟩ (cel_ne (cel_self hc0.1) (by omega)) rfl (st := []) rfl (Nat.le_of_ble_eq_true rfl) ⟨(Nat.le_of_ble_eq_true rfl), (Nat.le_of_ble_eq_true rfl)⟩ dX11_copy_2 (fun r2 N2 w2 hpo2 hN2 => ?_)
    obtain ⟨rfl, rfl, rfl⟩ := hpo2
    refine x_st (st' := [.null]) rfl ?_
    refine x_astoreN (pc := 5) K (L' := [(6, .null), (0, .ref (B + 0)), (1, .int (zI a)), (2, .int (zI i)), (3, .int (zI b)), (4, .int (zI j)), (5, .int (zI n))]) hnL (by decide) rfl dX11_copy_5 ?_
    by_cases hb : 0 ≤ b ∧ b ≤ 7
    · skip
      obtain ⟨bb, rfl⟩ : ∃ bb : Nat, b = (bb : Int) := ⟨b.toNat, by omega⟩
      have hccbb := rowC_y (r := bb) (by omega)
      refine x_aload_n (pc := 7) 1 K rfl rfl dX11_copy_7 ?_
      refine x_iload_n (pc := 8) 4 K rfl rfl dX11_copy_8 ?_
      refine x_callV (pc := 9) (C := RX11) (T := TX11) (n := 12) (ci := 10) (As := [.int (zI (bb : Int))]) K (c_X11_rowAt_y (E := E) (B := B) (N := N) (c := c) (r := bb) rfl (cel_ne (cel_self hc0.1) (by omega)) (cel_ne (cel_ne hc1 (by decide)) (by omega)) (by omega) (by omega)) gX11_copy_X11_rowAt rfl (na := 1) (by decide +kernel) rfl ⟨(Nat.le_of_ble_eq_true rfl), (Nat.le_of_ble_eq_true rfl)⟩ (cel_ne (cel_self hc0.1) (by omega)) rfl (st := []) rfl (Nat.le_of_ble_eq_true rfl) ⟨(Nat.le_of_ble_eq_true rfl), (Nat.le_of_ble_eq_true rfl)⟩ dX11_copy_9 (fun r9 N9 w9 hpo9 hN9 => ?_)
      obtain ⟨rfl, rfl, rfl⟩ := hpo9
      refine x_st (st' := [.ref (B + c)]) rfl ?_
      refine x_astore (pc := 12) K (L' := [(7, .ref (B + c)), (6, .null), (0, .ref (B + 0)), (1, .int (zI a)), (2, .int (zI i)), (3, .int (zI (bb : Int))), (4, .int (zI j)), (5, .int (zI n))]) hnL (by decide) rfl dX11_copy_12 ?_
      refine x_aloadN (pc := 14) 1 K rfl dX11_copy_14 ?_
      refine x_ifnullN (pc := 16) (tgt := 24) K dX11_copy_16 (by decide) ?_
      refine x_ldc (pc := 24) (x := (-1000001)) (-1000001) K (by decide) (by decide +kernel) dX11_copy_24 ?_
      refine x_iret (pc := 26) K KR (by omega) (Nat.le_of_ble_eq_true rfl) (Nat.le_of_ble_eq_true rfl) dX11_copy_26 ?_
      exact ⟨rfl, (-1000001), fin, g, (Or.inl ⟨by omega, rfl, rfl, rfl⟩), rfl, rfl⟩
    · skip
      refine x_aload_n (pc := 7) 1 K rfl rfl dX11_copy_7 ?_
      refine x_iload_n (pc := 8) 4 K rfl rfl dX11_copy_8 ?_
      refine x_callV (pc := 9) (C := RX11) (T := TX11) (n := 12) (ci := 10) (As := [.int (zI b)]) K (c_X11_rowAt_n (E := E) (B := B) (N := N)   (cel_ne (cel_self hc0.1) (by omega)) (cel_ne (cel_ne hc1 (by decide)) (by omega)) hb (by omega)) gX11_copy_X11_rowAt rfl (na := 1) (by decide +kernel) rfl ⟨(Nat.le_of_ble_eq_true rfl), (Nat.le_of_ble_eq_true rfl)⟩ (cel_ne (cel_self hc0.1) (by omega)) rfl (st := []) rfl (Nat.le_of_ble_eq_true rfl) ⟨(Nat.le_of_ble_eq_true rfl), (Nat.le_of_ble_eq_true rfl)⟩ dX11_copy_9 (fun r9 N9 w9 hpo9 hN9 => ?_)
      obtain ⟨rfl, rfl, rfl⟩ := hpo9
      refine x_st (st' := [.null]) rfl ?_
      refine x_astoreN (pc := 12) K (L' := [(7, .null), (6, .null), (0, .ref (B + 0)), (1, .int (zI a)), (2, .int (zI i)), (3, .int (zI b)), (4, .int (zI j)), (5, .int (zI n))]) hnL (by decide) rfl dX11_copy_12 ?_
      refine x_aloadN (pc := 14) 1 K rfl dX11_copy_14 ?_
      refine x_ifnullN (pc := 16) (tgt := 24) K dX11_copy_16 (by decide) ?_
      refine x_ldc (pc := 24) (x := (-1000001)) (-1000001) K (by decide) (by decide +kernel) dX11_copy_24 ?_
      refine x_iret (pc := 26) K KR (by omega) (Nat.le_of_ble_eq_true rfl) (Nat.le_of_ble_eq_true rfl) dX11_copy_26 ?_
      exact ⟨rfl, (-1000001), fin, g, (Or.inl ⟨by omega, rfl, rfl, rfl⟩), rfl, rfl⟩
