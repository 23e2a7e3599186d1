theorem dX12_readsPerson_0 : decode cX12_readsPerson 0 = .ok (.aload_n 0, 1) := by decide +kernel
theorem dX12_readsPerson_1 : decode cX12_readsPerson 1 = .ok (.getfield 38, 3) := by decide +kernel
theorem dX12_readsPerson_4 : decode cX12_readsPerson 4 = .ok (.iconst 4, 1) := by decide +kernel
theorem dX12_readsPerson_5 : decode cX12_readsPerson 5 = .ok (.iaload, 1) := by decide +kernel
theorem dX12_readsPerson_6 : decode cX12_readsPerson 6 = .ok (.istore_n 1, 1) := by decide +kernel
theorem dX12_readsPerson_7 : decode cX12_readsPerson 7 = .ok (.aload_n 0, 1) := by decide +kernel
theorem dX12_readsPerson_8 : decode cX12_readsPerson 8 = .ok (.iload_n 1, 1) := by decide +kernel
theorem dX12_readsPerson_9 : decode cX12_readsPerson 9 = .ok (.iconst 5, 1) := by decide +kernel
theorem dX12_readsPerson_10 : decode cX12_readsPerson 10 = .ok (.if_icmp .ge 7, 3) := by decide +kernel
theorem dX12_readsPerson_17 : decode cX12_readsPerson 17 = .ok (.iconst 0, 1) := by decide +kernel
set_option maxRecDepth 20000 in
theorem ggX12_readsPerson_X12_hasRoom : GoodIn wsX12_readsPerson wsX12_hasRoom := goodIn_r _ [8, 9, 58, 59, 60, 61, 62, 63, 64, 65, 66, 67, 68, 69, 70, 71, 72, 73, 74, 75, 76, 77, 78, 79, 80, 81, 82, 83] (by decide +kernel) (by decide +kernel)
set_option maxRecDepth 20000 in
theorem gX12_readsPerson_X12_hasRoom : GoodIn wsX12_readsPerson (wsV RX12 132 RX12 yX12_hasRoom wsX12_hasRoom) := goodIn_app (goodIn_of _ (by decide +kernel)) ggX12_readsPerson_X12_hasRoom
theorem dX12_readsPerson_18 : decode cX12_readsPerson 18 = .ok (.invokevirtual 132, 3) := by decide +kernel
theorem dX12_readsPerson_21 : decode cX12_readsPerson 21 = .ok (.ifCond .ne 5, 3) := by decide +kernel
theorem dX12_readsPerson_24 : decode cX12_readsPerson 24 = .ok (.iconst 0, 1) := by decide +kernel
theorem dX12_readsPerson_25 : decode cX12_readsPerson 25 = .ok (.ireturn, 1) := by decide +kernel
theorem dX12_readsPerson_13 : decode cX12_readsPerson 13 = .ok (.iconst 1, 1) := by decide +kernel
theorem dX12_readsPerson_14 : decode cX12_readsPerson 14 = .ok (.goto 4, 3) := by decide +kernel
theorem dX12_readsPerson_26 : decode cX12_readsPerson 26 = .ok (.aload_n 0, 1) := by decide +kernel
theorem dX12_readsPerson_27 : decode cX12_readsPerson 27 = .ok (.getfield 38, 3) := by decide +kernel
theorem dX12_readsPerson_30 : decode cX12_readsPerson 30 = .ok (.iconst 5, 1) := by decide +kernel
theorem dX12_readsPerson_31 : decode cX12_readsPerson 31 = .ok (.iload_n 1, 1) := by decide +kernel
theorem dX12_readsPerson_32 : decode cX12_readsPerson 32 = .ok (.iadd, 1) := by decide +kernel
theorem dX12_readsPerson_33 : decode cX12_readsPerson 33 = .ok (.aload_n 0, 1) := by decide +kernel
set_option maxRecDepth 20000 in
theorem ggX12_readsPerson_X12_kindHere : GoodIn wsX12_readsPerson wsX12_kindHere := goodIn_r _ [13, 14, 2, 15, 16, 17, 18, 19, 20, 21, 22, 7, 23, 24, 25, 26, 27, 28, 29, 30, 31, 32, 33, 34, 35, 36, 37, 38, 39, 40, 41, 58, 59, 60, 61, 62, 63, 64, 65, 66, 67, 68, 69, 70, 71, 72, 73, 74, 75, 76, 77, 78, 79, 80, 81, 82, 83] (by decide +kernel) (by decide +kernel)
set_option maxRecDepth 20000 in
theorem gX12_readsPerson_X12_kindHere : GoodIn wsX12_readsPerson (wsV RX12 155 RX12 yX12_kindHere wsX12_kindHere) := goodIn_app (goodIn_of _ (by decide +kernel)) ggX12_readsPerson_X12_kindHere
theorem dX12_readsPerson_34 : decode cX12_readsPerson 34 = .ok (.invokevirtual 155, 3) := by decide +kernel
theorem dX12_readsPerson_37 : decode cX12_readsPerson 37 = .ok (.iastore, 1) := by decide +kernel
theorem dX12_readsPerson_38 : decode cX12_readsPerson 38 = .ok (.aload_n 0, 1) := by decide +kernel
theorem dX12_readsPerson_39 : decode cX12_readsPerson 39 = .ok (.aload_n 0, 1) := by decide +kernel
theorem dX12_readsPerson_40 : decode cX12_readsPerson 40 = .ok (.getfield 38, 3) := by decide +kernel
theorem dX12_readsPerson_43 : decode cX12_readsPerson 43 = .ok (.iconst 5, 1) := by decide +kernel
theorem dX12_readsPerson_44 : decode cX12_readsPerson 44 = .ok (.iload_n 1, 1) := by decide +kernel
theorem dX12_readsPerson_45 : decode cX12_readsPerson 45 = .ok (.iadd, 1) := by decide +kernel
theorem dX12_readsPerson_46 : decode cX12_readsPerson 46 = .ok (.iaload, 1) := by decide +kernel
theorem dX12_readsPerson_47 : decode cX12_readsPerson 47 = .ok (.ifCond .le 7, 3) := by decide +kernel
theorem dX12_readsPerson_54 : decode cX12_readsPerson 54 = .ok (.iconst 0, 1) := by decide +kernel
set_option maxRecDepth 20000 in
theorem ggX12_readsPerson_X12_mustBe : GoodIn wsX12_readsPerson wsX12_mustBe := goodIn_r _ [45, 9, 58, 59, 60, 61, 62, 63, 64, 65, 66, 67, 68, 69, 70, 71, 72, 73, 74, 75, 76, 77, 78, 79, 80, 81, 82, 83] (by decide +kernel) (by decide +kernel)
set_option maxRecDepth 20000 in
theorem gX12_readsPerson_X12_mustBe : GoodIn wsX12_readsPerson (wsV RX12 121 RX12 yX12_mustBe wsX12_mustBe) := goodIn_app (goodIn_of _ (by decide +kernel)) ggX12_readsPerson_X12_mustBe
theorem dX12_readsPerson_55 : decode cX12_readsPerson 55 = .ok (.invokevirtual 121, 3) := by decide +kernel
theorem dX12_readsPerson_58 : decode cX12_readsPerson 58 = .ok (.ifCond .eq 12, 3) := by decide +kernel
theorem dX12_readsPerson_70 : decode cX12_readsPerson 70 = .ok (.iconst 0, 1) := by decide +kernel
theorem dX12_readsPerson_71 : decode cX12_readsPerson 71 = .ok (.ireturn, 1) := by decide +kernel
theorem dX12_readsPerson_50 : decode cX12_readsPerson 50 = .ok (.iconst 1, 1) := by decide +kernel
theorem dX12_readsPerson_51 : decode cX12_readsPerson 51 = .ok (.goto 4, 3) := by decide +kernel
theorem dX12_readsPerson_61 : decode cX12_readsPerson 61 = .ok (.aload_n 0, 1) := by decide +kernel
theorem dX12_readsPerson_62 : decode cX12_readsPerson 62 = .ok (.iconst 0, 1) := by decide +kernel
theorem dX12_readsPerson_63 : decode cX12_readsPerson 63 = .ok (.iconst 1, 1) := by decide +kernel
set_option maxRecDepth 20000 in
theorem ggX12_readsPerson_X12_number : GoodIn wsX12_readsPerson wsX12_number := goodIn_r _ [49, 14, 9, 2, 20, 21, 22, 7, 23, 24, 25, 26, 27, 28, 29, 30, 31, 32, 33, 34, 35, 36, 37, 38, 39, 40, 41, 58, 59, 60, 61, 62, 63, 64, 65, 66, 67, 68, 69, 70, 71, 72, 73, 74, 75, 76, 77, 78, 79, 80, 81, 82, 83] (by decide +kernel) (by decide +kernel)
set_option maxRecDepth 20000 in
theorem gX12_readsPerson_X12_number : GoodIn wsX12_readsPerson (wsV RX12 125 RX12 yX12_number wsX12_number) := goodIn_app (goodIn_of _ (by decide +kernel)) ggX12_readsPerson_X12_number
theorem dX12_readsPerson_64 : decode cX12_readsPerson 64 = .ok (.invokevirtual 125, 3) := by decide +kernel
theorem dX12_readsPerson_67 : decode cX12_readsPerson 67 = .ok (.ifCond .ne 5, 3) := by decide +kernel
theorem dX12_readsPerson_72 : decode cX12_readsPerson 72 = .ok (.aload_n 0, 1) := by decide +kernel
theorem dX12_readsPerson_73 : decode cX12_readsPerson 73 = .ok (.getfield 38, 3) := by decide +kernel
theorem dX12_readsPerson_76 : decode cX12_readsPerson 76 = .ok (.bipush 10, 2) := by decide +kernel
theorem dX12_readsPerson_78 : decode cX12_readsPerson 78 = .ok (.iload_n 1, 1) := by decide +kernel
theorem dX12_readsPerson_79 : decode cX12_readsPerson 79 = .ok (.iadd, 1) := by decide +kernel
theorem dX12_readsPerson_80 : decode cX12_readsPerson 80 = .ok (.aload_n 0, 1) := by decide +kernel
theorem dX12_readsPerson_81 : decode cX12_readsPerson 81 = .ok (.getfield 103, 3) := by decide +kernel
theorem dX12_readsPerson_84 : decode cX12_readsPerson 84 = .ok (.l2i, 1) := by decide +kernel
theorem dX12_readsPerson_85 : decode cX12_readsPerson 85 = .ok (.iastore, 1) := by decide +kernel
theorem dX12_readsPerson_86 : decode cX12_readsPerson 86 = .ok (.aload_n 0, 1) := by decide +kernel
set_option maxRecDepth 20000 in
theorem ggX12_readsPerson_X12_takesCell : GoodIn wsX12_readsPerson wsX12_takesCell := goodIn_r _ [53, 2, 3, 46, 47, 48, 7, 49, 14, 9, 20, 21, 22, 23, 24, 25, 26, 27, 28, 29, 30, 31, 32, 33, 34, 35, 36, 37, 38, 39, 40, 41, 58, 59, 60, 61, 62, 63, 64, 65, 66, 67, 68, 69, 70, 71, 72, 73, 74, 75, 76, 77, 78, 79, 80, 81, 82, 83] (by decide +kernel) (by decide +kernel)
set_option maxRecDepth 20000 in
theorem gX12_readsPerson_X12_takesCell : GoodIn wsX12_readsPerson (wsV RX12 135 RX12 yX12_takesCell wsX12_takesCell) := goodIn_app (goodIn_of _ (by decide +kernel)) ggX12_readsPerson_X12_takesCell
theorem dX12_readsPerson_87 : decode cX12_readsPerson 87 = .ok (.invokevirtual 135, 3) := by decide +kernel
theorem dX12_readsPerson_90 : decode cX12_readsPerson 90 = .ok (.ifCond .eq 13, 3) := by decide +kernel
theorem dX12_readsPerson_103 : decode cX12_readsPerson 103 = .ok (.iconst 0, 1) := by decide +kernel
theorem dX12_readsPerson_104 : decode cX12_readsPerson 104 = .ok (.ireturn, 1) := by decide +kernel
theorem dX12_readsPerson_93 : decode cX12_readsPerson 93 = .ok (.aload_n 0, 1) := by decide +kernel
theorem dX12_readsPerson_94 : decode cX12_readsPerson 94 = .ok (.iconst 0, 1) := by decide +kernel
theorem dX12_readsPerson_95 : decode cX12_readsPerson 95 = .ok (.bipush 13, 2) := by decide +kernel
theorem dX12_readsPerson_97 : decode cX12_readsPerson 97 = .ok (.invokevirtual 125, 3) := by decide +kernel
theorem dX12_readsPerson_100 : decode cX12_readsPerson 100 = .ok (.ifCond .ne 5, 3) := by decide +kernel
theorem dX12_readsPerson_105 : decode cX12_readsPerson 105 = .ok (.aload_n 0, 1) := by decide +kernel
theorem dX12_readsPerson_106 : decode cX12_readsPerson 106 = .ok (.getfield 38, 3) := by decide +kernel
theorem dX12_readsPerson_109 : decode cX12_readsPerson 109 = .ok (.bipush 15, 2) := by decide +kernel
theorem dX12_readsPerson_111 : decode cX12_readsPerson 111 = .ok (.iload_n 1, 1) := by decide +kernel
theorem dX12_readsPerson_112 : decode cX12_readsPerson 112 = .ok (.iadd, 1) := by decide +kernel
theorem dX12_readsPerson_113 : decode cX12_readsPerson 113 = .ok (.aload_n 0, 1) := by decide +kernel
theorem dX12_readsPerson_114 : decode cX12_readsPerson 114 = .ok (.getfield 129, 3) := by decide +kernel
theorem dX12_readsPerson_117 : decode cX12_readsPerson 117 = .ok (.iastore, 1) := by decide +kernel
theorem dX12_readsPerson_118 : decode cX12_readsPerson 118 = .ok (.aload_n 0, 1) := by decide +kernel
theorem dX12_readsPerson_119 : decode cX12_readsPerson 119 = .ok (.getfield 38, 3) := by decide +kernel
theorem dX12_readsPerson_122 : decode cX12_readsPerson 122 = .ok (.bipush 20, 2) := by decide +kernel
theorem dX12_readsPerson_124 : decode cX12_readsPerson 124 = .ok (.iload_n 1, 1) := by decide +kernel
theorem dX12_readsPerson_125 : decode cX12_readsPerson 125 = .ok (.iadd, 1) := by decide +kernel
theorem dX12_readsPerson_126 : decode cX12_readsPerson 126 = .ok (.aload_n 0, 1) := by decide +kernel
theorem dX12_readsPerson_127 : decode cX12_readsPerson 127 = .ok (.getfield 103, 3) := by decide +kernel
theorem dX12_readsPerson_130 : decode cX12_readsPerson 130 = .ok (.l2i, 1) := by decide +kernel
theorem dX12_readsPerson_131 : decode cX12_readsPerson 131 = .ok (.iastore, 1) := by decide +kernel
theorem dX12_readsPerson_132 : decode cX12_readsPerson 132 = .ok (.aload_n 0, 1) := by decide +kernel
theorem dX12_readsPerson_133 : decode cX12_readsPerson 133 = .ok (.getfield 38, 3) := by decide +kernel
theorem dX12_readsPerson_136 : decode cX12_readsPerson 136 = .ok (.iconst 4, 1) := by decide +kernel
theorem dX12_readsPerson_137 : decode cX12_readsPerson 137 = .ok (.dup2, 1) := by decide +kernel
theorem dX12_readsPerson_138 : decode cX12_readsPerson 138 = .ok (.iaload, 1) := by decide +kernel
theorem dX12_readsPerson_139 : decode cX12_readsPerson 139 = .ok (.iconst 1, 1) := by decide +kernel
theorem dX12_readsPerson_140 : decode cX12_readsPerson 140 = .ok (.iadd, 1) := by decide +kernel
theorem dX12_readsPerson_141 : decode cX12_readsPerson 141 = .ok (.iastore, 1) := by decide +kernel
theorem dX12_readsPerson_142 : decode cX12_readsPerson 142 = .ok (.aload_n 0, 1) := by decide +kernel
set_option maxRecDepth 20000 in
theorem ggX12_readsPerson_X12_ends : GoodIn wsX12_readsPerson wsX12_ends := goodIn_r _ [57, 14, 20, 21, 22, 7, 23, 24, 25, 26, 27, 2, 28, 29, 30, 31, 32, 33, 34, 35, 36, 37, 38, 39, 40, 41, 42, 43, 44, 45, 9, 58, 59, 60, 61, 62, 63, 64, 65, 66, 67, 68, 69, 70, 71, 72, 73, 74, 75, 76, 77, 78, 79, 80, 81, 82, 83] (by decide +kernel) (by decide +kernel)
set_option maxRecDepth 20000 in
theorem gX12_readsPerson_X12_ends : GoodIn wsX12_readsPerson (wsV RX12 139 RX12 yX12_ends wsX12_ends) := goodIn_app (goodIn_of _ (by decide +kernel)) ggX12_readsPerson_X12_ends
theorem dX12_readsPerson_143 : decode cX12_readsPerson 143 = .ok (.invokevirtual 139, 3) := by decide +kernel
theorem dX12_readsPerson_146 : decode cX12_readsPerson 146 = .ok (.ireturn, 1) := by decide +kernel
set_option maxRecDepth 100000 in
set_option maxHeartbeats 4000000 in
theorem c_X12_readsPerson {E : XE} {B N : Nat} {v : Nat → va_E} {F t r : Nat → Int} {V : Int} {a b n : Nat} (hc0 : Cel N v 161 (oM B F V)) (hc1 : Cel N v 165 (iarr E 400 t)) (hc2 : Cel N v 171 (iarr E 138 r)) (hq0 : F 15 = (a : Int)) (hq1 : F 19 = (n : Int)) (hq2 : a ≤ n ∧ n ≤ 400) (hq3 : ∀ i : Nat, 0 ≤ t i ∧ t i ≤ 255) (hq4 : F 16 = (b : Int)) (hq5 : b ≤ n) (hq6 : rOk r) : gM yX12_readsPerson wsX12_readsPerson ({ frames := 5, cells := 0, slots := 0, locals := 108 }) E B N v [.ref (B + 161)] (po0 N (fun ρ v' => ∃ (res : Int), ∃ (F2 : Nat → Int), ∃ (V2 : Int), ∃ (r2 : Nat → Int), (nxF 1 F F2) ∧ ((∃ (x2 : Nat → Int) (e2 : Nat), (pP t n r b a) = .ok (x2, e2) ∧ res = 1 ∧ F2 15 = (e2 : Int) ∧ F2 6 = F 6 ∧ r2 = x2) ∨ (∃ (f2 : Int) (p2 : Nat), (pP t n r b a) = .error (f2, p2) ∧ res = 0 ∧ F2 6 = f2 ∧ F2 16 = (p2 : Int) ∧ p2 ≤ n)) ∧ ρ = some (.int (zI res)) ∧ (va_up (va_up v 161 (oM B F2 V2)) 171 (iarr E 138 r2)) = v')) := by
  refine x_met (nm := "readsPerson") (by decide +kernel) rfl (Nat.le_of_ble_eq_true rfl) rfl (fun Γ K KR hnL hnm => ?_)
  show XW Γ N v [(0, .ref (B + 161))] 0 0 0 []
  have hr4 := hq6.1.2.2.2.2.1
  have hsr := skT_le (t := t) hq2.1
  have hkd := kdT_rng t n a
  have her := tokE_rng (t := t) hq2.1
  refine x_v (cel_pad hc0) ?_
  refine x_v (cel_pad (cel_ne hc2 (by decide))) ?_
  refine x_aload_n (pc := 0) 0 K rfl rfl dX12_readsPerson_0 ?_
  refine x_get (pc := 1) (C := RX12) (T := TX12) (n := 26) (ci := 11) (idx := 38) (ref := "BorderBedsModel") (x := .ref (B + 171))  K (cel_ne (cel_self hc0.1) (by decide)) rfl (by decide +kernel) 20 (by decide) (by decide +kernel) rfl rfl dX12_readsPerson_1 ?_
  refine x_iconst (pc := 4) K dX12_readsPerson_4 ?_
  refine x_iald (pc := 5) 4 K (cel_self hc2.1) rfl (by omega) (by decide) dX12_readsPerson_5 ?_
  refine x_nm (fun z1 hz1 => ?_)
  refine x_istore_n (pc := 6) K (L' := [(1, .int (zI z1)), (0, .ref (B + 161))]) hnL rfl (by decide) rfl dX12_readsPerson_6 ?_
  refine x_aload_n (pc := 7) 1 K rfl rfl dX12_readsPerson_7 ?_
  refine x_iload_n (pc := 8) 0 K rfl rfl dX12_readsPerson_8 ?_
  refine x_iconst (pc := 9) K dX12_readsPerson_9 ?_
  refine x_icmp_ge (pc := 10) (tgt := 17) K (by omega) (by decide) dX12_readsPerson_10 (by decide) (fun h_10 => ?_) (fun h_10 => ?_)
  · skip
    refine x_iconst (pc := 17) K dX12_readsPerson_17 ?_
    refine x_callV (pc := 18) (C := RX12) (T := TX12) (n := 26) (ci := 11) (As := [.int (zI 0)]) K (c_X12_hasRoom (E := E) (B := B) (N := N)   (cel_ne (cel_self hc0.1) (by decide)) (by omega)) gX12_readsPerson_X12_hasRoom rfl (na := 1) (by decide +kernel) rfl ⟨(Nat.le_of_ble_eq_true rfl), (Nat.le_of_ble_eq_true rfl)⟩ (cel_ne (cel_self hc0.1) (by decide)) rfl (st := []) rfl (Nat.le_of_ble_eq_true rfl) ⟨(Nat.le_of_ble_eq_true rfl), (Nat.le_of_ble_eq_true rfl)⟩ dX12_readsPerson_18 (fun r18 N18 w18 hpo18 hN18 => ?_)
    obtain ⟨rfl, f2_18, hp18_0, rfl, rfl⟩ := hpo18
    refine x_v (w := (va_up (va_up v 161 (oM B (va_up F 6 f2_18) V)) 171 (iarr E 138 r))) (up_at1 (by decide)).symm ?_
    refine x_st (st' := [.int (zI 0)]) rfl ?_
    have hf18 : f2_18 = 3 := by rw [hp18_0]; first | exact if_pos rfl | exact if_neg (by omega)
    refine x_if_ne (pc := 21) (tgt := 26) K (by omega) dX12_readsPerson_21 (by decide) (fun h_21 => ?_) (fun h_21 => ?_)
    · skip
      exfalso; omega
    · skip
      refine x_iconst (pc := 24) K dX12_readsPerson_24 ?_
      refine x_zret (pc := 25) K KR (by omega) (Nat.le_of_ble_eq_true rfl) (Nat.le_of_ble_eq_true rfl) rfl dX12_readsPerson_25 ?_
      exact ⟨rfl, 0, (va_up F 6 f2_18), V, r, (fun k a0 b0 c0 d0 e0 f0 => va_up_ne _ _ a0), (Or.inr ⟨3, b, by unfold pP; rw [if_neg (by omega)], rfl, by rw [va_up_self]; exact hf18, by rw [va_up_ne _ _ (by omega)]; exact hq4, hq5⟩), rfl, rfl⟩
  · skip
    refine x_iconst (pc := 13) K dX12_readsPerson_13 ?_
    refine x_goto (pc := 14) (tgt := 18) K dX12_readsPerson_14 (by decide) ?_
    refine x_callV (pc := 18) (C := RX12) (T := TX12) (n := 26) (ci := 11) (As := [.int (zI 1)]) K (c_X12_hasRoom (E := E) (B := B) (N := N)   (cel_ne (cel_self hc0.1) (by decide)) (by omega)) gX12_readsPerson_X12_hasRoom rfl (na := 1) (by decide +kernel) rfl ⟨(Nat.le_of_ble_eq_true rfl), (Nat.le_of_ble_eq_true rfl)⟩ (cel_ne (cel_self hc0.1) (by decide)) rfl (st := []) rfl (Nat.le_of_ble_eq_true rfl) ⟨(Nat.le_of_ble_eq_true rfl), (Nat.le_of_ble_eq_true rfl)⟩ dX12_readsPerson_18 (fun r18 N18 w18 hpo18 hN18 => ?_)
    obtain ⟨rfl, f2_18, hp18_0, rfl, rfl⟩ := hpo18
    refine x_v (w := (va_up (va_up v 161 (oM B (va_up F 6 f2_18) V)) 171 (iarr E 138 r))) (up_at1 (by decide)).symm ?_
    refine x_st (st' := [.int (zI 1)]) rfl ?_
    have hf18 : f2_18 = F 6 := by rw [hp18_0]; first | exact if_pos rfl | exact if_neg (by omega)
    refine x_if_ne (pc := 21) (tgt := 26) K (by omega) dX12_readsPerson_21 (by decide) (fun h_21 => ?_) (fun h_21 => ?_)
    · skip
      refine x_aload_n (pc := 26) 1 K rfl rfl dX12_readsPerson_26 ?_
      refine x_get (pc := 27) (C := RX12) (T := TX12) (n := 26) (ci := 11) (idx := 38) (ref := "BorderBedsModel") (x := .ref (B + 171))  K (cel_ne (cel_self hc0.1) (by decide)) rfl (by decide +kernel) 20 (by decide) (by decide +kernel) rfl rfl dX12_readsPerson_27 ?_
      refine x_iconst (pc := 30) K dX12_readsPerson_30 ?_
      refine x_iload_n (pc := 31) 0 K rfl rfl dX12_readsPerson_31 ?_
      refine x_iadd (pc := 32) K dX12_readsPerson_32 ?_
      refine x_aload_n (pc := 33) 1 K rfl rfl dX12_readsPerson_33 ?_
      refine x_callV (pc := 34) (C := RX12) (T := TX12) (n := 26) (ci := 11) (As := []) K (c_X12_kindHere (E := E) (B := B) (N := N) (a := a) (n := n) (F := (va_up F 6 f2_18))  (cel_ne (cel_self hc0.1) (by decide)) (cel_ne (cel_ne hc1 (by decide)) (by decide)) (by (repeat rw [va_up_ne _ _ (by omega)]); exact hq0) (by (repeat rw [va_up_ne _ _ (by omega)]); exact hq1) (by omega) hq3) gX12_readsPerson_X12_kindHere rfl (na := 0) (by decide +kernel) rfl ⟨(Nat.le_of_ble_eq_true rfl), (Nat.le_of_ble_eq_true rfl)⟩ (cel_ne (cel_self hc0.1) (by decide)) rfl (st := [.int (zI (5 + z1)), .ref (B + 171)]) rfl (Nat.le_of_ble_eq_true rfl) ⟨(Nat.le_of_ble_eq_true rfl), (Nat.le_of_ble_eq_true rfl)⟩ dX12_readsPerson_34 (fun r34 N34 w34 hpo34 hN34 => ?_)
      obtain ⟨rfl, res_34, F2_34, V2_34, hp34_0, hp34_1, hp34_2, rfl, rfl⟩ := hpo34
      refine x_v (w := (va_up (va_up v 161 (oM B F2_34 V2_34)) 171 (iarr E 138 r))) (up_at1 (by decide)).symm ?_
      refine x_st (st' := [.int (zI res_34), .int (zI (5 + z1)), .ref (B + 171)]) rfl ?_
      have hn34 : nxF 1 F F2_34 := fun k a0 b0 c0 d0 e0 f0 => (hp34_0 k a0 b0 c0 d0 (by omega) (by omega)).trans (va_up_ne _ _ a0)
      have n19_34 := hn34 19 (by omega) (by omega) (by omega) (by omega) (by omega) (by omega)
      have ho34 := hp34_2
      rw [va_up_self] at ho34
      refine x_iast (pc := 37) (((5 + z1)).toNat) K (cel_self hc2.1) (by omega) (by omega) (by decide) dX12_readsPerson_37 ?_
      refine x_v (w := (va_up (va_up v 161 (oM B F2_34 V2_34)) 171 (iarr E 138 (va_up r (((5 + z1)).toNat) res_34)))) (up_at0).symm ?_
      refine x_aload_n (pc := 38) 1 K rfl rfl dX12_readsPerson_38 ?_
      refine x_aload_n (pc := 39) 1 K rfl rfl dX12_readsPerson_39 ?_
      refine x_get (pc := 40) (C := RX12) (T := TX12) (n := 26) (ci := 11) (idx := 38) (ref := "BorderBedsModel") (x := .ref (B + 171))  K (cel_ne (cel_self hc0.1) (by decide)) rfl (by decide +kernel) 20 (by decide) (by decide +kernel) rfl rfl dX12_readsPerson_40 ?_
      refine x_iconst (pc := 43) K dX12_readsPerson_43 ?_
      refine x_iload_n (pc := 44) 0 K rfl rfl dX12_readsPerson_44 ?_
      refine x_iadd (pc := 45) K dX12_readsPerson_45 ?_
      refine x_iald (pc := 46) (((5 + z1)).toNat) K (cel_self hc2.1) (by omega) (by omega) (by decide) dX12_readsPerson_46 ?_
      have e46 : va_up r (5 + z1).toNat res_34 (5 + z1).toNat = res_34 := va_up_self _ _ _
      refine x_if_le (pc := 47) (tgt := 54) K (by omega) dX12_readsPerson_47 (by decide) (fun h_47 => ?_) (fun h_47 => ?_)
      · skip
        refine x_iconst (pc := 54) K dX12_readsPerson_54 ?_
        refine x_callV (pc := 55) (C := RX12) (T := TX12) (n := 26) (ci := 11) (As := [.int (zI 0)]) K (c_X12_mustBe (E := E) (B := B) (N := N)   (cel_ne (cel_self hc0.1) (by decide)) (by omega)) gX12_readsPerson_X12_mustBe rfl (na := 1) (by decide +kernel) rfl ⟨(Nat.le_of_ble_eq_true rfl), (Nat.le_of_ble_eq_true rfl)⟩ (cel_ne (cel_self hc0.1) (by decide)) rfl (st := []) rfl (Nat.le_of_ble_eq_true rfl) ⟨(Nat.le_of_ble_eq_true rfl), (Nat.le_of_ble_eq_true rfl)⟩ dX12_readsPerson_55 (fun r55 N55 w55 hpo55 hN55 => ?_)
        obtain ⟨rfl, f2_55, hp55_0, rfl, rfl⟩ := hpo55
        refine x_v (w := (va_up (va_up v 161 (oM B (va_up F2_34 6 f2_55) V2_34)) 171 (iarr E 138 (va_up r (((5 + z1)).toNat) res_34)))) (up_at1 (by decide)).symm ?_
        refine x_st (st' := [.int (zI 0)]) rfl ?_
        have hf55 : f2_55 = 1 := by rw [hp55_0]; first | exact if_pos rfl | exact if_neg (by omega)
        refine x_if_eq (pc := 58) (tgt := 70) K (by omega) dX12_readsPerson_58 (by decide) (fun h_58 => ?_) (fun h_58 => ?_)
        · skip
          refine x_iconst (pc := 70) K dX12_readsPerson_70 ?_
          refine x_zret (pc := 71) K KR (by omega) (Nat.le_of_ble_eq_true rfl) (Nat.le_of_ble_eq_true rfl) rfl dX12_readsPerson_71 ?_
          exact ⟨rfl, 0, (va_up F2_34 6 f2_55), V2_34, (va_up r (((5 + z1)).toNat) res_34), (nxF_u hn34 (by omega) (by omega)), (Or.inr ⟨1, skT t n a, by unfold pP pPer; rw [if_pos (by omega), if_pos (by omega)]; rfl, rfl, by rw [va_up_self]; exact hf55, by rw [va_up_ne _ _ (by omega)]; exact ho34.2.1, hsr.2⟩), rfl, rfl⟩
        · skip
          exfalso; omega
      · skip
        refine x_iconst (pc := 50) K dX12_readsPerson_50 ?_
        refine x_goto (pc := 51) (tgt := 55) K dX12_readsPerson_51 (by decide) ?_
        refine x_callV (pc := 55) (C := RX12) (T := TX12) (n := 26) (ci := 11) (As := [.int (zI 1)]) K (c_X12_mustBe (E := E) (B := B) (N := N)   (cel_ne (cel_self hc0.1) (by decide)) (by omega)) gX12_readsPerson_X12_mustBe rfl (na := 1) (by decide +kernel) rfl ⟨(Nat.le_of_ble_eq_true rfl), (Nat.le_of_ble_eq_true rfl)⟩ (cel_ne (cel_self hc0.1) (by decide)) rfl (st := []) rfl (Nat.le_of_ble_eq_true rfl) ⟨(Nat.le_of_ble_eq_true rfl), (Nat.le_of_ble_eq_true rfl)⟩ dX12_readsPerson_55 (fun r55 N55 w55 hpo55 hN55 => ?_)
        obtain ⟨rfl, f2_55, hp55_0, rfl, rfl⟩ := hpo55
        refine x_v (w := (va_up (va_up v 161 (oM B (va_up F2_34 6 f2_55) V2_34)) 171 (iarr E 138 (va_up r (((5 + z1)).toNat) res_34)))) (up_at1 (by decide)).symm ?_
        refine x_st (st' := [.int (zI 1)]) rfl ?_
        have hf55 : f2_55 = F2_34 6 := by rw [hp55_0]; first | exact if_pos rfl | exact if_neg (by omega)
        refine x_if_eq (pc := 58) (tgt := 70) K (by omega) dX12_readsPerson_58 (by decide) (fun h_58 => ?_) (fun h_58 => ?_)
        · skip
          exfalso; omega
        · skip
          refine x_aload_n (pc := 61) 1 K rfl rfl dX12_readsPerson_61 ?_
          refine x_iconst (pc := 62) K dX12_readsPerson_62 ?_
          refine x_iconst (pc := 63) K dX12_readsPerson_63 ?_
          refine x_callV (pc := 64) (C := RX12) (T := TX12) (n := 26) (ci := 11) (As := [.int (zI 0), .int (zI 1)]) K (c_X12_number (E := E) (B := B) (N := N) (a := (tokE t n a)) (n := n) (F := (va_up F2_34 6 f2_55))  (cel_ne (cel_self hc0.1) (by decide)) (cel_ne (cel_ne hc1 (by decide)) (by decide)) (by (repeat rw [va_up_ne _ _ (by omega)]); exact ho34.1) (by (repeat rw [va_up_ne _ _ (by omega)]); omega) (by omega) hq3 (by omega) (by omega)) gX12_readsPerson_X12_number rfl (na := 2) (by decide +kernel) rfl ⟨(Nat.le_of_ble_eq_true rfl), (Nat.le_of_ble_eq_true rfl)⟩ (cel_ne (cel_self hc0.1) (by decide)) rfl (st := []) rfl (Nat.le_of_ble_eq_true rfl) ⟨(Nat.le_of_ble_eq_true rfl), (Nat.le_of_ble_eq_true rfl)⟩ dX12_readsPerson_64 (fun r64 N64 w64 hpo64 hN64 => ?_)
          obtain ⟨rfl, res_64, F2_64, V2_64, hp64_0, hp64_1, rfl, rfl⟩ := hpo64
          refine x_v (w := (va_up (va_up v 161 (oM B F2_64 V2_64)) 171 (iarr E 138 (va_up r (((5 + z1)).toNat) res_34)))) (up_at1 (by decide)).symm ?_
          refine x_st (st' := [.int (zI res_64)]) rfl ?_
          have hn64 : nxF 1 F F2_64 := nxF_t (nxF_u hn34 (m := 1) (j := 6) (x := f2_55) (by omega) (by omega)) (fun k a0 b0 c0 d0 e0 f0 => hp64_0 k a0 b0 c0 d0 (by omega) (by omega)) (by omega)
          have n19_64 := hn64 19 (by omega) (by omega) (by omega) (by omega) (by omega) (by omega)
          refine x_if_ne (pc := 67) (tgt := 72) K (by omega) dX12_readsPerson_67 (by decide) (fun h_67 => ?_) (fun h_67 => ?_)
          · skip
            obtain ⟨x64, e64, hx64, -, ha64, hf64, hv64⟩ := hp64_1.resolve_right (fun ⟨_, _, _, q, _⟩ => by omega)
            have ho64 := pNum_ok hx64 (by omega)
            refine x_aload_n (pc := 72) 1 K rfl rfl dX12_readsPerson_72 ?_
            refine x_get (pc := 73) (C := RX12) (T := TX12) (n := 26) (ci := 11) (idx := 38) (ref := "BorderBedsModel") (x := .ref (B + 171))  K (cel_ne (cel_self hc0.1) (by decide)) rfl (by decide +kernel) 20 (by decide) (by decide +kernel) rfl rfl dX12_readsPerson_73 ?_
            refine x_bipush (pc := 76) K (by decide) dX12_readsPerson_76 ?_
            refine x_iload_n (pc := 78) 0 K rfl rfl dX12_readsPerson_78 ?_
            refine x_iadd (pc := 79) K dX12_readsPerson_79 ?_
            refine x_aload_n (pc := 80) 1 K rfl rfl dX12_readsPerson_80 ?_
            refine x_get (pc := 81) (C := RX12) (T := TX12) (n := 26) (ci := 11) (idx := 103) (ref := "BorderBedsModel") (x := .long (zL V2_64))  K (cel_ne (cel_self hc0.1) (by decide)) rfl (by decide +kernel) 18 (by decide) (by decide +kernel) rfl rfl dX12_readsPerson_81 ?_
            refine x_l2i (pc := 84) K dX12_readsPerson_84 ?_
            refine x_iast (pc := 85) (((10 + z1)).toNat) K (cel_self hc2.1) (by omega) (by omega) (by decide) dX12_readsPerson_85 ?_
            refine x_v (w := (va_up (va_up v 161 (oM B F2_64 V2_64)) 171 (iarr E 138 (va_up (va_up r (((5 + z1)).toNat) res_34) (((10 + z1)).toNat) V2_64)))) (up_at0).symm ?_
            refine x_aload_n (pc := 86) 1 K rfl rfl dX12_readsPerson_86 ?_
            refine x_callV (pc := 87) (C := RX12) (T := TX12) (n := 26) (ci := 11) (As := []) K (c_X12_takesCell (E := E) (B := B) (N := N) (a := e64) (n := n) (F := F2_64)  (cel_ne (cel_self hc0.1) (by decide)) (cel_ne (cel_ne hc1 (by decide)) (by decide)) (by exact ha64) (by omega) (by omega) hq3) gX12_readsPerson_X12_takesCell rfl (na := 0) (by decide +kernel) rfl ⟨(Nat.le_of_ble_eq_true rfl), (Nat.le_of_ble_eq_true rfl)⟩ (cel_ne (cel_self hc0.1) (by decide)) rfl (st := []) rfl (Nat.le_of_ble_eq_true rfl) ⟨(Nat.le_of_ble_eq_true rfl), (Nat.le_of_ble_eq_true rfl)⟩ dX12_readsPerson_87 (fun r87 N87 w87 hpo87 hN87 => ?_)
            obtain ⟨rfl, res_87, F2_87, V2_87, hp87_0, hp87_1, rfl, rfl⟩ := hpo87
            refine x_v (w := (va_up (va_up v 161 (oM B F2_87 V2_87)) 171 (iarr E 138 (va_up (va_up r (((5 + z1)).toNat) res_34) (((10 + z1)).toNat) V2_64)))) (up_at1 (by decide)).symm ?_
            refine x_st (st' := [.int (zI res_87)]) rfl ?_
            have hn87 : nxF 1 F F2_87 := nxF_t hn64 hp87_0 (by omega)
            have n19_87 := hn87 19 (by omega) (by omega) (by omega) (by omega) (by omega) (by omega)
            refine x_if_eq (pc := 90) (tgt := 103) K (by omega) dX12_readsPerson_90 (by decide) (fun h_90 => ?_) (fun h_90 => ?_)
            · skip
              obtain ⟨f2, p2, hx2, -, hf2, hp2, hl2⟩ := hp87_1.resolve_left (fun ⟨_, _, _, q, _⟩ => by omega)
              refine x_iconst (pc := 103) K dX12_readsPerson_103 ?_
              refine x_zret (pc := 104) K KR (by omega) (Nat.le_of_ble_eq_true rfl) (Nat.le_of_ble_eq_true rfl) rfl dX12_readsPerson_104 ?_
              exact ⟨rfl, 0, F2_87, V2_87, (va_up (va_up r (((5 + z1)).toNat) res_34) (((10 + z1)).toNat) V2_64), hn87, (Or.inr ⟨f2, p2, by unfold pP pPer; rw [if_pos (by omega), if_neg (by omega)]; rw [pThen_ok hx64, pThen_err hx2]; rfl, rfl, hf2, hp2, hl2⟩), rfl, rfl⟩
            · skip
              obtain ⟨x87, e87, hx87, -, ha87, hf87, hv87⟩ := hp87_1.resolve_right (fun ⟨_, _, _, q, _⟩ => by omega)
              have ho87 := pCell_ok hx87 (by omega)
              refine x_aload_n (pc := 93) 1 K rfl rfl dX12_readsPerson_93 ?_
              refine x_iconst (pc := 94) K dX12_readsPerson_94 ?_
              refine x_bipush (pc := 95) K (by decide) dX12_readsPerson_95 ?_
              refine x_callV (pc := 97) (C := RX12) (T := TX12) (n := 26) (ci := 11) (As := [.int (zI 0), .int (zI 13)]) K (c_X12_number (E := E) (B := B) (N := N) (a := e87) (n := n) (F := F2_87)  (cel_ne (cel_self hc0.1) (by decide)) (cel_ne (cel_ne hc1 (by decide)) (by decide)) (by exact ha87) (by omega) (by omega) hq3 (by omega) (by omega)) gX12_readsPerson_X12_number rfl (na := 2) (by decide +kernel) rfl ⟨(Nat.le_of_ble_eq_true rfl), (Nat.le_of_ble_eq_true rfl)⟩ (cel_ne (cel_self hc0.1) (by decide)) rfl (st := []) rfl (Nat.le_of_ble_eq_true rfl) ⟨(Nat.le_of_ble_eq_true rfl), (Nat.le_of_ble_eq_true rfl)⟩ dX12_readsPerson_97 (fun r97 N97 w97 hpo97 hN97 => ?_)
              obtain ⟨rfl, res_97, F2_97, V2_97, hp97_0, hp97_1, rfl, rfl⟩ := hpo97
              refine x_v (w := (va_up (va_up v 161 (oM B F2_97 V2_97)) 171 (iarr E 138 (va_up (va_up r (((5 + z1)).toNat) res_34) (((10 + z1)).toNat) V2_64)))) (up_at1 (by decide)).symm ?_
              refine x_st (st' := [.int (zI res_97)]) rfl ?_
              have hn97 : nxF 1 F F2_97 := nxF_t hn87 (fun k a0 b0 c0 d0 e0 f0 => hp97_0 k a0 b0 c0 d0 (by omega) (by omega)) (by omega)
              have n19_97 := hn97 19 (by omega) (by omega) (by omega) (by omega) (by omega) (by omega)
              have n22_97 := hp97_0 22 (by omega) (by omega) (by omega) (by omega) (by omega) (by omega)
              refine x_if_ne (pc := 100) (tgt := 105) K (by omega) dX12_readsPerson_100 (by decide) (fun h_100 => ?_) (fun h_100 => ?_)
              · skip
                obtain ⟨x97, e97, hx97, -, ha97, hf97, hv97⟩ := hp97_1.resolve_right (fun ⟨_, _, _, q, _⟩ => by omega)
                have ho97 := pNum_ok hx97 (by omega)
                refine x_aload_n (pc := 105) 1 K rfl rfl dX12_readsPerson_105 ?_
                refine x_get (pc := 106) (C := RX12) (T := TX12) (n := 26) (ci := 11) (idx := 38) (ref := "BorderBedsModel") (x := .ref (B + 171))  K (cel_ne (cel_self hc0.1) (by decide)) rfl (by decide +kernel) 20 (by decide) (by decide +kernel) rfl rfl dX12_readsPerson_106 ?_
                refine x_bipush (pc := 109) K (by decide) dX12_readsPerson_109 ?_
                refine x_iload_n (pc := 111) 0 K rfl rfl dX12_readsPerson_111 ?_
                refine x_iadd (pc := 112) K dX12_readsPerson_112 ?_
                refine x_aload_n (pc := 113) 1 K rfl rfl dX12_readsPerson_113 ?_
                refine x_get (pc := 114) (C := RX12) (T := TX12) (n := 26) (ci := 11) (idx := 129) (ref := "BorderBedsModel") (x := .int (zI (F2_97 22)))  K (cel_ne (cel_self hc0.1) (by decide)) rfl (by decide +kernel) 22 (by decide) (by decide +kernel) rfl rfl dX12_readsPerson_114 ?_
                refine x_iast (pc := 117) (((15 + z1)).toNat) K (cel_self hc2.1) (by omega) (by omega) (by decide) dX12_readsPerson_117 ?_
                refine x_v (w := (va_up (va_up v 161 (oM B F2_97 V2_97)) 171 (iarr E 138 (va_up (va_up (va_up r (((5 + z1)).toNat) res_34) (((10 + z1)).toNat) V2_64) (((15 + z1)).toNat) (F2_97 22))))) (up_at0).symm ?_
                refine x_aload_n (pc := 118) 1 K rfl rfl dX12_readsPerson_118 ?_
                refine x_get (pc := 119) (C := RX12) (T := TX12) (n := 26) (ci := 11) (idx := 38) (ref := "BorderBedsModel") (x := .ref (B + 171))  K (cel_ne (cel_self hc0.1) (by decide)) rfl (by decide +kernel) 20 (by decide) (by decide +kernel) rfl rfl dX12_readsPerson_119 ?_
                refine x_bipush (pc := 122) K (by decide) dX12_readsPerson_122 ?_
                refine x_iload_n (pc := 124) 0 K rfl rfl dX12_readsPerson_124 ?_
                refine x_iadd (pc := 125) K dX12_readsPerson_125 ?_
                refine x_aload_n (pc := 126) 1 K rfl rfl dX12_readsPerson_126 ?_
                refine x_get (pc := 127) (C := RX12) (T := TX12) (n := 26) (ci := 11) (idx := 103) (ref := "BorderBedsModel") (x := .long (zL V2_97))  K (cel_ne (cel_self hc0.1) (by decide)) rfl (by decide +kernel) 18 (by decide) (by decide +kernel) rfl rfl dX12_readsPerson_127 ?_
                refine x_l2i (pc := 130) K dX12_readsPerson_130 ?_
                refine x_iast (pc := 131) (((20 + z1)).toNat) K (cel_self hc2.1) (by omega) (by omega) (by decide) dX12_readsPerson_131 ?_
                refine x_v (w := (va_up (va_up v 161 (oM B F2_97 V2_97)) 171 (iarr E 138 (va_up (va_up (va_up (va_up r (((5 + z1)).toNat) res_34) (((10 + z1)).toNat) V2_64) (((15 + z1)).toNat) (F2_97 22)) (((20 + z1)).toNat) V2_97)))) (up_at0).symm ?_
                refine x_aload_n (pc := 132) 1 K rfl rfl dX12_readsPerson_132 ?_
                refine x_get (pc := 133) (C := RX12) (T := TX12) (n := 26) (ci := 11) (idx := 38) (ref := "BorderBedsModel") (x := .ref (B + 171))  K (cel_ne (cel_self hc0.1) (by decide)) rfl (by decide +kernel) 20 (by decide) (by decide +kernel) rfl rfl dX12_readsPerson_133 ?_
                refine x_iconst (pc := 136) K dX12_readsPerson_136 ?_
                refine x_dup2 (pc := 137) K rfl rfl dX12_readsPerson_137 ?_
                refine x_iald (pc := 138) 4 K (cel_self hc2.1) rfl (by omega) (by decide) dX12_readsPerson_138 ?_
                refine x_iconst (pc := 139) K dX12_readsPerson_139 ?_
                refine x_iadd (pc := 140) K dX12_readsPerson_140 ?_
                refine x_iast (pc := 141) 4 K (cel_self hc2.1) rfl (by omega) (by decide) dX12_readsPerson_141 ?_
                refine x_v (w := (va_up (va_up v 161 (oM B F2_97 V2_97)) 171 (iarr E 138 (va_up (va_up (va_up (va_up (va_up r (((5 + z1)).toNat) res_34) (((10 + z1)).toNat) V2_64) (((15 + z1)).toNat) (F2_97 22)) (((20 + z1)).toNat) V2_97) 4 (((va_up (va_up (va_up (va_up r (((5 + z1)).toNat) res_34) (((10 + z1)).toNat) V2_64) (((15 + z1)).toNat) (F2_97 22)) (((20 + z1)).toNat) V2_97) 4) + 1))))) (up_at0).symm ?_
                have hRR : va_up (va_up (va_up (va_up (va_up r (((5 + z1)).toNat) res_34) (((10 + z1)).toNat) V2_64) (((15 + z1)).toNat) (F2_97 22)) (((20 + z1)).toNat) V2_97) 4 (((va_up (va_up (va_up (va_up r (((5 + z1)).toNat) res_34) (((10 + z1)).toNat) V2_64) (((15 + z1)).toNat) (F2_97 22)) (((20 + z1)).toNat) V2_97) 4) + 1) = (perR r (kdT t n a, x64, x87, x97)) := by unfold perR; simp only [hz1, show (5 + r 4).toNat = 5 + (r 4).toNat by omega, show (10 + r 4).toNat = 10 + (r 4).toNat by omega, show (15 + r 4).toNat = 15 + (r 4).toNat by omega, show (20 + r 4).toNat = 20 + (r 4).toNat by omega, hp34_1, hv64, hv97, n22_97, hv87]; (repeat rw [va_up_ne _ _ (show 4 ≠ _ by omega)])
                refine x_v (w := (va_up (va_up v 161 (oM B F2_97 V2_97)) 171 (iarr E 138 (perR r (kdT t n a, x64, x87, x97))))) (by rw [hRR]) ?_
                refine x_aload_n (pc := 142) 1 K rfl rfl dX12_readsPerson_142 ?_
                refine x_callV (pc := 143) (C := RX12) (T := TX12) (n := 26) (ci := 11) (As := []) K (c_X12_ends (E := E) (B := B) (N := N) (a := e97) (n := n) (F := F2_97)  (cel_ne (cel_self hc0.1) (by decide)) (cel_ne (cel_ne hc1 (by decide)) (by decide)) (by exact ha97) (by omega) (by omega) hq3) gX12_readsPerson_X12_ends rfl (na := 0) (by decide +kernel) rfl ⟨(Nat.le_of_ble_eq_true rfl), (Nat.le_of_ble_eq_true rfl)⟩ (cel_ne (cel_self hc0.1) (by decide)) rfl (st := []) rfl (Nat.le_of_ble_eq_true rfl) ⟨(Nat.le_of_ble_eq_true rfl), (Nat.le_of_ble_eq_true rfl)⟩ dX12_readsPerson_143 (fun r143 N143 w143 hpo143 hN143 => ?_)
                obtain ⟨rfl, res_143, F2_143, V2_143, hp143_0, hp143_1, rfl, rfl⟩ := hpo143
                refine x_v (w := (va_up (va_up v 161 (oM B F2_143 V2_143)) 171 (iarr E 138 (perR r (kdT t n a, x64, x87, x97))))) (up_at1 (by decide)).symm ?_
                refine x_st (st' := [.int (zI res_143)]) rfl ?_
                have hn143 : nxF 1 F F2_143 := nxF_t hn97 (fun k a0 b0 c0 d0 e0 f0 => hp143_0 k a0 b0 c0 d0 (by omega) (by omega)) (by omega)
                refine x_zret (pc := 146) K KR (by omega) (Nat.le_of_ble_eq_true rfl) (Nat.le_of_ble_eq_true rfl) (nb_ok (by omega)) dX12_readsPerson_146 ?_
                have hv : pP t n r b a = pThen (pSig t n e97) fun _ e => .ok (perR r (kdT t n a, x64, x87, x97), e) := by
                  unfold pP pPer; rw [if_pos (by omega), if_neg (by omega)]; rw [pThen_ok hx64, pThen_ok hx87, pThen_ok hx97]
                  cases pSig t n e97 <;> rfl
                rcases hp143_1 with ⟨x7, e7, hx7, hr7, ha7, hf7⟩ | ⟨f2, p2, hx2, hr2, hf2, hp2, hl2⟩
                · exact ⟨rfl, res_143, F2_143, V2_143, (perR r (kdT t n a, x64, x87, x97)), hn143, (Or.inl ⟨_, e7, by rw [hv, pThen_ok hx7], hr7, ha7, by rw [hf7, hf97, hf87, hf64, va_up_self, hf55, ho34.2.2, hf18], rfl⟩), rfl, rfl⟩
                · exact ⟨rfl, res_143, F2_143, V2_143, (perR r (kdT t n a, x64, x87, x97)), hn143, (Or.inr ⟨f2, p2, by rw [hv, pThen_err hx2], hr2, hf2, hp2, hl2⟩), rfl, rfl⟩
              · skip
                obtain ⟨f2, p2, hx2, -, hf2, hp2, hl2⟩ := hp97_1.resolve_left (fun ⟨_, _, _, q, _⟩ => by omega)
                refine x_iconst (pc := 103) K dX12_readsPerson_103 ?_
                refine x_zret (pc := 104) K KR (by omega) (Nat.le_of_ble_eq_true rfl) (Nat.le_of_ble_eq_true rfl) rfl dX12_readsPerson_104 ?_
                exact ⟨rfl, 0, F2_97, V2_97, (va_up (va_up r (((5 + z1)).toNat) res_34) (((10 + z1)).toNat) V2_64), hn97, (Or.inr ⟨f2, p2, by unfold pP pPer; rw [if_pos (by omega), if_neg (by omega)]; rw [pThen_ok hx64, pThen_ok hx87, pThen_err hx2]; rfl, rfl, hf2, hp2, hl2⟩), rfl, rfl⟩
          · skip
            obtain ⟨f2, p2, hx2, -, hf2, hp2, hl2⟩ := hp64_1.resolve_left (fun ⟨_, _, _, q, _⟩ => by omega)
            refine x_iconst (pc := 70) K dX12_readsPerson_70 ?_
            refine x_zret (pc := 71) K KR (by omega) (Nat.le_of_ble_eq_true rfl) (Nat.le_of_ble_eq_true rfl) rfl dX12_readsPerson_71 ?_
            exact ⟨rfl, 0, F2_64, V2_64, (va_up r (((5 + z1)).toNat) res_34), hn64, (Or.inr ⟨f2, p2, by unfold pP pPer; rw [if_pos (by omega), if_neg (by omega)]; rw [pThen_err hx2]; rfl, rfl, hf2, hp2, hl2⟩), rfl, rfl⟩
    · skip
      exfalso; omega
