theorem dX12_reads_0 : decode cX12_reads 0 = .ok (.iconst 0, 1) := by decide +kernel
theorem dX12_reads_1 : decode cX12_reads 1 = .ok (.istore_n 1, 1) := by decide +kernel
theorem dX12_reads_2 : decode cX12_reads 2 = .ok (.iload_n 1, 1) := by decide +kernel
theorem dX12_reads_3 : decode cX12_reads 3 = .ok (.sipush 138, 3) := by decide +kernel
theorem dX12_reads_6 : decode cX12_reads 6 = .ok (.if_icmp .ge 16, 3) := by decide +kernel
theorem dX12_reads_22 : decode cX12_reads 22 = .ok (.aload_n 0, 1) := by decide +kernel
theorem dX12_reads_23 : decode cX12_reads 23 = .ok (.iconst 0, 1) := by decide +kernel
theorem dX12_reads_24 : decode cX12_reads 24 = .ok (.putfield 142, 3) := by decide +kernel
theorem dX12_reads_27 : decode cX12_reads 27 = .ok (.aload_n 0, 1) := by decide +kernel
theorem dX12_reads_28 : decode cX12_reads 28 = .ok (.iconst 0, 1) := by decide +kernel
theorem dX12_reads_29 : decode cX12_reads 29 = .ok (.putfield 88, 3) := by decide +kernel
theorem dX12_reads_32 : decode cX12_reads 32 = .ok (.aload_n 0, 1) := by decide +kernel
set_option maxRecDepth 20000 in
theorem ggX12_reads_X12_posts : GoodIn wsX12_reads wsX12_posts := goodIn_r _ [9, 4, 10, 11, 1, 12, 13, 14, 8, 15, 3, 16, 17, 18, 19, 20, 21, 22, 23, 24, 25, 26, 27, 28, 29, 30, 31, 32, 33, 34, 35, 36, 37, 38, 39, 40, 41, 42, 43, 44, 45, 83, 84, 85, 86, 87, 88, 89, 90, 91, 92, 93, 94, 95, 96, 97, 98, 99, 100, 101, 102, 103, 104, 105, 106, 107, 108] (by decide +kernel) (by decide +kernel)
set_option maxRecDepth 20000 in
theorem gX12_reads_X12_posts : GoodIn wsX12_reads (wsV RX12 167 RX12 yX12_posts wsX12_posts) := goodIn_app (goodIn_of _ (by decide +kernel)) ggX12_reads_X12_posts
theorem dX12_reads_33 : decode cX12_reads 33 = .ok (.invokevirtual 167, 3) := by decide +kernel
theorem dX12_reads_36 : decode cX12_reads 36 = .ok (.ifCond .ne 5, 3) := by decide +kernel
theorem dX12_reads_41 : decode cX12_reads 41 = .ok (.iconst 1, 1) := by decide +kernel
theorem dX12_reads_42 : decode cX12_reads 42 = .ok (.istore_n 1, 1) := by decide +kernel
theorem dX12_reads_43 : decode cX12_reads 43 = .ok (.aload_n 0, 1) := by decide +kernel
set_option maxRecDepth 20000 in
theorem ggX12_reads_X12_next : GoodIn wsX12_reads wsX12_next := goodIn_r _ [15, 3, 16, 17, 18, 4, 10, 19, 20, 21, 22, 23, 24, 25, 8, 26, 27, 28, 29, 30, 31, 32, 83, 84, 85, 86, 87, 88, 89, 90, 91, 92, 93, 94, 95, 96, 97, 98, 99, 100, 101, 102, 103, 104, 105, 106, 107, 108] (by decide +kernel) (by decide +kernel)
set_option maxRecDepth 20000 in
theorem gX12_reads_X12_next : GoodIn wsX12_reads (wsV RX12 115 RX12 yX12_next wsX12_next) := goodIn_app (goodIn_of _ (by decide +kernel)) ggX12_reads_X12_next
theorem dX12_reads_44 : decode cX12_reads 44 = .ok (.invokevirtual 115, 3) := by decide +kernel
theorem dX12_reads_47 : decode cX12_reads 47 = .ok (.aload_n 0, 1) := by decide +kernel
theorem dX12_reads_48 : decode cX12_reads 48 = .ok (.getfield 100, 3) := by decide +kernel
theorem dX12_reads_51 : decode cX12_reads 51 = .ok (.ifCond .eq 73, 3) := by decide +kernel
theorem dX12_reads_124 : decode cX12_reads 124 = .ok (.iconst 1, 1) := by decide +kernel
theorem dX12_reads_125 : decode cX12_reads 125 = .ok (.ireturn, 1) := by decide +kernel
theorem dX12_reads_54 : decode cX12_reads 54 = .ok (.aload_n 0, 1) := by decide +kernel
set_option maxRecDepth 20000 in
theorem ggX12_reads_X12_begins : GoodIn wsX12_reads wsX12_begins := goodIn_r _ [49, 4, 10, 50, 51, 52, 83, 84, 85, 86, 87, 88, 89, 90, 91, 92, 93, 94, 95, 96, 97, 98, 99, 100, 101, 102, 103, 104, 105, 106, 107, 108] (by decide +kernel) (by decide +kernel)
set_option maxRecDepth 20000 in
theorem gX12_reads_X12_begins : GoodIn wsX12_reads (wsV RX12 170 RX12 yX12_begins wsX12_begins) := goodIn_app (goodIn_of _ (by decide +kernel)) ggX12_reads_X12_begins
theorem dX12_reads_55 : decode cX12_reads 55 = .ok (.invokevirtual 170, 3) := by decide +kernel
theorem dX12_reads_58 : decode cX12_reads 58 = .ok (.istore_n 2, 1) := by decide +kernel
theorem dX12_reads_59 : decode cX12_reads 59 = .ok (.aload_n 0, 1) := by decide +kernel
theorem dX12_reads_60 : decode cX12_reads 60 = .ok (.iload_n 2, 1) := by decide +kernel
theorem dX12_reads_61 : decode cX12_reads 61 = .ok (.iload_n 1, 1) := by decide +kernel
theorem dX12_reads_62 : decode cX12_reads 62 = .ok (.if_icmp .lt 7, 3) := by decide +kernel
theorem dX12_reads_69 : decode cX12_reads 69 = .ok (.iconst 0, 1) := by decide +kernel
set_option maxRecDepth 20000 in
theorem ggX12_reads_X12_mustBe : GoodIn wsX12_reads wsX12_mustBe := goodIn_r _ [36, 37, 83, 84, 85, 86, 87, 88, 89, 90, 91, 92, 93, 94, 95, 96, 97, 98, 99, 100, 101, 102, 103, 104, 105, 106, 107, 108] (by decide +kernel) (by decide +kernel)
set_option maxRecDepth 20000 in
theorem gX12_reads_X12_mustBe : GoodIn wsX12_reads (wsV RX12 121 RX12 yX12_mustBe wsX12_mustBe) := goodIn_app (goodIn_of _ (by decide +kernel)) ggX12_reads_X12_mustBe
theorem dX12_reads_70 : decode cX12_reads 70 = .ok (.invokevirtual 121, 3) := by decide +kernel
theorem dX12_reads_73 : decode cX12_reads 73 = .ok (.ifCond .eq 40, 3) := by decide +kernel
theorem dX12_reads_113 : decode cX12_reads 113 = .ok (.iconst 0, 1) := by decide +kernel
theorem dX12_reads_114 : decode cX12_reads 114 = .ok (.ireturn, 1) := by decide +kernel
theorem dX12_reads_65 : decode cX12_reads 65 = .ok (.iconst 1, 1) := by decide +kernel
theorem dX12_reads_66 : decode cX12_reads 66 = .ok (.goto 4, 3) := by decide +kernel
theorem dX12_reads_76 : decode cX12_reads 76 = .ok (.iload_n 2, 1) := by decide +kernel
theorem dX12_reads_77 : decode cX12_reads 77 = .ok (.iconst 1, 1) := by decide +kernel
theorem dX12_reads_78 : decode cX12_reads 78 = .ok (.if_icmp .ne 13, 3) := by decide +kernel
theorem dX12_reads_91 : decode cX12_reads 91 = .ok (.iload_n 2, 1) := by decide +kernel
theorem dX12_reads_92 : decode cX12_reads 92 = .ok (.iconst 2, 1) := by decide +kernel
theorem dX12_reads_93 : decode cX12_reads 93 = .ok (.if_icmp .ne 13, 3) := by decide +kernel
theorem dX12_reads_106 : decode cX12_reads 106 = .ok (.aload_n 0, 1) := by decide +kernel
set_option maxRecDepth 20000 in
theorem ggX12_reads_X12_readsPerson : GoodIn wsX12_reads wsX12_readsPerson := goodIn_r _ [73, 1, 10, 57, 58, 59, 60, 8, 61, 37, 74, 75, 76, 77, 4, 78, 79, 80, 81, 82, 12, 13, 14, 15, 3, 16, 17, 18, 19, 20, 21, 22, 23, 24, 25, 26, 27, 28, 29, 30, 31, 32, 33, 34, 35, 36, 38, 39, 40, 41, 62, 63, 64, 65, 42, 43, 44, 45, 83, 84, 85, 86, 87, 88, 89, 90, 91, 92, 93, 94, 95, 96, 97, 98, 99, 100, 101, 102, 103, 104, 105, 106, 107, 108] (by decide +kernel) (by decide +kernel)
set_option maxRecDepth 20000 in
theorem gX12_reads_X12_readsPerson : GoodIn wsX12_reads (wsV RX12 179 RX12 yX12_readsPerson wsX12_readsPerson) := goodIn_app (goodIn_of _ (by decide +kernel)) ggX12_reads_X12_readsPerson
theorem dX12_reads_107 : decode cX12_reads 107 = .ok (.invokevirtual 179, 3) := by decide +kernel
theorem dX12_reads_110 : decode cX12_reads 110 = .ok (.ifCond .ne 5, 3) := by decide +kernel
theorem dX12_reads_115 : decode cX12_reads 115 = .ok (.iload_n 2, 1) := by decide +kernel
theorem dX12_reads_116 : decode cX12_reads 116 = .ok (.istore_n 1, 1) := by decide +kernel
theorem dX12_reads_117 : decode cX12_reads 117 = .ok (.aload_n 0, 1) := by decide +kernel
theorem dX12_reads_118 : decode cX12_reads 118 = .ok (.invokevirtual 115, 3) := by decide +kernel
theorem dX12_reads_121 : decode cX12_reads 121 = .ok (.goto (-74), 3) := by decide +kernel
theorem dX12_reads_96 : decode cX12_reads 96 = .ok (.aload_n 0, 1) := by decide +kernel
set_option maxRecDepth 20000 in
theorem ggX12_reads_X12_readsGuard : GoodIn wsX12_reads wsX12_readsGuard := goodIn_r _ [69, 2, 1, 57, 58, 59, 60, 8, 61, 37, 62, 63, 64, 65, 10, 38, 39, 40, 41, 4, 12, 13, 14, 15, 3, 16, 17, 18, 19, 20, 21, 22, 23, 24, 25, 26, 27, 28, 29, 30, 31, 32, 42, 43, 44, 45, 33, 34, 35, 36, 83, 84, 85, 86, 87, 88, 89, 90, 91, 92, 93, 94, 95, 96, 97, 98, 99, 100, 101, 102, 103, 104, 105, 106, 107, 108] (by decide +kernel) (by decide +kernel)
set_option maxRecDepth 20000 in
theorem gX12_reads_X12_readsGuard : GoodIn wsX12_reads (wsV RX12 176 RX12 yX12_readsGuard wsX12_readsGuard) := goodIn_app (goodIn_of _ (by decide +kernel)) ggX12_reads_X12_readsGuard
theorem dX12_reads_97 : decode cX12_reads 97 = .ok (.invokevirtual 176, 3) := by decide +kernel
theorem dX12_reads_100 : decode cX12_reads 100 = .ok (.ifCond .eq 13, 3) := by decide +kernel
theorem dX12_reads_103 : decode cX12_reads 103 = .ok (.goto 12, 3) := by decide +kernel
theorem dX12_reads_81 : decode cX12_reads 81 = .ok (.aload_n 0, 1) := by decide +kernel
set_option maxRecDepth 20000 in
theorem ggX12_reads_X12_readsVillage : GoodIn wsX12_reads wsX12_readsVillage := goodIn_r _ [56, 1, 57, 10, 58, 59, 60, 8, 61, 37, 62, 63, 64, 65, 38, 39, 40, 41, 4, 12, 13, 14, 15, 3, 16, 17, 18, 19, 20, 21, 22, 23, 24, 25, 26, 27, 28, 29, 30, 31, 32, 42, 43, 44, 45, 33, 34, 35, 36, 83, 84, 85, 86, 87, 88, 89, 90, 91, 92, 93, 94, 95, 96, 97, 98, 99, 100, 101, 102, 103, 104, 105, 106, 107, 108] (by decide +kernel) (by decide +kernel)
set_option maxRecDepth 20000 in
theorem gX12_reads_X12_readsVillage : GoodIn wsX12_reads (wsV RX12 173 RX12 yX12_readsVillage wsX12_readsVillage) := goodIn_app (goodIn_of _ (by decide +kernel)) ggX12_reads_X12_readsVillage
theorem dX12_reads_82 : decode cX12_reads 82 = .ok (.invokevirtual 173, 3) := by decide +kernel
theorem dX12_reads_85 : decode cX12_reads 85 = .ok (.ifCond .eq 28, 3) := by decide +kernel
theorem dX12_reads_88 : decode cX12_reads 88 = .ok (.goto 27, 3) := by decide +kernel
theorem dX12_reads_39 : decode cX12_reads 39 = .ok (.iconst 0, 1) := by decide +kernel
theorem dX12_reads_40 : decode cX12_reads 40 = .ok (.ireturn, 1) := by decide +kernel
theorem dX12_reads_9 : decode cX12_reads 9 = .ok (.aload_n 0, 1) := by decide +kernel
theorem dX12_reads_10 : decode cX12_reads 10 = .ok (.getfield 38, 3) := by decide +kernel
theorem dX12_reads_13 : decode cX12_reads 13 = .ok (.iload_n 1, 1) := by decide +kernel
theorem dX12_reads_14 : decode cX12_reads 14 = .ok (.iconst 0, 1) := by decide +kernel
theorem dX12_reads_15 : decode cX12_reads 15 = .ok (.iastore, 1) := by decide +kernel
theorem dX12_reads_16 : decode cX12_reads 16 = .ok (.iinc 1 1, 3) := by decide +kernel
theorem dX12_reads_19 : decode cX12_reads 19 = .ok (.goto (-17), 3) := by decide +kernel
set_option maxRecDepth 100000 in
set_option maxHeartbeats 4000000 in
theorem c_X12_reads {E : XE} {B N : Nat} {v : Nat → va_E} {F t r : Nat → Int} {V : Int} {n : Nat} (hc0 : Cel N v 161 (oM B F V)) (hc1 : Cel N v 165 (iarr E 400 t)) (hc2 : Cel N v 171 (iarr E 138 r)) (hq0 : F 19 = (n : Int)) (hq1 : n ≤ 400) (hq2 : ∀ i : Nat, 0 ≤ t i ∧ t i ≤ 255) : gM yX12_reads wsX12_reads ({ frames := 6, cells := 0, slots := 0, locals := 129 }) E B N v [.ref (B + 161)] (po0 N (fun ρ v' => ∃ (res : Int), ∃ (F2 : Nat → Int), ∃ (V2 : Int), ∃ (r2 : Nat → Int), (nxF 2 F F2) ∧ ((∃ (x2 : Nat → Int), pAll t n = .ok x2 ∧ res = 1 ∧ F2 6 = F 6 ∧ r2 = x2 ∧ rOk x2) ∨ (∃ (f2 : Int) (p2 : Nat), pAll t n = .error (f2, p2) ∧ res = 0 ∧ F2 6 = f2 ∧ F2 16 = (p2 : Int) ∧ p2 ≤ n)) ∧ ρ = some (.int (zI res)) ∧ (va_up (va_up v 161 (oM B F2 V2)) 171 (iarr E 138 r2)) = v')) := by
  refine x_met (nm := "reads") (by decide +kernel) rfl (Nat.le_of_ble_eq_true rfl) rfl (fun Γ K KR hnL hnm => ?_)
  show XW Γ N v [(0, .ref (B + 161))] 0 0 0 []
  refine x_v (cel_pad hc0) ?_
  refine x_v (cel_pad (cel_ne hc2 (by decide))) ?_
  refine x_iconst (pc := 0) K dX12_reads_0 ?_
  refine x_istore_n (pc := 1) K (L' := [(1, .int (zI 0)), (0, .ref (B + 161))]) hnL rfl (by decide) rfl dX12_reads_1 ?_
  have LOOP2 : ∀ (n_2 : Nat) (k : Nat) (r0 : Nat → Int), (k ≤ 138) → (∀ j, j < k → r0 j = 0) → (138 - k) < n_2 → XW Γ N (va_up (va_up v 161 (oM B F V)) 171 (iarr E 138 r0)) [(0, .ref (B + 161)), (1, .int (zI (k : Int)))] 0 0 2 [] := by
    intro n_2
    induction n_2 with
    | zero =>
      intro k r0 hi2_0 hi2_1 hm_2
      exfalso; omega
    | succ n_2 ih2 =>
      intro k r0 hi2_0 hi2_1 hm_2
      refine x_iload_n (pc := 2) 1 K rfl rfl dX12_reads_2 ?_
      refine x_sipush (pc := 3) K (by decide) dX12_reads_3 ?_
      refine x_icmp_ge (pc := 6) (tgt := 22) K (by omega) (by decide) dX12_reads_6 (by decide) (fun h_6 => ?_) (fun h_6 => ?_)
      · skip
        have hk : k = 138 := by omega
        rw [hk] at hi2_1
        refine x_iext (c := 171) (g' := (fun _ => (0 : Int))) K (cel_self hc2.1) (fun j hj => (hi2_1 j hj).symm) ?_
        refine x_v (w := (va_up (va_up v 161 (oM B F V)) 171 (iarr E 138 (fun _ => (0 : Int))))) (up_at0).symm ?_
        refine x_aload_n (pc := 22) 0 K rfl rfl dX12_reads_22 ?_
        refine x_iconst (pc := 23) K dX12_reads_23 ?_
        refine x_put (pc := 24) (C := RX12) (T := TX12) (n := 26) (ci := 11) (idx := 142) (ref := "BorderBedsModel") (ty := .int)  K (cel_ne (cel_self hc0.1) (by decide)) rfl (by decide +kernel) tyX12 tyX12_ok nmX12 21 (by decide) (by decide +kernel) rfl rfl (by decide +kernel) rfl rfl (Nat.le_of_ble_eq_true rfl) dX12_reads_24 ?_
        refine x_v (w := (va_up (va_up v 161 (oM B (va_up F 21 0) V)) 171 (iarr E 138 (fun _ => (0 : Int))))) (up_at1 (by decide)).symm ?_
        refine x_aload_n (pc := 27) 0 K rfl rfl dX12_reads_27 ?_
        refine x_iconst (pc := 28) K dX12_reads_28 ?_
        refine x_put (pc := 29) (C := RX12) (T := TX12) (n := 26) (ci := 11) (idx := 88) (ref := "BorderBedsModel") (ty := .int)  K (cel_ne (cel_self hc0.1) (by decide)) rfl (by decide +kernel) tyX12 tyX12_ok nmX12 15 (by decide) (by decide +kernel) rfl rfl (by decide +kernel) rfl rfl (Nat.le_of_ble_eq_true rfl) dX12_reads_29 ?_
        refine x_v (w := (va_up (va_up v 161 (oM B (va_up (va_up F 15 0) 21 0) V)) 171 (iarr E 138 (fun _ => (0 : Int))))) (up_at1 (by decide)).symm ?_
        refine x_aload_n (pc := 32) 0 K rfl rfl dX12_reads_32 ?_
        refine x_callV (pc := 33) (C := RX12) (T := TX12) (n := 26) (ci := 11) (As := []) K (c_X12_posts (E := E) (B := B) (N := N) (n := n) (F := (va_up (va_up F 15 0) 21 0))  (cel_ne (cel_self hc0.1) (by decide)) (cel_ne (cel_ne hc1 (by decide)) (by decide)) (cel_self hc2.1) (by rw [va_up_ne _ _ (by omega), va_up_self]; rfl) (by (repeat rw [va_up_ne _ _ (by omega)]); exact hq0) hq1 hq2) gX12_reads_X12_posts rfl (na := 0) (by decide +kernel) rfl ⟨(Nat.le_of_ble_eq_true rfl), (Nat.le_of_ble_eq_true rfl)⟩ (cel_ne (cel_self hc0.1) (by decide)) rfl (st := []) rfl (Nat.le_of_ble_eq_true rfl) ⟨(Nat.le_of_ble_eq_true rfl), (Nat.le_of_ble_eq_true rfl)⟩ dX12_reads_33 (fun r33 N33 w33 hpo33 hN33 => ?_)
        obtain ⟨rfl, res_33, F2_33, V2_33, r2_33, hp33_0, hp33_1, rfl, rfl⟩ := hpo33
        refine x_v (congrArg (fun w => (va_up w 171 (iarr E 138 r2_33))) (show (va_up (va_up v 161 (oM B F2_33 V2_33)) 171 (iarr E 138 (fun _ => (0 : Int)))) = _ from (up_at1 (by decide)).symm)) ?_
        refine x_v (w := (va_up (va_up v 161 (oM B F2_33 V2_33)) 171 (iarr E 138 r2_33))) (up_at0).symm ?_
        refine x_st (st' := [.int (zI res_33)]) rfl ?_
        have hn33 : nxF 2 F F2_33 := fun k a0 b0 c0 d0 e0 f0 => (hp33_0 k a0 b0 c0 d0 (by omega) (by omega)).trans (by (repeat rw [va_up_ne _ _ (by omega)]))
        have n19_33 := hn33 19 (by omega) (by omega) (by omega) (by omega) (by omega) (by omega)
        have n21_33 := (hp33_0 21 (by omega) (by omega) (by omega) (by omega) (by omega) (by omega)).trans (va_up_self _ _ _)
        refine x_if_ne (pc := 36) (tgt := 41) K (by omega) dX12_reads_36 (by decide) (fun h_36 => ?_) (fun h_36 => ?_)
        · skip
          obtain ⟨x33, e33, hx33, -, ha33, hf33, hr33⟩ := hp33_1.resolve_right (fun ⟨_, _, _, q, _⟩ => by omega)
          have hpo := pPost_ok hx33
          subst hr33
          refine x_iconst (pc := 41) K dX12_reads_41 ?_
          refine x_istore_n (pc := 42) K (L' := [(1, .int (zI 1)), (0, .ref (B + 161))]) hnL rfl (by decide) rfl dX12_reads_42 ?_
          refine x_aload_n (pc := 43) 1 K rfl rfl dX12_reads_43 ?_
          refine x_callV (pc := 44) (C := RX12) (T := TX12) (n := 26) (ci := 11) (As := []) K (c_X12_next (E := E) (B := B) (N := N) (a := e33) (n := n) (F := F2_33)  (cel_ne (cel_self hc0.1) (by decide)) (cel_ne (cel_ne hc1 (by decide)) (by decide)) (by exact ha33) (by omega) (by omega) hq2) gX12_reads_X12_next rfl (na := 0) (by decide +kernel) rfl ⟨(Nat.le_of_ble_eq_true rfl), (Nat.le_of_ble_eq_true rfl)⟩ (cel_ne (cel_self hc0.1) (by decide)) rfl (st := []) rfl (Nat.le_of_ble_eq_true rfl) ⟨(Nat.le_of_ble_eq_true rfl), (Nat.le_of_ble_eq_true rfl)⟩ dX12_reads_44 (fun r44 N44 w44 hpo44 hN44 => ?_)
          obtain ⟨rfl, rfl, rfl⟩ := hpo44
          refine x_v (w := (va_up (va_up v 161 (oM B (va_up (va_up (va_up F2_33 15 (tokE t n e33 : Int)) 16 (skT t n e33 : Int)) 17 (tokK t n e33)) (tokV t n e33))) 171 (iarr E 138 r2_33))) (up_at1 (by decide)).symm ?_
          refine x_st (st' := []) rfl ?_
          have LOOP47 : ∀ (n_47 : Nat) (fu0 : Nat) (ahead : Int) (r1 : Nat → Int) (g1 : Int) (a1 : Nat) (F3 : Nat → Int) (V3 : Int), (pAll t n = pLoop t n fu0 ahead r1 g1 a1) → (a1 ≤ n ∧ n + 1 ≤ fu0 + a1 ∧ 1 ≤ ahead ∧ ahead ≤ 3 ∧ F3 6 = F 6) → (nxF 2 F F3) → (F3 15 = (tokE t n a1 : Int) ∧ F3 16 = (skT t n a1 : Int) ∧ F3 17 = tokK t n a1 ∧ V3 = tokV t n a1) → (rOk r1 ∧ True) → (F3 21 = g1 ∧ 0 ≤ g1 ∧ g1 ≤ 8) → (n + 1 - a1) < n_47 → XW Γ N (va_up (va_up v 161 (oM B F3 V3)) 171 (iarr E 138 r1)) [(0, .ref (B + 161)), (1, .int (zI ahead))] 0 0 47 [] := by
            intro n_47
            induction n_47 with
            | zero =>
              intro fu0 ahead r1 g1 a1 F3 V3 hi47_0 hi47_1 hi47_2 hi47_3 hi47_4 hi47_5 hm_47
              exfalso; omega
            | succ n_47 ih47 =>
              intro fu0 ahead r1 g1 a1 F3 V3 hi47_0 hi47_1 hi47_2 hi47_3 hi47_4 hi47_5 hm_47
              obtain ⟨fu, rfl⟩ : ∃ k, fu0 = k + 1 := ⟨fu0 - 1, by omega⟩
              have hkr := tokK_rng t n a1
              have hbr := bgT_rng t n a1
              have her := tokE_rng (t := t) hi47_1.1
              have hsr := skT_le (t := t) hi47_1.1
              have hvr := tokV_rng (n := n) (a := a1) hq2
              have n19_47 := hi47_2 19 (by omega) (by omega) (by omega) (by omega) (by omega) (by omega)
              refine x_aload_n (pc := 47) 0 K rfl rfl dX12_reads_47 ?_
              refine x_get (pc := 48) (C := RX12) (T := TX12) (n := 26) (ci := 11) (idx := 100) (ref := "BorderBedsModel") (x := .int (zI (F3 17)))  K (cel_ne (cel_self hc0.1) (by decide)) rfl (by decide +kernel) 17 (by decide) (by decide +kernel) rfl rfl dX12_reads_48 ?_
              refine x_if_eq (pc := 51) (tgt := 124) K (by omega) dX12_reads_51 (by decide) (fun h_51 => ?_) (fun h_51 => ?_)
              · skip
                have hln := pLoop_0 (f := fu) (ahead := ahead) (g := g1) (r := r1) (show tokK t n a1 = 0 by omega)
                rw [← hi47_0] at hln
                refine x_iconst (pc := 124) K dX12_reads_124 ?_
                refine x_zret (pc := 125) K KR (by omega) (Nat.le_of_ble_eq_true rfl) (Nat.le_of_ble_eq_true rfl) rfl dX12_reads_125 ?_
                exact ⟨rfl, 1, F3, V3, r1, hi47_2, (Or.inl ⟨r1, hln, rfl, hi47_1.2.2.2.2, rfl, hi47_4.1⟩), rfl, rfl⟩
              · skip
                refine x_aload_n (pc := 54) 0 K rfl rfl dX12_reads_54 ?_
                refine x_callV (pc := 55) (C := RX12) (T := TX12) (n := 26) (ci := 11) (As := []) K (c_X12_begins (E := E) (B := B) (N := N)   (cel_ne (cel_self hc0.1) (by decide)) (by omega) (by omega)) gX12_reads_X12_begins rfl (na := 0) (by decide +kernel) rfl ⟨(Nat.le_of_ble_eq_true rfl), (Nat.le_of_ble_eq_true rfl)⟩ (cel_ne (cel_self hc0.1) (by decide)) rfl (st := []) rfl (Nat.le_of_ble_eq_true rfl) ⟨(Nat.le_of_ble_eq_true rfl), (Nat.le_of_ble_eq_true rfl)⟩ dX12_reads_55 (fun r55 N55 w55 hpo55 hN55 => ?_)
                obtain ⟨rfl, res_55, hp55_0, rfl, rfl⟩ := hpo55
                refine x_st (st' := [.int (zI res_55)]) rfl ?_
                have hbg : res_55 = bgT t n a1 := by rw [hp55_0]; unfold bgT; rw [hi47_3.2.2.1, hi47_3.2.2.2]
                refine x_istore_n (pc := 58) K (L' := [(2, .int (zI res_55)), (0, .ref (B + 161)), (1, .int (zI ahead))]) hnL rfl (by decide) rfl dX12_reads_58 ?_
                refine x_aload_n (pc := 59) 1 K rfl rfl dX12_reads_59 ?_
                refine x_iload_n (pc := 60) 0 K rfl rfl dX12_reads_60 ?_
                refine x_iload_n (pc := 61) 2 K rfl rfl dX12_reads_61 ?_
                refine x_icmp_lt (pc := 62) (tgt := 69) K (by omega) (by omega) dX12_reads_62 (by decide) (fun h_62 => ?_) (fun h_62 => ?_)
                · skip
                  refine x_iconst (pc := 69) K dX12_reads_69 ?_
                  refine x_callV (pc := 70) (C := RX12) (T := TX12) (n := 26) (ci := 11) (As := [.int (zI 0)]) K (c_X12_mustBe (E := E) (B := B) (N := N)   (cel_ne (cel_self hc0.1) (by decide)) (by omega)) gX12_reads_X12_mustBe rfl (na := 1) (by decide +kernel) rfl ⟨(Nat.le_of_ble_eq_true rfl), (Nat.le_of_ble_eq_true rfl)⟩ (cel_ne (cel_self hc0.1) (by decide)) rfl (st := []) rfl (Nat.le_of_ble_eq_true rfl) ⟨(Nat.le_of_ble_eq_true rfl), (Nat.le_of_ble_eq_true rfl)⟩ dX12_reads_70 (fun r70 N70 w70 hpo70 hN70 => ?_)
                  obtain ⟨rfl, f2_70, hp70_0, rfl, rfl⟩ := hpo70
                  refine x_v (w := (va_up (va_up v 161 (oM B (va_up F3 6 f2_70) V3)) 171 (iarr E 138 r1))) (up_at1 (by decide)).symm ?_
                  refine x_st (st' := [.int (zI 0)]) rfl ?_
                  have hf70 : f2_70 = 1 := by rw [hp70_0]; first | exact (if_pos rfl).trans hi47_1.2.2.2.2 | exact if_neg (by omega)
                  refine x_if_eq (pc := 73) (tgt := 113) K (by omega) dX12_reads_73 (by decide) (fun h_73 => ?_) (fun h_73 => ?_)
                  · skip
                    have hln := pLoop_low (f := fu) (g := g1) (r := r1) (show tokK t n a1 ≠ 0 by omega) (show bgT t n a1 < ahead by omega)
                    rw [← hi47_0] at hln
                    refine x_iconst (pc := 113) K dX12_reads_113 ?_
                    refine x_zret (pc := 114) K KR (by omega) (Nat.le_of_ble_eq_true rfl) (Nat.le_of_ble_eq_true rfl) rfl dX12_reads_114 ?_
                    exact ⟨rfl, 0, (va_up F3 6 f2_70), V3, r1, (nxF_u hi47_2 (by omega) (by omega)), (Or.inr ⟨1, skT t n a1, hln, rfl, by rw [va_up_self]; exact hf70, by rw [va_up_ne _ _ (by omega)]; exact hi47_3.2.1, hsr.2⟩), rfl, rfl⟩
                  · skip
                    exfalso; omega
                · skip
                  refine x_iconst (pc := 65) K dX12_reads_65 ?_
                  refine x_goto (pc := 66) (tgt := 70) K dX12_reads_66 (by decide) ?_
                  refine x_callV (pc := 70) (C := RX12) (T := TX12) (n := 26) (ci := 11) (As := [.int (zI 1)]) K (c_X12_mustBe (E := E) (B := B) (N := N)   (cel_ne (cel_self hc0.1) (by decide)) (by omega)) gX12_reads_X12_mustBe rfl (na := 1) (by decide +kernel) rfl ⟨(Nat.le_of_ble_eq_true rfl), (Nat.le_of_ble_eq_true rfl)⟩ (cel_ne (cel_self hc0.1) (by decide)) rfl (st := []) rfl (Nat.le_of_ble_eq_true rfl) ⟨(Nat.le_of_ble_eq_true rfl), (Nat.le_of_ble_eq_true rfl)⟩ dX12_reads_70 (fun r70 N70 w70 hpo70 hN70 => ?_)
                  obtain ⟨rfl, f2_70, hp70_0, rfl, rfl⟩ := hpo70
                  refine x_v (w := (va_up (va_up v 161 (oM B (va_up F3 6 f2_70) V3)) 171 (iarr E 138 r1))) (up_at1 (by decide)).symm ?_
                  refine x_st (st' := [.int (zI 1)]) rfl ?_
                  have hf70 : f2_70 = F 6 := by rw [hp70_0]; first | exact (if_pos rfl).trans hi47_1.2.2.2.2 | exact if_neg (by omega)
                  refine x_if_eq (pc := 73) (tgt := 113) K (by omega) dX12_reads_73 (by decide) (fun h_73 => ?_) (fun h_73 => ?_)
                  · skip
                    exfalso; omega
                  · skip
                    refine x_iload_n (pc := 76) 0 K rfl rfl dX12_reads_76 ?_
                    refine x_iconst (pc := 77) K dX12_reads_77 ?_
                    refine x_icmp_ne (pc := 78) (tgt := 91) K (by omega) (by decide) dX12_reads_78 (by decide) (fun h_78 => ?_) (fun h_78 => ?_)
                    · skip
                      refine x_iload_n (pc := 91) 0 K rfl rfl dX12_reads_91 ?_
                      refine x_iconst (pc := 92) K dX12_reads_92 ?_
                      refine x_icmp_ne (pc := 93) (tgt := 106) K (by omega) (by decide) dX12_reads_93 (by decide) (fun h_93 => ?_) (fun h_93 => ?_)
                      · skip
                        refine x_aload_n (pc := 106) 1 K rfl rfl dX12_reads_106 ?_
                        refine x_callV (pc := 107) (C := RX12) (T := TX12) (n := 26) (ci := 11) (As := []) K (c_X12_readsPerson (E := E) (B := B) (N := N) (a := (tokE t n a1)) (b := (skT t n a1)) (n := n) (r := r1) (F := (va_up F3 6 f2_70))  (cel_ne (cel_self hc0.1) (by decide)) (cel_ne (cel_ne hc1 (by decide)) (by decide)) (cel_self hc2.1) (by (repeat rw [va_up_ne _ _ (by omega)]); exact hi47_3.1) (by (repeat rw [va_up_ne _ _ (by omega)]); omega) (by omega) hq2 (by (repeat rw [va_up_ne _ _ (by omega)]); exact hi47_3.2.1) (by omega) hi47_4.1) gX12_reads_X12_readsPerson rfl (na := 0) (by decide +kernel) rfl ⟨(Nat.le_of_ble_eq_true rfl), (Nat.le_of_ble_eq_true rfl)⟩ (cel_ne (cel_self hc0.1) (by decide)) rfl (st := []) rfl (Nat.le_of_ble_eq_true rfl) ⟨(Nat.le_of_ble_eq_true rfl), (Nat.le_of_ble_eq_true rfl)⟩ dX12_reads_107 (fun r107 N107 w107 hpo107 hN107 => ?_)
                        obtain ⟨rfl, res_107, F2_107, V2_107, r2_107, hp107_0, hp107_1, rfl, rfl⟩ := hpo107
                        refine x_v (congrArg (fun w => (va_up w 171 (iarr E 138 r2_107))) (show (va_up (va_up v 161 (oM B F2_107 V2_107)) 171 (iarr E 138 r1)) = _ from (up_at1 (by decide)).symm)) ?_
                        refine x_v (w := (va_up (va_up v 161 (oM B F2_107 V2_107)) 171 (iarr E 138 r2_107))) (up_at0).symm ?_
                        refine x_st (st' := [.int (zI res_107)]) rfl ?_
                        have hn107 : nxF 2 F F2_107 := nxF_t (nxF_u (m := 2) hi47_2 (j := 6) (x := f2_70) (by omega) (by omega)) (nxF_t hp107_0 (nxF_r 2 _) (by omega)) (by omega)
                        have n19_107 := hn107 19 (by omega) (by omega) (by omega) (by omega) (by omega) (by omega)
                        have n21_107 := (hp107_0 21 (by omega) (by omega) (by omega) (by omega) (by omega) (by omega)).trans (va_up_ne _ _ (by omega))
                        refine x_if_ne (pc := 110) (tgt := 115) K (by omega) dX12_reads_110 (by decide) (fun h_110 => ?_) (fun h_110 => ?_)
                        · skip
                          obtain ⟨x107, e107, hx107, -, ha107, hf107, hr107⟩ := hp107_1.resolve_right (fun ⟨_, _, _, q, _⟩ => by omega)
                          have hit : pItem t n (bgT t n a1) r1 g1 a1 = .ok ((x107, g1), e107) := by unfold pItem; rw [if_neg (show ¬ bgT t n a1 = 1 by omega), if_neg (show ¬ bgT t n a1 = 2 by omega), pThen_ok hx107]
                          have hln := pLoop_ok (f := fu) (by omega) (show ahead ≤ bgT t n a1 by omega) hit
                          rw [← hi47_0] at hln
                          have hrr := pItem_ok hit hi47_4.1 (by omega) (by omega) (by omega)
                          refine x_iload_n (pc := 115) 0 K rfl rfl dX12_reads_115 ?_
                          refine x_istore_n (pc := 116) K (L' := [(1, .int (zI res_55)), (2, .int (zI res_55)), (0, .ref (B + 161))]) hnL rfl (by decide) rfl dX12_reads_116 ?_
                          refine x_aload_n (pc := 117) 2 K rfl rfl dX12_reads_117 ?_
                          refine x_callV (pc := 118) (C := RX12) (T := TX12) (n := 26) (ci := 11) (As := []) K (c_X12_next (E := E) (B := B) (N := N) (a := e107) (n := n) (F := F2_107)  (cel_ne (cel_self hc0.1) (by decide)) (cel_ne (cel_ne hc1 (by decide)) (by decide)) (by exact ha107) (by omega) (by omega) hq2) gX12_reads_X12_next rfl (na := 0) (by decide +kernel) rfl ⟨(Nat.le_of_ble_eq_true rfl), (Nat.le_of_ble_eq_true rfl)⟩ (cel_ne (cel_self hc0.1) (by decide)) rfl (st := []) rfl (Nat.le_of_ble_eq_true rfl) ⟨(Nat.le_of_ble_eq_true rfl), (Nat.le_of_ble_eq_true rfl)⟩ dX12_reads_118 (fun r118 N118 w118 hpo118 hN118 => ?_)
                          obtain ⟨rfl, rfl, rfl⟩ := hpo118
                          refine x_v (w := (va_up (va_up v 161 (oM B (va_up (va_up (va_up F2_107 15 (tokE t n e107 : Int)) 16 (skT t n e107 : Int)) 17 (tokK t n e107)) (tokV t n e107))) 171 (iarr E 138 r2_107))) (up_at1 (by decide)).symm ?_
                          refine x_st (st' := []) rfl ?_
                          refine x_goto (pc := 121) (tgt := 47) K dX12_reads_121 (by decide) ?_
                          refine x_sub (L' := [(0, .ref (B + 161)), (1, .int (zI res_55))]) [2, 0] rfl ?_
                          exact ih47 fu res_55 r2_107 g1 e107 (va_up (va_up (va_up F2_107 15 (tokE t n e107 : Int)) 16 (skT t n e107 : Int)) 17 (tokK t n e107)) (tokV t n e107) (by rw [hbg, hr107]; exact hln) (by (refine ⟨by omega, by omega, by omega, by omega, ?_⟩; (repeat rw [va_up_ne _ _ (by omega)]); rw [hf107, va_up_self, hf70])) (by exact nxF_t hn107 (fun k a0 b0 c0 d0 e0 f0 => by (repeat rw [va_up_ne _ _ (by omega)])) (by omega)) (by refine ⟨?_, ?_, ?_, rfl⟩ <;> rfl) (by exact ⟨by rw [hr107]; exact hrr.1, trivial⟩) (by (refine ⟨?_, by omega, by omega⟩; (repeat rw [va_up_ne _ _ (by omega)]); omega)) (by omega)
                        · skip
                          obtain ⟨f2, p2, hx2, -, hf2, hp2, hl2⟩ := hp107_1.resolve_left (fun ⟨_, _, _, q, _⟩ => by omega)
                          have hit : pItem t n (bgT t n a1) r1 g1 a1 = .error (f2, p2) := by unfold pItem; rw [if_neg (show ¬ bgT t n a1 = 1 by omega), if_neg (show ¬ bgT t n a1 = 2 by omega), pThen_err hx2]
                          have hln := pLoop_err (f := fu) (by omega) (show ahead ≤ bgT t n a1 by omega) hit
                          rw [← hi47_0] at hln
                          refine x_iconst (pc := 113) K dX12_reads_113 ?_
                          refine x_zret (pc := 114) K KR (by omega) (Nat.le_of_ble_eq_true rfl) (Nat.le_of_ble_eq_true rfl) rfl dX12_reads_114 ?_
                          exact ⟨rfl, 0, F2_107, V2_107, r2_107, hn107, (Or.inr ⟨f2, p2, hln, rfl, hf2, hp2, hl2⟩), rfl, rfl⟩
                      · skip
                        refine x_aload_n (pc := 96) 1 K rfl rfl dX12_reads_96 ?_
                        refine x_callV (pc := 97) (C := RX12) (T := TX12) (n := 26) (ci := 11) (As := []) K (c_X12_readsGuard (E := E) (B := B) (N := N) (a := (tokE t n a1)) (b := (skT t n a1)) (n := n) (r := r1) (F := (va_up F3 6 f2_70)) (g := g1)  (cel_ne (cel_self hc0.1) (by decide)) (cel_ne (cel_ne hc1 (by decide)) (by decide)) (cel_self hc2.1) (by (repeat rw [va_up_ne _ _ (by omega)]); exact hi47_3.1) (by (repeat rw [va_up_ne _ _ (by omega)]); omega) (by omega) hq2 (by (repeat rw [va_up_ne _ _ (by omega)]); exact hi47_3.2.1) (by omega) hi47_4.1 (by (repeat rw [va_up_ne _ _ (by omega)]); exact hi47_5)) gX12_reads_X12_readsGuard rfl (na := 0) (by decide +kernel) rfl ⟨(Nat.le_of_ble_eq_true rfl), (Nat.le_of_ble_eq_true rfl)⟩ (cel_ne (cel_self hc0.1) (by decide)) rfl (st := []) rfl (Nat.le_of_ble_eq_true rfl) ⟨(Nat.le_of_ble_eq_true rfl), (Nat.le_of_ble_eq_true rfl)⟩ dX12_reads_97 (fun r97 N97 w97 hpo97 hN97 => ?_)
                        obtain ⟨rfl, res_97, F2_97, V2_97, r2_97, hp97_0, hp97_1, rfl, rfl⟩ := hpo97
                        refine x_v (congrArg (fun w => (va_up w 171 (iarr E 138 r2_97))) (show (va_up (va_up v 161 (oM B F2_97 V2_97)) 171 (iarr E 138 r1)) = _ from (up_at1 (by decide)).symm)) ?_
                        refine x_v (w := (va_up (va_up v 161 (oM B F2_97 V2_97)) 171 (iarr E 138 r2_97))) (up_at0).symm ?_
                        refine x_st (st' := [.int (zI res_97)]) rfl ?_
                        have hn97 : nxF 2 F F2_97 := nxF_t (nxF_u (m := 2) hi47_2 (j := 6) (x := f2_70) (by omega) (by omega)) (nxF_t hp97_0 (nxF_r 2 _) (by omega)) (by omega)
                        have n19_97 := hn97 19 (by omega) (by omega) (by omega) (by omega) (by omega) (by omega)
                        refine x_if_eq (pc := 100) (tgt := 113) K (by omega) dX12_reads_100 (by decide) (fun h_100 => ?_) (fun h_100 => ?_)
                        · skip
                          obtain ⟨f2, p2, hx2, -, hf2, hp2, hl2⟩ := hp97_1.resolve_left (fun ⟨_, _, _, q, _⟩ => by omega)
                          have hit : pItem t n (bgT t n a1) r1 g1 a1 = .error (f2, p2) := by unfold pItem; rw [if_neg (show ¬ bgT t n a1 = 1 by omega), if_pos (show bgT t n a1 = 2 by omega), pThen_err hx2]
                          have hln := pLoop_err (f := fu) (by omega) (show ahead ≤ bgT t n a1 by omega) hit
                          rw [← hi47_0] at hln
                          refine x_iconst (pc := 113) K dX12_reads_113 ?_
                          refine x_zret (pc := 114) K KR (by omega) (Nat.le_of_ble_eq_true rfl) (Nat.le_of_ble_eq_true rfl) rfl dX12_reads_114 ?_
                          exact ⟨rfl, 0, F2_97, V2_97, r2_97, hn97, (Or.inr ⟨f2, p2, hln, rfl, hf2, hp2, hl2⟩), rfl, rfl⟩
                        · skip
                          obtain ⟨x97, e97, hx97, -, ha97, hf97, hr97, hg97⟩ := hp97_1.resolve_right (fun ⟨_, _, _, q, _⟩ => by omega)
                          have hit : pItem t n (bgT t n a1) r1 g1 a1 = .ok ((x97, (g1 + 1)), e97) := by unfold pItem; rw [if_neg (show ¬ bgT t n a1 = 1 by omega), if_pos (show bgT t n a1 = 2 by omega), pThen_ok hx97]
                          have hln := pLoop_ok (f := fu) (by omega) (show ahead ≤ bgT t n a1 by omega) hit
                          rw [← hi47_0] at hln
                          have hrr := pItem_ok hit hi47_4.1 (by omega) (by omega) (by omega)
                          refine x_goto (pc := 103) (tgt := 115) K dX12_reads_103 (by decide) ?_
                          refine x_iload_n (pc := 115) 0 K rfl rfl dX12_reads_115 ?_
                          refine x_istore_n (pc := 116) K (L' := [(1, .int (zI res_55)), (2, .int (zI res_55)), (0, .ref (B + 161))]) hnL rfl (by decide) rfl dX12_reads_116 ?_
                          refine x_aload_n (pc := 117) 2 K rfl rfl dX12_reads_117 ?_
                          refine x_callV (pc := 118) (C := RX12) (T := TX12) (n := 26) (ci := 11) (As := []) K (c_X12_next (E := E) (B := B) (N := N) (a := e97) (n := n) (F := F2_97)  (cel_ne (cel_self hc0.1) (by decide)) (cel_ne (cel_ne hc1 (by decide)) (by decide)) (by exact ha97) (by omega) (by omega) hq2) gX12_reads_X12_next rfl (na := 0) (by decide +kernel) rfl ⟨(Nat.le_of_ble_eq_true rfl), (Nat.le_of_ble_eq_true rfl)⟩ (cel_ne (cel_self hc0.1) (by decide)) rfl (st := []) rfl (Nat.le_of_ble_eq_true rfl) ⟨(Nat.le_of_ble_eq_true rfl), (Nat.le_of_ble_eq_true rfl)⟩ dX12_reads_118 (fun r118 N118 w118 hpo118 hN118 => ?_)
                          obtain ⟨rfl, rfl, rfl⟩ := hpo118
                          refine x_v (w := (va_up (va_up v 161 (oM B (va_up (va_up (va_up F2_97 15 (tokE t n e97 : Int)) 16 (skT t n e97 : Int)) 17 (tokK t n e97)) (tokV t n e97))) 171 (iarr E 138 r2_97))) (up_at1 (by decide)).symm ?_
                          refine x_st (st' := []) rfl ?_
                          refine x_goto (pc := 121) (tgt := 47) K dX12_reads_121 (by decide) ?_
                          refine x_sub (L' := [(0, .ref (B + 161)), (1, .int (zI res_55))]) [2, 0] rfl ?_
                          exact ih47 fu res_55 r2_97 (g1 + 1) e97 (va_up (va_up (va_up F2_97 15 (tokE t n e97 : Int)) 16 (skT t n e97 : Int)) 17 (tokK t n e97)) (tokV t n e97) (by rw [hbg, hr97]; exact hln) (by (refine ⟨by omega, by omega, by omega, by omega, ?_⟩; (repeat rw [va_up_ne _ _ (by omega)]); rw [hf97, va_up_self, hf70])) (by exact nxF_t hn97 (fun k a0 b0 c0 d0 e0 f0 => by (repeat rw [va_up_ne _ _ (by omega)])) (by omega)) (by refine ⟨?_, ?_, ?_, rfl⟩ <;> rfl) (by exact ⟨by rw [hr97]; exact hrr.1, trivial⟩) (by (refine ⟨?_, by omega, by omega⟩; (repeat rw [va_up_ne _ _ (by omega)]); omega)) (by omega)
                    · skip
                      refine x_aload_n (pc := 81) 1 K rfl rfl dX12_reads_81 ?_
                      refine x_callV (pc := 82) (C := RX12) (T := TX12) (n := 26) (ci := 11) (As := []) K (c_X12_readsVillage (E := E) (B := B) (N := N) (a := (tokE t n a1)) (b := (skT t n a1)) (n := n) (r := r1) (F := (va_up F3 6 f2_70))  (cel_ne (cel_self hc0.1) (by decide)) (cel_ne (cel_ne hc1 (by decide)) (by decide)) (cel_self hc2.1) (by (repeat rw [va_up_ne _ _ (by omega)]); exact hi47_3.1) (by (repeat rw [va_up_ne _ _ (by omega)]); omega) (by omega) hq2 (by (repeat rw [va_up_ne _ _ (by omega)]); exact hi47_3.2.1) (by omega) hi47_4.1) gX12_reads_X12_readsVillage rfl (na := 0) (by decide +kernel) rfl ⟨(Nat.le_of_ble_eq_true rfl), (Nat.le_of_ble_eq_true rfl)⟩ (cel_ne (cel_self hc0.1) (by decide)) rfl (st := []) rfl (Nat.le_of_ble_eq_true rfl) ⟨(Nat.le_of_ble_eq_true rfl), (Nat.le_of_ble_eq_true rfl)⟩ dX12_reads_82 (fun r82 N82 w82 hpo82 hN82 => ?_)
                      obtain ⟨rfl, res_82, F2_82, V2_82, r2_82, hp82_0, hp82_1, rfl, rfl⟩ := hpo82
                      refine x_v (congrArg (fun w => (va_up w 171 (iarr E 138 r2_82))) (show (va_up (va_up v 161 (oM B F2_82 V2_82)) 171 (iarr E 138 r1)) = _ from (up_at1 (by decide)).symm)) ?_
                      refine x_v (w := (va_up (va_up v 161 (oM B F2_82 V2_82)) 171 (iarr E 138 r2_82))) (up_at0).symm ?_
                      refine x_st (st' := [.int (zI res_82)]) rfl ?_
                      have hn82 : nxF 2 F F2_82 := nxF_t (nxF_u (m := 2) hi47_2 (j := 6) (x := f2_70) (by omega) (by omega)) (nxF_t hp82_0 (nxF_r 2 _) (by omega)) (by omega)
                      have n19_82 := hn82 19 (by omega) (by omega) (by omega) (by omega) (by omega) (by omega)
                      have n21_82 := (hp82_0 21 (by omega) (by omega) (by omega) (by omega) (by omega) (by omega)).trans (va_up_ne _ _ (by omega))
                      refine x_if_eq (pc := 85) (tgt := 113) K (by omega) dX12_reads_85 (by decide) (fun h_85 => ?_) (fun h_85 => ?_)
                      · skip
                        obtain ⟨f2, p2, hx2, -, hf2, hp2, hl2⟩ := hp82_1.resolve_left (fun ⟨_, _, _, q, _⟩ => by omega)
                        have hit : pItem t n (bgT t n a1) r1 g1 a1 = .error (f2, p2) := by unfold pItem; rw [if_pos (show bgT t n a1 = 1 by omega), pThen_err hx2]
                        have hln := pLoop_err (f := fu) (by omega) (show ahead ≤ bgT t n a1 by omega) hit
                        rw [← hi47_0] at hln
                        refine x_iconst (pc := 113) K dX12_reads_113 ?_
                        refine x_zret (pc := 114) K KR (by omega) (Nat.le_of_ble_eq_true rfl) (Nat.le_of_ble_eq_true rfl) rfl dX12_reads_114 ?_
                        exact ⟨rfl, 0, F2_82, V2_82, r2_82, hn82, (Or.inr ⟨f2, p2, hln, rfl, hf2, hp2, hl2⟩), rfl, rfl⟩
                      · skip
                        obtain ⟨x82, e82, hx82, -, ha82, hf82, hr82⟩ := hp82_1.resolve_right (fun ⟨_, _, _, q, _⟩ => by omega)
                        have hit : pItem t n (bgT t n a1) r1 g1 a1 = .ok ((x82, g1), e82) := by unfold pItem; rw [if_pos (show bgT t n a1 = 1 by omega), pThen_ok hx82]
                        have hln := pLoop_ok (f := fu) (by omega) (show ahead ≤ bgT t n a1 by omega) hit
                        rw [← hi47_0] at hln
                        have hrr := pItem_ok hit hi47_4.1 (by omega) (by omega) (by omega)
                        refine x_goto (pc := 88) (tgt := 115) K dX12_reads_88 (by decide) ?_
                        refine x_iload_n (pc := 115) 0 K rfl rfl dX12_reads_115 ?_
                        refine x_istore_n (pc := 116) K (L' := [(1, .int (zI res_55)), (2, .int (zI res_55)), (0, .ref (B + 161))]) hnL rfl (by decide) rfl dX12_reads_116 ?_
                        refine x_aload_n (pc := 117) 2 K rfl rfl dX12_reads_117 ?_
                        refine x_callV (pc := 118) (C := RX12) (T := TX12) (n := 26) (ci := 11) (As := []) K (c_X12_next (E := E) (B := B) (N := N) (a := e82) (n := n) (F := F2_82)  (cel_ne (cel_self hc0.1) (by decide)) (cel_ne (cel_ne hc1 (by decide)) (by decide)) (by exact ha82) (by omega) (by omega) hq2) gX12_reads_X12_next rfl (na := 0) (by decide +kernel) rfl ⟨(Nat.le_of_ble_eq_true rfl), (Nat.le_of_ble_eq_true rfl)⟩ (cel_ne (cel_self hc0.1) (by decide)) rfl (st := []) rfl (Nat.le_of_ble_eq_true rfl) ⟨(Nat.le_of_ble_eq_true rfl), (Nat.le_of_ble_eq_true rfl)⟩ dX12_reads_118 (fun r118 N118 w118 hpo118 hN118 => ?_)
                        obtain ⟨rfl, rfl, rfl⟩ := hpo118
                        refine x_v (w := (va_up (va_up v 161 (oM B (va_up (va_up (va_up F2_82 15 (tokE t n e82 : Int)) 16 (skT t n e82 : Int)) 17 (tokK t n e82)) (tokV t n e82))) 171 (iarr E 138 r2_82))) (up_at1 (by decide)).symm ?_
                        refine x_st (st' := []) rfl ?_
                        refine x_goto (pc := 121) (tgt := 47) K dX12_reads_121 (by decide) ?_
                        refine x_sub (L' := [(0, .ref (B + 161)), (1, .int (zI res_55))]) [2, 0] rfl ?_
                        exact ih47 fu res_55 r2_82 g1 e82 (va_up (va_up (va_up F2_82 15 (tokE t n e82 : Int)) 16 (skT t n e82 : Int)) 17 (tokK t n e82)) (tokV t n e82) (by rw [hbg, hr82]; exact hln) (by (refine ⟨by omega, by omega, by omega, by omega, ?_⟩; (repeat rw [va_up_ne _ _ (by omega)]); rw [hf82, va_up_self, hf70])) (by exact nxF_t hn82 (fun k a0 b0 c0 d0 e0 f0 => by (repeat rw [va_up_ne _ _ (by omega)])) (by omega)) (by refine ⟨?_, ?_, ?_, rfl⟩ <;> rfl) (by exact ⟨by rw [hr82]; exact hrr.1, trivial⟩) (by (refine ⟨?_, by omega, by omega⟩; (repeat rw [va_up_ne _ _ (by omega)]); omega)) (by omega)
          refine x_sub (L' := [(0, .ref (B + 161)), (1, .int (zI 1))]) [1, 0] rfl ?_
          exact LOOP47 (_) (n + 1) 1 r2_33 0 e33 (va_up (va_up (va_up F2_33 15 (tokE t n e33 : Int)) 16 (skT t n e33 : Int)) 17 (tokK t n e33)) (tokV t n e33) (by unfold pAll; rw [hx33]) (by (refine ⟨by omega, by omega, by omega, by omega, ?_⟩; (repeat rw [va_up_ne _ _ (by omega)]); rw [hf33]; (repeat rw [va_up_ne _ _ (by omega)]))) (by exact nxF_t hn33 (fun k a0 b0 c0 d0 e0 f0 => by (repeat rw [va_up_ne _ _ (by omega)])) (by omega)) (by refine ⟨?_, ?_, ?_, rfl⟩ <;> rfl) (by exact ⟨hpo.1, trivial⟩) (by (refine ⟨?_, by omega, by omega⟩; (repeat rw [va_up_ne _ _ (by omega)]); exact n21_33)) (Nat.lt_succ_self _)
        · skip
          obtain ⟨f2, p2, hx2, -, hf2, hp2, hl2⟩ := hp33_1.resolve_left (fun ⟨_, _, _, q, _⟩ => by omega)
          refine x_iconst (pc := 39) K dX12_reads_39 ?_
          refine x_zret (pc := 40) K KR (by omega) (Nat.le_of_ble_eq_true rfl) (Nat.le_of_ble_eq_true rfl) rfl dX12_reads_40 ?_
          exact ⟨rfl, 0, F2_33, V2_33, r2_33, hn33, (Or.inr ⟨f2, p2, by unfold pAll; rw [hx2], rfl, hf2, hp2, hl2⟩), rfl, rfl⟩
      · skip
        refine x_aload_n (pc := 9) 0 K rfl rfl dX12_reads_9 ?_
        refine x_get (pc := 10) (C := RX12) (T := TX12) (n := 26) (ci := 11) (idx := 38) (ref := "BorderBedsModel") (x := .ref (B + 171))  K (cel_ne (cel_self hc0.1) (by decide)) rfl (by decide +kernel) 20 (by decide) (by decide +kernel) rfl rfl dX12_reads_10 ?_
        refine x_iload_n (pc := 13) 1 K rfl rfl dX12_reads_13 ?_
        refine x_iconst (pc := 14) K dX12_reads_14 ?_
        refine x_iast (pc := 15) k K (cel_self hc2.1) rfl (by omega) (by decide) dX12_reads_15 ?_
        refine x_v (w := (va_up (va_up v 161 (oM B F V)) 171 (iarr E 138 (va_up r0 k 0)))) (up_at0).symm ?_
        refine x_iinc (pc := 16) (L' := [(1, .int (zI ((k : Int) + 1))), (0, .ref (B + 161))]) 1 K hnL rfl (by decide) rfl dX12_reads_16 ?_
        refine x_goto (pc := 19) (tgt := 2) K dX12_reads_19 (by decide) ?_
        refine x_sub (L' := [(0, .ref (B + 161)), (1, .int (zI ((k : Int) + 1)))]) [1, 0] rfl ?_
        exact ih2 (k + 1) (va_up r0 k 0) (by omega) (by exact zfill_s hi2_1) (by omega)
  refine x_sub (L' := [(0, .ref (B + 161)), (1, .int (zI 0))]) [1, 0] rfl ?_
  exact LOOP2 (_) 0 r (by omega) (by exact fun j hj => absurd hj (Nat.not_lt_zero _)) (Nat.lt_succ_self _)
