theorem dX12_posts_0 : decode cX12_posts 0 = .ok (.aload_n 0, 1) := by decide +kernel
set_option maxRecDepth 20000 in
theorem ggX12_posts_X12_next : GoodIn wsX12_posts wsX12_next := goodIn_r _ [9, 10, 11, 12, 13, 1, 2, 14, 15, 16, 17, 18, 19, 20, 8, 21, 22, 23, 24, 25, 26, 27, 41, 42, 43, 44, 45, 46, 47, 48, 49, 50, 51, 52, 53, 54, 55, 56, 57, 58, 59, 60, 61, 62, 63, 64, 65, 66] (by decide +kernel) (by decide +kernel)
set_option maxRecDepth 20000 in
theorem gX12_posts_X12_next : GoodIn wsX12_posts (wsV RX12 115 RX12 yX12_next wsX12_next) := goodIn_app (goodIn_of _ (by decide +kernel)) ggX12_posts_X12_next
theorem dX12_posts_1 : decode cX12_posts 1 = .ok (.invokevirtual 115, 3) := by decide +kernel
theorem dX12_posts_4 : decode cX12_posts 4 = .ok (.aload_n 0, 1) := by decide +kernel
theorem dX12_posts_5 : decode cX12_posts 5 = .ok (.aload_n 0, 1) := by decide +kernel
theorem dX12_posts_6 : decode cX12_posts 6 = .ok (.getfield 100, 3) := by decide +kernel
theorem dX12_posts_9 : decode cX12_posts 9 = .ok (.iconst 1, 1) := by decide +kernel
theorem dX12_posts_10 : decode cX12_posts 10 = .ok (.if_icmp .ne 18, 3) := by decide +kernel
theorem dX12_posts_28 : decode cX12_posts 28 = .ok (.iconst 0, 1) := by decide +kernel
set_option maxRecDepth 20000 in
theorem ggX12_posts_X12_mustBe : GoodIn wsX12_posts wsX12_mustBe := goodIn_r _ [31, 32, 41, 42, 43, 44, 45, 46, 47, 48, 49, 50, 51, 52, 53, 54, 55, 56, 57, 58, 59, 60, 61, 62, 63, 64, 65, 66] (by decide +kernel) (by decide +kernel)
set_option maxRecDepth 20000 in
theorem gX12_posts_X12_mustBe : GoodIn wsX12_posts (wsV RX12 121 RX12 yX12_mustBe wsX12_mustBe) := goodIn_app (goodIn_of _ (by decide +kernel)) ggX12_posts_X12_mustBe
theorem dX12_posts_29 : decode cX12_posts 29 = .ok (.invokevirtual 121, 3) := by decide +kernel
theorem dX12_posts_32 : decode cX12_posts 32 = .ok (.ifCond .ne 5, 3) := by decide +kernel
theorem dX12_posts_35 : decode cX12_posts 35 = .ok (.iconst 0, 1) := by decide +kernel
theorem dX12_posts_36 : decode cX12_posts 36 = .ok (.ireturn, 1) := by decide +kernel
theorem dX12_posts_13 : decode cX12_posts 13 = .ok (.aload_n 0, 1) := by decide +kernel
theorem dX12_posts_14 : decode cX12_posts 14 = .ok (.getfield 103, 3) := by decide +kernel
theorem dX12_posts_17 : decode cX12_posts 17 = .ok (.ldc2_w 159, 3) := by decide +kernel
theorem dX12_posts_20 : decode cX12_posts 20 = .ok (.lcmp, 1) := by decide +kernel
theorem dX12_posts_21 : decode cX12_posts 21 = .ok (.ifCond .ne 7, 3) := by decide +kernel
theorem dX12_posts_24 : decode cX12_posts 24 = .ok (.iconst 1, 1) := by decide +kernel
theorem dX12_posts_25 : decode cX12_posts 25 = .ok (.goto 4, 3) := by decide +kernel
theorem dX12_posts_37 : decode cX12_posts 37 = .ok (.iconst 0, 1) := by decide +kernel
theorem dX12_posts_38 : decode cX12_posts 38 = .ok (.istore_n 1, 1) := by decide +kernel
theorem dX12_posts_39 : decode cX12_posts 39 = .ok (.iload_n 1, 1) := by decide +kernel
theorem dX12_posts_40 : decode cX12_posts 40 = .ok (.iconst 3, 1) := by decide +kernel
theorem dX12_posts_41 : decode cX12_posts 41 = .ok (.if_icmp .ge 50, 3) := by decide +kernel
theorem dX12_posts_44 : decode cX12_posts 44 = .ok (.aload_n 0, 1) := by decide +kernel
theorem dX12_posts_45 : decode cX12_posts 45 = .ok (.iload_n 1, 1) := by decide +kernel
theorem dX12_posts_46 : decode cX12_posts 46 = .ok (.iconst 2, 1) := by decide +kernel
theorem dX12_posts_47 : decode cX12_posts 47 = .ok (.if_icmp .ge 7, 3) := by decide +kernel
theorem dX12_posts_50 : decode cX12_posts 50 = .ok (.iconst 0, 1) := by decide +kernel
theorem dX12_posts_51 : decode cX12_posts 51 = .ok (.goto 4, 3) := by decide +kernel
theorem dX12_posts_55 : decode cX12_posts 55 = .ok (.iload_n 1, 1) := by decide +kernel
theorem dX12_posts_56 : decode cX12_posts 56 = .ok (.iconst 2, 1) := by decide +kernel
theorem dX12_posts_57 : decode cX12_posts 57 = .ok (.if_icmp .ge 7, 3) := by decide +kernel
theorem dX12_posts_60 : decode cX12_posts 60 = .ok (.iconst 5, 1) := by decide +kernel
theorem dX12_posts_61 : decode cX12_posts 61 = .ok (.goto 5, 3) := by decide +kernel
set_option maxRecDepth 20000 in
theorem ggX12_posts_X12_number : GoodIn wsX12_posts wsX12_number := goodIn_r _ [36, 1, 32, 2, 5, 6, 7, 8, 9, 10, 11, 12, 13, 14, 15, 16, 17, 18, 19, 20, 21, 22, 23, 24, 25, 26, 27, 41, 42, 43, 44, 45, 46, 47, 48, 49, 50, 51, 52, 53, 54, 55, 56, 57, 58, 59, 60, 61, 62, 63, 64, 65, 66] (by decide +kernel) (by decide +kernel)
set_option maxRecDepth 20000 in
theorem gX12_posts_X12_number : GoodIn wsX12_posts (wsV RX12 125 RX12 yX12_number wsX12_number) := goodIn_app (goodIn_of _ (by decide +kernel)) ggX12_posts_X12_number
theorem dX12_posts_66 : decode cX12_posts 66 = .ok (.invokevirtual 125, 3) := by decide +kernel
theorem dX12_posts_69 : decode cX12_posts 69 = .ok (.ifCond .ne 5, 3) := by decide +kernel
theorem dX12_posts_74 : decode cX12_posts 74 = .ok (.aload_n 0, 1) := by decide +kernel
theorem dX12_posts_75 : decode cX12_posts 75 = .ok (.getfield 38, 3) := by decide +kernel
theorem dX12_posts_78 : decode cX12_posts 78 = .ok (.iload_n 1, 1) := by decide +kernel
theorem dX12_posts_79 : decode cX12_posts 79 = .ok (.aload_n 0, 1) := by decide +kernel
theorem dX12_posts_80 : decode cX12_posts 80 = .ok (.getfield 103, 3) := by decide +kernel
theorem dX12_posts_83 : decode cX12_posts 83 = .ok (.l2i, 1) := by decide +kernel
theorem dX12_posts_84 : decode cX12_posts 84 = .ok (.iastore, 1) := by decide +kernel
theorem dX12_posts_85 : decode cX12_posts 85 = .ok (.iinc 1 1, 3) := by decide +kernel
theorem dX12_posts_88 : decode cX12_posts 88 = .ok (.goto (-49), 3) := by decide +kernel
theorem dX12_posts_54 : decode cX12_posts 54 = .ok (.iconst 1, 1) := by decide +kernel
theorem dX12_posts_64 : decode cX12_posts 64 = .ok (.bipush 6, 2) := by decide +kernel
theorem dX12_posts_91 : decode cX12_posts 91 = .ok (.aload_n 0, 1) := by decide +kernel
set_option maxRecDepth 20000 in
theorem ggX12_posts_X12_ends : GoodIn wsX12_posts wsX12_ends := goodIn_r _ [40, 1, 5, 6, 7, 8, 9, 10, 11, 12, 13, 2, 14, 15, 16, 17, 18, 19, 20, 21, 22, 23, 24, 25, 26, 27, 28, 29, 30, 31, 32, 41, 42, 43, 44, 45, 46, 47, 48, 49, 50, 51, 52, 53, 54, 55, 56, 57, 58, 59, 60, 61, 62, 63, 64, 65, 66] (by decide +kernel) (by decide +kernel)
set_option maxRecDepth 20000 in
theorem gX12_posts_X12_ends : GoodIn wsX12_posts (wsV RX12 139 RX12 yX12_ends wsX12_ends) := goodIn_app (goodIn_of _ (by decide +kernel)) ggX12_posts_X12_ends
theorem dX12_posts_92 : decode cX12_posts 92 = .ok (.invokevirtual 139, 3) := by decide +kernel
theorem dX12_posts_95 : decode cX12_posts 95 = .ok (.ireturn, 1) := by decide +kernel
theorem dX12_posts_72 : decode cX12_posts 72 = .ok (.iconst 0, 1) := by decide +kernel
theorem dX12_posts_73 : decode cX12_posts 73 = .ok (.ireturn, 1) := by decide +kernel
set_option maxRecDepth 100000 in
set_option maxHeartbeats 4000000 in
theorem c_X12_posts {E : XE} {B N : Nat} {v : Nat → va_E} {F t : Nat → Int} {V : Int} {n : Nat} (hc0 : Cel N v 161 (oM B F V)) (hc1 : Cel N v 165 (iarr E 400 t)) (hc2 : Cel N v 171 (iarr E 138 (fun _ => (0 : Int)))) (hq0 : F 15 = ((0 : Nat) : Int)) (hq1 : F 19 = (n : Int)) (hq2 : n ≤ 400) (hq3 : ∀ i : Nat, 0 ≤ t i ∧ t i ≤ 255) : gM yX12_posts wsX12_posts ({ frames := 4, cells := 0, slots := 0, locals := 88 }) E B N v [.ref (B + 161)] (po0 N (fun ρ v' => ∃ (res : Int), ∃ (F2 : Nat → Int), ∃ (V2 : Int), ∃ (r2 : Nat → Int), (nxF 0 F F2) ∧ ((∃ (x2 : Nat → Int) (e2 : Nat), (pPost t n) = .ok (x2, e2) ∧ res = 1 ∧ F2 15 = (e2 : Int) ∧ F2 6 = F 6 ∧ r2 = x2) ∨ (∃ (f2 : Int) (p2 : Nat), (pPost t n) = .error (f2, p2) ∧ res = 0 ∧ F2 6 = f2 ∧ F2 16 = (p2 : Int) ∧ p2 ≤ n)) ∧ ρ = some (.int (zI res)) ∧ (va_up (va_up v 161 (oM B F2 V2)) 171 (iarr E 138 r2)) = v')) := by
  refine x_met (nm := "posts") (by decide +kernel) rfl (Nat.le_of_ble_eq_true rfl) rfl (fun Γ K KR hnL hnm => ?_)
  show XW Γ N v [(0, .ref (B + 161))] 0 0 0 []
  have hkr := tokK_rng t n 0
  have hvr := tokV_rng (n := n) (a := 0) hq3
  have her := tokE_rng (t := t) (show 0 ≤ n by omega)
  have hsr := skT_le (t := t) (show 0 ≤ n by omega)
  refine x_v (cel_pad hc0) ?_
  refine x_v (cel_pad (cel_ne hc2 (by decide))) ?_
  refine x_aload_n (pc := 0) 0 K rfl rfl dX12_posts_0 ?_
  refine x_callV (pc := 1) (C := RX12) (T := TX12) (n := 26) (ci := 11) (As := []) K (c_X12_next (E := E) (B := B) (N := N) (a := 0) (n := n)  (cel_ne (cel_self hc0.1) (by decide)) (cel_ne (cel_ne hc1 (by decide)) (by decide)) hq0 hq1 (by omega) hq3) gX12_posts_X12_next rfl (na := 0) (by decide +kernel) rfl ⟨(Nat.le_of_ble_eq_true rfl), (Nat.le_of_ble_eq_true rfl)⟩ (cel_ne (cel_self hc0.1) (by decide)) rfl (st := []) rfl (Nat.le_of_ble_eq_true rfl) ⟨(Nat.le_of_ble_eq_true rfl), (Nat.le_of_ble_eq_true rfl)⟩ dX12_posts_1 (fun r1 N1 w1 hpo1 hN1 => ?_)
  obtain ⟨rfl, rfl, rfl⟩ := hpo1
  refine x_v (w := (va_up (va_up v 161 (oM B (va_up (va_up (va_up F 15 (tokE t n 0 : Int)) 16 (skT t n 0 : Int)) 17 (tokK t n 0)) (tokV t n 0))) 171 (iarr E 138 (fun _ => (0 : Int))))) (up_at1 (by decide)).symm ?_
  refine x_st (st' := []) rfl ?_
  refine x_aload_n (pc := 4) 0 K rfl rfl dX12_posts_4 ?_
  refine x_aload_n (pc := 5) 0 K rfl rfl dX12_posts_5 ?_
  refine x_get (pc := 6) (C := RX12) (T := TX12) (n := 26) (ci := 11) (idx := 100) (ref := "BorderBedsModel") (x := .int (zI (tokK t n 0)))  K (cel_ne (cel_self hc0.1) (by decide)) rfl (by decide +kernel) 17 (by decide) (by decide +kernel) rfl rfl dX12_posts_6 ?_
  refine x_iconst (pc := 9) K dX12_posts_9 ?_
  refine x_icmp_ne (pc := 10) (tgt := 28) K (by omega) (by decide) dX12_posts_10 (by decide) (fun h_10 => ?_) (fun h_10 => ?_)
  · skip
    refine x_iconst (pc := 28) K dX12_posts_28 ?_
    refine x_callV (pc := 29) (C := RX12) (T := TX12) (n := 26) (ci := 11) (As := [.int (zI 0)]) K (c_X12_mustBe (E := E) (B := B) (N := N)   (cel_ne (cel_self hc0.1) (by decide)) (by omega)) gX12_posts_X12_mustBe rfl (na := 1) (by decide +kernel) rfl ⟨(Nat.le_of_ble_eq_true rfl), (Nat.le_of_ble_eq_true rfl)⟩ (cel_ne (cel_self hc0.1) (by decide)) rfl (st := []) rfl (Nat.le_of_ble_eq_true rfl) ⟨(Nat.le_of_ble_eq_true rfl), (Nat.le_of_ble_eq_true rfl)⟩ dX12_posts_29 (fun r29 N29 w29 hpo29 hN29 => ?_)
    obtain ⟨rfl, f2_29, hp29_0, rfl, rfl⟩ := hpo29
    refine x_v (w := (va_up (va_up v 161 (oM B (va_up (va_up (va_up (va_up F 6 f2_29) 15 (tokE t n 0 : Int)) 16 (skT t n 0 : Int)) 17 (tokK t n 0)) (tokV t n 0))) 171 (iarr E 138 (fun _ => (0 : Int))))) (up_at1 (by decide)).symm ?_
    refine x_st (st' := [.int (zI 0)]) rfl ?_
    have hf29 : f2_29 = 1 := by rw [hp29_0]; first | exact if_pos rfl | exact if_neg (by omega)
    refine x_if_ne (pc := 32) (tgt := 37) K (by omega) dX12_posts_32 (by decide) (fun h_32 => ?_) (fun h_32 => ?_)
    · skip
      exfalso; omega
    · skip
      refine x_iconst (pc := 35) K dX12_posts_35 ?_
      refine x_zret (pc := 36) K KR (by omega) (Nat.le_of_ble_eq_true rfl) (Nat.le_of_ble_eq_true rfl) rfl dX12_posts_36 ?_
      exact ⟨rfl, 0, (va_up (va_up (va_up (va_up F 6 f2_29) 15 (tokE t n 0 : Int)) 16 (skT t n 0 : Int)) 17 (tokK t n 0)), (tokV t n 0), (fun _ => (0 : Int)), (fun k a0 b0 c0 d0 e0 f0 => by (repeat rw [va_up_ne _ _ (by omega)])), (Or.inr ⟨1, skT t n 0, by unfold pPost; rw [if_neg (by omega)], rfl, hf29, rfl, hsr.2⟩), rfl, rfl⟩
  · skip
    refine x_aload_n (pc := 13) 0 K rfl rfl dX12_posts_13 ?_
    refine x_get (pc := 14) (C := RX12) (T := TX12) (n := 26) (ci := 11) (idx := 103) (ref := "BorderBedsModel") (x := .long (zL (tokV t n 0)))  K (cel_ne (cel_self hc0.1) (by decide)) rfl (by decide +kernel) 18 (by decide) (by decide +kernel) rfl rfl dX12_posts_14 ?_
    refine x_ldc2 (pc := 17) (x := (17288851)) (17288851) K (by decide) (by decide +kernel) dX12_posts_17 ?_
    refine x_lcmp (pc := 20) K (by omega) (by omega) dX12_posts_20 ?_
    refine x_if_ne (pc := 21) (tgt := 28) K (cmpZ_rng _ _) dX12_posts_21 (by decide) (fun h_21 => ?_) (fun h_21 => ?_)
    · skip
      have h_21 := cz_eq_n h_21
      refine x_iconst (pc := 28) K dX12_posts_28 ?_
      refine x_callV (pc := 29) (C := RX12) (T := TX12) (n := 26) (ci := 11) (As := [.int (zI 0)]) K (c_X12_mustBe (E := E) (B := B) (N := N)   (cel_ne (cel_self hc0.1) (by decide)) (by omega)) gX12_posts_X12_mustBe rfl (na := 1) (by decide +kernel) rfl ⟨(Nat.le_of_ble_eq_true rfl), (Nat.le_of_ble_eq_true rfl)⟩ (cel_ne (cel_self hc0.1) (by decide)) rfl (st := []) rfl (Nat.le_of_ble_eq_true rfl) ⟨(Nat.le_of_ble_eq_true rfl), (Nat.le_of_ble_eq_true rfl)⟩ dX12_posts_29 (fun r29 N29 w29 hpo29 hN29 => ?_)
      obtain ⟨rfl, f2_29, hp29_0, rfl, rfl⟩ := hpo29
      refine x_v (w := (va_up (va_up v 161 (oM B (va_up (va_up (va_up (va_up F 6 f2_29) 15 (tokE t n 0 : Int)) 16 (skT t n 0 : Int)) 17 (tokK t n 0)) (tokV t n 0))) 171 (iarr E 138 (fun _ => (0 : Int))))) (up_at1 (by decide)).symm ?_
      refine x_st (st' := [.int (zI 0)]) rfl ?_
      have hf29 : f2_29 = 1 := by rw [hp29_0]; first | exact if_pos rfl | exact if_neg (by omega)
      refine x_if_ne (pc := 32) (tgt := 37) K (by omega) dX12_posts_32 (by decide) (fun h_32 => ?_) (fun h_32 => ?_)
      · skip
        exfalso; omega
      · skip
        refine x_iconst (pc := 35) K dX12_posts_35 ?_
        refine x_zret (pc := 36) K KR (by omega) (Nat.le_of_ble_eq_true rfl) (Nat.le_of_ble_eq_true rfl) rfl dX12_posts_36 ?_
        exact ⟨rfl, 0, (va_up (va_up (va_up (va_up F 6 f2_29) 15 (tokE t n 0 : Int)) 16 (skT t n 0 : Int)) 17 (tokK t n 0)), (tokV t n 0), (fun _ => (0 : Int)), (fun k a0 b0 c0 d0 e0 f0 => by (repeat rw [va_up_ne _ _ (by omega)])), (Or.inr ⟨1, skT t n 0, by unfold pPost; rw [if_neg (by omega)], rfl, hf29, rfl, hsr.2⟩), rfl, rfl⟩
    · skip
      have h_21 := cz_eq h_21
      refine x_iconst (pc := 24) K dX12_posts_24 ?_
      refine x_goto (pc := 25) (tgt := 29) K dX12_posts_25 (by decide) ?_
      refine x_callV (pc := 29) (C := RX12) (T := TX12) (n := 26) (ci := 11) (As := [.int (zI 1)]) K (c_X12_mustBe (E := E) (B := B) (N := N)   (cel_ne (cel_self hc0.1) (by decide)) (by omega)) gX12_posts_X12_mustBe rfl (na := 1) (by decide +kernel) rfl ⟨(Nat.le_of_ble_eq_true rfl), (Nat.le_of_ble_eq_true rfl)⟩ (cel_ne (cel_self hc0.1) (by decide)) rfl (st := []) rfl (Nat.le_of_ble_eq_true rfl) ⟨(Nat.le_of_ble_eq_true rfl), (Nat.le_of_ble_eq_true rfl)⟩ dX12_posts_29 (fun r29 N29 w29 hpo29 hN29 => ?_)
      obtain ⟨rfl, f2_29, hp29_0, rfl, rfl⟩ := hpo29
      refine x_v (w := (va_up (va_up v 161 (oM B (va_up (va_up (va_up (va_up F 6 f2_29) 15 (tokE t n 0 : Int)) 16 (skT t n 0 : Int)) 17 (tokK t n 0)) (tokV t n 0))) 171 (iarr E 138 (fun _ => (0 : Int))))) (up_at1 (by decide)).symm ?_
      refine x_st (st' := [.int (zI 1)]) rfl ?_
      have hf29 : f2_29 = F 6 := by rw [hp29_0]; first | exact if_pos rfl | exact if_neg (by omega)
      refine x_if_ne (pc := 32) (tgt := 37) K (by omega) dX12_posts_32 (by decide) (fun h_32 => ?_) (fun h_32 => ?_)
      · skip
        refine x_iconst (pc := 37) K dX12_posts_37 ?_
        refine x_istore_n (pc := 38) K (L' := [(1, .int (zI 0)), (0, .ref (B + 161))]) hnL rfl (by decide) rfl dX12_posts_38 ?_
        refine x_iload_n (pc := 39) 0 K rfl rfl dX12_posts_39 ?_
        refine x_iconst (pc := 40) K dX12_posts_40 ?_
        refine x_icmp_ge (pc := 41) (tgt := 91) K (by decide) (by decide) dX12_posts_41 (by decide) (fun h_41 => ?_) (fun h_41 => ?_)
        · skip
          exfalso; omega
        · skip
          refine x_aload_n (pc := 44) 1 K rfl rfl dX12_posts_44 ?_
          refine x_iload_n (pc := 45) 0 K rfl rfl dX12_posts_45 ?_
          refine x_iconst (pc := 46) K dX12_posts_46 ?_
          refine x_icmp_ge (pc := 47) (tgt := 54) K (by decide) (by decide) dX12_posts_47 (by decide) (fun h_47 => ?_) (fun h_47 => ?_)
          · skip
            exfalso; omega
          · skip
            refine x_iconst (pc := 50) K dX12_posts_50 ?_
            refine x_goto (pc := 51) (tgt := 55) K dX12_posts_51 (by decide) ?_
            refine x_iload_n (pc := 55) 0 K rfl rfl dX12_posts_55 ?_
            refine x_iconst (pc := 56) K dX12_posts_56 ?_
            refine x_icmp_ge (pc := 57) (tgt := 64) K (by decide) (by decide) dX12_posts_57 (by decide) (fun h_57 => ?_) (fun h_57 => ?_)
            · skip
              exfalso; omega
            · skip
              refine x_iconst (pc := 60) K dX12_posts_60 ?_
              refine x_goto (pc := 61) (tgt := 66) K dX12_posts_61 (by decide) ?_
              refine x_callV (pc := 66) (C := RX12) (T := TX12) (n := 26) (ci := 11) (As := [.int (zI 0), .int (zI 5)]) K (c_X12_number (E := E) (B := B) (N := N) (a := (tokE t n 0)) (n := n) (F := (va_up (va_up (va_up (va_up F 6 f2_29) 15 (tokE t n 0 : Int)) 16 (skT t n 0 : Int)) 17 (tokK t n 0)))  (cel_ne (cel_self hc0.1) (by decide)) (cel_ne (cel_ne hc1 (by decide)) (by decide)) (by (repeat rw [va_up_ne _ _ (by omega)]); first | rfl | (rw [va_up_self])) (by (repeat rw [va_up_ne _ _ (by omega)]); omega) (by omega) hq3 (by omega) (by omega)) gX12_posts_X12_number rfl (na := 2) (by decide +kernel) rfl ⟨(Nat.le_of_ble_eq_true rfl), (Nat.le_of_ble_eq_true rfl)⟩ (cel_ne (cel_self hc0.1) (by decide)) rfl (st := []) rfl (Nat.le_of_ble_eq_true rfl) ⟨(Nat.le_of_ble_eq_true rfl), (Nat.le_of_ble_eq_true rfl)⟩ dX12_posts_66 (fun r66 N66 w66 hpo66 hN66 => ?_)
              obtain ⟨rfl, res_66, F2_66, V2_66, hp66_0, hp66_1, rfl, rfl⟩ := hpo66
              refine x_v (w := (va_up (va_up v 161 (oM B F2_66 V2_66)) 171 (iarr E 138 (fun _ => (0 : Int))))) (up_at1 (by decide)).symm ?_
              refine x_st (st' := [.int (zI res_66)]) rfl ?_
              have hn66_0 : nxF 0 F F2_66 := fun k a0 b0 c0 d0 e0 f0 => (hp66_0 k a0 b0 c0 d0 e0 f0).trans (by (repeat rw [va_up_ne _ _ (by omega)]))
              have n19_0 := hn66_0 19 (by omega) (by omega) (by omega) (by omega) (by omega) (by omega)
              refine x_if_ne (pc := 69) (tgt := 74) K (by omega) dX12_posts_69 (by decide) (fun h_69 => ?_) (fun h_69 => ?_)
              · skip
                obtain ⟨x66_0, e66_0, hx66_0, -, ha66_0, hf66_0, hv66_0⟩ := hp66_1.resolve_right (fun ⟨_, _, _, q, _⟩ => by omega)
                have ho66_0 := pNum_ok hx66_0 (by omega)
                refine x_aload_n (pc := 74) 1 K rfl rfl dX12_posts_74 ?_
                refine x_get (pc := 75) (C := RX12) (T := TX12) (n := 26) (ci := 11) (idx := 38) (ref := "BorderBedsModel") (x := .ref (B + 171))  K (cel_ne (cel_self hc0.1) (by decide)) rfl (by decide +kernel) 20 (by decide) (by decide +kernel) rfl rfl dX12_posts_75 ?_
                refine x_iload_n (pc := 78) 0 K rfl rfl dX12_posts_78 ?_
                refine x_aload_n (pc := 79) 1 K rfl rfl dX12_posts_79 ?_
                refine x_get (pc := 80) (C := RX12) (T := TX12) (n := 26) (ci := 11) (idx := 103) (ref := "BorderBedsModel") (x := .long (zL V2_66))  K (cel_ne (cel_self hc0.1) (by decide)) rfl (by decide +kernel) 18 (by decide) (by decide +kernel) rfl rfl dX12_posts_80 ?_
                refine x_l2i (pc := 83) K dX12_posts_83 ?_
                refine x_iast (pc := 84) 0 K (cel_self hc2.1) rfl (by omega) (by decide) dX12_posts_84 ?_
                refine x_v (w := (va_up (va_up v 161 (oM B F2_66 V2_66)) 171 (iarr E 138 (va_up (fun _ => (0 : Int)) 0 V2_66)))) (up_at0).symm ?_
                have hRR : va_up (fun _ => (0 : Int)) 0 V2_66 = (va_up (fun _ => (0 : Int)) 0 x66_0) := by rw [hv66_0]
                refine x_v (w := (va_up (va_up v 161 (oM B F2_66 V2_66)) 171 (iarr E 138 (va_up (fun _ => (0 : Int)) 0 x66_0)))) (by rw [hRR]) ?_
                refine x_iinc (pc := 85) (L' := [(1, .int (zI (0 + 1))), (0, .ref (B + 161))]) 0 K hnL rfl (by decide) rfl dX12_posts_85 ?_
                refine x_L (L' := [(1, .int (zI 1)), (0, .ref (B + 161))]) rfl ?_
                refine x_goto (pc := 88) (tgt := 39) K dX12_posts_88 (by decide) ?_
                refine x_iload_n (pc := 39) 0 K rfl rfl dX12_posts_39 ?_
                refine x_iconst (pc := 40) K dX12_posts_40 ?_
                refine x_icmp_ge (pc := 41) (tgt := 91) K (by decide) (by decide) dX12_posts_41 (by decide) (fun h_41 => ?_) (fun h_41 => ?_)
                · skip
                  exfalso; omega
                · skip
                  refine x_aload_n (pc := 44) 1 K rfl rfl dX12_posts_44 ?_
                  refine x_iload_n (pc := 45) 0 K rfl rfl dX12_posts_45 ?_
                  refine x_iconst (pc := 46) K dX12_posts_46 ?_
                  refine x_icmp_ge (pc := 47) (tgt := 54) K (by decide) (by decide) dX12_posts_47 (by decide) (fun h_47 => ?_) (fun h_47 => ?_)
                  · skip
                    exfalso; omega
                  · skip
                    refine x_iconst (pc := 50) K dX12_posts_50 ?_
                    refine x_goto (pc := 51) (tgt := 55) K dX12_posts_51 (by decide) ?_
                    refine x_iload_n (pc := 55) 0 K rfl rfl dX12_posts_55 ?_
                    refine x_iconst (pc := 56) K dX12_posts_56 ?_
                    refine x_icmp_ge (pc := 57) (tgt := 64) K (by decide) (by decide) dX12_posts_57 (by decide) (fun h_57 => ?_) (fun h_57 => ?_)
                    · skip
                      exfalso; omega
                    · skip
                      refine x_iconst (pc := 60) K dX12_posts_60 ?_
                      refine x_goto (pc := 61) (tgt := 66) K dX12_posts_61 (by decide) ?_
                      refine x_callV (pc := 66) (C := RX12) (T := TX12) (n := 26) (ci := 11) (As := [.int (zI 0), .int (zI 5)]) K (c_X12_number (E := E) (B := B) (N := N) (a := e66_0) (n := n) (F := F2_66)  (cel_ne (cel_self hc0.1) (by decide)) (cel_ne (cel_ne hc1 (by decide)) (by decide)) (by exact ha66_0) (by omega) (by omega) hq3 (by omega) (by omega)) gX12_posts_X12_number rfl (na := 2) (by decide +kernel) rfl ⟨(Nat.le_of_ble_eq_true rfl), (Nat.le_of_ble_eq_true rfl)⟩ (cel_ne (cel_self hc0.1) (by decide)) rfl (st := []) rfl (Nat.le_of_ble_eq_true rfl) ⟨(Nat.le_of_ble_eq_true rfl), (Nat.le_of_ble_eq_true rfl)⟩ dX12_posts_66 (fun r66 N66 w66 hpo66 hN66 => ?_)
                      obtain ⟨rfl, res_66, F2_66, V2_66, hp66_0, hp66_1, rfl, rfl⟩ := hpo66
                      refine x_v (w := (va_up (va_up v 161 (oM B F2_66 V2_66)) 171 (iarr E 138 (va_up (fun _ => (0 : Int)) 0 x66_0)))) (up_at1 (by decide)).symm ?_
                      refine x_st (st' := [.int (zI res_66)]) rfl ?_
                      have hn66_1 : nxF 0 F F2_66 := nxF_t hn66_0 hp66_0 (by omega)
                      have n19_1 := hn66_1 19 (by omega) (by omega) (by omega) (by omega) (by omega) (by omega)
                      refine x_if_ne (pc := 69) (tgt := 74) K (by omega) dX12_posts_69 (by decide) (fun h_69 => ?_) (fun h_69 => ?_)
                      · skip
                        obtain ⟨x66_1, e66_1, hx66_1, -, ha66_1, hf66_1, hv66_1⟩ := hp66_1.resolve_right (fun ⟨_, _, _, q, _⟩ => by omega)
                        have ho66_1 := pNum_ok hx66_1 (by omega)
                        refine x_aload_n (pc := 74) 1 K rfl rfl dX12_posts_74 ?_
                        refine x_get (pc := 75) (C := RX12) (T := TX12) (n := 26) (ci := 11) (idx := 38) (ref := "BorderBedsModel") (x := .ref (B + 171))  K (cel_ne (cel_self hc0.1) (by decide)) rfl (by decide +kernel) 20 (by decide) (by decide +kernel) rfl rfl dX12_posts_75 ?_
                        refine x_iload_n (pc := 78) 0 K rfl rfl dX12_posts_78 ?_
                        refine x_aload_n (pc := 79) 1 K rfl rfl dX12_posts_79 ?_
                        refine x_get (pc := 80) (C := RX12) (T := TX12) (n := 26) (ci := 11) (idx := 103) (ref := "BorderBedsModel") (x := .long (zL V2_66))  K (cel_ne (cel_self hc0.1) (by decide)) rfl (by decide +kernel) 18 (by decide) (by decide +kernel) rfl rfl dX12_posts_80 ?_
                        refine x_l2i (pc := 83) K dX12_posts_83 ?_
                        refine x_iast (pc := 84) 1 K (cel_self hc2.1) rfl (by omega) (by decide) dX12_posts_84 ?_
                        refine x_v (w := (va_up (va_up v 161 (oM B F2_66 V2_66)) 171 (iarr E 138 (va_up (va_up (fun _ => (0 : Int)) 0 x66_0) 1 V2_66)))) (up_at0).symm ?_
                        have hRR : va_up (va_up (fun _ => (0 : Int)) 0 x66_0) 1 V2_66 = (va_up (va_up (fun _ => (0 : Int)) 0 x66_0) 1 x66_1) := by rw [hv66_1]
                        refine x_v (w := (va_up (va_up v 161 (oM B F2_66 V2_66)) 171 (iarr E 138 (va_up (va_up (fun _ => (0 : Int)) 0 x66_0) 1 x66_1)))) (by rw [hRR]) ?_
                        refine x_iinc (pc := 85) (L' := [(1, .int (zI (1 + 1))), (0, .ref (B + 161))]) 0 K hnL rfl (by decide) rfl dX12_posts_85 ?_
                        refine x_L (L' := [(1, .int (zI 2)), (0, .ref (B + 161))]) rfl ?_
                        refine x_goto (pc := 88) (tgt := 39) K dX12_posts_88 (by decide) ?_
                        refine x_iload_n (pc := 39) 0 K rfl rfl dX12_posts_39 ?_
                        refine x_iconst (pc := 40) K dX12_posts_40 ?_
                        refine x_icmp_ge (pc := 41) (tgt := 91) K (by decide) (by decide) dX12_posts_41 (by decide) (fun h_41 => ?_) (fun h_41 => ?_)
                        · skip
                          exfalso; omega
                        · skip
                          refine x_aload_n (pc := 44) 1 K rfl rfl dX12_posts_44 ?_
                          refine x_iload_n (pc := 45) 0 K rfl rfl dX12_posts_45 ?_
                          refine x_iconst (pc := 46) K dX12_posts_46 ?_
                          refine x_icmp_ge (pc := 47) (tgt := 54) K (by decide) (by decide) dX12_posts_47 (by decide) (fun h_47 => ?_) (fun h_47 => ?_)
                          · skip
                            refine x_iconst (pc := 54) K dX12_posts_54 ?_
                            refine x_iload_n (pc := 55) 0 K rfl rfl dX12_posts_55 ?_
                            refine x_iconst (pc := 56) K dX12_posts_56 ?_
                            refine x_icmp_ge (pc := 57) (tgt := 64) K (by decide) (by decide) dX12_posts_57 (by decide) (fun h_57 => ?_) (fun h_57 => ?_)
                            · skip
                              refine x_bipush (pc := 64) K (by decide) dX12_posts_64 ?_
                              refine x_callV (pc := 66) (C := RX12) (T := TX12) (n := 26) (ci := 11) (As := [.int (zI 1), .int (zI 6)]) K (c_X12_number (E := E) (B := B) (N := N) (a := e66_1) (n := n) (F := F2_66)  (cel_ne (cel_self hc0.1) (by decide)) (cel_ne (cel_ne hc1 (by decide)) (by decide)) (by exact ha66_1) (by omega) (by omega) hq3 (by omega) (by omega)) gX12_posts_X12_number rfl (na := 2) (by decide +kernel) rfl ⟨(Nat.le_of_ble_eq_true rfl), (Nat.le_of_ble_eq_true rfl)⟩ (cel_ne (cel_self hc0.1) (by decide)) rfl (st := []) rfl (Nat.le_of_ble_eq_true rfl) ⟨(Nat.le_of_ble_eq_true rfl), (Nat.le_of_ble_eq_true rfl)⟩ dX12_posts_66 (fun r66 N66 w66 hpo66 hN66 => ?_)
                              obtain ⟨rfl, res_66, F2_66, V2_66, hp66_0, hp66_1, rfl, rfl⟩ := hpo66
                              refine x_v (w := (va_up (va_up v 161 (oM B F2_66 V2_66)) 171 (iarr E 138 (va_up (va_up (fun _ => (0 : Int)) 0 x66_0) 1 x66_1)))) (up_at1 (by decide)).symm ?_
                              refine x_st (st' := [.int (zI res_66)]) rfl ?_
                              have hn66_2 : nxF 0 F F2_66 := nxF_t hn66_1 hp66_0 (by omega)
                              have n19_2 := hn66_2 19 (by omega) (by omega) (by omega) (by omega) (by omega) (by omega)
                              refine x_if_ne (pc := 69) (tgt := 74) K (by omega) dX12_posts_69 (by decide) (fun h_69 => ?_) (fun h_69 => ?_)
                              · skip
                                obtain ⟨x66_2, e66_2, hx66_2, -, ha66_2, hf66_2, hv66_2⟩ := hp66_1.resolve_right (fun ⟨_, _, _, q, _⟩ => by omega)
                                have ho66_2 := pNum_ok hx66_2 (by omega)
                                refine x_aload_n (pc := 74) 1 K rfl rfl dX12_posts_74 ?_
                                refine x_get (pc := 75) (C := RX12) (T := TX12) (n := 26) (ci := 11) (idx := 38) (ref := "BorderBedsModel") (x := .ref (B + 171))  K (cel_ne (cel_self hc0.1) (by decide)) rfl (by decide +kernel) 20 (by decide) (by decide +kernel) rfl rfl dX12_posts_75 ?_
                                refine x_iload_n (pc := 78) 0 K rfl rfl dX12_posts_78 ?_
                                refine x_aload_n (pc := 79) 1 K rfl rfl dX12_posts_79 ?_
                                refine x_get (pc := 80) (C := RX12) (T := TX12) (n := 26) (ci := 11) (idx := 103) (ref := "BorderBedsModel") (x := .long (zL V2_66))  K (cel_ne (cel_self hc0.1) (by decide)) rfl (by decide +kernel) 18 (by decide) (by decide +kernel) rfl rfl dX12_posts_80 ?_
                                refine x_l2i (pc := 83) K dX12_posts_83 ?_
                                refine x_iast (pc := 84) 2 K (cel_self hc2.1) rfl (by omega) (by decide) dX12_posts_84 ?_
                                refine x_v (w := (va_up (va_up v 161 (oM B F2_66 V2_66)) 171 (iarr E 138 (va_up (va_up (va_up (fun _ => (0 : Int)) 0 x66_0) 1 x66_1) 2 V2_66)))) (up_at0).symm ?_
                                have hRR : va_up (va_up (va_up (fun _ => (0 : Int)) 0 x66_0) 1 x66_1) 2 V2_66 = (va_up (va_up (va_up (fun _ => (0 : Int)) 0 x66_0) 1 x66_1) 2 x66_2) := by rw [hv66_2]
                                refine x_v (w := (va_up (va_up v 161 (oM B F2_66 V2_66)) 171 (iarr E 138 (va_up (va_up (va_up (fun _ => (0 : Int)) 0 x66_0) 1 x66_1) 2 x66_2)))) (by rw [hRR]) ?_
                                refine x_iinc (pc := 85) (L' := [(1, .int (zI (2 + 1))), (0, .ref (B + 161))]) 0 K hnL rfl (by decide) rfl dX12_posts_85 ?_
                                refine x_L (L' := [(1, .int (zI 3)), (0, .ref (B + 161))]) rfl ?_
                                refine x_goto (pc := 88) (tgt := 39) K dX12_posts_88 (by decide) ?_
                                refine x_iload_n (pc := 39) 0 K rfl rfl dX12_posts_39 ?_
                                refine x_iconst (pc := 40) K dX12_posts_40 ?_
                                refine x_icmp_ge (pc := 41) (tgt := 91) K (by decide) (by decide) dX12_posts_41 (by decide) (fun h_41 => ?_) (fun h_41 => ?_)
                                · skip
                                  refine x_aload_n (pc := 91) 1 K rfl rfl dX12_posts_91 ?_
                                  refine x_callV (pc := 92) (C := RX12) (T := TX12) (n := 26) (ci := 11) (As := []) K (c_X12_ends (E := E) (B := B) (N := N) (a := e66_2) (n := n) (F := F2_66)  (cel_ne (cel_self hc0.1) (by decide)) (cel_ne (cel_ne hc1 (by decide)) (by decide)) (by exact ha66_2) (by omega) (by omega) hq3) gX12_posts_X12_ends rfl (na := 0) (by decide +kernel) rfl ⟨(Nat.le_of_ble_eq_true rfl), (Nat.le_of_ble_eq_true rfl)⟩ (cel_ne (cel_self hc0.1) (by decide)) rfl (st := []) rfl (Nat.le_of_ble_eq_true rfl) ⟨(Nat.le_of_ble_eq_true rfl), (Nat.le_of_ble_eq_true rfl)⟩ dX12_posts_92 (fun r92 N92 w92 hpo92 hN92 => ?_)
                                  obtain ⟨rfl, res_92, F2_92, V2_92, hp92_0, hp92_1, rfl, rfl⟩ := hpo92
                                  refine x_v (w := (va_up (va_up v 161 (oM B F2_92 V2_92)) 171 (iarr E 138 (va_up (va_up (va_up (fun _ => (0 : Int)) 0 x66_0) 1 x66_1) 2 x66_2)))) (up_at1 (by decide)).symm ?_
                                  refine x_st (st' := [.int (zI res_92)]) rfl ?_
                                  have hn92 : nxF 0 F F2_92 := nxF_t hn66_2 hp92_0 (by omega)
                                  refine x_zret (pc := 95) K KR (by omega) (Nat.le_of_ble_eq_true rfl) (Nat.le_of_ble_eq_true rfl) (nb_ok (by omega)) dX12_posts_95 ?_
                                  have hv : pPost t n = pThen (pSig t n e66_2) fun _ e => .ok (postR x66_0 x66_1 x66_2, e) := by
                                    unfold pPost; rw [if_pos (by omega)]; rw [pThen_ok hx66_0, pThen_ok hx66_1, pThen_ok hx66_2]
                                  rcases hp92_1 with ⟨x7, e7, hx7, hr7, ha7, hf7⟩ | ⟨f2, p2, hx2, hr2, hf2, hp2, hl2⟩
                                  · exact ⟨rfl, res_92, F2_92, V2_92, (va_up (va_up (va_up (fun _ => (0 : Int)) 0 x66_0) 1 x66_1) 2 x66_2), hn92, (Or.inl ⟨_, e7, by rw [hv, pThen_ok hx7]; rfl, hr7, ha7, hf7.trans (hf66_2.trans (hf66_1.trans (hf66_0.trans hf29))), rfl⟩), rfl, rfl⟩
                                  · exact ⟨rfl, res_92, F2_92, V2_92, (va_up (va_up (va_up (fun _ => (0 : Int)) 0 x66_0) 1 x66_1) 2 x66_2), hn92, (Or.inr ⟨f2, p2, by rw [hv, pThen_err hx2], hr2, hf2, hp2, hl2⟩), rfl, rfl⟩
                                · skip
                                  exfalso; omega
                              · skip
                                obtain ⟨f2, p2, hx2, -, hf2, hp2, hl2⟩ := hp66_1.resolve_left (fun ⟨_, _, _, q, _⟩ => by omega)
                                refine x_iconst (pc := 72) K dX12_posts_72 ?_
                                refine x_zret (pc := 73) K KR (by omega) (Nat.le_of_ble_eq_true rfl) (Nat.le_of_ble_eq_true rfl) rfl dX12_posts_73 ?_
                                exact ⟨rfl, 0, F2_66, V2_66, (va_up (va_up (fun _ => (0 : Int)) 0 x66_0) 1 x66_1), hn66_2, (Or.inr ⟨f2, p2, by unfold pPost; rw [if_pos (by omega)]; rw [pThen_ok hx66_0]; rw [pThen_ok hx66_1]; rw [pThen_err hx2], rfl, hf2, hp2, hl2⟩), rfl, rfl⟩
                            · skip
                              exfalso; omega
                          · skip
                            exfalso; omega
                      · skip
                        obtain ⟨f2, p2, hx2, -, hf2, hp2, hl2⟩ := hp66_1.resolve_left (fun ⟨_, _, _, q, _⟩ => by omega)
                        refine x_iconst (pc := 72) K dX12_posts_72 ?_
                        refine x_zret (pc := 73) K KR (by omega) (Nat.le_of_ble_eq_true rfl) (Nat.le_of_ble_eq_true rfl) rfl dX12_posts_73 ?_
                        exact ⟨rfl, 0, F2_66, V2_66, (va_up (fun _ => (0 : Int)) 0 x66_0), hn66_1, (Or.inr ⟨f2, p2, by unfold pPost; rw [if_pos (by omega)]; rw [pThen_ok hx66_0]; rw [pThen_err hx2], rfl, hf2, hp2, hl2⟩), rfl, rfl⟩
              · skip
                obtain ⟨f2, p2, hx2, -, hf2, hp2, hl2⟩ := hp66_1.resolve_left (fun ⟨_, _, _, q, _⟩ => by omega)
                refine x_iconst (pc := 72) K dX12_posts_72 ?_
                refine x_zret (pc := 73) K KR (by omega) (Nat.le_of_ble_eq_true rfl) (Nat.le_of_ble_eq_true rfl) rfl dX12_posts_73 ?_
                exact ⟨rfl, 0, F2_66, V2_66, (fun _ => (0 : Int)), hn66_0, (Or.inr ⟨f2, p2, by unfold pPost; rw [if_pos (by omega)]; rw [pThen_err hx2], rfl, hf2, hp2, hl2⟩), rfl, rfl⟩
      · skip
        exfalso; omega
