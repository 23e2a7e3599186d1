theorem dX12_number_0 : decode cX12_number 0 = .ok (.aload_n 0, 1) := by decide +kernel
set_option maxRecDepth 20000 in
theorem ggX12_number_X12_next : GoodIn wsX12_number wsX12_next := goodIn_r _ [8, 9, 10, 11, 12, 1, 3, 13, 14, 15, 16, 17, 18, 19, 7, 20, 21, 22, 23, 24, 25, 26, 27, 28, 29, 30, 31, 32, 33, 34, 35, 36, 37, 38, 39, 40, 41, 42, 43, 44, 45, 46, 47, 48, 49, 50, 51, 52] (by decide +kernel) (by decide +kernel)
set_option maxRecDepth 20000 in
theorem gX12_number_X12_next : GoodIn wsX12_number (wsV RX12 115 RX12 yX12_next wsX12_next) := goodIn_app (goodIn_of _ (by decide +kernel)) ggX12_number_X12_next
theorem dX12_number_1 : decode cX12_number 1 = .ok (.invokevirtual 115, 3) := by decide +kernel
theorem dX12_number_4 : decode cX12_number 4 = .ok (.aload_n 0, 1) := by decide +kernel
theorem dX12_number_5 : decode cX12_number 5 = .ok (.getfield 100, 3) := by decide +kernel
theorem dX12_number_8 : decode cX12_number 8 = .ok (.iconst 2, 1) := by decide +kernel
theorem dX12_number_9 : decode cX12_number 9 = .ok (.if_icmp .eq 10, 3) := by decide +kernel
theorem dX12_number_19 : decode cX12_number 19 = .ok (.aload_n 0, 1) := by decide +kernel
theorem dX12_number_20 : decode cX12_number 20 = .ok (.getfield 103, 3) := by decide +kernel
theorem dX12_number_23 : decode cX12_number 23 = .ok (.iload_n 1, 1) := by decide +kernel
theorem dX12_number_24 : decode cX12_number 24 = .ok (.i2l, 1) := by decide +kernel
theorem dX12_number_25 : decode cX12_number 25 = .ok (.iload_n 2, 1) := by decide +kernel
theorem dX12_number_26 : decode cX12_number 26 = .ok (.i2l, 1) := by decide +kernel
set_option maxRecDepth 20000 in
theorem ggX12_number_X12_in : GoodIn wsX12_number wsX12_in := goodIn_r _ [26] (by decide +kernel) (by decide +kernel)
set_option maxRecDepth 20000 in
theorem gX12_number_X12_in : GoodIn wsX12_number (va_wsS RX12 54 yX12_in wsX12_in) := goodIn_app (goodIn_of _ (by decide +kernel)) ggX12_number_X12_in
theorem dX12_number_27 : decode cX12_number 27 = .ok (.invokestatic 54, 3) := by decide +kernel
theorem dX12_number_30 : decode cX12_number 30 = .ok (.ifCond .ne 10, 3) := by decide +kernel
theorem dX12_number_40 : decode cX12_number 40 = .ok (.iconst 1, 1) := by decide +kernel
theorem dX12_number_41 : decode cX12_number 41 = .ok (.ireturn, 1) := by decide +kernel
theorem dX12_number_33 : decode cX12_number 33 = .ok (.aload_n 0, 1) := by decide +kernel
theorem dX12_number_34 : decode cX12_number 34 = .ok (.iconst 2, 1) := by decide +kernel
theorem dX12_number_35 : decode cX12_number 35 = .ok (.putfield 118, 3) := by decide +kernel
theorem dX12_number_38 : decode cX12_number 38 = .ok (.iconst 0, 1) := by decide +kernel
theorem dX12_number_39 : decode cX12_number 39 = .ok (.ireturn, 1) := by decide +kernel
theorem dX12_number_12 : decode cX12_number 12 = .ok (.aload_n 0, 1) := by decide +kernel
theorem dX12_number_13 : decode cX12_number 13 = .ok (.iconst 1, 1) := by decide +kernel
theorem dX12_number_14 : decode cX12_number 14 = .ok (.putfield 118, 3) := by decide +kernel
theorem dX12_number_17 : decode cX12_number 17 = .ok (.iconst 0, 1) := by decide +kernel
theorem dX12_number_18 : decode cX12_number 18 = .ok (.ireturn, 1) := by decide +kernel
theorem dX12_ends_0 : decode cX12_ends 0 = .ok (.aload_n 0, 1) := by decide +kernel
set_option maxRecDepth 20000 in
theorem ggX12_ends_X12_next : GoodIn wsX12_ends wsX12_next := goodIn_r _ [6, 7, 8, 9, 10, 1, 11, 12, 13, 14, 15, 16, 17, 18, 5, 19, 20, 21, 22, 23, 24, 25, 31, 32, 33, 34, 35, 36, 37, 38, 39, 40, 41, 42, 43, 44, 45, 46, 47, 48, 49, 50, 51, 52, 53, 54, 55, 56] (by decide +kernel) (by decide +kernel)
set_option maxRecDepth 20000 in
theorem gX12_ends_X12_next : GoodIn wsX12_ends (wsV RX12 115 RX12 yX12_next wsX12_next) := goodIn_app (goodIn_of _ (by decide +kernel)) ggX12_ends_X12_next
theorem dX12_ends_1 : decode cX12_ends 1 = .ok (.invokevirtual 115, 3) := by decide +kernel
theorem dX12_ends_4 : decode cX12_ends 4 = .ok (.aload_n 0, 1) := by decide +kernel
theorem dX12_ends_5 : decode cX12_ends 5 = .ok (.aload_n 0, 1) := by decide +kernel
theorem dX12_ends_6 : decode cX12_ends 6 = .ok (.getfield 100, 3) := by decide +kernel
theorem dX12_ends_9 : decode cX12_ends 9 = .ok (.iconst 3, 1) := by decide +kernel
theorem dX12_ends_10 : decode cX12_ends 10 = .ok (.if_icmp .ne 7, 3) := by decide +kernel
theorem dX12_ends_17 : decode cX12_ends 17 = .ok (.iconst 0, 1) := by decide +kernel
set_option maxRecDepth 20000 in
theorem ggX12_ends_X12_mustBe : GoodIn wsX12_ends wsX12_mustBe := goodIn_r _ [29, 30, 31, 32, 33, 34, 35, 36, 37, 38, 39, 40, 41, 42, 43, 44, 45, 46, 47, 48, 49, 50, 51, 52, 53, 54, 55, 56] (by decide +kernel) (by decide +kernel)
set_option maxRecDepth 20000 in
theorem gX12_ends_X12_mustBe : GoodIn wsX12_ends (wsV RX12 121 RX12 yX12_mustBe wsX12_mustBe) := goodIn_app (goodIn_of _ (by decide +kernel)) ggX12_ends_X12_mustBe
theorem dX12_ends_18 : decode cX12_ends 18 = .ok (.invokevirtual 121, 3) := by decide +kernel
theorem dX12_ends_21 : decode cX12_ends 21 = .ok (.ireturn, 1) := by decide +kernel
theorem dX12_ends_13 : decode cX12_ends 13 = .ok (.iconst 1, 1) := by decide +kernel
theorem dX12_ends_14 : decode cX12_ends 14 = .ok (.goto 4, 3) := by decide +kernel
theorem dX12_takesCell_0 : decode cX12_takesCell 0 = .ok (.aload_n 0, 1) := by decide +kernel
theorem dX12_takesCell_1 : decode cX12_takesCell 1 = .ok (.iconst 0, 1) := by decide +kernel
theorem dX12_takesCell_2 : decode cX12_takesCell 2 = .ok (.bipush 7, 2) := by decide +kernel
set_option maxRecDepth 20000 in
theorem ggX12_takesCell_X12_number : GoodIn wsX12_takesCell wsX12_number := goodIn_r _ [7, 8, 9, 1, 10, 11, 12, 6, 13, 14, 15, 16, 17, 18, 19, 20, 21, 22, 23, 24, 25, 26, 27, 28, 29, 30, 31, 32, 33, 34, 35, 36, 37, 38, 39, 40, 41, 42, 43, 44, 45, 46, 47, 48, 49, 50, 51, 52, 53, 54, 55, 56, 57] (by decide +kernel) (by decide +kernel)
set_option maxRecDepth 20000 in
theorem gX12_takesCell_X12_number : GoodIn wsX12_takesCell (wsV RX12 125 RX12 yX12_number wsX12_number) := goodIn_app (goodIn_of _ (by decide +kernel)) ggX12_takesCell_X12_number
theorem dX12_takesCell_4 : decode cX12_takesCell 4 = .ok (.invokevirtual 125, 3) := by decide +kernel
theorem dX12_takesCell_7 : decode cX12_takesCell 7 = .ok (.ifCond .ne 5, 3) := by decide +kernel
theorem dX12_takesCell_12 : decode cX12_takesCell 12 = .ok (.aload_n 0, 1) := by decide +kernel
theorem dX12_takesCell_13 : decode cX12_takesCell 13 = .ok (.aload_n 0, 1) := by decide +kernel
theorem dX12_takesCell_14 : decode cX12_takesCell 14 = .ok (.getfield 103, 3) := by decide +kernel
theorem dX12_takesCell_17 : decode cX12_takesCell 17 = .ok (.l2i, 1) := by decide +kernel
theorem dX12_takesCell_18 : decode cX12_takesCell 18 = .ok (.putfield 129, 3) := by decide +kernel
theorem dX12_takesCell_21 : decode cX12_takesCell 21 = .ok (.aload_n 0, 1) := by decide +kernel
theorem dX12_takesCell_22 : decode cX12_takesCell 22 = .ok (.iconst 0, 1) := by decide +kernel
theorem dX12_takesCell_23 : decode cX12_takesCell 23 = .ok (.iconst 5, 1) := by decide +kernel
theorem dX12_takesCell_24 : decode cX12_takesCell 24 = .ok (.invokevirtual 125, 3) := by decide +kernel
theorem dX12_takesCell_27 : decode cX12_takesCell 27 = .ok (.ifCond .ne 5, 3) := by decide +kernel
theorem dX12_takesCell_32 : decode cX12_takesCell 32 = .ok (.aload_n 0, 1) := by decide +kernel
theorem dX12_takesCell_33 : decode cX12_takesCell 33 = .ok (.dup, 1) := by decide +kernel
theorem dX12_takesCell_34 : decode cX12_takesCell 34 = .ok (.getfield 129, 3) := by decide +kernel
theorem dX12_takesCell_37 : decode cX12_takesCell 37 = .ok (.bipush 8, 2) := by decide +kernel
theorem dX12_takesCell_39 : decode cX12_takesCell 39 = .ok (.aload_n 0, 1) := by decide +kernel
theorem dX12_takesCell_40 : decode cX12_takesCell 40 = .ok (.getfield 103, 3) := by decide +kernel
theorem dX12_takesCell_43 : decode cX12_takesCell 43 = .ok (.l2i, 1) := by decide +kernel
theorem dX12_takesCell_44 : decode cX12_takesCell 44 = .ok (.imul, 1) := by decide +kernel
theorem dX12_takesCell_45 : decode cX12_takesCell 45 = .ok (.iadd, 1) := by decide +kernel
theorem dX12_takesCell_46 : decode cX12_takesCell 46 = .ok (.putfield 129, 3) := by decide +kernel
theorem dX12_takesCell_49 : decode cX12_takesCell 49 = .ok (.iconst 1, 1) := by decide +kernel
theorem dX12_takesCell_50 : decode cX12_takesCell 50 = .ok (.ireturn, 1) := by decide +kernel
theorem dX12_takesCell_30 : decode cX12_takesCell 30 = .ok (.iconst 0, 1) := by decide +kernel
theorem dX12_takesCell_31 : decode cX12_takesCell 31 = .ok (.ireturn, 1) := by decide +kernel
theorem dX12_takesCell_10 : decode cX12_takesCell 10 = .ok (.iconst 0, 1) := by decide +kernel
theorem dX12_takesCell_11 : decode cX12_takesCell 11 = .ok (.ireturn, 1) := by decide +kernel
set_option maxRecDepth 100000 in
set_option maxHeartbeats 4000000 in
theorem c_X12_number {E : XE} {B N : Nat} {v : Nat → va_E} {F t : Nat → Int} {V lo hi : Int} {a n : Nat} (hc0 : Cel N v 161 (oM B F V)) (hc1 : Cel N v 165 (iarr E 400 t)) (hq0 : F 15 = (a : Int)) (hq1 : F 19 = (n : Int)) (hq2 : a ≤ n ∧ n ≤ 400) (hq3 : ∀ i : Nat, 0 ≤ t i ∧ t i ≤ 255) (hq4 : (-2147483648 ≤ lo ∧ lo ≤ 2147483647)) (hq5 : (-2147483648 ≤ hi ∧ hi ≤ 2147483647)) : gM yX12_number wsX12_number ({ frames := 3, cells := 0, slots := 0, locals := 66 }) E B N v [.ref (B + 161), .int (zI lo), .int (zI hi)] (po0 N (fun ρ v' => ∃ (res : Int), ∃ (F2 : Nat → Int), ∃ (V2 : Int), (nxF 0 F F2) ∧ ((∃ (x2 : Int) (e2 : Nat), (pNum t n lo hi a) = .ok (x2, e2) ∧ res = 1 ∧ F2 15 = (e2 : Int) ∧ F2 6 = F 6 ∧ V2 = x2) ∨ (∃ (f2 : Int) (p2 : Nat), (pNum t n lo hi a) = .error (f2, p2) ∧ res = 0 ∧ F2 6 = f2 ∧ F2 16 = (p2 : Int) ∧ p2 ≤ n)) ∧ ρ = some (.int (zI res)) ∧ (va_up v 161 (oM B F2 V2)) = v')) := by
  refine x_met (nm := "number") (by decide +kernel) rfl (Nat.le_of_ble_eq_true rfl) rfl (fun Γ K KR hnL hnm => ?_)
  show XW Γ N v [(0, .ref (B + 161)), (1, .int (zI lo)), (2, .int (zI hi))] 0 0 0 []
  have hkr := tokK_rng t n a
  have hvr := tokV_rng (n := n) (a := a) hq3
  have her := tokE_rng (t := t) hq2.1
  have hsr := skT_le (t := t) hq2.1
  refine x_v (cel_pad hc0) ?_
  refine x_aload_n (pc := 0) 0 K rfl rfl dX12_number_0 ?_
  refine x_callV (pc := 1) (C := RX12) (T := TX12) (n := 26) (ci := 11) (As := []) K (c_X12_next (E := E) (B := B) (N := N) (a := a) (n := n)  (cel_self hc0.1) (cel_ne hc1 (by decide)) hq0 hq1 hq2 hq3) gX12_number_X12_next rfl (na := 0) (by decide +kernel) rfl ⟨(Nat.le_of_ble_eq_true rfl), (Nat.le_of_ble_eq_true rfl)⟩ (cel_self hc0.1) rfl (st := []) rfl (Nat.le_of_ble_eq_true rfl) ⟨(Nat.le_of_ble_eq_true rfl), (Nat.le_of_ble_eq_true rfl)⟩ dX12_number_1 (fun r1 N1 w1 hpo1 hN1 => ?_)
  obtain ⟨rfl, rfl, rfl⟩ := hpo1
  refine x_v (w := (va_up v 161 (oM B (va_up (va_up (va_up F 15 (tokE t n a : Int)) 16 (skT t n a : Int)) 17 (tokK t n a)) (tokV t n a)))) (up_at0).symm ?_
  refine x_st (st' := []) rfl ?_
  refine x_aload_n (pc := 4) 0 K rfl rfl dX12_number_4 ?_
  refine x_get (pc := 5) (C := RX12) (T := TX12) (n := 26) (ci := 11) (idx := 100) (ref := "BorderBedsModel") (x := .int (zI (tokK t n a)))  K (cel_self hc0.1) rfl (by decide +kernel) 17 (by decide) (by decide +kernel) rfl rfl dX12_number_5 ?_
  refine x_iconst (pc := 8) K dX12_number_8 ?_
  refine x_icmp_eq (pc := 9) (tgt := 19) K (by omega) (by decide) dX12_number_9 (by decide) (fun h_9 => ?_) (fun h_9 => ?_)
  · skip
    refine x_aload_n (pc := 19) 0 K rfl rfl dX12_number_19 ?_
    refine x_get (pc := 20) (C := RX12) (T := TX12) (n := 26) (ci := 11) (idx := 103) (ref := "BorderBedsModel") (x := .long (zL (tokV t n a)))  K (cel_self hc0.1) rfl (by decide +kernel) 18 (by decide) (by decide +kernel) rfl rfl dX12_number_20 ?_
    refine x_iload_n (pc := 23) 1 K rfl rfl dX12_number_23 ?_
    refine x_i2l (pc := 24) K (by omega) dX12_number_24 ?_
    refine x_iload_n (pc := 25) 2 K rfl rfl dX12_number_25 ?_
    refine x_i2l (pc := 26) K (by omega) dX12_number_26 ?_
    refine x_callS (pc := 27) (As := [.long (zL (tokV t n a)), .long (zL lo), .long (zL hi)]) K (c_X12_in (E := E) (B := B) (N := N)    (by omega) (by omega) (by omega)) gX12_number_X12_in rfl (na := 3) (by decide +kernel) rfl ⟨(Nat.le_of_ble_eq_true rfl), (Nat.le_of_ble_eq_true rfl)⟩ (st := []) rfl (Nat.le_of_ble_eq_true rfl) ⟨(Nat.le_of_ble_eq_true rfl), (Nat.le_of_ble_eq_true rfl)⟩ dX12_number_27 (fun r27 N27 w27 hpo27 hN27 => ?_)
    obtain ⟨rfl, rfl, rfl⟩ := hpo27
    refine x_st (st' := [.int (zI (bI (lo ≤ (tokV t n a) ∧ (tokV t n a) ≤ hi)))]) rfl ?_
    have hrg27 := bI_rng (lo ≤ (tokV t n a) ∧ (tokV t n a) ≤ hi)
    refine x_if_ne (pc := 30) (tgt := 40) K (by omega) dX12_number_30 (by decide) (fun h_30 => ?_) (fun h_30 => ?_)
    · skip
      have h_30 := bI_f h_30
      refine x_iconst (pc := 40) K dX12_number_40 ?_
      refine x_zret (pc := 41) K KR (by omega) (Nat.le_of_ble_eq_true rfl) (Nat.le_of_ble_eq_true rfl) rfl dX12_number_41 ?_
      exact ⟨rfl, 1, (va_up (va_up (va_up F 15 (tokE t n a : Int)) 16 (skT t n a : Int)) 17 (tokK t n a)), (tokV t n a), (fun k a0 b0 c0 d0 e0 f0 => by (repeat rw [va_up_ne _ _ (by omega)])), (Or.inl ⟨tokV t n a, tokE t n a, by unfold pNum; rw [if_neg (by omega), if_pos h_30], rfl, rfl, rfl, rfl⟩), rfl, rfl⟩
    · skip
      have h_30 := bI_t h_30
      refine x_aload_n (pc := 33) 0 K rfl rfl dX12_number_33 ?_
      refine x_iconst (pc := 34) K dX12_number_34 ?_
      refine x_put (pc := 35) (C := RX12) (T := TX12) (n := 26) (ci := 11) (idx := 118) (ref := "BorderBedsModel") (ty := .int)  K (cel_self hc0.1) rfl (by decide +kernel) tyX12 tyX12_ok nmX12 6 (by decide) (by decide +kernel) rfl rfl (by decide +kernel) rfl rfl (Nat.le_of_ble_eq_true rfl) dX12_number_35 ?_
      refine x_v (w := (va_up v 161 (oM B (va_up (va_up (va_up (va_up F 6 2) 15 (tokE t n a : Int)) 16 (skT t n a : Int)) 17 (tokK t n a)) (tokV t n a)))) (up_at0).symm ?_
      refine x_iconst (pc := 38) K dX12_number_38 ?_
      refine x_zret (pc := 39) K KR (by omega) (Nat.le_of_ble_eq_true rfl) (Nat.le_of_ble_eq_true rfl) rfl dX12_number_39 ?_
      exact ⟨rfl, 0, (va_up (va_up (va_up (va_up F 6 2) 15 (tokE t n a : Int)) 16 (skT t n a : Int)) 17 (tokK t n a)), (tokV t n a), (fun k a0 b0 c0 d0 e0 f0 => by (repeat rw [va_up_ne _ _ (by omega)])), (Or.inr ⟨2, skT t n a, by unfold pNum; rw [if_neg (by omega), if_neg h_30], rfl, rfl, rfl, hsr.2⟩), rfl, rfl⟩
  · skip
    refine x_aload_n (pc := 12) 0 K rfl rfl dX12_number_12 ?_
    refine x_iconst (pc := 13) K dX12_number_13 ?_
    refine x_put (pc := 14) (C := RX12) (T := TX12) (n := 26) (ci := 11) (idx := 118) (ref := "BorderBedsModel") (ty := .int)  K (cel_self hc0.1) rfl (by decide +kernel) tyX12 tyX12_ok nmX12 6 (by decide) (by decide +kernel) rfl rfl (by decide +kernel) rfl rfl (Nat.le_of_ble_eq_true rfl) dX12_number_14 ?_
    refine x_v (w := (va_up v 161 (oM B (va_up (va_up (va_up (va_up F 6 1) 15 (tokE t n a : Int)) 16 (skT t n a : Int)) 17 (tokK t n a)) (tokV t n a)))) (up_at0).symm ?_
    refine x_iconst (pc := 17) K dX12_number_17 ?_
    refine x_zret (pc := 18) K KR (by omega) (Nat.le_of_ble_eq_true rfl) (Nat.le_of_ble_eq_true rfl) rfl dX12_number_18 ?_
    exact ⟨rfl, 0, (va_up (va_up (va_up (va_up F 6 1) 15 (tokE t n a : Int)) 16 (skT t n a : Int)) 17 (tokK t n a)), (tokV t n a), (fun k a0 b0 c0 d0 e0 f0 => by (repeat rw [va_up_ne _ _ (by omega)])), (Or.inr ⟨1, skT t n a, by unfold pNum; rw [if_pos (by omega)], rfl, rfl, rfl, hsr.2⟩), rfl, rfl⟩

set_option maxRecDepth 100000 in
set_option maxHeartbeats 4000000 in
theorem c_X12_ends {E : XE} {B N : Nat} {v : Nat → va_E} {F t : Nat → Int} {V : Int} {a n : Nat} (hc0 : Cel N v 161 (oM B F V)) (hc1 : Cel N v 165 (iarr E 400 t)) (hq0 : F 15 = (a : Int)) (hq1 : F 19 = (n : Int)) (hq2 : a ≤ n ∧ n ≤ 400) (hq3 : ∀ i : Nat, 0 ≤ t i ∧ t i ≤ 255) : gM yX12_ends wsX12_ends ({ frames := 3, cells := 0, slots := 0, locals := 66 }) E B N v [.ref (B + 161)] (po0 N (fun ρ v' => ∃ (res : Int), ∃ (F2 : Nat → Int), ∃ (V2 : Int), (nxF 0 F F2) ∧ ((∃ (x2 : Int) (e2 : Nat), (pSig t n a) = .ok (x2, e2) ∧ res = 1 ∧ F2 15 = (e2 : Int) ∧ F2 6 = F 6) ∨ (∃ (f2 : Int) (p2 : Nat), (pSig t n a) = .error (f2, p2) ∧ res = 0 ∧ F2 6 = f2 ∧ F2 16 = (p2 : Int) ∧ p2 ≤ n)) ∧ ρ = some (.int (zI res)) ∧ (va_up v 161 (oM B F2 V2)) = v')) := by
  refine x_met (nm := "ends") (by decide +kernel) rfl (Nat.le_of_ble_eq_true rfl) rfl (fun Γ K KR hnL hnm => ?_)
  show XW Γ N v [(0, .ref (B + 161))] 0 0 0 []
  have hkr := tokK_rng t n a
  have hvr := tokV_rng (n := n) (a := a) hq3
  have her := tokE_rng (t := t) hq2.1
  have hsr := skT_le (t := t) hq2.1
  refine x_v (cel_pad hc0) ?_
  refine x_aload_n (pc := 0) 0 K rfl rfl dX12_ends_0 ?_
  refine x_callV (pc := 1) (C := RX12) (T := TX12) (n := 26) (ci := 11) (As := []) K (c_X12_next (E := E) (B := B) (N := N) (a := a) (n := n)  (cel_self hc0.1) (cel_ne hc1 (by decide)) hq0 hq1 hq2 hq3) gX12_ends_X12_next rfl (na := 0) (by decide +kernel) rfl ⟨(Nat.le_of_ble_eq_true rfl), (Nat.le_of_ble_eq_true rfl)⟩ (cel_self hc0.1) rfl (st := []) rfl (Nat.le_of_ble_eq_true rfl) ⟨(Nat.le_of_ble_eq_true rfl), (Nat.le_of_ble_eq_true rfl)⟩ dX12_ends_1 (fun r1 N1 w1 hpo1 hN1 => ?_)
  obtain ⟨rfl, rfl, rfl⟩ := hpo1
  refine x_v (w := (va_up v 161 (oM B (va_up (va_up (va_up F 15 (tokE t n a : Int)) 16 (skT t n a : Int)) 17 (tokK t n a)) (tokV t n a)))) (up_at0).symm ?_
  refine x_st (st' := []) rfl ?_
  refine x_aload_n (pc := 4) 0 K rfl rfl dX12_ends_4 ?_
  refine x_aload_n (pc := 5) 0 K rfl rfl dX12_ends_5 ?_
  refine x_get (pc := 6) (C := RX12) (T := TX12) (n := 26) (ci := 11) (idx := 100) (ref := "BorderBedsModel") (x := .int (zI (tokK t n a)))  K (cel_self hc0.1) rfl (by decide +kernel) 17 (by decide) (by decide +kernel) rfl rfl dX12_ends_6 ?_
  refine x_iconst (pc := 9) K dX12_ends_9 ?_
  refine x_icmp_ne (pc := 10) (tgt := 17) K (by omega) (by decide) dX12_ends_10 (by decide) (fun h_10 => ?_) (fun h_10 => ?_)
  · skip
    refine x_iconst (pc := 17) K dX12_ends_17 ?_
    refine x_callV (pc := 18) (C := RX12) (T := TX12) (n := 26) (ci := 11) (As := [.int (zI 0)]) K (c_X12_mustBe (E := E) (B := B) (N := N)   (cel_self hc0.1) (by omega)) gX12_ends_X12_mustBe rfl (na := 1) (by decide +kernel) rfl ⟨(Nat.le_of_ble_eq_true rfl), (Nat.le_of_ble_eq_true rfl)⟩ (cel_self hc0.1) rfl (st := []) rfl (Nat.le_of_ble_eq_true rfl) ⟨(Nat.le_of_ble_eq_true rfl), (Nat.le_of_ble_eq_true rfl)⟩ dX12_ends_18 (fun r18 N18 w18 hpo18 hN18 => ?_)
    obtain ⟨rfl, f2_18, hp18_0, rfl, rfl⟩ := hpo18
    refine x_v (w := (va_up v 161 (oM B (va_up (va_up (va_up (va_up F 6 f2_18) 15 (tokE t n a : Int)) 16 (skT t n a : Int)) 17 (tokK t n a)) (tokV t n a)))) (up_at0).symm ?_
    refine x_st (st' := [.int (zI 0)]) rfl ?_
    refine x_zret (pc := 21) K KR (by omega) (Nat.le_of_ble_eq_true rfl) (Nat.le_of_ble_eq_true rfl) (nb_ok (by omega)) dX12_ends_21 ?_
    exact ⟨rfl, 0, (va_up (va_up (va_up (va_up F 6 f2_18) 15 (tokE t n a : Int)) 16 (skT t n a : Int)) 17 (tokK t n a)), (tokV t n a), (fun k a0 b0 c0 d0 e0 f0 => by (repeat rw [va_up_ne _ _ (by omega)])), (by first | exact Or.inl ⟨0, tokE t n a, by unfold pSig; rw [if_pos (by omega)], rfl, rfl, by show f2_18 = F 6; rw [hp18_0, if_pos (by omega)]; rfl⟩ | exact Or.inr ⟨1, skT t n a, by unfold pSig; rw [if_neg (by omega)], rfl, by show f2_18 = 1; rw [hp18_0, if_neg (by omega)], rfl, hsr.2⟩), rfl, rfl⟩
  · skip
    refine x_iconst (pc := 13) K dX12_ends_13 ?_
    refine x_goto (pc := 14) (tgt := 18) K dX12_ends_14 (by decide) ?_
    refine x_callV (pc := 18) (C := RX12) (T := TX12) (n := 26) (ci := 11) (As := [.int (zI 1)]) K (c_X12_mustBe (E := E) (B := B) (N := N)   (cel_self hc0.1) (by omega)) gX12_ends_X12_mustBe rfl (na := 1) (by decide +kernel) rfl ⟨(Nat.le_of_ble_eq_true rfl), (Nat.le_of_ble_eq_true rfl)⟩ (cel_self hc0.1) rfl (st := []) rfl (Nat.le_of_ble_eq_true rfl) ⟨(Nat.le_of_ble_eq_true rfl), (Nat.le_of_ble_eq_true rfl)⟩ dX12_ends_18 (fun r18 N18 w18 hpo18 hN18 => ?_)
    obtain ⟨rfl, f2_18, hp18_0, rfl, rfl⟩ := hpo18
    refine x_v (w := (va_up v 161 (oM B (va_up (va_up (va_up (va_up F 6 f2_18) 15 (tokE t n a : Int)) 16 (skT t n a : Int)) 17 (tokK t n a)) (tokV t n a)))) (up_at0).symm ?_
    refine x_st (st' := [.int (zI 1)]) rfl ?_
    refine x_zret (pc := 21) K KR (by omega) (Nat.le_of_ble_eq_true rfl) (Nat.le_of_ble_eq_true rfl) (nb_ok (by omega)) dX12_ends_21 ?_
    exact ⟨rfl, 1, (va_up (va_up (va_up (va_up F 6 f2_18) 15 (tokE t n a : Int)) 16 (skT t n a : Int)) 17 (tokK t n a)), (tokV t n a), (fun k a0 b0 c0 d0 e0 f0 => by (repeat rw [va_up_ne _ _ (by omega)])), (by first | exact Or.inl ⟨0, tokE t n a, by unfold pSig; rw [if_pos (by omega)], rfl, rfl, by show f2_18 = F 6; rw [hp18_0, if_pos (by omega)]; rfl⟩ | exact Or.inr ⟨1, skT t n a, by unfold pSig; rw [if_neg (by omega)], rfl, by show f2_18 = 1; rw [hp18_0, if_neg (by omega)], rfl, hsr.2⟩), rfl, rfl⟩

set_option maxRecDepth 100000 in
set_option maxHeartbeats 4000000 in
theorem c_X12_takesCell {E : XE} {B N : Nat} {v : Nat → va_E} {F t : Nat → Int} {V : Int} {a n : Nat} (hc0 : Cel N v 161 (oM B F V)) (hc1 : Cel N v 165 (iarr E 400 t)) (hq0 : F 15 = (a : Int)) (hq1 : F 19 = (n : Int)) (hq2 : a ≤ n ∧ n ≤ 400) (hq3 : ∀ i : Nat, 0 ≤ t i ∧ t i ≤ 255) : gM yX12_takesCell wsX12_takesCell ({ frames := 4, cells := 0, slots := 0, locals := 88 }) E B N v [.ref (B + 161)] (po0 N (fun ρ v' => ∃ (res : Int), ∃ (F2 : Nat → Int), ∃ (V2 : Int), (nxF 1 F F2) ∧ ((∃ (x2 : Int) (e2 : Nat), (pCell t n a) = .ok (x2, e2) ∧ res = 1 ∧ F2 15 = (e2 : Int) ∧ F2 6 = F 6 ∧ F2 22 = x2) ∨ (∃ (f2 : Int) (p2 : Nat), (pCell t n a) = .error (f2, p2) ∧ res = 0 ∧ F2 6 = f2 ∧ F2 16 = (p2 : Int) ∧ p2 ≤ n)) ∧ ρ = some (.int (zI res)) ∧ (va_up v 161 (oM B F2 V2)) = v')) := by
  refine x_met (nm := "takesCell") (by decide +kernel) rfl (Nat.le_of_ble_eq_true rfl) rfl (fun Γ K KR hnL hnm => ?_)
  show XW Γ N v [(0, .ref (B + 161))] 0 0 0 []
  refine x_v (cel_pad hc0) ?_
  refine x_aload_n (pc := 0) 0 K rfl rfl dX12_takesCell_0 ?_
  refine x_iconst (pc := 1) K dX12_takesCell_1 ?_
  refine x_bipush (pc := 2) K (by decide) dX12_takesCell_2 ?_
  refine x_callV (pc := 4) (C := RX12) (T := TX12) (n := 26) (ci := 11) (As := [.int (zI 0), .int (zI 7)]) K (c_X12_number (E := E) (B := B) (N := N) (a := a) (n := n)  (cel_self hc0.1) (cel_ne hc1 (by decide)) hq0 hq1 hq2 hq3 (by omega) (by omega)) gX12_takesCell_X12_number rfl (na := 2) (by decide +kernel) rfl ⟨(Nat.le_of_ble_eq_true rfl), (Nat.le_of_ble_eq_true rfl)⟩ (cel_self hc0.1) rfl (st := []) rfl (Nat.le_of_ble_eq_true rfl) ⟨(Nat.le_of_ble_eq_true rfl), (Nat.le_of_ble_eq_true rfl)⟩ dX12_takesCell_4 (fun r4 N4 w4 hpo4 hN4 => ?_)
  obtain ⟨rfl, res_4, F2_4, V2_4, hp4_0, hp4_1, rfl, rfl⟩ := hpo4
  refine x_v (w := (va_up v 161 (oM B F2_4 V2_4))) (up_at0).symm ?_
  refine x_st (st' := [.int (zI res_4)]) rfl ?_
  have n5_4 := hp4_0 5 (by omega) (by omega) (by omega) (by omega) (by omega) (by omega)
  have n19_4 := hp4_0 19 (by omega) (by omega) (by omega) (by omega) (by omega) (by omega)
  refine x_if_ne (pc := 7) (tgt := 12) K (by omega) dX12_takesCell_7 (by decide) (fun h_7 => ?_) (fun h_7 => ?_)
  · skip
    obtain ⟨x4, e4, hx4, -, ha4, hf4, hv4⟩ := hp4_1.resolve_right (fun ⟨_, _, _, q, _⟩ => by omega)
    have ho4 := pNum_ok hx4 hq2.1
    refine x_aload_n (pc := 12) 0 K rfl rfl dX12_takesCell_12 ?_
    refine x_aload_n (pc := 13) 0 K rfl rfl dX12_takesCell_13 ?_
    refine x_get (pc := 14) (C := RX12) (T := TX12) (n := 26) (ci := 11) (idx := 103) (ref := "BorderBedsModel") (x := .long (zL V2_4))  K (cel_self hc0.1) rfl (by decide +kernel) 18 (by decide) (by decide +kernel) rfl rfl dX12_takesCell_14 ?_
    refine x_l2i (pc := 17) K dX12_takesCell_17 ?_
    refine x_put (pc := 18) (C := RX12) (T := TX12) (n := 26) (ci := 11) (idx := 129) (ref := "BorderBedsModel") (ty := .int)  K (cel_self hc0.1) rfl (by decide +kernel) tyX12 tyX12_ok nmX12 22 (by decide) (by decide +kernel) rfl rfl (by decide +kernel) rfl rfl (Nat.le_of_ble_eq_true rfl) dX12_takesCell_18 ?_
    refine x_v (w := (va_up v 161 (oM B (va_up F2_4 22 V2_4) V2_4))) (up_at0).symm ?_
    refine x_aload_n (pc := 21) 0 K rfl rfl dX12_takesCell_21 ?_
    refine x_iconst (pc := 22) K dX12_takesCell_22 ?_
    refine x_iconst (pc := 23) K dX12_takesCell_23 ?_
    refine x_callV (pc := 24) (C := RX12) (T := TX12) (n := 26) (ci := 11) (As := [.int (zI 0), .int (zI 5)]) K (c_X12_number (E := E) (B := B) (N := N) (a := e4) (n := n) (F := (va_up F2_4 22 V2_4))  (cel_self hc0.1) (cel_ne hc1 (by decide)) (by rw [va_up_ne _ _ (by omega)]; exact ha4) (by rw [va_up_ne _ _ (by omega)]; omega) (by omega) hq3 (by omega) (by omega)) gX12_takesCell_X12_number rfl (na := 2) (by decide +kernel) rfl ⟨(Nat.le_of_ble_eq_true rfl), (Nat.le_of_ble_eq_true rfl)⟩ (cel_self hc0.1) rfl (st := []) rfl (Nat.le_of_ble_eq_true rfl) ⟨(Nat.le_of_ble_eq_true rfl), (Nat.le_of_ble_eq_true rfl)⟩ dX12_takesCell_24 (fun r24 N24 w24 hpo24 hN24 => ?_)
    obtain ⟨rfl, res_24, F2_24, V2_24, hp24_0, hp24_1, rfl, rfl⟩ := hpo24
    refine x_v (w := (va_up v 161 (oM B F2_24 V2_24))) (up_at0).symm ?_
    refine x_st (st' := [.int (zI res_24)]) rfl ?_
    have hn24 : nxF 1 F F2_24 := fun k a0 b0 c0 d0 e0 f0 => (hp24_0 k a0 b0 c0 d0 (by omega) (by omega)).trans (by rw [va_up_ne _ _ (by omega)]; exact hp4_0 k a0 b0 c0 d0 (by omega) (by omega))
    have h22 : F2_24 22 = V2_4 := (hp24_0 22 (by omega) (by omega) (by omega) (by omega) (by omega) (by omega)).trans (va_up_self _ _ _)
    refine x_if_ne (pc := 27) (tgt := 32) K (by omega) dX12_takesCell_27 (by decide) (fun h_27 => ?_) (fun h_27 => ?_)
    · skip
      obtain ⟨x24, e24, hx24, -, ha24, hf24, hv24⟩ := hp24_1.resolve_right (fun ⟨_, _, _, q, _⟩ => by omega)
      have ho24 := pNum_ok hx24 (by omega)
      rw [va_up_ne _ _ (by omega)] at hf24
      refine x_aload_n (pc := 32) 0 K rfl rfl dX12_takesCell_32 ?_
      refine x_dup (pc := 33) K rfl dX12_takesCell_33 ?_
      refine x_get (pc := 34) (C := RX12) (T := TX12) (n := 26) (ci := 11) (idx := 129) (ref := "BorderBedsModel") (x := .int (zI (F2_24 22)))  K (cel_self hc0.1) rfl (by decide +kernel) 22 (by decide) (by decide +kernel) rfl rfl dX12_takesCell_34 ?_
      refine x_bipush (pc := 37) K (by decide) dX12_takesCell_37 ?_
      refine x_aload_n (pc := 39) 0 K rfl rfl dX12_takesCell_39 ?_
      refine x_get (pc := 40) (C := RX12) (T := TX12) (n := 26) (ci := 11) (idx := 103) (ref := "BorderBedsModel") (x := .long (zL V2_24))  K (cel_self hc0.1) rfl (by decide +kernel) 18 (by decide) (by decide +kernel) rfl rfl dX12_takesCell_40 ?_
      refine x_l2i (pc := 43) K dX12_takesCell_43 ?_
      refine x_imul (pc := 44) K dX12_takesCell_44 ?_
      refine x_iadd (pc := 45) K dX12_takesCell_45 ?_
      refine x_put (pc := 46) (C := RX12) (T := TX12) (n := 26) (ci := 11) (idx := 129) (ref := "BorderBedsModel") (ty := .int)  K (cel_self hc0.1) rfl (by decide +kernel) tyX12 tyX12_ok nmX12 22 (by decide) (by decide +kernel) rfl rfl (by decide +kernel) rfl rfl (Nat.le_of_ble_eq_true rfl) dX12_takesCell_46 ?_
      refine x_v (w := (va_up v 161 (oM B (va_up F2_24 22 ((F2_24 22) + (8 * V2_24))) V2_24))) (up_at0).symm ?_
      refine x_iconst (pc := 49) K dX12_takesCell_49 ?_
      refine x_zret (pc := 50) K KR (by omega) (Nat.le_of_ble_eq_true rfl) (Nat.le_of_ble_eq_true rfl) rfl dX12_takesCell_50 ?_
      exact ⟨rfl, 1, (va_up F2_24 22 ((F2_24 22) + (8 * V2_24))), V2_24, (nxF_u hn24 (by omega) (by omega)), (Or.inl ⟨x4 + 8 * x24, e24, by unfold pCell; rw [pThen_ok hx4, pThen_ok hx24], rfl, by rw [va_up_ne _ _ (by omega)]; exact ha24, by rw [va_up_ne _ _ (by omega)]; exact hf24.trans hf4, by rw [va_up_self]; omega⟩), rfl, rfl⟩
    · skip
      obtain ⟨f2, p2, hx2, -, hf2, hp2, hl2⟩ := hp24_1.resolve_left (fun ⟨_, _, _, q, _⟩ => by omega)
      refine x_iconst (pc := 30) K dX12_takesCell_30 ?_
      refine x_zret (pc := 31) K KR (by omega) (Nat.le_of_ble_eq_true rfl) (Nat.le_of_ble_eq_true rfl) rfl dX12_takesCell_31 ?_
      exact ⟨rfl, 0, F2_24, V2_24, hn24, (Or.inr ⟨f2, p2, by unfold pCell; rw [pThen_ok hx4]; exact pThen_err hx2, rfl, hf2, hp2, hl2⟩), rfl, rfl⟩
  · skip
    obtain ⟨f2, p2, hx2, -, hf2, hp2, hl2⟩ := hp4_1.resolve_left (fun ⟨_, _, _, q, _⟩ => by omega)
    refine x_iconst (pc := 10) K dX12_takesCell_10 ?_
    refine x_zret (pc := 11) K KR (by omega) (Nat.le_of_ble_eq_true rfl) (Nat.le_of_ble_eq_true rfl) rfl dX12_takesCell_11 ?_
    exact ⟨rfl, 0, F2_4, V2_4, (fun k a0 b0 c0 d0 e0 f0 => hp4_0 k a0 b0 c0 d0 (by omega) (by omega)), (Or.inr ⟨f2, p2, by unfold pCell; exact pThen_err hx2, rfl, hf2, hp2, hl2⟩), rfl, rfl⟩
