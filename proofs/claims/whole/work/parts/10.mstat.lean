theorem dX12_in_0 : decode cX12_in 0 = .ok (.lload_n 0, 1) := by decide +kernel
theorem dX12_in_1 : decode cX12_in 1 = .ok (.lload_n 2, 1) := by decide +kernel
theorem dX12_in_2 : decode cX12_in 2 = .ok (.lcmp, 1) := by decide +kernel
theorem dX12_in_3 : decode cX12_in 3 = .ok (.ifCond .lt 14, 3) := by decide +kernel
theorem dX12_in_17 : decode cX12_in 17 = .ok (.iconst 0, 1) := by decide +kernel
theorem dX12_in_18 : decode cX12_in 18 = .ok (.ireturn, 1) := by decide +kernel
theorem dX12_in_6 : decode cX12_in 6 = .ok (.lload_n 0, 1) := by decide +kernel
theorem dX12_in_7 : decode cX12_in 7 = .ok (.lload 4, 2) := by decide +kernel
theorem dX12_in_9 : decode cX12_in 9 = .ok (.lcmp, 1) := by decide +kernel
theorem dX12_in_10 : decode cX12_in 10 = .ok (.ifCond .gt 7, 3) := by decide +kernel
theorem dX12_in_13 : decode cX12_in 13 = .ok (.iconst 1, 1) := by decide +kernel
theorem dX12_in_14 : decode cX12_in 14 = .ok (.goto 4, 3) := by decide +kernel
theorem dX12_isRow_0 : decode cX12_isRow 0 = .ok (.iload_n 0, 1) := by decide +kernel
theorem dX12_isRow_1 : decode cX12_isRow 1 = .ok (.i2l, 1) := by decide +kernel
theorem dX12_isRow_2 : decode cX12_isRow 2 = .ok (.lconst 0, 1) := by decide +kernel
theorem dX12_isRow_3 : decode cX12_isRow 3 = .ok (.ldc2_w 52, 3) := by decide +kernel
set_option maxRecDepth 20000 in
theorem ggX12_isRow_X12_in : GoodIn wsX12_isRow wsX12_in := goodIn_r _ [5] (by decide +kernel) (by decide +kernel)
set_option maxRecDepth 20000 in
theorem gX12_isRow_X12_in : GoodIn wsX12_isRow (va_wsS RX12 54 yX12_in wsX12_in) := goodIn_app (goodIn_of _ (by decide +kernel)) ggX12_isRow_X12_in
theorem dX12_isRow_6 : decode cX12_isRow 6 = .ok (.invokestatic 54, 3) := by decide +kernel
theorem dX12_isRow_9 : decode cX12_isRow 9 = .ok (.ireturn, 1) := by decide +kernel
theorem dX12_isCell_0 : decode cX12_isCell 0 = .ok (.iload_n 0, 1) := by decide +kernel
theorem dX12_isCell_1 : decode cX12_isCell 1 = .ok (.i2l, 1) := by decide +kernel
theorem dX12_isCell_2 : decode cX12_isCell 2 = .ok (.lconst 0, 1) := by decide +kernel
theorem dX12_isCell_3 : decode cX12_isCell 3 = .ok (.ldc2_w 215, 3) := by decide +kernel
set_option maxRecDepth 20000 in
theorem ggX12_isCell_X12_in : GoodIn wsX12_isCell wsX12_in := goodIn_r _ [5] (by decide +kernel) (by decide +kernel)
set_option maxRecDepth 20000 in
theorem gX12_isCell_X12_in : GoodIn wsX12_isCell (va_wsS RX12 54 yX12_in wsX12_in) := goodIn_app (goodIn_of _ (by decide +kernel)) ggX12_isCell_X12_in
theorem dX12_isCell_6 : decode cX12_isCell 6 = .ok (.invokestatic 54, 3) := by decide +kernel
theorem dX12_isCell_9 : decode cX12_isCell 9 = .ok (.ireturn, 1) := by decide +kernel
theorem dX12_size_0 : decode cX12_size 0 = .ok (.iload_n 0, 1) := by decide +kernel
theorem dX12_size_1 : decode cX12_size 1 = .ok (.ifCond .ge 8, 3) := by decide +kernel
theorem dX12_size_9 : decode cX12_size 9 = .ok (.iload_n 0, 1) := by decide +kernel
theorem dX12_size_10 : decode cX12_size 10 = .ok (.ireturn, 1) := by decide +kernel
theorem dX12_size_4 : decode cX12_size 4 = .ok (.iload_n 0, 1) := by decide +kernel
theorem dX12_size_5 : decode cX12_size 5 = .ok (.ineg, 1) := by decide +kernel
theorem dX12_size_6 : decode cX12_size 6 = .ok (.goto 4, 3) := by decide +kernel
theorem dX12_sort_0 : decode cX12_sort 0 = .ok (.iload_n 0, 1) := by decide +kernel
theorem dX12_sort_1 : decode cX12_sort 1 = .ok (.i2l, 1) := by decide +kernel
theorem dX12_sort_2 : decode cX12_sort 2 = .ok (.ldc2_w 80, 3) := by decide +kernel
theorem dX12_sort_5 : decode cX12_sort 5 = .ok (.ldc2_w 82, 3) := by decide +kernel
set_option maxRecDepth 20000 in
theorem ggX12_sort_X12_in : GoodIn wsX12_sort wsX12_in := goodIn_r _ [8] (by decide +kernel) (by decide +kernel)
set_option maxRecDepth 20000 in
theorem gX12_sort_X12_in : GoodIn wsX12_sort (va_wsS RX12 54 yX12_in wsX12_in) := goodIn_app (goodIn_of _ (by decide +kernel)) ggX12_sort_X12_in
theorem dX12_sort_8 : decode cX12_sort 8 = .ok (.invokestatic 54, 3) := by decide +kernel
theorem dX12_sort_11 : decode cX12_sort 11 = .ok (.ifCond .eq 7, 3) := by decide +kernel
theorem dX12_sort_18 : decode cX12_sort 18 = .ok (.iload_n 0, 1) := by decide +kernel
theorem dX12_sort_19 : decode cX12_sort 19 = .ok (.i2l, 1) := by decide +kernel
theorem dX12_sort_20 : decode cX12_sort 20 = .ok (.ldc2_w 84, 3) := by decide +kernel
theorem dX12_sort_23 : decode cX12_sort 23 = .ok (.ldc2_w 86, 3) := by decide +kernel
theorem dX12_sort_26 : decode cX12_sort 26 = .ok (.invokestatic 54, 3) := by decide +kernel
theorem dX12_sort_29 : decode cX12_sort 29 = .ok (.ifCond .eq 7, 3) := by decide +kernel
theorem dX12_sort_36 : decode cX12_sort 36 = .ok (.iload_n 0, 1) := by decide +kernel
theorem dX12_sort_37 : decode cX12_sort 37 = .ok (.bipush 59, 2) := by decide +kernel
theorem dX12_sort_39 : decode cX12_sort 39 = .ok (.if_icmp .ne 7, 3) := by decide +kernel
theorem dX12_sort_46 : decode cX12_sort 46 = .ok (.iconst 4, 1) := by decide +kernel
theorem dX12_sort_47 : decode cX12_sort 47 = .ok (.ireturn, 1) := by decide +kernel
theorem dX12_sort_42 : decode cX12_sort 42 = .ok (.iconst 3, 1) := by decide +kernel
theorem dX12_sort_43 : decode cX12_sort 43 = .ok (.goto 4, 3) := by decide +kernel
theorem dX12_sort_32 : decode cX12_sort 32 = .ok (.iconst 2, 1) := by decide +kernel
theorem dX12_sort_33 : decode cX12_sort 33 = .ok (.goto 14, 3) := by decide +kernel
theorem dX12_sort_14 : decode cX12_sort 14 = .ok (.iconst 1, 1) := by decide +kernel
theorem dX12_sort_15 : decode cX12_sort 15 = .ok (.goto 32, 3) := by decide +kernel
theorem dX12_copies_0 : decode cX12_copies 0 = .ok (.iconst 0, 1) := by decide +kernel
theorem dX12_copies_1 : decode cX12_copies 1 = .ok (.istore 4, 2) := by decide +kernel
theorem dX12_copies_3 : decode cX12_copies 3 = .ok (.iload 4, 2) := by decide +kernel
theorem dX12_copies_5 : decode cX12_copies 5 = .ok (.sipush 138, 3) := by decide +kernel
theorem dX12_copies_8 : decode cX12_copies 8 = .ok (.if_icmp .ge 21, 3) := by decide +kernel
theorem dX12_copies_29 : decode cX12_copies 29 = .ok (.return_, 1) := by decide +kernel
theorem dX12_copies_11 : decode cX12_copies 11 = .ok (.aload_n 2, 1) := by decide +kernel
theorem dX12_copies_12 : decode cX12_copies 12 = .ok (.iload_n 3, 1) := by decide +kernel
theorem dX12_copies_13 : decode cX12_copies 13 = .ok (.iload 4, 2) := by decide +kernel
theorem dX12_copies_15 : decode cX12_copies 15 = .ok (.iadd, 1) := by decide +kernel
theorem dX12_copies_16 : decode cX12_copies 16 = .ok (.aload_n 0, 1) := by decide +kernel
theorem dX12_copies_17 : decode cX12_copies 17 = .ok (.iload_n 1, 1) := by decide +kernel
theorem dX12_copies_18 : decode cX12_copies 18 = .ok (.iload 4, 2) := by decide +kernel
theorem dX12_copies_20 : decode cX12_copies 20 = .ok (.iadd, 1) := by decide +kernel
theorem dX12_copies_21 : decode cX12_copies 21 = .ok (.iaload, 1) := by decide +kernel
theorem dX12_copies_22 : decode cX12_copies 22 = .ok (.iastore, 1) := by decide +kernel
theorem dX12_copies_23 : decode cX12_copies 23 = .ok (.iinc 4 1, 3) := by decide +kernel
theorem dX12_copies_26 : decode cX12_copies 26 = .ok (.goto (-23), 3) := by decide +kernel
set_option maxRecDepth 100000 in
set_option maxHeartbeats 4000000 in
theorem c_X12_in {E : XE} {B N : Nat} {v : Nat → va_E} {x lo hi : Int} (hq0 : (-9223372036854775808 ≤ x ∧ x ≤ 9223372036854775807)) (hq1 : (-9223372036854775808 ≤ lo ∧ lo ≤ 9223372036854775807)) (hq2 : (-9223372036854775808 ≤ hi ∧ hi ≤ 9223372036854775807)) : gM yX12_in wsX12_in ({ frames := 0, cells := 0, slots := 0, locals := 0 }) E B N v [.long (zL x), .long (zL lo), .long (zL hi)] (po0 N (fun ρ v' => ρ = some (.int (zI (bI (lo ≤ x ∧ x ≤ hi)))) ∧ v = v')) := by
  refine x_met (nm := "in") (by decide +kernel) rfl (Nat.le_of_ble_eq_true rfl) rfl (fun Γ K KR hnL hnm => ?_)
  show XW Γ N v [(0, .long (zL x)), (2, .long (zL lo)), (4, .long (zL hi))] 0 0 0 []
  refine x_lload_n (pc := 0) 0 K rfl rfl dX12_in_0 ?_
  refine x_lload_n (pc := 1) 1 K rfl rfl dX12_in_1 ?_
  refine x_lcmp (pc := 2) K (by omega) (by omega) dX12_in_2 ?_
  refine x_if_lt (pc := 3) (tgt := 17) K (cmpZ_rng _ _) dX12_in_3 (by decide) (fun h_3 => ?_) (fun h_3 => ?_)
  · skip
    have h_3 := cz_lt h_3
    refine x_iconst (pc := 17) K dX12_in_17 ?_
    refine x_zret (pc := 18) K KR (by omega) (Nat.le_of_ble_eq_true rfl) (Nat.le_of_ble_eq_true rfl) rfl dX12_in_18 ?_
    exact ⟨rfl, ri (by unfold bI; split <;> omega), rfl⟩
  · skip
    have h_3 := cz_lt_n h_3
    refine x_lload_n (pc := 6) 0 K rfl rfl dX12_in_6 ?_
    refine x_lload (pc := 7) 2 K rfl dX12_in_7 ?_
    refine x_lcmp (pc := 9) K (by omega) (by omega) dX12_in_9 ?_
    refine x_if_gt (pc := 10) (tgt := 17) K (cmpZ_rng _ _) dX12_in_10 (by decide) (fun h_10 => ?_) (fun h_10 => ?_)
    · skip
      have h_10 := cz_gt h_10
      refine x_iconst (pc := 17) K dX12_in_17 ?_
      refine x_zret (pc := 18) K KR (by omega) (Nat.le_of_ble_eq_true rfl) (Nat.le_of_ble_eq_true rfl) rfl dX12_in_18 ?_
      exact ⟨rfl, ri (by unfold bI; split <;> omega), rfl⟩
    · skip
      have h_10 := cz_gt_n h_10
      refine x_iconst (pc := 13) K dX12_in_13 ?_
      refine x_goto (pc := 14) (tgt := 18) K dX12_in_14 (by decide) ?_
      refine x_zret (pc := 18) K KR (by omega) (Nat.le_of_ble_eq_true rfl) (Nat.le_of_ble_eq_true rfl) rfl dX12_in_18 ?_
      exact ⟨rfl, ri (by unfold bI; split <;> omega), rfl⟩

set_option maxRecDepth 100000 in
set_option maxHeartbeats 4000000 in
theorem c_X12_isRow {E : XE} {B N : Nat} {v : Nat → va_E} {x : Int} (hq0 : (-2147483648 ≤ x ∧ x ≤ 2147483647)) : gM yX12_isRow wsX12_isRow ({ frames := 1, cells := 0, slots := 0, locals := 25 }) E B N v [.int (zI x)] (po0 N (fun ρ v' => ρ = some (.int (zI (bI (0 ≤ x ∧ x ≤ 7)))) ∧ v = v')) := by
  refine x_met (nm := "isRow") (by decide +kernel) rfl (Nat.le_of_ble_eq_true rfl) rfl (fun Γ K KR hnL hnm => ?_)
  show XW Γ N v [(0, .int (zI x))] 0 0 0 []
  refine x_iload_n (pc := 0) 0 K rfl rfl dX12_isRow_0 ?_
  refine x_i2l (pc := 1) K (by omega) dX12_isRow_1 ?_
  refine x_lconst (pc := 2) (0) K (by decide) dX12_isRow_2 ?_
  refine x_ldc2 (pc := 3) (x := (7)) (7) K (by decide) (by decide +kernel) dX12_isRow_3 ?_
  refine x_callS (pc := 6) (As := [.long (zL x), .long (zL 0), .long (zL 7)]) K (c_X12_in (E := E) (B := B) (N := N)    (by omega) (by omega) (by omega)) gX12_isRow_X12_in rfl (na := 3) (by decide +kernel) rfl ⟨(Nat.le_of_ble_eq_true rfl), (Nat.le_of_ble_eq_true rfl)⟩ (st := []) rfl (Nat.le_of_ble_eq_true rfl) ⟨(Nat.le_of_ble_eq_true rfl), (Nat.le_of_ble_eq_true rfl)⟩ dX12_isRow_6 (fun r6 N6 w6 hpo6 hN6 => ?_)
  obtain ⟨rfl, rfl, rfl⟩ := hpo6
  refine x_st (st' := [.int (zI (bI (0 ≤ x ∧ x ≤ 7)))]) rfl ?_
  have hrg6 := bI_rng (0 ≤ x ∧ x ≤ 7)
  refine x_zret (pc := 9) K KR (by omega) (Nat.le_of_ble_eq_true rfl) (Nat.le_of_ble_eq_true rfl) (nb_ok (by omega)) dX12_isRow_9 ?_
  exact ⟨rfl, rfl, rfl⟩

set_option maxRecDepth 100000 in
set_option maxHeartbeats 4000000 in
theorem c_X12_isCell {E : XE} {B N : Nat} {v : Nat → va_E} {x : Int} (hq0 : (-2147483648 ≤ x ∧ x ≤ 2147483647)) : gM yX12_isCell wsX12_isCell ({ frames := 1, cells := 0, slots := 0, locals := 25 }) E B N v [.int (zI x)] (po0 N (fun ρ v' => ρ = some (.int (zI (bI (0 ≤ x ∧ x ≤ 47)))) ∧ v = v')) := by
  refine x_met (nm := "isCell") (by decide +kernel) rfl (Nat.le_of_ble_eq_true rfl) rfl (fun Γ K KR hnL hnm => ?_)
  show XW Γ N v [(0, .int (zI x))] 0 0 0 []
  refine x_iload_n (pc := 0) 0 K rfl rfl dX12_isCell_0 ?_
  refine x_i2l (pc := 1) K (by omega) dX12_isCell_1 ?_
  refine x_lconst (pc := 2) (0) K (by decide) dX12_isCell_2 ?_
  refine x_ldc2 (pc := 3) (x := (47)) (47) K (by decide) (by decide +kernel) dX12_isCell_3 ?_
  refine x_callS (pc := 6) (As := [.long (zL x), .long (zL 0), .long (zL 47)]) K (c_X12_in (E := E) (B := B) (N := N)    (by omega) (by omega) (by omega)) gX12_isCell_X12_in rfl (na := 3) (by decide +kernel) rfl ⟨(Nat.le_of_ble_eq_true rfl), (Nat.le_of_ble_eq_true rfl)⟩ (st := []) rfl (Nat.le_of_ble_eq_true rfl) ⟨(Nat.le_of_ble_eq_true rfl), (Nat.le_of_ble_eq_true rfl)⟩ dX12_isCell_6 (fun r6 N6 w6 hpo6 hN6 => ?_)
  obtain ⟨rfl, rfl, rfl⟩ := hpo6
  refine x_st (st' := [.int (zI (bI (0 ≤ x ∧ x ≤ 47)))]) rfl ?_
  have hrg6 := bI_rng (0 ≤ x ∧ x ≤ 47)
  refine x_zret (pc := 9) K KR (by omega) (Nat.le_of_ble_eq_true rfl) (Nat.le_of_ble_eq_true rfl) (nb_ok (by omega)) dX12_isCell_9 ?_
  exact ⟨rfl, rfl, rfl⟩

set_option maxRecDepth 100000 in
set_option maxHeartbeats 4000000 in
theorem c_X12_size {E : XE} {B N : Nat} {v : Nat → va_E} {x : Int} (hq0 : -2147483647 ≤ x ∧ x ≤ 2147483647) : gM yX12_size wsX12_size ({ frames := 0, cells := 0, slots := 0, locals := 0 }) E B N v [.int (zI x)] (po0 N (fun ρ v' => ρ = some (.int (zI (x.natAbs : Int))) ∧ v = v')) := by
  refine x_met (nm := "size") (by decide +kernel) rfl (Nat.le_of_ble_eq_true rfl) rfl (fun Γ K KR hnL hnm => ?_)
  show XW Γ N v [(0, .int (zI x))] 0 0 0 []
  refine x_iload_n (pc := 0) 0 K rfl rfl dX12_size_0 ?_
  refine x_if_ge (pc := 1) (tgt := 9) K (by omega) dX12_size_1 (by decide) (fun h_1 => ?_) (fun h_1 => ?_)
  · skip
    refine x_iload_n (pc := 9) 0 K rfl rfl dX12_size_9 ?_
    refine x_iret (pc := 10) K KR (by omega) (Nat.le_of_ble_eq_true rfl) (Nat.le_of_ble_eq_true rfl) dX12_size_10 ?_
    exact ⟨rfl, ri (by omega), rfl⟩
  · skip
    refine x_iload_n (pc := 4) 0 K rfl rfl dX12_size_4 ?_
    refine x_ineg (pc := 5) K dX12_size_5 ?_
    refine x_goto (pc := 6) (tgt := 10) K dX12_size_6 (by decide) ?_
    refine x_iret (pc := 10) K KR (by omega) (Nat.le_of_ble_eq_true rfl) (Nat.le_of_ble_eq_true rfl) dX12_size_10 ?_
    exact ⟨rfl, ri (by omega), rfl⟩

set_option maxRecDepth 100000 in
set_option maxHeartbeats 4000000 in
theorem c_X12_sort {E : XE} {B N : Nat} {v : Nat → va_E} {x : Int} (hq0 : (-2147483648 ≤ x ∧ x ≤ 2147483647)) : gM yX12_sort wsX12_sort ({ frames := 1, cells := 0, slots := 0, locals := 25 }) E B N v [.int (zI x)] (po0 N (fun ρ v' => ρ = some (.int (zI (srt x))) ∧ v = v')) := by
  refine x_met (nm := "sort") (by decide +kernel) rfl (Nat.le_of_ble_eq_true rfl) rfl (fun Γ K KR hnL hnm => ?_)
  show XW Γ N v [(0, .int (zI x))] 0 0 0 []
  refine x_iload_n (pc := 0) 0 K rfl rfl dX12_sort_0 ?_
  refine x_i2l (pc := 1) K (by omega) dX12_sort_1 ?_
  refine x_ldc2 (pc := 2) (x := (97)) (97) K (by decide) (by decide +kernel) dX12_sort_2 ?_
  refine x_ldc2 (pc := 5) (x := (122)) (122) K (by decide) (by decide +kernel) dX12_sort_5 ?_
  refine x_callS (pc := 8) (As := [.long (zL x), .long (zL 97), .long (zL 122)]) K (c_X12_in (E := E) (B := B) (N := N)    (by omega) (by omega) (by omega)) gX12_sort_X12_in rfl (na := 3) (by decide +kernel) rfl ⟨(Nat.le_of_ble_eq_true rfl), (Nat.le_of_ble_eq_true rfl)⟩ (st := []) rfl (Nat.le_of_ble_eq_true rfl) ⟨(Nat.le_of_ble_eq_true rfl), (Nat.le_of_ble_eq_true rfl)⟩ dX12_sort_8 (fun r8 N8 w8 hpo8 hN8 => ?_)
  obtain ⟨rfl, rfl, rfl⟩ := hpo8
  refine x_st (st' := [.int (zI (bI (97 ≤ x ∧ x ≤ 122)))]) rfl ?_
  have hrg8 := bI_rng (97 ≤ x ∧ x ≤ 122)
  refine x_if_eq (pc := 11) (tgt := 18) K (by omega) dX12_sort_11 (by decide) (fun h_11 => ?_) (fun h_11 => ?_)
  · skip
    have h_11 := bI_t h_11
    refine x_iload_n (pc := 18) 0 K rfl rfl dX12_sort_18 ?_
    refine x_i2l (pc := 19) K (by omega) dX12_sort_19 ?_
    refine x_ldc2 (pc := 20) (x := (48)) (48) K (by decide) (by decide +kernel) dX12_sort_20 ?_
    refine x_ldc2 (pc := 23) (x := (57)) (57) K (by decide) (by decide +kernel) dX12_sort_23 ?_
    refine x_callS (pc := 26) (As := [.long (zL x), .long (zL 48), .long (zL 57)]) K (c_X12_in (E := E) (B := B) (N := N)    (by omega) (by omega) (by omega)) gX12_sort_X12_in rfl (na := 3) (by decide +kernel) rfl ⟨(Nat.le_of_ble_eq_true rfl), (Nat.le_of_ble_eq_true rfl)⟩ (st := []) rfl (Nat.le_of_ble_eq_true rfl) ⟨(Nat.le_of_ble_eq_true rfl), (Nat.le_of_ble_eq_true rfl)⟩ dX12_sort_26 (fun r26 N26 w26 hpo26 hN26 => ?_)
    obtain ⟨rfl, rfl, rfl⟩ := hpo26
    refine x_st (st' := [.int (zI (bI (48 ≤ x ∧ x ≤ 57)))]) rfl ?_
    have hrg26 := bI_rng (48 ≤ x ∧ x ≤ 57)
    refine x_if_eq (pc := 29) (tgt := 36) K (by omega) dX12_sort_29 (by decide) (fun h_29 => ?_) (fun h_29 => ?_)
    · skip
      have h_29 := bI_t h_29
      refine x_iload_n (pc := 36) 0 K rfl rfl dX12_sort_36 ?_
      refine x_bipush (pc := 37) K (by decide) dX12_sort_37 ?_
      refine x_icmp_ne (pc := 39) (tgt := 46) K (by omega) (by decide) dX12_sort_39 (by decide) (fun h_39 => ?_) (fun h_39 => ?_)
      · skip
        refine x_iconst (pc := 46) K dX12_sort_46 ?_
        refine x_iret (pc := 47) K KR (by omega) (Nat.le_of_ble_eq_true rfl) (Nat.le_of_ble_eq_true rfl) dX12_sort_47 ?_
        exact ⟨rfl, ri (by unfold srt; split <;> (try split) <;> (try split) <;> omega), rfl⟩
      · skip
        refine x_iconst (pc := 42) K dX12_sort_42 ?_
        refine x_goto (pc := 43) (tgt := 47) K dX12_sort_43 (by decide) ?_
        refine x_iret (pc := 47) K KR (by omega) (Nat.le_of_ble_eq_true rfl) (Nat.le_of_ble_eq_true rfl) dX12_sort_47 ?_
        exact ⟨rfl, ri (by unfold srt; split <;> (try split) <;> (try split) <;> omega), rfl⟩
    · skip
      have h_29 := bI_f h_29
      refine x_iconst (pc := 32) K dX12_sort_32 ?_
      refine x_goto (pc := 33) (tgt := 47) K dX12_sort_33 (by decide) ?_
      refine x_iret (pc := 47) K KR (by omega) (Nat.le_of_ble_eq_true rfl) (Nat.le_of_ble_eq_true rfl) dX12_sort_47 ?_
      exact ⟨rfl, ri (by unfold srt; split <;> (try split) <;> (try split) <;> omega), rfl⟩
  · skip
    have h_11 := bI_f h_11
    refine x_iconst (pc := 14) K dX12_sort_14 ?_
    refine x_goto (pc := 15) (tgt := 47) K dX12_sort_15 (by decide) ?_
    refine x_iret (pc := 47) K KR (by omega) (Nat.le_of_ble_eq_true rfl) (Nat.le_of_ble_eq_true rfl) dX12_sort_47 ?_
    exact ⟨rfl, ri (by unfold srt; split <;> (try split) <;> (try split) <;> omega), rfl⟩

set_option maxRecDepth 100000 in
set_option maxHeartbeats 4000000 in
theorem c_X12_copies {E : XE} {B N : Nat} {v : Nat → va_E} {c d i j n1 n2 : Nat} {f g : Nat → Int} {i_i : Int} {j_i : Int} (ha_i : i_i = (i : Int)) (ha_j : j_i = (j : Int)) (hc0 : Cel N v d (iarr E n1 f)) (hc1 : Cel N v c (iarr E n2 g)) (hq0 : c ≠ d) (hq1 : i + 138 ≤ n1 ∧ j + 138 ≤ n2) (hq2 : n1 < 2147483648 ∧ n2 < 2147483648) : gM yX12_copies wsX12_copies ({ frames := 0, cells := 0, slots := 0, locals := 0 }) E B N v [.ref (B + d), .int (zI i_i), .ref (B + c), .int (zI j_i)] (po0 N (fun ρ v' => ρ = none ∧ (va_up v c (iarr E n2 (cpI f g i j 138))) = v')) := by
  subst ha_i
  subst ha_j
  refine x_met (nm := "copies") (by decide +kernel) rfl (Nat.le_of_ble_eq_true rfl) rfl (fun Γ K KR hnL hnm => ?_)
  show XW Γ N v [(0, .ref (B + d)), (1, .int (zI (i : Int))), (2, .ref (B + c)), (3, .int (zI (j : Int)))] 0 0 0 []
  refine x_v (cel_pad hc1) ?_
  refine x_iconst (pc := 0) K dX12_copies_0 ?_
  refine x_istore (pc := 1) K (L' := [(4, .int (zI 0)), (0, .ref (B + d)), (1, .int (zI (i : Int))), (2, .ref (B + c)), (3, .int (zI (j : Int)))]) hnL (by decide) rfl dX12_copies_1 ?_
  have LOOP3 : ∀ (n_3 : Nat) (k : Nat) (h : Nat → Int), (k ≤ 138) → (h = cpI f g i j k) → (138 - k) < n_3 → XW Γ N (va_up v c (iarr E n2 h)) [(0, .ref (B + d)), (1, .int (zI (i : Int))), (2, .ref (B + c)), (3, .int (zI (j : Int))), (4, .int (zI (k : Int)))] 0 0 3 [] := by
    intro n_3
    induction n_3 with
    | zero =>
      intro k h hi3_0 hi3_1 hm_3
      exfalso; omega
    | succ n_3 ih3 =>
      intro k h hi3_0 hi3_1 hm_3
      refine x_iload (pc := 3) 4 K rfl dX12_copies_3 ?_
      refine x_sipush (pc := 5) K (by decide) dX12_copies_5 ?_
      refine x_icmp_ge (pc := 8) (tgt := 29) K (by omega) (by decide) dX12_copies_8 (by decide) (fun h_8 => ?_) (fun h_8 => ?_)
      · skip
        refine x_vret (pc := 29) K KR (by omega) (Nat.le_of_ble_eq_true rfl) (Nat.le_of_ble_eq_true rfl) dX12_copies_29 ?_
        have hk : k = 138 := by omega
        subst hk
        subst hi3_1
        exact ⟨rfl, rfl, rfl⟩
      · skip
        refine x_aload_n (pc := 11) 2 K rfl rfl dX12_copies_11 ?_
        refine x_iload_n (pc := 12) 3 K rfl rfl dX12_copies_12 ?_
        refine x_iload (pc := 13) 4 K rfl dX12_copies_13 ?_
        refine x_iadd (pc := 15) K dX12_copies_15 ?_
        refine x_aload_n (pc := 16) 0 K rfl rfl dX12_copies_16 ?_
        refine x_iload_n (pc := 17) 1 K rfl rfl dX12_copies_17 ?_
        refine x_iload (pc := 18) 4 K rfl dX12_copies_18 ?_
        refine x_iadd (pc := 20) K dX12_copies_20 ?_
        refine x_iald (pc := 21) (i + k) K (cel_ne hc0 (by omega)) (by omega) (by omega) (by omega) dX12_copies_21 ?_
        refine x_iast (pc := 22) (j + k) K (cel_self hc1.1) (by omega) (by omega) (by omega) dX12_copies_22 ?_
        refine x_v (w := (va_up v c (iarr E n2 (va_up h (j + k) (f (i + k)))))) (up_at0).symm ?_
        refine x_iinc (pc := 23) (L' := [(4, .int (zI ((k : Int) + 1))), (0, .ref (B + d)), (1, .int (zI (i : Int))), (2, .ref (B + c)), (3, .int (zI (j : Int)))]) 4 K hnL rfl (by decide) rfl dX12_copies_23 ?_
        refine x_goto (pc := 26) (tgt := 3) K dX12_copies_26 (by decide) ?_
        refine x_sub (L' := [(0, .ref (B + d)), (1, .int (zI (i : Int))), (2, .ref (B + c)), (3, .int (zI (j : Int))), (4, .int (zI ((k : Int) + 1)))]) [1, 2, 3, 4, 0] rfl ?_
        exact ih3 (k + 1) (va_up h (j + k) (f (i + k))) (by omega) (by rw [hi3_1]; exact cpI_s f g i j k) (by omega)
  refine x_sub (L' := [(0, .ref (B + d)), (1, .int (zI (i : Int))), (2, .ref (B + c)), (3, .int (zI (j : Int))), (4, .int (zI 0))]) [1, 2, 3, 4, 0] rfl ?_
  exact LOOP3 (_) 0 g (by omega) (by exact (cpI_0 f g i j).symm) (Nat.lt_succ_self _)
