theorem dX11_rowsThere_0 : decode cX11_rowsThere 0 = .ok (.iconst 0, 1) := by decide +kernel
theorem dX11_rowsThere_1 : decode cX11_rowsThere 1 = .ok (.istore_n 1, 1) := by decide +kernel
theorem dX11_rowsThere_2 : decode cX11_rowsThere 2 = .ok (.iconst 0, 1) := by decide +kernel
theorem dX11_rowsThere_3 : decode cX11_rowsThere 3 = .ok (.istore_n 2, 1) := by decide +kernel
theorem dX11_rowsThere_4 : decode cX11_rowsThere 4 = .ok (.iload_n 2, 1) := by decide +kernel
theorem dX11_rowsThere_5 : decode cX11_rowsThere 5 = .ok (.bipush 8, 2) := by decide +kernel
theorem dX11_rowsThere_7 : decode cX11_rowsThere 7 = .ok (.if_icmp .ge 24, 3) := by decide +kernel
theorem dX11_rowsThere_31 : decode cX11_rowsThere 31 = .ok (.iload_n 1, 1) := by decide +kernel
theorem dX11_rowsThere_32 : decode cX11_rowsThere 32 = .ok (.ireturn, 1) := by decide +kernel
theorem dX11_rowsThere_10 : decode cX11_rowsThere 10 = .ok (.aload_n 0, 1) := by decide +kernel
theorem dX11_rowsThere_11 : decode cX11_rowsThere 11 = .ok (.getfield 11, 3) := by decide +kernel
theorem dX11_rowsThere_14 : decode cX11_rowsThere 14 = .ok (.iload_n 2, 1) := by decide +kernel
theorem dX11_rowsThere_15 : decode cX11_rowsThere 15 = .ok (.aaload, 1) := by decide +kernel
set_option maxRecDepth 20000 in
theorem ggX11_rowsThere_X7_isMissing : GoodIn wsX11_rowsThere wsX7_isMissing := goodIn_r _ [6, 7, 20, 21, 22] (by decide +kernel) (by decide +kernel)
set_option maxRecDepth 20000 in
theorem gX11_rowsThere_X7_isMissing : GoodIn wsX11_rowsThere (wsV RX11 83 RX7 yX7_isMissing wsX7_isMissing) := goodIn_app (goodIn_of _ (by decide +kernel)) ggX11_rowsThere_X7_isMissing
theorem dX11_rowsThere_16 : decode cX11_rowsThere 16 = .ok (.invokevirtual 83, 3) := by decide +kernel
theorem dX11_rowsThere_19 : decode cX11_rowsThere 19 = .ok (.ifCond .ne 6, 3) := by decide +kernel
theorem dX11_rowsThere_25 : decode cX11_rowsThere 25 = .ok (.iinc 2 1, 3) := by decide +kernel
theorem dX11_rowsThere_28 : decode cX11_rowsThere 28 = .ok (.goto (-24), 3) := by decide +kernel
theorem dX11_rowsThere_22 : decode cX11_rowsThere 22 = .ok (.iinc 1 1, 3) := by decide +kernel
theorem dX3_cellsGuarded_0 : decode cX3_cellsGuarded 0 = .ok (.iconst 0, 1) := by decide +kernel
theorem dX3_cellsGuarded_1 : decode cX3_cellsGuarded 1 = .ok (.istore_n 1, 1) := by decide +kernel
theorem dX3_cellsGuarded_2 : decode cX3_cellsGuarded 2 = .ok (.iconst 0, 1) := by decide +kernel
theorem dX3_cellsGuarded_3 : decode cX3_cellsGuarded 3 = .ok (.istore_n 2, 1) := by decide +kernel
theorem dX3_cellsGuarded_4 : decode cX3_cellsGuarded 4 = .ok (.iload_n 2, 1) := by decide +kernel
theorem dX3_cellsGuarded_5 : decode cX3_cellsGuarded 5 = .ok (.bipush 48, 2) := by decide +kernel
theorem dX3_cellsGuarded_7 : decode cX3_cellsGuarded 7 = .ok (.if_icmp .ge 21, 3) := by decide +kernel
theorem dX3_cellsGuarded_28 : decode cX3_cellsGuarded 28 = .ok (.iload_n 1, 1) := by decide +kernel
theorem dX3_cellsGuarded_29 : decode cX3_cellsGuarded 29 = .ok (.ireturn, 1) := by decide +kernel
theorem dX3_cellsGuarded_10 : decode cX3_cellsGuarded 10 = .ok (.aload_n 0, 1) := by decide +kernel
theorem dX3_cellsGuarded_11 : decode cX3_cellsGuarded 11 = .ok (.getfield 25, 3) := by decide +kernel
theorem dX3_cellsGuarded_14 : decode cX3_cellsGuarded 14 = .ok (.iload_n 2, 1) := by decide +kernel
theorem dX3_cellsGuarded_15 : decode cX3_cellsGuarded 15 = .ok (.baload, 1) := by decide +kernel
theorem dX3_cellsGuarded_16 : decode cX3_cellsGuarded 16 = .ok (.ifCond .eq 6, 3) := by decide +kernel
theorem dX3_cellsGuarded_22 : decode cX3_cellsGuarded 22 = .ok (.iinc 2 1, 3) := by decide +kernel
theorem dX3_cellsGuarded_25 : decode cX3_cellsGuarded 25 = .ok (.goto (-21), 3) := by decide +kernel
theorem dX3_cellsGuarded_19 : decode cX3_cellsGuarded 19 = .ok (.iinc 1 1, 3) := by decide +kernel
theorem dX11_count_0 : decode cX11_count 0 = .ok (.aload_n 0, 1) := by decide +kernel
theorem dX11_count_1 : decode cX11_count 1 = .ok (.getfield 49, 3) := by decide +kernel
theorem dX11_count_4 : decode cX11_count 4 = .ok (.astore_n 2, 1) := by decide +kernel
theorem dX11_count_5 : decode cX11_count 5 = .ok (.iload_n 1, 1) := by decide +kernel
theorem dX11_count_6 : decode cX11_count 6 = .ok (.tableswitch 107 0 6 #[42, 47, 60, 68, 81, 86, 99], 42) := by decide +kernel
theorem dX11_count_48 : decode cX11_count 48 = .ok (.aload_n 0, 1) := by decide +kernel
set_option maxRecDepth 20000 in
theorem ggX11_count_X11_rowsThere : GoodIn wsX11_count wsX11_rowsThere := goodIn_r _ [14, 15, 16, 17, 18, 19, 20, 21, 28, 29, 30, 31, 32, 33, 34, 35, 36, 37, 38, 39, 65, 66, 67] (by decide +kernel) (by decide +kernel)
set_option maxRecDepth 20000 in
theorem gX11_count_X11_rowsThere : GoodIn wsX11_count (wsV RX11 256 RX11 yX11_rowsThere wsX11_rowsThere) := goodIn_app (goodIn_of _ (by decide +kernel)) ggX11_count_X11_rowsThere
theorem dX11_count_49 : decode cX11_count 49 = .ok (.invokevirtual 256, 3) := by decide +kernel
theorem dX11_count_52 : decode cX11_count 52 = .ok (.ireturn, 1) := by decide +kernel
theorem dX11_count_53 : decode cX11_count 53 = .ok (.aload_n 2, 1) := by decide +kernel
theorem dX11_count_54 : decode cX11_count 54 = .ok (.ifnonnull 7, 3) := by decide +kernel
theorem dX11_count_57 : decode cX11_count 57 = .ok (.iconst 0, 1) := by decide +kernel
theorem dX11_count_58 : decode cX11_count 58 = .ok (.goto 7, 3) := by decide +kernel
theorem dX11_count_65 : decode cX11_count 65 = .ok (.ireturn, 1) := by decide +kernel
theorem dX11_count_66 : decode cX11_count 66 = .ok (.aload_n 0, 1) := by decide +kernel
theorem dX11_count_67 : decode cX11_count 67 = .ok (.getfield 32, 3) := by decide +kernel
theorem dX11_count_70 : decode cX11_count 70 = .ok (.getfield 155, 3) := by decide +kernel
theorem dX11_count_73 : decode cX11_count 73 = .ok (.ireturn, 1) := by decide +kernel
theorem dX11_count_74 : decode cX11_count 74 = .ok (.aload_n 2, 1) := by decide +kernel
theorem dX11_count_75 : decode cX11_count 75 = .ok (.ifnonnull 7, 3) := by decide +kernel
theorem dX11_count_78 : decode cX11_count 78 = .ok (.iconst 0, 1) := by decide +kernel
theorem dX11_count_79 : decode cX11_count 79 = .ok (.goto 7, 3) := by decide +kernel
theorem dX11_count_86 : decode cX11_count 86 = .ok (.ireturn, 1) := by decide +kernel
theorem dX11_count_87 : decode cX11_count 87 = .ok (.aload_n 0, 1) := by decide +kernel
theorem dX11_count_88 : decode cX11_count 88 = .ok (.getfield 57, 3) := by decide +kernel
theorem dX11_count_91 : decode cX11_count 91 = .ok (.ireturn, 1) := by decide +kernel
theorem dX11_count_92 : decode cX11_count 92 = .ok (.aload_n 2, 1) := by decide +kernel
theorem dX11_count_93 : decode cX11_count 93 = .ok (.ifnonnull 7, 3) := by decide +kernel
theorem dX11_count_96 : decode cX11_count 96 = .ok (.iconst 0, 1) := by decide +kernel
theorem dX11_count_97 : decode cX11_count 97 = .ok (.goto 7, 3) := by decide +kernel
theorem dX11_count_104 : decode cX11_count 104 = .ok (.ireturn, 1) := by decide +kernel
theorem dX11_count_105 : decode cX11_count 105 = .ok (.aload_n 0, 1) := by decide +kernel
theorem dX11_count_106 : decode cX11_count 106 = .ok (.getfield 18, 3) := by decide +kernel
theorem dX11_count_109 : decode cX11_count 109 = .ok (.getfield 116, 3) := by decide +kernel
theorem dX11_count_112 : decode cX11_count 112 = .ok (.ireturn, 1) := by decide +kernel
theorem dX11_count_113 : decode cX11_count 113 = .ok (.ldc 71, 2) := by decide +kernel
theorem dX11_count_115 : decode cX11_count 115 = .ok (.ireturn, 1) := by decide +kernel
theorem dX11_count_61 : decode cX11_count 61 = .ok (.aload_n 2, 1) := by decide +kernel
theorem dX11_count_62 : decode cX11_count 62 = .ok (.getfield 132, 3) := by decide +kernel
theorem dX11_count_82 : decode cX11_count 82 = .ok (.aload_n 2, 1) := by decide +kernel
theorem dX11_count_83 : decode cX11_count 83 = .ok (.getfield 259, 3) := by decide +kernel
theorem dX11_count_100 : decode cX11_count 100 = .ok (.aload_n 2, 1) := by decide +kernel
set_option maxRecDepth 20000 in
theorem ggX11_count_X3_cellsGuarded : GoodIn wsX11_count wsX3_cellsGuarded := goodIn_r _ [26, 27, 40, 41, 42, 43, 44, 45, 46, 47, 48, 49, 50] (by decide +kernel) (by decide +kernel)
set_option maxRecDepth 20000 in
theorem gX11_count_X3_cellsGuarded : GoodIn wsX11_count (wsV RX11 262 RX3 yX3_cellsGuarded wsX3_cellsGuarded) := goodIn_app (goodIn_of _ (by decide +kernel)) ggX11_count_X3_cellsGuarded
theorem dX11_count_101 : decode cX11_count 101 = .ok (.invokevirtual 262, 3) := by decide +kernel
set_option maxRecDepth 100000 in
set_option maxHeartbeats 4000000 in
theorem c_X11_rowsThere {E : XE} {B N : Nat} {v : Nat → va_E} {cu : Value} {old kept fau fin : Int} {la sz : Nat → Int} (hc0 : Cel N v 0 (.inr (10, [.ref (B + 1), .ref (B + 2), .ref (B + 5), .ref (B + 7), .ref (B + 12), .ref (B + 13), .ref (B + 14), cu, .int (zI old), .int (zI kept), .int (zI fau), .int (zI fin)]))) (hc1 : Cel N v 1 (rarr E 2 8 B rowQ)) (hF0 : ∀ i : Nat, i < 8 → Cel N v (15 + 2 * i) (.inr (6, [.ref (B + (15 + 2 * i + 1)), .int (zI (la i)), .int (zI (sz i))]))) (hq0 : ∀ i, i < 8 → -1 ≤ la i ∧ la i ≤ 2) : gM yX11_rowsThere wsX11_rowsThere ({ frames := 1, cells := 0, slots := 0, locals := 20 }) E B N v [.ref (B + 0)] (po0 N (fun ρ v' => ρ = some (.int (zI (cntR (fun i => if la i = -1 then -1 else 0) 8))) ∧ v = v')) := by
  refine x_met (nm := "rowsThere") (by decide +kernel) rfl (Nat.le_of_ble_eq_true rfl) rfl (fun Γ K KR hnL hnm => ?_)
  show XW Γ N v [(0, .ref (B + 0))] 0 0 0 []
  refine x_iconst (pc := 0) K dX11_rowsThere_0 ?_
  refine x_istore_n (pc := 1) K (L' := [(1, .int (zI 0)), (0, .ref (B + 0))]) hnL rfl (by decide) rfl dX11_rowsThere_1 ?_
  refine x_iconst (pc := 2) K dX11_rowsThere_2 ?_
  refine x_istore_n (pc := 3) K (L' := [(2, .int (zI 0)), (1, .int (zI 0)), (0, .ref (B + 0))]) hnL rfl (by decide) rfl dX11_rowsThere_3 ?_
  have LOOP4 : ∀ (n_4 : Nat) (y : Int) (k : Nat), (k ≤ 8) → (y = (cntR (fun i => if la i = -1 then -1 else 0) k)) → (0 ≤ y ∧ y ≤ k) → (8 - k) < n_4 → XW Γ N v [(0, .ref (B + 0)), (1, .int (zI y)), (2, .int (zI (k : Int)))] 0 0 4 [] := by
    intro n_4
    induction n_4 with
    | zero =>
      intro y k hi4_0 hi4_1 hi4_2 hm_4
      exfalso; omega
    | succ n_4 ih4 =>
      intro y k hi4_0 hi4_1 hi4_2 hm_4
      refine x_iload_n (pc := 4) 2 K rfl rfl dX11_rowsThere_4 ?_
      refine x_bipush (pc := 5) K (by decide) dX11_rowsThere_5 ?_
      refine x_icmp_ge (pc := 7) (tgt := 31) K (by omega) (by decide) dX11_rowsThere_7 (by decide) (fun h_7 => ?_) (fun h_7 => ?_)
      · skip
        refine x_iload_n (pc := 31) 1 K rfl rfl dX11_rowsThere_31 ?_
        refine x_iret (pc := 32) K KR (by omega) (Nat.le_of_ble_eq_true rfl) (Nat.le_of_ble_eq_true rfl) dX11_rowsThere_32 ?_
        have hk : k = 8 := by omega
        rw [hk] at hi4_1
        exact ⟨rfl, ri hi4_1, rfl⟩
      · skip
        have hla := hq0 k (by omega)
        refine x_aload_n (pc := 10) 0 K rfl rfl dX11_rowsThere_10 ?_
        refine x_get (pc := 11) (C := RX11) (T := TX11) (n := 12) (ci := 10) (idx := 11) (ref := "BorderBeds") (x := .ref (B + 1))  K hc0 rfl (by decide +kernel) 0 (by decide) (by decide +kernel) rfl rfl dX11_rowsThere_11 ?_
        refine x_iload_n (pc := 14) 2 K rfl rfl dX11_rowsThere_14 ?_
        refine x_aald (pc := 15) k K hc1 rfl rfl rfl (by omega) (by decide) dX11_rowsThere_15 ?_
        obtain ⟨q9, hq9⟩ : ∃ q : Nat, q = 15 + 2 * k := ⟨_, rfl⟩
        have hcq9 : Cel N v q9 (.inr (6, [.ref (B + (q9 + 1)), .int (zI (la k)), .int (zI (sz k))])) := by rw [hq9]; exact hF0 k (by omega)
        refine x_st (st' := [.ref (B + q9)]) (by rw [rf_some (h := rowQ) (j := k) (o := q9) (by rw [rowQ_at (by omega), hq9])]) ?_
        refine x_callV (pc := 16) (C := RX7) (T := TX7) (n := 3) (ci := 6) (As := []) K (c_X7_isMissing (E := E) (B := B) (N := N) (g := (fun _ => (0 : Int)))  hcq9 (by omega)) gX11_rowsThere_X7_isMissing rfl (na := 0) (by decide +kernel) rfl ⟨(Nat.le_of_ble_eq_true rfl), (Nat.le_of_ble_eq_true rfl)⟩ hcq9 rfl (st := []) rfl (Nat.le_of_ble_eq_true rfl) ⟨(Nat.le_of_ble_eq_true rfl), (Nat.le_of_ble_eq_true rfl)⟩ dX11_rowsThere_16 (fun r16 N16 w16 hpo16 hN16 => ?_)
        obtain ⟨rfl, rfl, rfl⟩ := hpo16
        refine x_st (st' := [.int (zI (bI ((la k) = -1)))]) rfl ?_
        have hrg16 := bI_rng ((la k) = -1)
        refine x_if_ne (pc := 19) (tgt := 25) K (by omega) dX11_rowsThere_19 (by decide) (fun h_19 => ?_) (fun h_19 => ?_)
        · skip
          have h_19 := bI_f h_19
          refine x_iinc (pc := 25) (L' := [(2, .int (zI ((k : Int) + 1))), (0, .ref (B + 0)), (1, .int (zI y))]) 2 K hnL rfl (by decide) rfl dX11_rowsThere_25 ?_
          refine x_goto (pc := 28) (tgt := 4) K dX11_rowsThere_28 (by decide) ?_
          refine x_sub (L' := [(0, .ref (B + 0)), (1, .int (zI y)), (2, .int (zI ((k : Int) + 1)))]) [1, 2, 0] rfl ?_
          exact ih4 y (k + 1) (by omega) (by show _ = (cntR (fun i => if la i = -1 then -1 else 0) k) + (if (if la k = -1 then (-1 : Int) else 0) < 0 then 0 else 1); rw [← hi4_1]; (repeat' split) <;> omega) (by omega) (by omega)
        · skip
          have h_19 := bI_t h_19
          refine x_iinc (pc := 22) (L' := [(1, .int (zI (y + 1))), (0, .ref (B + 0)), (2, .int (zI (k : Int)))]) 1 K hnL rfl (by decide) rfl dX11_rowsThere_22 ?_
          refine x_iinc (pc := 25) (L' := [(2, .int (zI ((k : Int) + 1))), (1, .int (zI (y + 1))), (0, .ref (B + 0))]) 2 K hnL rfl (by decide) rfl dX11_rowsThere_25 ?_
          refine x_goto (pc := 28) (tgt := 4) K dX11_rowsThere_28 (by decide) ?_
          refine x_sub (L' := [(0, .ref (B + 0)), (1, .int (zI (y + 1))), (2, .int (zI ((k : Int) + 1)))]) [2, 1, 0] rfl ?_
          exact ih4 (y + 1) (k + 1) (by omega) (by show _ = (cntR (fun i => if la i = -1 then -1 else 0) k) + (if (if la k = -1 then (-1 : Int) else 0) < 0 then 0 else 1); rw [← hi4_1]; (repeat' split) <;> omega) (by omega) (by omega)
  refine x_sub (L' := [(0, .ref (B + 0)), (1, .int (zI 0)), (2, .int (zI 0))]) [2, 1, 0] rfl ?_
  exact LOOP4 (_) 0 0 (by omega) (by rfl) (by omega) (Nat.lt_succ_self _)

set_option maxRecDepth 100000 in
set_option maxHeartbeats 4000000 in
theorem c_X3_cellsGuarded {E : XE} {B N : Nat} {v : Nat → va_E} {c : Nat} {p : Nat → Int} (hc0 : Cel N v c (.inr (3, [.int (zI (p 0)), .int (zI (p 1)), .int (zI (p 2)), .ref (B + (c + 1)), .ref (B + (c + 2)), .int (zI (p 3)), .ref (B + (c + 3)), .int (zI (p 4)), .ref (B + (c + 4)), .ref (B + (c + 13)), .ref (B + (c + 18))]))) (hc1 : Cel N v (c + 2) (barr E 48 (gA p))) (hq0 : POk p) : gM yX3_cellsGuarded wsX3_cellsGuarded ({ frames := 0, cells := 0, slots := 0, locals := 0 }) E B N v [.ref (B + c)] (po0 N (fun ρ v' => ρ = some (.int (zI (cntG p 48))) ∧ v = v')) := by
  refine x_met (nm := "cellsGuarded") (by decide +kernel) rfl (Nat.le_of_ble_eq_true rfl) rfl (fun Γ K KR hnL hnm => ?_)
  show XW Γ N v [(0, .ref (B + c))] 0 0 0 []
  refine x_iconst (pc := 0) K dX3_cellsGuarded_0 ?_
  refine x_istore_n (pc := 1) K (L' := [(1, .int (zI 0)), (0, .ref (B + c))]) hnL rfl (by decide) rfl dX3_cellsGuarded_1 ?_
  refine x_iconst (pc := 2) K dX3_cellsGuarded_2 ?_
  refine x_istore_n (pc := 3) K (L' := [(2, .int (zI 0)), (1, .int (zI 0)), (0, .ref (B + c))]) hnL rfl (by decide) rfl dX3_cellsGuarded_3 ?_
  have LOOP4 : ∀ (n_4 : Nat) (y : Int) (k : Nat), (k ≤ 48) → (y = cntG p k) → (0 ≤ y ∧ y ≤ k) → (48 - k) < n_4 → XW Γ N v [(0, .ref (B + c)), (1, .int (zI y)), (2, .int (zI (k : Int)))] 0 0 4 [] := by
    intro n_4
    induction n_4 with
    | zero =>
      intro y k hi4_0 hi4_1 hi4_2 hm_4
      exfalso; omega
    | succ n_4 ih4 =>
      intro y k hi4_0 hi4_1 hi4_2 hm_4
      refine x_iload_n (pc := 4) 2 K rfl rfl dX3_cellsGuarded_4 ?_
      refine x_bipush (pc := 5) K (by decide) dX3_cellsGuarded_5 ?_
      refine x_icmp_ge (pc := 7) (tgt := 28) K (by omega) (by decide) dX3_cellsGuarded_7 (by decide) (fun h_7 => ?_) (fun h_7 => ?_)
      · skip
        refine x_iload_n (pc := 28) 1 K rfl rfl dX3_cellsGuarded_28 ?_
        refine x_iret (pc := 29) K KR (by omega) (Nat.le_of_ble_eq_true rfl) (Nat.le_of_ble_eq_true rfl) dX3_cellsGuarded_29 ?_
        have hk : k = 48 := by omega
        rw [hk] at hi4_1
        exact ⟨rfl, ri hi4_1, rfl⟩
      · skip
        have hg9 := (hq0.2.2.2.2.2.2 k (by omega)).1
        have hga := gA_at (p := p) (show k < 48 by omega)
        refine x_aload_n (pc := 10) 0 K rfl rfl dX3_cellsGuarded_10 ?_
        refine x_get (pc := 11) (C := RX3) (T := TX3) (n := 11) (ci := 3) (idx := 25) (ref := "BorderBeds$Ground") (x := .ref (B + (c + 2)))  K hc0 rfl (by decide +kernel) 4 (by decide) (by decide +kernel) rfl rfl dX3_cellsGuarded_11 ?_
        refine x_iload_n (pc := 14) 2 K rfl rfl dX3_cellsGuarded_14 ?_
        refine x_zald (pc := 15) k K hc1 rfl (by omega) (by decide) dX3_cellsGuarded_15 ?_
        refine x_if_eq (pc := 16) (tgt := 22) K (by omega) dX3_cellsGuarded_16 (by decide) (fun h_16 => ?_) (fun h_16 => ?_)
        · skip
          refine x_iinc (pc := 22) (L' := [(2, .int (zI ((k : Int) + 1))), (0, .ref (B + c)), (1, .int (zI y))]) 2 K hnL rfl (by decide) rfl dX3_cellsGuarded_22 ?_
          refine x_goto (pc := 25) (tgt := 4) K dX3_cellsGuarded_25 (by decide) ?_
          refine x_sub (L' := [(0, .ref (B + c)), (1, .int (zI y)), (2, .int (zI ((k : Int) + 1)))]) [1, 2, 0] rfl ?_
          exact ih4 y (k + 1) (by omega) (by show _ = cntG p k + p (25 + k); rw [← hi4_1]; omega) (by omega) (by omega)
        · skip
          refine x_iinc (pc := 19) (L' := [(1, .int (zI (y + 1))), (0, .ref (B + c)), (2, .int (zI (k : Int)))]) 1 K hnL rfl (by decide) rfl dX3_cellsGuarded_19 ?_
          refine x_iinc (pc := 22) (L' := [(2, .int (zI ((k : Int) + 1))), (1, .int (zI (y + 1))), (0, .ref (B + c))]) 2 K hnL rfl (by decide) rfl dX3_cellsGuarded_22 ?_
          refine x_goto (pc := 25) (tgt := 4) K dX3_cellsGuarded_25 (by decide) ?_
          refine x_sub (L' := [(0, .ref (B + c)), (1, .int (zI (y + 1))), (2, .int (zI ((k : Int) + 1)))]) [2, 1, 0] rfl ?_
          exact ih4 (y + 1) (k + 1) (by omega) (by show _ = cntG p k + p (25 + k); rw [← hi4_1]; omega) (by omega) (by omega)
  refine x_sub (L' := [(0, .ref (B + c)), (1, .int (zI 0)), (2, .int (zI 0))]) [2, 1, 0] rfl ?_
  exact LOOP4 (_) 0 0 (by omega) (by rfl) (by omega) (Nat.lt_succ_self _)

set_option maxRecDepth 100000 in
set_option maxHeartbeats 4000000 in
theorem c_X11_count_0 {E : XE} {B N : Nat} {v : Nat → va_E} {old kept fau fin : Int} {la sz : Nat → Int} {n tn : Nat} {tf tp ts tb te tv what : Int} (hc0 : Cel N v 0 (.inr (10, [.ref (B + 1), .ref (B + 2), .ref (B + 5), .ref (B + 7), .ref (B + 12), .ref (B + 13), .ref (B + 14), .null, .int (zI old), .int (zI kept), .int (zI fau), .int (zI fin)]))) (hc1 : Cel N v 1 (rarr E 2 8 B rowQ)) (hc2 : Cel N v 7 (.inr (4, [.ref (B + 8), .ref (B + 9), .int (zI (n : Int)), .ref (B + 10), .ref (B + 11)]))) (hc3 : Cel N v 2 (.inr (7, [.ref (B + 3), .ref (B + 4), .int (zI (tn : Int)), .int (zI tf), .int (zI tp), .int (zI ts), .int (zI tb), .int (zI te), .int (zI tv)]))) (hF0 : ∀ i : Nat, i < 8 → Cel N v (15 + 2 * i) (.inr (6, [.ref (B + (15 + 2 * i + 1)), .int (zI (la i)), .int (zI (sz i))]))) (hq0 : ∀ i, i < 8 → -1 ≤ la i ∧ la i ≤ 2) (hq1 : (-2147483648 ≤ what ∧ what ≤ 2147483647)) : gM yX11_count wsX11_count ({ frames := 2, cells := 0, slots := 0, locals := 42 }) E B N v [.ref (B + 0), .int (zI what)] (po0 N (fun ρ v' => ∃ (res : Int), (res = (if what = 0 then (cntR (fun i => if la i = -1 then -1 else 0) 8) else if what = 1 then 0 else if what = 2 then (n : Int) else if what = 3 then 0 else if what = 4 then kept else if what = 5 then 0 else if what = 6 then (tn : Int) else -1000001)) ∧ ρ = some (.int (zI res)) ∧ v = v')) := by
  refine x_met (nm := "count") (by decide +kernel) rfl (Nat.le_of_ble_eq_true rfl) rfl (fun Γ K KR hnL hnm => ?_)
  show XW Γ N v [(0, .ref (B + 0)), (1, .int (zI what))] 0 0 0 []
  refine x_aload_n (pc := 0) 0 K rfl rfl dX11_count_0 ?_
  refine x_get (pc := 1) (C := RX11) (T := TX11) (n := 12) (ci := 10) (idx := 49) (ref := "BorderBeds") (x := .null)  K hc0 rfl (by decide +kernel) 7 (by decide) (by decide +kernel) rfl rfl dX11_count_1 ?_
  refine x_astore_nN (pc := 4) K (L' := [(2, .null), (0, .ref (B + 0)), (1, .int (zI what))]) hnL rfl (by decide) rfl dX11_count_4 ?_
  refine x_iload_n (pc := 5) 2 K rfl rfl dX11_count_5 ?_
  by_cases h_6_0 : what = 0
  · skip
    refine x_tswIn (pc := 6) (tgt := 48) K (by omega) (by omega) (by omega) dX11_count_6 (by rw [h_6_0]; rfl) (by decide) ?_
    refine x_aload_n (pc := 48) 1 K rfl rfl dX11_count_48 ?_
    refine x_callV (pc := 49) (C := RX11) (T := TX11) (n := 12) (ci := 10) (As := []) K (c_X11_rowsThere (E := E) (B := B) (N := N) (la := la) (sz := sz)  hc0 hc1 (fun x hx => (hF0 x hx)) hq0) gX11_count_X11_rowsThere rfl (na := 0) (by decide +kernel) rfl ⟨(Nat.le_of_ble_eq_true rfl), (Nat.le_of_ble_eq_true rfl)⟩ hc0 rfl (st := []) rfl (Nat.le_of_ble_eq_true rfl) ⟨(Nat.le_of_ble_eq_true rfl), (Nat.le_of_ble_eq_true rfl)⟩ dX11_count_49 (fun r49 N49 w49 hpo49 hN49 => ?_)
    obtain ⟨rfl, rfl, rfl⟩ := hpo49
    refine x_st (st' := [.int (zI (cntR (fun i => if la i = -1 then -1 else 0) 8))]) rfl ?_
    refine x_iret (pc := 52) K KR (by omega) (Nat.le_of_ble_eq_true rfl) (Nat.le_of_ble_eq_true rfl) dX11_count_52 ?_
    exact ⟨rfl, (cntR (fun i => if la i = -1 then -1 else 0) 8), (by rw [if_pos (by omega)]), rfl, rfl⟩
  by_cases h_6_1 : what = 1
  · skip
    refine x_tswIn (pc := 6) (tgt := 53) K (by omega) (by omega) (by omega) dX11_count_6 (by rw [h_6_1]; rfl) (by decide) ?_
    refine x_aload_nN (pc := 53) 0 K rfl rfl dX11_count_53 ?_
    refine x_ifnonnullN (pc := 54) K dX11_count_54 ?_
    refine x_iconst (pc := 57) K dX11_count_57 ?_
    refine x_goto (pc := 58) (tgt := 65) K dX11_count_58 (by decide) ?_
    refine x_iret (pc := 65) K KR (by omega) (Nat.le_of_ble_eq_true rfl) (Nat.le_of_ble_eq_true rfl) dX11_count_65 ?_
    exact ⟨rfl, 0, (by rw [if_neg (by omega), if_pos (by omega)]), rfl, rfl⟩
  by_cases h_6_2 : what = 2
  · skip
    refine x_tswIn (pc := 6) (tgt := 66) K (by omega) (by omega) (by omega) dX11_count_6 (by rw [h_6_2]; rfl) (by decide) ?_
    refine x_aload_n (pc := 66) 1 K rfl rfl dX11_count_66 ?_
    refine x_get (pc := 67) (C := RX11) (T := TX11) (n := 12) (ci := 10) (idx := 32) (ref := "BorderBeds") (x := .ref (B + 7))  K hc0 rfl (by decide +kernel) 3 (by decide) (by decide +kernel) rfl rfl dX11_count_67 ?_
    refine x_get (pc := 70) (C := RX4) (T := TX4) (n := 5) (ci := 4) (idx := 155) (ref := "BorderBeds$Line") (x := .int (zI (n : Int)))  K hc2 rfl (by decide +kernel) 2 (by decide) (by decide +kernel) rfl rfl dX11_count_70 ?_
    refine x_iret (pc := 73) K KR (by omega) (Nat.le_of_ble_eq_true rfl) (Nat.le_of_ble_eq_true rfl) dX11_count_73 ?_
    exact ⟨rfl, (n : Int), (by rw [if_neg (by omega), if_neg (by omega), if_pos (by omega)]), rfl, rfl⟩
  by_cases h_6_3 : what = 3
  · skip
    refine x_tswIn (pc := 6) (tgt := 74) K (by omega) (by omega) (by omega) dX11_count_6 (by rw [h_6_3]; rfl) (by decide) ?_
    refine x_aload_nN (pc := 74) 0 K rfl rfl dX11_count_74 ?_
    refine x_ifnonnullN (pc := 75) K dX11_count_75 ?_
    refine x_iconst (pc := 78) K dX11_count_78 ?_
    refine x_goto (pc := 79) (tgt := 86) K dX11_count_79 (by decide) ?_
    refine x_iret (pc := 86) K KR (by omega) (Nat.le_of_ble_eq_true rfl) (Nat.le_of_ble_eq_true rfl) dX11_count_86 ?_
    exact ⟨rfl, 0, (by rw [if_neg (by omega), if_neg (by omega), if_neg (by omega), if_pos (by omega)]), rfl, rfl⟩
  by_cases h_6_4 : what = 4
  · skip
    refine x_tswIn (pc := 6) (tgt := 87) K (by omega) (by omega) (by omega) dX11_count_6 (by rw [h_6_4]; rfl) (by decide) ?_
    refine x_aload_n (pc := 87) 1 K rfl rfl dX11_count_87 ?_
    refine x_get (pc := 88) (C := RX11) (T := TX11) (n := 12) (ci := 10) (idx := 57) (ref := "BorderBeds") (x := .int (zI kept))  K hc0 rfl (by decide +kernel) 9 (by decide) (by decide +kernel) rfl rfl dX11_count_88 ?_
    refine x_iret (pc := 91) K KR (by omega) (Nat.le_of_ble_eq_true rfl) (Nat.le_of_ble_eq_true rfl) dX11_count_91 ?_
    exact ⟨rfl, kept, (by rw [if_neg (by omega), if_neg (by omega), if_neg (by omega), if_neg (by omega), if_pos (by omega)]), rfl, rfl⟩
  by_cases h_6_5 : what = 5
  · skip
    refine x_tswIn (pc := 6) (tgt := 92) K (by omega) (by omega) (by omega) dX11_count_6 (by rw [h_6_5]; rfl) (by decide) ?_
    refine x_aload_nN (pc := 92) 0 K rfl rfl dX11_count_92 ?_
    refine x_ifnonnullN (pc := 93) K dX11_count_93 ?_
    refine x_iconst (pc := 96) K dX11_count_96 ?_
    refine x_goto (pc := 97) (tgt := 104) K dX11_count_97 (by decide) ?_
    refine x_iret (pc := 104) K KR (by omega) (Nat.le_of_ble_eq_true rfl) (Nat.le_of_ble_eq_true rfl) dX11_count_104 ?_
    exact ⟨rfl, 0, (by rw [if_neg (by omega), if_neg (by omega), if_neg (by omega), if_neg (by omega), if_neg (by omega), if_pos (by omega)]), rfl, rfl⟩
  by_cases h_6_6 : what = 6
  · skip
    refine x_tswIn (pc := 6) (tgt := 105) K (by omega) (by omega) (by omega) dX11_count_6 (by rw [h_6_6]; rfl) (by decide) ?_
    refine x_aload_n (pc := 105) 1 K rfl rfl dX11_count_105 ?_
    refine x_get (pc := 106) (C := RX11) (T := TX11) (n := 12) (ci := 10) (idx := 18) (ref := "BorderBeds") (x := .ref (B + 2))  K hc0 rfl (by decide +kernel) 1 (by decide) (by decide +kernel) rfl rfl dX11_count_106 ?_
    refine x_get (pc := 109) (C := RX8) (T := TX8) (n := 9) (ci := 7) (idx := 116) (ref := "BorderBeds$Tape") (x := .int (zI (tn : Int)))  K hc3 rfl (by decide +kernel) 2 (by decide) (by decide +kernel) rfl rfl dX11_count_109 ?_
    refine x_iret (pc := 112) K KR (by omega) (Nat.le_of_ble_eq_true rfl) (Nat.le_of_ble_eq_true rfl) dX11_count_112 ?_
    exact ⟨rfl, (tn : Int), (by rw [if_neg (by omega), if_neg (by omega), if_neg (by omega), if_neg (by omega), if_neg (by omega), if_neg (by omega), if_pos (by omega)]), rfl, rfl⟩
  refine x_tswOut (pc := 6) (tgt := 113) K (by omega) (by omega) dX11_count_6 (by decide) ?_
  refine x_ldc (pc := 113) (x := (-1000001)) (-1000001) K (by decide) (by decide +kernel) dX11_count_113 ?_
  refine x_iret (pc := 115) K KR (by omega) (Nat.le_of_ble_eq_true rfl) (Nat.le_of_ble_eq_true rfl) dX11_count_115 ?_
  exact ⟨rfl, (-1000001), (by rw [if_neg (by omega), if_neg (by omega), if_neg (by omega), if_neg (by omega), if_neg (by omega), if_neg (by omega), if_neg (by omega)]), rfl, rfl⟩

set_option maxRecDepth 100000 in
set_option maxHeartbeats 4000000 in
theorem c_X11_count_c {E : XE} {B N : Nat} {v : Nat → va_E} {old kept fau fin : Int} {la sz : Nat → Int} {n tn : Nat} {tf tp ts tb te tv what : Int} {c : Nat} {p : Nat → Int} (hc0 : Cel N v 0 (.inr (10, [.ref (B + 1), .ref (B + 2), .ref (B + 5), .ref (B + 7), .ref (B + 12), .ref (B + 13), .ref (B + 14), .ref (B + c), .int (zI old), .int (zI kept), .int (zI fau), .int (zI fin)]))) (hc1 : Cel N v 1 (rarr E 2 8 B rowQ)) (hc2 : Cel N v 7 (.inr (4, [.ref (B + 8), .ref (B + 9), .int (zI (n : Int)), .ref (B + 10), .ref (B + 11)]))) (hc3 : Cel N v 2 (.inr (7, [.ref (B + 3), .ref (B + 4), .int (zI (tn : Int)), .int (zI tf), .int (zI tp), .int (zI ts), .int (zI tb), .int (zI te), .int (zI tv)]))) (hc4 : Cel N v c (.inr (3, [.int (zI (p 0)), .int (zI (p 1)), .int (zI (p 2)), .ref (B + (c + 1)), .ref (B + (c + 2)), .int (zI (p 3)), .ref (B + (c + 3)), .int (zI (p 4)), .ref (B + (c + 4)), .ref (B + (c + 13)), .ref (B + (c + 18))]))) (hc5 : Cel N v (c + 2) (barr E 48 (gA p))) (hF0 : ∀ i : Nat, i < 8 → Cel N v (15 + 2 * i) (.inr (6, [.ref (B + (15 + 2 * i + 1)), .int (zI (la i)), .int (zI (sz i))]))) (hq0 : ∀ i, i < 8 → -1 ≤ la i ∧ la i ≤ 2) (hq1 : (-2147483648 ≤ what ∧ what ≤ 2147483647)) (hq2 : POk p) : gM yX11_count wsX11_count ({ frames := 2, cells := 0, slots := 0, locals := 42 }) E B N v [.ref (B + 0), .int (zI what)] (po0 N (fun ρ v' => ∃ (res : Int), (res = (if what = 0 then (cntR (fun i => if la i = -1 then -1 else 0) 8) else if what = 1 then p 4 else if what = 2 then (n : Int) else if what = 3 then p 3 else if what = 4 then kept else if what = 5 then cntG p 48 else if what = 6 then (tn : Int) else -1000001)) ∧ ρ = some (.int (zI res)) ∧ v = v')) := by
  refine x_met (nm := "count") (by decide +kernel) rfl (Nat.le_of_ble_eq_true rfl) rfl (fun Γ K KR hnL hnm => ?_)
  show XW Γ N v [(0, .ref (B + 0)), (1, .int (zI what))] 0 0 0 []
  refine x_aload_n (pc := 0) 0 K rfl rfl dX11_count_0 ?_
  refine x_get (pc := 1) (C := RX11) (T := TX11) (n := 12) (ci := 10) (idx := 49) (ref := "BorderBeds") (x := .ref (B + c))  K hc0 rfl (by decide +kernel) 7 (by decide) (by decide +kernel) rfl rfl dX11_count_1 ?_
  refine x_astore_n (pc := 4) K (L' := [(2, .ref (B + c)), (0, .ref (B + 0)), (1, .int (zI what))]) hnL rfl (by decide) rfl dX11_count_4 ?_
  refine x_iload_n (pc := 5) 2 K rfl rfl dX11_count_5 ?_
  by_cases h_6_0 : what = 0
  · skip
    refine x_tswIn (pc := 6) (tgt := 48) K (by omega) (by omega) (by omega) dX11_count_6 (by rw [h_6_0]; rfl) (by decide) ?_
    refine x_aload_n (pc := 48) 1 K rfl rfl dX11_count_48 ?_
    refine x_callV (pc := 49) (C := RX11) (T := TX11) (n := 12) (ci := 10) (As := []) K (c_X11_rowsThere (E := E) (B := B) (N := N) (la := la) (sz := sz)  hc0 hc1 (fun x hx => (hF0 x hx)) hq0) gX11_count_X11_rowsThere rfl (na := 0) (by decide +kernel) rfl ⟨(Nat.le_of_ble_eq_true rfl), (Nat.le_of_ble_eq_true rfl)⟩ hc0 rfl (st := []) rfl (Nat.le_of_ble_eq_true rfl) ⟨(Nat.le_of_ble_eq_true rfl), (Nat.le_of_ble_eq_true rfl)⟩ dX11_count_49 (fun r49 N49 w49 hpo49 hN49 => ?_)
    obtain ⟨rfl, rfl, rfl⟩ := hpo49
    refine x_st (st' := [.int (zI (cntR (fun i => if la i = -1 then -1 else 0) 8))]) rfl ?_
    refine x_iret (pc := 52) K KR (by omega) (Nat.le_of_ble_eq_true rfl) (Nat.le_of_ble_eq_true rfl) dX11_count_52 ?_
    exact ⟨rfl, (cntR (fun i => if la i = -1 then -1 else 0) 8), (by rw [if_pos (by omega)]), rfl, rfl⟩
  by_cases h_6_1 : what = 1
  · skip
    refine x_tswIn (pc := 6) (tgt := 53) K (by omega) (by omega) (by omega) dX11_count_6 (by rw [h_6_1]; rfl) (by decide) ?_
    refine x_aload_n (pc := 53) 0 K rfl rfl dX11_count_53 ?_
    refine x_ifnonnull (pc := 54) (tgt := 61) K dX11_count_54 (by decide) ?_
    refine x_aload_n (pc := 61) 0 K rfl rfl dX11_count_61 ?_
    refine x_get (pc := 62) (C := RX3) (T := TX3) (n := 11) (ci := 3) (idx := 132) (ref := "BorderBeds$Ground") (x := .int (zI (p 4)))  K hc4 rfl (by decide +kernel) 7 (by decide) (by decide +kernel) rfl rfl dX11_count_62 ?_
    refine x_iret (pc := 65) K KR (by omega) (Nat.le_of_ble_eq_true rfl) (Nat.le_of_ble_eq_true rfl) dX11_count_65 ?_
    exact ⟨rfl, (p 4), (by rw [if_neg (by omega), if_pos (by omega)]), rfl, rfl⟩
  by_cases h_6_2 : what = 2
  · skip
    refine x_tswIn (pc := 6) (tgt := 66) K (by omega) (by omega) (by omega) dX11_count_6 (by rw [h_6_2]; rfl) (by decide) ?_
    refine x_aload_n (pc := 66) 1 K rfl rfl dX11_count_66 ?_
    refine x_get (pc := 67) (C := RX11) (T := TX11) (n := 12) (ci := 10) (idx := 32) (ref := "BorderBeds") (x := .ref (B + 7))  K hc0 rfl (by decide +kernel) 3 (by decide) (by decide +kernel) rfl rfl dX11_count_67 ?_
    refine x_get (pc := 70) (C := RX4) (T := TX4) (n := 5) (ci := 4) (idx := 155) (ref := "BorderBeds$Line") (x := .int (zI (n : Int)))  K hc2 rfl (by decide +kernel) 2 (by decide) (by decide +kernel) rfl rfl dX11_count_70 ?_
    refine x_iret (pc := 73) K KR (by omega) (Nat.le_of_ble_eq_true rfl) (Nat.le_of_ble_eq_true rfl) dX11_count_73 ?_
    exact ⟨rfl, (n : Int), (by rw [if_neg (by omega), if_neg (by omega), if_pos (by omega)]), rfl, rfl⟩
  by_cases h_6_3 : what = 3
  · skip
    refine x_tswIn (pc := 6) (tgt := 74) K (by omega) (by omega) (by omega) dX11_count_6 (by rw [h_6_3]; rfl) (by decide) ?_
    refine x_aload_n (pc := 74) 0 K rfl rfl dX11_count_74 ?_
    refine x_ifnonnull (pc := 75) (tgt := 82) K dX11_count_75 (by decide) ?_
    refine x_aload_n (pc := 82) 0 K rfl rfl dX11_count_82 ?_
    refine x_get (pc := 83) (C := RX3) (T := TX3) (n := 11) (ci := 3) (idx := 259) (ref := "BorderBeds$Ground") (x := .int (zI (p 3)))  K hc4 rfl (by decide +kernel) 5 (by decide) (by decide +kernel) rfl rfl dX11_count_83 ?_
    refine x_iret (pc := 86) K KR (by omega) (Nat.le_of_ble_eq_true rfl) (Nat.le_of_ble_eq_true rfl) dX11_count_86 ?_
    exact ⟨rfl, (p 3), (by rw [if_neg (by omega), if_neg (by omega), if_neg (by omega), if_pos (by omega)]), rfl, rfl⟩
  by_cases h_6_4 : what = 4
  · skip
    refine x_tswIn (pc := 6) (tgt := 87) K (by omega) (by omega) (by omega) dX11_count_6 (by rw [h_6_4]; rfl) (by decide) ?_
    refine x_aload_n (pc := 87) 1 K rfl rfl dX11_count_87 ?_
    refine x_get (pc := 88) (C := RX11) (T := TX11) (n := 12) (ci := 10) (idx := 57) (ref := "BorderBeds") (x := .int (zI kept))  K hc0 rfl (by decide +kernel) 9 (by decide) (by decide +kernel) rfl rfl dX11_count_88 ?_
    refine x_iret (pc := 91) K KR (by omega) (Nat.le_of_ble_eq_true rfl) (Nat.le_of_ble_eq_true rfl) dX11_count_91 ?_
    exact ⟨rfl, kept, (by rw [if_neg (by omega), if_neg (by omega), if_neg (by omega), if_neg (by omega), if_pos (by omega)]), rfl, rfl⟩
  by_cases h_6_5 : what = 5
  · skip
    refine x_tswIn (pc := 6) (tgt := 92) K (by omega) (by omega) (by omega) dX11_count_6 (by rw [h_6_5]; rfl) (by decide) ?_
    refine x_aload_n (pc := 92) 0 K rfl rfl dX11_count_92 ?_
    refine x_ifnonnull (pc := 93) (tgt := 100) K dX11_count_93 (by decide) ?_
    refine x_aload_n (pc := 100) 0 K rfl rfl dX11_count_100 ?_
    refine x_callV (pc := 101) (C := RX3) (T := TX3) (n := 11) (ci := 3) (As := []) K (c_X3_cellsGuarded (E := E) (B := B) (N := N)   hc4 hc5 hq2) gX11_count_X3_cellsGuarded rfl (na := 0) (by decide +kernel) rfl ⟨(Nat.le_of_ble_eq_true rfl), (Nat.le_of_ble_eq_true rfl)⟩ hc4 rfl (st := []) rfl (Nat.le_of_ble_eq_true rfl) ⟨(Nat.le_of_ble_eq_true rfl), (Nat.le_of_ble_eq_true rfl)⟩ dX11_count_101 (fun r101 N101 w101 hpo101 hN101 => ?_)
    obtain ⟨rfl, rfl, rfl⟩ := hpo101
    refine x_st (st' := [.int (zI (cntG p 48))]) rfl ?_
    refine x_iret (pc := 104) K KR (by omega) (Nat.le_of_ble_eq_true rfl) (Nat.le_of_ble_eq_true rfl) dX11_count_104 ?_
    exact ⟨rfl, (cntG p 48), (by rw [if_neg (by omega), if_neg (by omega), if_neg (by omega), if_neg (by omega), if_neg (by omega), if_pos (by omega)]), rfl, rfl⟩
  by_cases h_6_6 : what = 6
  · skip
    refine x_tswIn (pc := 6) (tgt := 105) K (by omega) (by omega) (by omega) dX11_count_6 (by rw [h_6_6]; rfl) (by decide) ?_
    refine x_aload_n (pc := 105) 1 K rfl rfl dX11_count_105 ?_
    refine x_get (pc := 106) (C := RX11) (T := TX11) (n := 12) (ci := 10) (idx := 18) (ref := "BorderBeds") (x := .ref (B + 2))  K hc0 rfl (by decide +kernel) 1 (by decide) (by decide +kernel) rfl rfl dX11_count_106 ?_
    refine x_get (pc := 109) (C := RX8) (T := TX8) (n := 9) (ci := 7) (idx := 116) (ref := "BorderBeds$Tape") (x := .int (zI (tn : Int)))  K hc3 rfl (by decide +kernel) 2 (by decide) (by decide +kernel) rfl rfl dX11_count_109 ?_
    refine x_iret (pc := 112) K KR (by omega) (Nat.le_of_ble_eq_true rfl) (Nat.le_of_ble_eq_true rfl) dX11_count_112 ?_
    exact ⟨rfl, (tn : Int), (by rw [if_neg (by omega), if_neg (by omega), if_neg (by omega), if_neg (by omega), if_neg (by omega), if_neg (by omega), if_pos (by omega)]), rfl, rfl⟩
  refine x_tswOut (pc := 6) (tgt := 113) K (by omega) (by omega) dX11_count_6 (by decide) ?_
  refine x_ldc (pc := 113) (x := (-1000001)) (-1000001) K (by decide) (by decide +kernel) dX11_count_113 ?_
  refine x_iret (pc := 115) K KR (by omega) (Nat.le_of_ble_eq_true rfl) (Nat.le_of_ble_eq_true rfl) dX11_count_115 ?_
  exact ⟨rfl, (-1000001), (by rw [if_neg (by omega), if_neg (by omega), if_neg (by omega), if_neg (by omega), if_neg (by omega), if_neg (by omega), if_neg (by omega)]), rfl, rfl⟩
