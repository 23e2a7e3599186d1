theorem dX11_keepAct_0 : decode cX11_keepAct 0 = .ok (.aload_n 0, 1) := by decide +kernel
theorem dX11_keepAct_1 : decode cX11_keepAct 1 = .ok (.getfield 57, 3) := by decide +kernel
theorem dX11_keepAct_4 : decode cX11_keepAct 4 = .ok (.bipush 24, 2) := by decide +kernel
theorem dX11_keepAct_6 : decode cX11_keepAct 6 = .ok (.if_icmp .lt 26, 3) := by decide +kernel
theorem dX11_keepAct_32 : decode cX11_keepAct 32 = .ok (.aload_n 0, 1) := by decide +kernel
theorem dX11_keepAct_33 : decode cX11_keepAct 33 = .ok (.getfield 36, 3) := by decide +kernel
theorem dX11_keepAct_36 : decode cX11_keepAct 36 = .ok (.aload_n 0, 1) := by decide +kernel
theorem dX11_keepAct_37 : decode cX11_keepAct 37 = .ok (.getfield 53, 3) := by decide +kernel
theorem dX11_keepAct_40 : decode cX11_keepAct 40 = .ok (.aload_n 0, 1) := by decide +kernel
theorem dX11_keepAct_41 : decode cX11_keepAct 41 = .ok (.getfield 57, 3) := by decide +kernel
theorem dX11_keepAct_44 : decode cX11_keepAct 44 = .ok (.iadd, 1) := by decide +kernel
theorem dX11_keepAct_45 : decode cX11_keepAct 45 = .ok (.bipush 24, 2) := by decide +kernel
theorem dX11_keepAct_47 : decode cX11_keepAct 47 = .ok (.irem, 1) := by decide +kernel
theorem dX11_keepAct_48 : decode cX11_keepAct 48 = .ok (.aaload, 1) := by decide +kernel
theorem dX11_keepAct_49 : decode cX11_keepAct 49 = .ok (.aload_n 0, 1) := by decide +kernel
theorem dX11_keepAct_50 : decode cX11_keepAct 50 = .ok (.getfield 32, 3) := by decide +kernel
set_option maxRecDepth 20000 in
theorem ggX11_keepAct_X4_become : GoodIn wsX11_keepAct wsX4_become := goodIn_r _ [9, 10, 11, 12, 13, 14, 15, 16, 17, 18, 31, 32, 33, 34, 35] (by decide +kernel) (by decide +kernel)
set_option maxRecDepth 20000 in
theorem gX11_keepAct_X4_become : GoodIn wsX11_keepAct (wsV RX11 156 RX4 yX4_become wsX4_become) := goodIn_app (goodIn_of _ (by decide +kernel)) ggX11_keepAct_X4_become
theorem dX11_keepAct_53 : decode cX11_keepAct 53 = .ok (.invokevirtual 156, 3) := by decide +kernel
theorem dX11_keepAct_56 : decode cX11_keepAct 56 = .ok (.aload_n 0, 1) := by decide +kernel
theorem dX11_keepAct_57 : decode cX11_keepAct 57 = .ok (.dup, 1) := by decide +kernel
theorem dX11_keepAct_58 : decode cX11_keepAct 58 = .ok (.getfield 57, 3) := by decide +kernel
theorem dX11_keepAct_61 : decode cX11_keepAct 61 = .ok (.iconst 1, 1) := by decide +kernel
theorem dX11_keepAct_62 : decode cX11_keepAct 62 = .ok (.iadd, 1) := by decide +kernel
theorem dX11_keepAct_63 : decode cX11_keepAct 63 = .ok (.putfield 57, 3) := by decide +kernel
theorem dX11_keepAct_66 : decode cX11_keepAct 66 = .ok (.return_, 1) := by decide +kernel
theorem dX11_keepAct_9 : decode cX11_keepAct 9 = .ok (.aload_n 0, 1) := by decide +kernel
theorem dX11_keepAct_10 : decode cX11_keepAct 10 = .ok (.aload_n 0, 1) := by decide +kernel
theorem dX11_keepAct_11 : decode cX11_keepAct 11 = .ok (.getfield 53, 3) := by decide +kernel
theorem dX11_keepAct_14 : decode cX11_keepAct 14 = .ok (.iconst 1, 1) := by decide +kernel
theorem dX11_keepAct_15 : decode cX11_keepAct 15 = .ok (.iadd, 1) := by decide +kernel
theorem dX11_keepAct_16 : decode cX11_keepAct 16 = .ok (.bipush 24, 2) := by decide +kernel
theorem dX11_keepAct_18 : decode cX11_keepAct 18 = .ok (.irem, 1) := by decide +kernel
theorem dX11_keepAct_19 : decode cX11_keepAct 19 = .ok (.putfield 53, 3) := by decide +kernel
theorem dX11_keepAct_22 : decode cX11_keepAct 22 = .ok (.aload_n 0, 1) := by decide +kernel
theorem dX11_keepAct_23 : decode cX11_keepAct 23 = .ok (.dup, 1) := by decide +kernel
theorem dX11_keepAct_24 : decode cX11_keepAct 24 = .ok (.getfield 57, 3) := by decide +kernel
theorem dX11_keepAct_27 : decode cX11_keepAct 27 = .ok (.iconst 1, 1) := by decide +kernel
theorem dX11_keepAct_28 : decode cX11_keepAct 28 = .ok (.isub, 1) := by decide +kernel
theorem dX11_keepAct_29 : decode cX11_keepAct 29 = .ok (.putfield 57, 3) := by decide +kernel
theorem dX11_undo_0 : decode cX11_undo 0 = .ok (.aload_n 0, 1) := by decide +kernel
theorem dX11_undo_1 : decode cX11_undo 1 = .ok (.getfield 57, 3) := by decide +kernel
theorem dX11_undo_4 : decode cX11_undo 4 = .ok (.ifCond .gt 6, 3) := by decide +kernel
theorem dX11_undo_10 : decode cX11_undo 10 = .ok (.aload_n 0, 1) := by decide +kernel
theorem dX11_undo_11 : decode cX11_undo 11 = .ok (.dup, 1) := by decide +kernel
theorem dX11_undo_12 : decode cX11_undo 12 = .ok (.getfield 57, 3) := by decide +kernel
theorem dX11_undo_15 : decode cX11_undo 15 = .ok (.iconst 1, 1) := by decide +kernel
theorem dX11_undo_16 : decode cX11_undo 16 = .ok (.isub, 1) := by decide +kernel
theorem dX11_undo_17 : decode cX11_undo 17 = .ok (.putfield 57, 3) := by decide +kernel
theorem dX11_undo_20 : decode cX11_undo 20 = .ok (.aload_n 0, 1) := by decide +kernel
theorem dX11_undo_21 : decode cX11_undo 21 = .ok (.getfield 32, 3) := by decide +kernel
theorem dX11_undo_24 : decode cX11_undo 24 = .ok (.aload_n 0, 1) := by decide +kernel
theorem dX11_undo_25 : decode cX11_undo 25 = .ok (.getfield 36, 3) := by decide +kernel
theorem dX11_undo_28 : decode cX11_undo 28 = .ok (.aload_n 0, 1) := by decide +kernel
theorem dX11_undo_29 : decode cX11_undo 29 = .ok (.getfield 53, 3) := by decide +kernel
theorem dX11_undo_32 : decode cX11_undo 32 = .ok (.aload_n 0, 1) := by decide +kernel
theorem dX11_undo_33 : decode cX11_undo 33 = .ok (.getfield 57, 3) := by decide +kernel
theorem dX11_undo_36 : decode cX11_undo 36 = .ok (.iadd, 1) := by decide +kernel
theorem dX11_undo_37 : decode cX11_undo 37 = .ok (.bipush 24, 2) := by decide +kernel
theorem dX11_undo_39 : decode cX11_undo 39 = .ok (.irem, 1) := by decide +kernel
theorem dX11_undo_40 : decode cX11_undo 40 = .ok (.aaload, 1) := by decide +kernel
set_option maxRecDepth 20000 in
theorem ggX11_undo_X4_become : GoodIn wsX11_undo wsX4_become := goodIn_r _ [10, 11, 12, 13, 14, 15, 16, 17, 18, 19, 32, 33, 34, 35, 36] (by decide +kernel) (by decide +kernel)
set_option maxRecDepth 20000 in
theorem gX11_undo_X4_become : GoodIn wsX11_undo (wsV RX11 156 RX4 yX4_become wsX4_become) := goodIn_app (goodIn_of _ (by decide +kernel)) ggX11_undo_X4_become
theorem dX11_undo_41 : decode cX11_undo 41 = .ok (.invokevirtual 156, 3) := by decide +kernel
theorem dX11_undo_44 : decode cX11_undo 44 = .ok (.aload_n 0, 1) := by decide +kernel
theorem dX11_undo_45 : decode cX11_undo 45 = .ok (.getfield 57, 3) := by decide +kernel
theorem dX11_undo_48 : decode cX11_undo 48 = .ok (.ireturn, 1) := by decide +kernel
theorem dX11_undo_7 : decode cX11_undo 7 = .ok (.ldc 147, 2) := by decide +kernel
theorem dX11_undo_9 : decode cX11_undo 9 = .ok (.ireturn, 1) := by decide +kernel
set_option maxRecDepth 100000 in
set_option maxHeartbeats 4000000 in
theorem c_X11_keepAct {E : XE} {B N : Nat} {v : Nat → va_E} {cu : Value} {old kept : Nat} {fau fin : Int} {e n9 : Nat} {g9 h9 s9 t9 : Nat → Int} {n : Nat} {g h s t : Nat → Int} (hc0 : Cel N v 0 (.inr (10, [.ref (B + 1), .ref (B + 2), .ref (B + 5), .ref (B + 7), .ref (B + 12), .ref (B + 13), .ref (B + 14), cu, .int (zI (old : Int)), .int (zI (kept : Int)), .int (zI fau), .int (zI fin)]))) (hc1 : Cel N v 12 (rarr E 3 24 B actQ)) (hc2 : Cel N v e (.inr (4, [.ref (B + (e + 1)), .ref (B + (e + 2)), .int (zI (n9 : Int)), .ref (B + (e + 3)), .ref (B + (e + 4))]))) (hc3 : Cel N v (e + 1) (iarr E 8 g9)) (hc4 : Cel N v (e + 2) (barr E 8 h9)) (hc5 : Cel N v (e + 3) (iarr E 8 s9)) (hc6 : Cel N v (e + 4) (iarr E 8 t9)) (hc7 : Cel N v 7 (.inr (4, [.ref (B + 8), .ref (B + 9), .int (zI (n : Int)), .ref (B + 10), .ref (B + 11)]))) (hc8 : Cel N v 8 (iarr E 8 g)) (hc9 : Cel N v 9 (barr E 8 h)) (hc10 : Cel N v 10 (iarr E 8 s)) (hc11 : Cel N v 11 (iarr E 8 t)) (hq0 : (kept < 24 ∧ e = 31 + 5 * ((old + kept) % 24)) ∨ (kept = 24 ∧ e = 31 + 5 * old)) (hq1 : old < 24) (hq2 : ∀ k, k < 8 → 0 ≤ h k ∧ h k ≤ 1) : gM yX11_keepAct wsX11_keepAct ({ frames := 2, cells := 0, slots := 0, locals := 61 }) E B N v [.ref (B + 0)] (po0 N (fun ρ v' => ∃ (old2 : Nat), ∃ (kept2 : Nat), ((kept < 24 ∧ old2 = old ∧ kept2 = kept + 1) ∨ (kept = 24 ∧ old2 = (old + 1) % 24 ∧ kept2 = 24)) ∧ ρ = none ∧ (va_up (va_up (va_up (va_up (va_up (va_up v 0 (.inr (10, [.ref (B + 1), .ref (B + 2), .ref (B + 5), .ref (B + 7), .ref (B + 12), .ref (B + 13), .ref (B + 14), cu, .int (zI (old2 : Int)), .int (zI (kept2 : Int)), .int (zI fau), .int (zI fin)]))) e (.inr (4, [.ref (B + (e + 1)), .ref (B + (e + 2)), .int (zI (n : Int)), .ref (B + (e + 3)), .ref (B + (e + 4))]))) (e + 1) (iarr E 8 g)) (e + 2) (barr E 8 h)) (e + 3) (iarr E 8 s)) (e + 4) (iarr E 8 t)) = v')) := by
  refine x_met (nm := "keepAct") (by decide +kernel) rfl (Nat.le_of_ble_eq_true rfl) rfl (fun Γ K KR hnL hnm => ?_)
  show XW Γ N v [(0, .ref (B + 0))] 0 0 0 []
  refine x_v (cel_pad hc0) ?_
  refine x_v (cel_pad (cel_ne hc2 (by omega))) ?_
  refine x_v (cel_pad (cel_ne (cel_ne hc3 (by omega)) (by omega))) ?_
  refine x_v (cel_pad (cel_ne (cel_ne (cel_ne hc4 (by omega)) (by omega)) (by omega))) ?_
  refine x_v (cel_pad (cel_ne (cel_ne (cel_ne (cel_ne hc5 (by omega)) (by omega)) (by omega)) (by omega))) ?_
  refine x_v (cel_pad (cel_ne (cel_ne (cel_ne (cel_ne (cel_ne hc6 (by omega)) (by omega)) (by omega)) (by omega)) (by omega))) ?_
  refine x_aload_n (pc := 0) 0 K rfl rfl dX11_keepAct_0 ?_
  refine x_get (pc := 1) (C := RX11) (T := TX11) (n := 12) (ci := 10) (idx := 57) (ref := "BorderBeds") (x := .int (zI (kept : Int)))  K (cel_ne (cel_ne (cel_ne (cel_ne (cel_ne (cel_self hc0.1) (by omega)) (by omega)) (by omega)) (by omega)) (by omega)) rfl (by decide +kernel) 9 (by decide) (by decide +kernel) rfl rfl dX11_keepAct_1 ?_
  refine x_bipush (pc := 4) K (by decide) dX11_keepAct_4 ?_
  refine x_icmp_lt (pc := 6) (tgt := 32) K (by omega) (by decide) dX11_keepAct_6 (by decide) (fun h_6 => ?_) (fun h_6 => ?_)
  · skip
    refine x_aload_n (pc := 32) 0 K rfl rfl dX11_keepAct_32 ?_
    refine x_get (pc := 33) (C := RX11) (T := TX11) (n := 12) (ci := 10) (idx := 36) (ref := "BorderBeds") (x := .ref (B + 12))  K (cel_ne (cel_ne (cel_ne (cel_ne (cel_ne (cel_self hc0.1) (by omega)) (by omega)) (by omega)) (by omega)) (by omega)) rfl (by decide +kernel) 4 (by decide) (by decide +kernel) rfl rfl dX11_keepAct_33 ?_
    refine x_aload_n (pc := 36) 0 K rfl rfl dX11_keepAct_36 ?_
    refine x_get (pc := 37) (C := RX11) (T := TX11) (n := 12) (ci := 10) (idx := 53) (ref := "BorderBeds") (x := .int (zI (old : Int)))  K (cel_ne (cel_ne (cel_ne (cel_ne (cel_ne (cel_self hc0.1) (by omega)) (by omega)) (by omega)) (by omega)) (by omega)) rfl (by decide +kernel) 8 (by decide) (by decide +kernel) rfl rfl dX11_keepAct_37 ?_
    refine x_aload_n (pc := 40) 0 K rfl rfl dX11_keepAct_40 ?_
    refine x_get (pc := 41) (C := RX11) (T := TX11) (n := 12) (ci := 10) (idx := 57) (ref := "BorderBeds") (x := .int (zI (kept : Int)))  K (cel_ne (cel_ne (cel_ne (cel_ne (cel_ne (cel_self hc0.1) (by omega)) (by omega)) (by omega)) (by omega)) (by omega)) rfl (by decide +kernel) 9 (by decide) (by decide +kernel) rfl rfl dX11_keepAct_41 ?_
    refine x_iadd (pc := 44) K dX11_keepAct_44 ?_
    refine x_bipush (pc := 45) K (by decide) dX11_keepAct_45 ?_
    refine x_irem (pc := 47) K (by omega) (by omega) dX11_keepAct_47 ?_
    refine x_aald (pc := 48) ((old + kept) % 24) K (cel_ne (cel_ne (cel_ne (cel_ne (cel_ne (cel_ne hc1 (by decide)) (by omega)) (by omega)) (by omega)) (by omega)) (by omega)) rfl rfl (by omega) (by omega) (by decide) dX11_keepAct_48 ?_
    refine x_st (st' := [.ref (B + e)]) (by rw [rf_some (h := actQ) (j := ((old + kept) % 24)) (o := e) (by rw [actQ_at (by omega)]; congr 1; omega)]) ?_
    refine x_aload_n (pc := 49) 0 K rfl rfl dX11_keepAct_49 ?_
    refine x_get (pc := 50) (C := RX11) (T := TX11) (n := 12) (ci := 10) (idx := 32) (ref := "BorderBeds") (x := .ref (B + 7))  K (cel_ne (cel_ne (cel_ne (cel_ne (cel_ne (cel_self hc0.1) (by omega)) (by omega)) (by omega)) (by omega)) (by omega)) rfl (by decide +kernel) 3 (by decide) (by decide +kernel) rfl rfl dX11_keepAct_50 ?_
    refine x_callV (pc := 53) (C := RX4) (T := TX4) (n := 5) (ci := 4) (As := [.ref (B + 7)]) K (c_X4_become (E := E) (B := B) (N := N)   (cel_ne (cel_ne (cel_ne (cel_ne (cel_self hc2.1) (by omega)) (by omega)) (by omega)) (by omega)) (cel_ne (cel_ne (cel_ne (cel_self hc3.1) (by omega)) (by omega)) (by omega)) (cel_ne (cel_ne (cel_self hc4.1) (by omega)) (by omega)) (cel_ne (cel_self hc5.1) (by omega)) (cel_self hc6.1) (cel_ne (cel_ne (cel_ne (cel_ne (cel_ne (cel_ne hc7 (by decide)) (by omega)) (by omega)) (by omega)) (by omega)) (by omega)) (cel_ne (cel_ne (cel_ne (cel_ne (cel_ne (cel_ne hc8 (by decide)) (by omega)) (by omega)) (by omega)) (by omega)) (by omega)) (cel_ne (cel_ne (cel_ne (cel_ne (cel_ne (cel_ne hc9 (by decide)) (by omega)) (by omega)) (by omega)) (by omega)) (by omega)) (cel_ne (cel_ne (cel_ne (cel_ne (cel_ne (cel_ne hc10 (by decide)) (by omega)) (by omega)) (by omega)) (by omega)) (by omega)) (cel_ne (cel_ne (cel_ne (cel_ne (cel_ne (cel_ne hc11 (by decide)) (by omega)) (by omega)) (by omega)) (by omega)) (by omega)) (by omega) hq2) gX11_keepAct_X4_become rfl (na := 1) (by decide +kernel) rfl ⟨(Nat.le_of_ble_eq_true rfl), (Nat.le_of_ble_eq_true rfl)⟩ (cel_ne (cel_ne (cel_ne (cel_ne (cel_self hc2.1) (by omega)) (by omega)) (by omega)) (by omega)) rfl (st := []) rfl (Nat.le_of_ble_eq_true rfl) ⟨(Nat.le_of_ble_eq_true rfl), (Nat.le_of_ble_eq_true rfl)⟩ dX11_keepAct_53 (fun r53 N53 w53 hpo53 hN53 => ?_)
    obtain ⟨rfl, rfl, rfl⟩ := hpo53
    refine x_v (congrArg (fun w => (va_up (va_up (va_up (va_up w (e + 1) (iarr E 8 g)) (e + 2) (barr E 8 h)) (e + 3) (iarr E 8 s)) (e + 4) (iarr E 8 t))) (show (va_up (va_up (va_up (va_up (va_up (va_up v 0 (.inr (10, [.ref (B + 1), .ref (B + 2), .ref (B + 5), .ref (B + 7), .ref (B + 12), .ref (B + 13), .ref (B + 14), cu, .int (zI (old : Int)), .int (zI (kept : Int)), .int (zI fau), .int (zI fin)]))) e (.inr (4, [.ref (B + (e + 1)), .ref (B + (e + 2)), .int (zI (n : Int)), .ref (B + (e + 3)), .ref (B + (e + 4))]))) (e + 1) (iarr E 8 g9)) (e + 2) (barr E 8 h9)) (e + 3) (iarr E 8 s9)) (e + 4) (iarr E 8 t9)) = _ from (up_at4 (by omega) (by omega) (by omega) (by omega)).symm)) ?_
    refine x_v (congrArg (fun w => (va_up (va_up (va_up w (e + 2) (barr E 8 h)) (e + 3) (iarr E 8 s)) (e + 4) (iarr E 8 t))) (show (va_up (va_up (va_up (va_up (va_up (va_up v 0 (.inr (10, [.ref (B + 1), .ref (B + 2), .ref (B + 5), .ref (B + 7), .ref (B + 12), .ref (B + 13), .ref (B + 14), cu, .int (zI (old : Int)), .int (zI (kept : Int)), .int (zI fau), .int (zI fin)]))) e (.inr (4, [.ref (B + (e + 1)), .ref (B + (e + 2)), .int (zI (n : Int)), .ref (B + (e + 3)), .ref (B + (e + 4))]))) (e + 1) (iarr E 8 g)) (e + 2) (barr E 8 h9)) (e + 3) (iarr E 8 s9)) (e + 4) (iarr E 8 t9)) = _ from (up_at3 (by omega) (by omega) (by omega)).symm)) ?_
    refine x_v (congrArg (fun w => (va_up (va_up w (e + 3) (iarr E 8 s)) (e + 4) (iarr E 8 t))) (show (va_up (va_up (va_up (va_up (va_up (va_up v 0 (.inr (10, [.ref (B + 1), .ref (B + 2), .ref (B + 5), .ref (B + 7), .ref (B + 12), .ref (B + 13), .ref (B + 14), cu, .int (zI (old : Int)), .int (zI (kept : Int)), .int (zI fau), .int (zI fin)]))) e (.inr (4, [.ref (B + (e + 1)), .ref (B + (e + 2)), .int (zI (n : Int)), .ref (B + (e + 3)), .ref (B + (e + 4))]))) (e + 1) (iarr E 8 g)) (e + 2) (barr E 8 h)) (e + 3) (iarr E 8 s9)) (e + 4) (iarr E 8 t9)) = _ from (up_at2 (by omega) (by omega)).symm)) ?_
    refine x_v (congrArg (fun w => (va_up w (e + 4) (iarr E 8 t))) (show (va_up (va_up (va_up (va_up (va_up (va_up v 0 (.inr (10, [.ref (B + 1), .ref (B + 2), .ref (B + 5), .ref (B + 7), .ref (B + 12), .ref (B + 13), .ref (B + 14), cu, .int (zI (old : Int)), .int (zI (kept : Int)), .int (zI fau), .int (zI fin)]))) e (.inr (4, [.ref (B + (e + 1)), .ref (B + (e + 2)), .int (zI (n : Int)), .ref (B + (e + 3)), .ref (B + (e + 4))]))) (e + 1) (iarr E 8 g)) (e + 2) (barr E 8 h)) (e + 3) (iarr E 8 s)) (e + 4) (iarr E 8 t9)) = _ from (up_at1 (by omega)).symm)) ?_
    refine x_v (w := (va_up (va_up (va_up (va_up (va_up (va_up v 0 (.inr (10, [.ref (B + 1), .ref (B + 2), .ref (B + 5), .ref (B + 7), .ref (B + 12), .ref (B + 13), .ref (B + 14), cu, .int (zI (old : Int)), .int (zI (kept : Int)), .int (zI fau), .int (zI fin)]))) e (.inr (4, [.ref (B + (e + 1)), .ref (B + (e + 2)), .int (zI (n : Int)), .ref (B + (e + 3)), .ref (B + (e + 4))]))) (e + 1) (iarr E 8 g)) (e + 2) (barr E 8 h)) (e + 3) (iarr E 8 s)) (e + 4) (iarr E 8 t))) (up_at0).symm ?_
    refine x_st (st' := []) rfl ?_
    refine x_aload_n (pc := 56) 0 K rfl rfl dX11_keepAct_56 ?_
    refine x_dup (pc := 57) K rfl dX11_keepAct_57 ?_
    refine x_get (pc := 58) (C := RX11) (T := TX11) (n := 12) (ci := 10) (idx := 57) (ref := "BorderBeds") (x := .int (zI (kept : Int)))  K (cel_ne (cel_ne (cel_ne (cel_ne (cel_ne (cel_self hc0.1) (by omega)) (by omega)) (by omega)) (by omega)) (by omega)) rfl (by decide +kernel) 9 (by decide) (by decide +kernel) rfl rfl dX11_keepAct_58 ?_
    refine x_iconst (pc := 61) K dX11_keepAct_61 ?_
    refine x_iadd (pc := 62) K dX11_keepAct_62 ?_
    refine x_put (pc := 63) (C := RX11) (T := TX11) (n := 12) (ci := 10) (idx := 57) (ref := "BorderBeds") (ty := .int)  K (cel_ne (cel_ne (cel_ne (cel_ne (cel_ne (cel_self hc0.1) (by omega)) (by omega)) (by omega)) (by omega)) (by omega)) rfl (by decide +kernel) tyX11 tyX11_ok nmX11 9 (by decide) (by decide +kernel) rfl rfl (by decide +kernel) rfl rfl (Nat.le_of_ble_eq_true rfl) dX11_keepAct_63 ?_
    refine x_v (w := (va_up (va_up (va_up (va_up (va_up (va_up v 0 (.inr (10, [.ref (B + 1), .ref (B + 2), .ref (B + 5), .ref (B + 7), .ref (B + 12), .ref (B + 13), .ref (B + 14), cu, .int (zI (old : Int)), .int (zI ((kept : Int) + 1)), .int (zI fau), .int (zI fin)]))) e (.inr (4, [.ref (B + (e + 1)), .ref (B + (e + 2)), .int (zI (n : Int)), .ref (B + (e + 3)), .ref (B + (e + 4))]))) (e + 1) (iarr E 8 g)) (e + 2) (barr E 8 h)) (e + 3) (iarr E 8 s)) (e + 4) (iarr E 8 t))) (up_at5 (by omega) (by omega) (by omega) (by omega) (by omega)).symm ?_
    refine x_vret (pc := 66) K KR (by omega) (Nat.le_of_ble_eq_true rfl) (Nat.le_of_ble_eq_true rfl) dX11_keepAct_66 ?_
    exact ⟨rfl, old, (kept + 1), (Or.inl ⟨by omega, rfl, by omega⟩), rfl, rfl⟩
  · skip
    refine x_aload_n (pc := 9) 0 K rfl rfl dX11_keepAct_9 ?_
    refine x_aload_n (pc := 10) 0 K rfl rfl dX11_keepAct_10 ?_
    refine x_get (pc := 11) (C := RX11) (T := TX11) (n := 12) (ci := 10) (idx := 53) (ref := "BorderBeds") (x := .int (zI (old : Int)))  K (cel_ne (cel_ne (cel_ne (cel_ne (cel_ne (cel_self hc0.1) (by omega)) (by omega)) (by omega)) (by omega)) (by omega)) rfl (by decide +kernel) 8 (by decide) (by decide +kernel) rfl rfl dX11_keepAct_11 ?_
    refine x_iconst (pc := 14) K dX11_keepAct_14 ?_
    refine x_iadd (pc := 15) K dX11_keepAct_15 ?_
    refine x_bipush (pc := 16) K (by decide) dX11_keepAct_16 ?_
    refine x_irem (pc := 18) K (by omega) (by omega) dX11_keepAct_18 ?_
    refine x_put (pc := 19) (C := RX11) (T := TX11) (n := 12) (ci := 10) (idx := 53) (ref := "BorderBeds") (ty := .int)  K (cel_ne (cel_ne (cel_ne (cel_ne (cel_ne (cel_self hc0.1) (by omega)) (by omega)) (by omega)) (by omega)) (by omega)) rfl (by decide +kernel) tyX11 tyX11_ok nmX11 8 (by decide) (by decide +kernel) rfl rfl (by decide +kernel) rfl rfl (Nat.le_of_ble_eq_true rfl) dX11_keepAct_19 ?_
    refine x_v (w := (va_up (va_up (va_up (va_up (va_up (va_up v 0 (.inr (10, [.ref (B + 1), .ref (B + 2), .ref (B + 5), .ref (B + 7), .ref (B + 12), .ref (B + 13), .ref (B + 14), cu, .int (zI (((old : Int) + 1) % 24)), .int (zI (kept : Int)), .int (zI fau), .int (zI fin)]))) e (.inr (4, [.ref (B + (e + 1)), .ref (B + (e + 2)), .int (zI (n9 : Int)), .ref (B + (e + 3)), .ref (B + (e + 4))]))) (e + 1) (iarr E 8 g9)) (e + 2) (barr E 8 h9)) (e + 3) (iarr E 8 s9)) (e + 4) (iarr E 8 t9))) (up_at5 (by omega) (by omega) (by omega) (by omega) (by omega)).symm ?_
    refine x_aload_n (pc := 22) 0 K rfl rfl dX11_keepAct_22 ?_
    refine x_dup (pc := 23) K rfl dX11_keepAct_23 ?_
    refine x_get (pc := 24) (C := RX11) (T := TX11) (n := 12) (ci := 10) (idx := 57) (ref := "BorderBeds") (x := .int (zI (kept : Int)))  K (cel_ne (cel_ne (cel_ne (cel_ne (cel_ne (cel_self hc0.1) (by omega)) (by omega)) (by omega)) (by omega)) (by omega)) rfl (by decide +kernel) 9 (by decide) (by decide +kernel) rfl rfl dX11_keepAct_24 ?_
    refine x_iconst (pc := 27) K dX11_keepAct_27 ?_
    refine x_isub (pc := 28) K dX11_keepAct_28 ?_
    refine x_put (pc := 29) (C := RX11) (T := TX11) (n := 12) (ci := 10) (idx := 57) (ref := "BorderBeds") (ty := .int)  K (cel_ne (cel_ne (cel_ne (cel_ne (cel_ne (cel_self hc0.1) (by omega)) (by omega)) (by omega)) (by omega)) (by omega)) rfl (by decide +kernel) tyX11 tyX11_ok nmX11 9 (by decide) (by decide +kernel) rfl rfl (by decide +kernel) rfl rfl (Nat.le_of_ble_eq_true rfl) dX11_keepAct_29 ?_
    refine x_v (w := (va_up (va_up (va_up (va_up (va_up (va_up v 0 (.inr (10, [.ref (B + 1), .ref (B + 2), .ref (B + 5), .ref (B + 7), .ref (B + 12), .ref (B + 13), .ref (B + 14), cu, .int (zI (((old : Int) + 1) % 24)), .int (zI ((kept : Int) - 1)), .int (zI fau), .int (zI fin)]))) e (.inr (4, [.ref (B + (e + 1)), .ref (B + (e + 2)), .int (zI (n9 : Int)), .ref (B + (e + 3)), .ref (B + (e + 4))]))) (e + 1) (iarr E 8 g9)) (e + 2) (barr E 8 h9)) (e + 3) (iarr E 8 s9)) (e + 4) (iarr E 8 t9))) (up_at5 (by omega) (by omega) (by omega) (by omega) (by omega)).symm ?_
    refine x_aload_n (pc := 32) 0 K rfl rfl dX11_keepAct_32 ?_
    refine x_get (pc := 33) (C := RX11) (T := TX11) (n := 12) (ci := 10) (idx := 36) (ref := "BorderBeds") (x := .ref (B + 12))  K (cel_ne (cel_ne (cel_ne (cel_ne (cel_ne (cel_self hc0.1) (by omega)) (by omega)) (by omega)) (by omega)) (by omega)) rfl (by decide +kernel) 4 (by decide) (by decide +kernel) rfl rfl dX11_keepAct_33 ?_
    refine x_aload_n (pc := 36) 0 K rfl rfl dX11_keepAct_36 ?_
    refine x_get (pc := 37) (C := RX11) (T := TX11) (n := 12) (ci := 10) (idx := 53) (ref := "BorderBeds") (x := .int (zI (((old : Int) + 1) % 24)))  K (cel_ne (cel_ne (cel_ne (cel_ne (cel_ne (cel_self hc0.1) (by omega)) (by omega)) (by omega)) (by omega)) (by omega)) rfl (by decide +kernel) 8 (by decide) (by decide +kernel) rfl rfl dX11_keepAct_37 ?_
    refine x_aload_n (pc := 40) 0 K rfl rfl dX11_keepAct_40 ?_
    refine x_get (pc := 41) (C := RX11) (T := TX11) (n := 12) (ci := 10) (idx := 57) (ref := "BorderBeds") (x := .int (zI ((kept : Int) - 1)))  K (cel_ne (cel_ne (cel_ne (cel_ne (cel_ne (cel_self hc0.1) (by omega)) (by omega)) (by omega)) (by omega)) (by omega)) rfl (by decide +kernel) 9 (by decide) (by decide +kernel) rfl rfl dX11_keepAct_41 ?_
    refine x_iadd (pc := 44) K dX11_keepAct_44 ?_
    refine x_bipush (pc := 45) K (by decide) dX11_keepAct_45 ?_
    refine x_irem (pc := 47) K (by omega) (by omega) dX11_keepAct_47 ?_
    refine x_aald (pc := 48) (((((((old : Int) + 1) % 24) + ((kept : Int) - 1)) % 24)).toNat) K (cel_ne (cel_ne (cel_ne (cel_ne (cel_ne (cel_ne hc1 (by decide)) (by omega)) (by omega)) (by omega)) (by omega)) (by omega)) rfl rfl (by omega) (by omega) (by decide) dX11_keepAct_48 ?_
    refine x_st (st' := [.ref (B + e)]) (by rw [rf_some (h := actQ) (j := (((((((old : Int) + 1) % 24) + ((kept : Int) - 1)) % 24)).toNat)) (o := e) (by rw [actQ_at (by omega)]; congr 1; omega)]) ?_
    refine x_aload_n (pc := 49) 0 K rfl rfl dX11_keepAct_49 ?_
    refine x_get (pc := 50) (C := RX11) (T := TX11) (n := 12) (ci := 10) (idx := 32) (ref := "BorderBeds") (x := .ref (B + 7))  K (cel_ne (cel_ne (cel_ne (cel_ne (cel_ne (cel_self hc0.1) (by omega)) (by omega)) (by omega)) (by omega)) (by omega)) rfl (by decide +kernel) 3 (by decide) (by decide +kernel) rfl rfl dX11_keepAct_50 ?_
    refine x_callV (pc := 53) (C := RX4) (T := TX4) (n := 5) (ci := 4) (As := [.ref (B + 7)]) K (c_X4_become (E := E) (B := B) (N := N)   (cel_ne (cel_ne (cel_ne (cel_ne (cel_self hc2.1) (by omega)) (by omega)) (by omega)) (by omega)) (cel_ne (cel_ne (cel_ne (cel_self hc3.1) (by omega)) (by omega)) (by omega)) (cel_ne (cel_ne (cel_self hc4.1) (by omega)) (by omega)) (cel_ne (cel_self hc5.1) (by omega)) (cel_self hc6.1) (cel_ne (cel_ne (cel_ne (cel_ne (cel_ne (cel_ne hc7 (by decide)) (by omega)) (by omega)) (by omega)) (by omega)) (by omega)) (cel_ne (cel_ne (cel_ne (cel_ne (cel_ne (cel_ne hc8 (by decide)) (by omega)) (by omega)) (by omega)) (by omega)) (by omega)) (cel_ne (cel_ne (cel_ne (cel_ne (cel_ne (cel_ne hc9 (by decide)) (by omega)) (by omega)) (by omega)) (by omega)) (by omega)) (cel_ne (cel_ne (cel_ne (cel_ne (cel_ne (cel_ne hc10 (by decide)) (by omega)) (by omega)) (by omega)) (by omega)) (by omega)) (cel_ne (cel_ne (cel_ne (cel_ne (cel_ne (cel_ne hc11 (by decide)) (by omega)) (by omega)) (by omega)) (by omega)) (by omega)) (by omega) hq2) gX11_keepAct_X4_become rfl (na := 1) (by decide +kernel) rfl ⟨(Nat.le_of_ble_eq_true rfl), (Nat.le_of_ble_eq_true rfl)⟩ (cel_ne (cel_ne (cel_ne (cel_ne (cel_self hc2.1) (by omega)) (by omega)) (by omega)) (by omega)) rfl (st := []) rfl (Nat.le_of_ble_eq_true rfl) ⟨(Nat.le_of_ble_eq_true rfl), (Nat.le_of_ble_eq_true rfl)⟩ dX11_keepAct_53 (fun r53 N53 w53 hpo53 hN53 => ?_)
    obtain ⟨rfl, rfl, rfl⟩ := hpo53
    refine x_v (congrArg (fun w => (va_up (va_up (va_up (va_up w (e + 1) (iarr E 8 g)) (e + 2) (barr E 8 h)) (e + 3) (iarr E 8 s)) (e + 4) (iarr E 8 t))) (show (va_up (va_up (va_up (va_up (va_up (va_up v 0 (.inr (10, [.ref (B + 1), .ref (B + 2), .ref (B + 5), .ref (B + 7), .ref (B + 12), .ref (B + 13), .ref (B + 14), cu, .int (zI (((old : Int) + 1) % 24)), .int (zI ((kept : Int) - 1)), .int (zI fau), .int (zI fin)]))) e (.inr (4, [.ref (B + (e + 1)), .ref (B + (e + 2)), .int (zI (n : Int)), .ref (B + (e + 3)), .ref (B + (e + 4))]))) (e + 1) (iarr E 8 g9)) (e + 2) (barr E 8 h9)) (e + 3) (iarr E 8 s9)) (e + 4) (iarr E 8 t9)) = _ from (up_at4 (by omega) (by omega) (by omega) (by omega)).symm)) ?_
    refine x_v (congrArg (fun w => (va_up (va_up (va_up w (e + 2) (barr E 8 h)) (e + 3) (iarr E 8 s)) (e + 4) (iarr E 8 t))) (show (va_up (va_up (va_up (va_up (va_up (va_up v 0 (.inr (10, [.ref (B + 1), .ref (B + 2), .ref (B + 5), .ref (B + 7), .ref (B + 12), .ref (B + 13), .ref (B + 14), cu, .int (zI (((old : Int) + 1) % 24)), .int (zI ((kept : Int) - 1)), .int (zI fau), .int (zI fin)]))) e (.inr (4, [.ref (B + (e + 1)), .ref (B + (e + 2)), .int (zI (n : Int)), .ref (B + (e + 3)), .ref (B + (e + 4))]))) (e + 1) (iarr E 8 g)) (e + 2) (barr E 8 h9)) (e + 3) (iarr E 8 s9)) (e + 4) (iarr E 8 t9)) = _ from (up_at3 (by omega) (by omega) (by omega)).symm)) ?_
    refine x_v (congrArg (fun w => (va_up (va_up w (e + 3) (iarr E 8 s)) (e + 4) (iarr E 8 t))) (show (va_up (va_up (va_up (va_up (va_up (va_up v 0 (.inr (10, [.ref (B + 1), .ref (B + 2), .ref (B + 5), .ref (B + 7), .ref (B + 12), .ref (B + 13), .ref (B + 14), cu, .int (zI (((old : Int) + 1) % 24)), .int (zI ((kept : Int) - 1)), .int (zI fau), .int (zI fin)]))) e (.inr (4, [.ref (B + (e + 1)), .ref (B + (e + 2)), .int (zI (n : Int)), .ref (B + (e + 3)), .ref (B + (e + 4))]))) (e + 1) (iarr E 8 g)) (e + 2) (barr E 8 h)) (e + 3) (iarr E 8 s9)) (e + 4) (iarr E 8 t9)) = _ from (up_at2 (by omega) (by omega)).symm)) ?_
    refine x_v (congrArg (fun w => (va_up w (e + 4) (iarr E 8 t))) (show (va_up (va_up (va_up (va_up (va_up (va_up v 0 (.inr (10, [.ref (B + 1), .ref (B + 2), .ref (B + 5), .ref (B + 7), .ref (B + 12), .ref (B + 13), .ref (B + 14), cu, .int (zI (((old : Int) + 1) % 24)), .int (zI ((kept : Int) - 1)), .int (zI fau), .int (zI fin)]))) e (.inr (4, [.ref (B + (e + 1)), .ref (B + (e + 2)), .int (zI (n : Int)), .ref (B + (e + 3)), .ref (B + (e + 4))]))) (e + 1) (iarr E 8 g)) (e + 2) (barr E 8 h)) (e + 3) (iarr E 8 s)) (e + 4) (iarr E 8 t9)) = _ from (up_at1 (by omega)).symm)) ?_
    refine x_v (w := (va_up (va_up (va_up (va_up (va_up (va_up v 0 (.inr (10, [.ref (B + 1), .ref (B + 2), .ref (B + 5), .ref (B + 7), .ref (B + 12), .ref (B + 13), .ref (B + 14), cu, .int (zI (((old : Int) + 1) % 24)), .int (zI ((kept : Int) - 1)), .int (zI fau), .int (zI fin)]))) e (.inr (4, [.ref (B + (e + 1)), .ref (B + (e + 2)), .int (zI (n : Int)), .ref (B + (e + 3)), .ref (B + (e + 4))]))) (e + 1) (iarr E 8 g)) (e + 2) (barr E 8 h)) (e + 3) (iarr E 8 s)) (e + 4) (iarr E 8 t))) (up_at0).symm ?_
    refine x_st (st' := []) rfl ?_
    refine x_aload_n (pc := 56) 0 K rfl rfl dX11_keepAct_56 ?_
    refine x_dup (pc := 57) K rfl dX11_keepAct_57 ?_
    refine x_get (pc := 58) (C := RX11) (T := TX11) (n := 12) (ci := 10) (idx := 57) (ref := "BorderBeds") (x := .int (zI ((kept : Int) - 1)))  K (cel_ne (cel_ne (cel_ne (cel_ne (cel_ne (cel_self hc0.1) (by omega)) (by omega)) (by omega)) (by omega)) (by omega)) rfl (by decide +kernel) 9 (by decide) (by decide +kernel) rfl rfl dX11_keepAct_58 ?_
    refine x_iconst (pc := 61) K dX11_keepAct_61 ?_
    refine x_iadd (pc := 62) K dX11_keepAct_62 ?_
    refine x_put (pc := 63) (C := RX11) (T := TX11) (n := 12) (ci := 10) (idx := 57) (ref := "BorderBeds") (ty := .int)  K (cel_ne (cel_ne (cel_ne (cel_ne (cel_ne (cel_self hc0.1) (by omega)) (by omega)) (by omega)) (by omega)) (by omega)) rfl (by decide +kernel) tyX11 tyX11_ok nmX11 9 (by decide) (by decide +kernel) rfl rfl (by decide +kernel) rfl rfl (Nat.le_of_ble_eq_true rfl) dX11_keepAct_63 ?_
    refine x_v (w := (va_up (va_up (va_up (va_up (va_up (va_up v 0 (.inr (10, [.ref (B + 1), .ref (B + 2), .ref (B + 5), .ref (B + 7), .ref (B + 12), .ref (B + 13), .ref (B + 14), cu, .int (zI (((old : Int) + 1) % 24)), .int (zI (((kept : Int) - 1) + 1)), .int (zI fau), .int (zI fin)]))) e (.inr (4, [.ref (B + (e + 1)), .ref (B + (e + 2)), .int (zI (n : Int)), .ref (B + (e + 3)), .ref (B + (e + 4))]))) (e + 1) (iarr E 8 g)) (e + 2) (barr E 8 h)) (e + 3) (iarr E 8 s)) (e + 4) (iarr E 8 t))) (up_at5 (by omega) (by omega) (by omega) (by omega) (by omega)).symm ?_
    refine x_vret (pc := 66) K KR (by omega) (Nat.le_of_ble_eq_true rfl) (Nat.le_of_ble_eq_true rfl) dX11_keepAct_66 ?_
    exact ⟨rfl, ((old + 1) % 24), 24, (Or.inr ⟨by omega, rfl, rfl⟩), rfl, by rw [show (((kept : Int) - 1) + 1) = ((24 : Nat) : Int) by omega, show (((old : Int) + 1) % 24) = (((old + 1) % 24 : Nat) : Int) by omega]⟩

set_option maxRecDepth 100000 in
set_option maxHeartbeats 4000000 in
theorem c_X11_undo {E : XE} {B N : Nat} {v : Nat → va_E} {cu : Value} {old kept : Nat} {fau fin : Int} {e n9 : Nat} {g9 h9 s9 t9 : Nat → Int} {n : Nat} {g h s t : Nat → Int} (hc0 : Cel N v 0 (.inr (10, [.ref (B + 1), .ref (B + 2), .ref (B + 5), .ref (B + 7), .ref (B + 12), .ref (B + 13), .ref (B + 14), cu, .int (zI (old : Int)), .int (zI (kept : Int)), .int (zI fau), .int (zI fin)]))) (hc1 : Cel N v 12 (rarr E 3 24 B actQ)) (hc2 : Cel N v e (.inr (4, [.ref (B + (e + 1)), .ref (B + (e + 2)), .int (zI (n9 : Int)), .ref (B + (e + 3)), .ref (B + (e + 4))]))) (hc3 : Cel N v (e + 1) (iarr E 8 g9)) (hc4 : Cel N v (e + 2) (barr E 8 h9)) (hc5 : Cel N v (e + 3) (iarr E 8 s9)) (hc6 : Cel N v (e + 4) (iarr E 8 t9)) (hc7 : Cel N v 7 (.inr (4, [.ref (B + 8), .ref (B + 9), .int (zI (n : Int)), .ref (B + 10), .ref (B + 11)]))) (hc8 : Cel N v 8 (iarr E 8 g)) (hc9 : Cel N v 9 (barr E 8 h)) (hc10 : Cel N v 10 (iarr E 8 s)) (hc11 : Cel N v 11 (iarr E 8 t)) (hq0 : kept = 0 ∨ e = 31 + 5 * ((old + (kept - 1)) % 24)) (hq1 : old < 24 ∧ kept ≤ 24) (hq2 : 31 ≤ e) (hq3 : ∀ k, k < 8 → 0 ≤ h9 k ∧ h9 k ≤ 1) : gM yX11_undo wsX11_undo ({ frames := 2, cells := 0, slots := 0, locals := 61 }) E B N v [.ref (B + 0)] (po0 N (fun ρ v' => ∃ (res : Int), ∃ (kept2 : Nat), ∃ (n2 : Nat), ∃ (g2 : Nat → Int), ∃ (h2 : Nat → Int), ∃ (s2 : Nat → Int), ∃ (t2 : Nat → Int), ((kept = 0 ∧ res = -1000002 ∧ kept2 = kept ∧ n2 = n ∧ g2 = g ∧ h2 = h ∧ s2 = s ∧ t2 = t) ∨ (1 ≤ kept ∧ res = (kept : Int) - 1 ∧ kept2 = kept - 1 ∧ n2 = n9 ∧ g2 = g9 ∧ h2 = h9 ∧ s2 = s9 ∧ t2 = t9)) ∧ ρ = some (.int (zI res)) ∧ (va_up (va_up (va_up (va_up (va_up (va_up v 0 (.inr (10, [.ref (B + 1), .ref (B + 2), .ref (B + 5), .ref (B + 7), .ref (B + 12), .ref (B + 13), .ref (B + 14), cu, .int (zI (old : Int)), .int (zI (kept2 : Int)), .int (zI fau), .int (zI fin)]))) 7 (.inr (4, [.ref (B + 8), .ref (B + 9), .int (zI (n2 : Int)), .ref (B + 10), .ref (B + 11)]))) 8 (iarr E 8 g2)) 9 (barr E 8 h2)) 10 (iarr E 8 s2)) 11 (iarr E 8 t2)) = v')) := by
  refine x_met (nm := "undo") (by decide +kernel) rfl (Nat.le_of_ble_eq_true rfl) rfl (fun Γ K KR hnL hnm => ?_)
  show XW Γ N v [(0, .ref (B + 0))] 0 0 0 []
  refine x_v (cel_pad hc0) ?_
  refine x_v (cel_pad (cel_ne hc7 (by decide))) ?_
  refine x_v (cel_pad (cel_ne (cel_ne hc8 (by decide)) (by decide))) ?_
  refine x_v (cel_pad (cel_ne (cel_ne (cel_ne hc9 (by decide)) (by decide)) (by decide))) ?_
  refine x_v (cel_pad (cel_ne (cel_ne (cel_ne (cel_ne hc10 (by decide)) (by decide)) (by decide)) (by decide))) ?_
  refine x_v (cel_pad (cel_ne (cel_ne (cel_ne (cel_ne (cel_ne hc11 (by decide)) (by decide)) (by decide)) (by decide)) (by decide))) ?_
  refine x_aload_n (pc := 0) 0 K rfl rfl dX11_undo_0 ?_
  refine x_get (pc := 1) (C := RX11) (T := TX11) (n := 12) (ci := 10) (idx := 57) (ref := "BorderBeds") (x := .int (zI (kept : Int)))  K (cel_ne (cel_ne (cel_ne (cel_ne (cel_ne (cel_self hc0.1) (by decide)) (by decide)) (by decide)) (by decide)) (by decide)) rfl (by decide +kernel) 9 (by decide) (by decide +kernel) rfl rfl dX11_undo_1 ?_
  refine x_if_gt (pc := 4) (tgt := 10) K (by omega) dX11_undo_4 (by decide) (fun h_4 => ?_) (fun h_4 => ?_)
  · skip
    refine x_aload_n (pc := 10) 0 K rfl rfl dX11_undo_10 ?_
    refine x_dup (pc := 11) K rfl dX11_undo_11 ?_
    refine x_get (pc := 12) (C := RX11) (T := TX11) (n := 12) (ci := 10) (idx := 57) (ref := "BorderBeds") (x := .int (zI (kept : Int)))  K (cel_ne (cel_ne (cel_ne (cel_ne (cel_ne (cel_self hc0.1) (by decide)) (by decide)) (by decide)) (by decide)) (by decide)) rfl (by decide +kernel) 9 (by decide) (by decide +kernel) rfl rfl dX11_undo_12 ?_
    refine x_iconst (pc := 15) K dX11_undo_15 ?_
    refine x_isub (pc := 16) K dX11_undo_16 ?_
    refine x_put (pc := 17) (C := RX11) (T := TX11) (n := 12) (ci := 10) (idx := 57) (ref := "BorderBeds") (ty := .int)  K (cel_ne (cel_ne (cel_ne (cel_ne (cel_ne (cel_self hc0.1) (by decide)) (by decide)) (by decide)) (by decide)) (by decide)) rfl (by decide +kernel) tyX11 tyX11_ok nmX11 9 (by decide) (by decide +kernel) rfl rfl (by decide +kernel) rfl rfl (Nat.le_of_ble_eq_true rfl) dX11_undo_17 ?_
    refine x_v (w := (va_up (va_up (va_up (va_up (va_up (va_up v 0 (.inr (10, [.ref (B + 1), .ref (B + 2), .ref (B + 5), .ref (B + 7), .ref (B + 12), .ref (B + 13), .ref (B + 14), cu, .int (zI (old : Int)), .int (zI ((kept : Int) - 1)), .int (zI fau), .int (zI fin)]))) 7 (.inr (4, [.ref (B + 8), .ref (B + 9), .int (zI (n : Int)), .ref (B + 10), .ref (B + 11)]))) 8 (iarr E 8 g)) 9 (barr E 8 h)) 10 (iarr E 8 s)) 11 (iarr E 8 t))) (up_at5 (by decide) (by decide) (by decide) (by decide) (by decide)).symm ?_
    refine x_aload_n (pc := 20) 0 K rfl rfl dX11_undo_20 ?_
    refine x_get (pc := 21) (C := RX11) (T := TX11) (n := 12) (ci := 10) (idx := 32) (ref := "BorderBeds") (x := .ref (B + 7))  K (cel_ne (cel_ne (cel_ne (cel_ne (cel_ne (cel_self hc0.1) (by decide)) (by decide)) (by decide)) (by decide)) (by decide)) rfl (by decide +kernel) 3 (by decide) (by decide +kernel) rfl rfl dX11_undo_21 ?_
    refine x_aload_n (pc := 24) 0 K rfl rfl dX11_undo_24 ?_
    refine x_get (pc := 25) (C := RX11) (T := TX11) (n := 12) (ci := 10) (idx := 36) (ref := "BorderBeds") (x := .ref (B + 12))  K (cel_ne (cel_ne (cel_ne (cel_ne (cel_ne (cel_self hc0.1) (by decide)) (by decide)) (by decide)) (by decide)) (by decide)) rfl (by decide +kernel) 4 (by decide) (by decide +kernel) rfl rfl dX11_undo_25 ?_
    refine x_aload_n (pc := 28) 0 K rfl rfl dX11_undo_28 ?_
    refine x_get (pc := 29) (C := RX11) (T := TX11) (n := 12) (ci := 10) (idx := 53) (ref := "BorderBeds") (x := .int (zI (old : Int)))  K (cel_ne (cel_ne (cel_ne (cel_ne (cel_ne (cel_self hc0.1) (by decide)) (by decide)) (by decide)) (by decide)) (by decide)) rfl (by decide +kernel) 8 (by decide) (by decide +kernel) rfl rfl dX11_undo_29 ?_
    refine x_aload_n (pc := 32) 0 K rfl rfl dX11_undo_32 ?_
    refine x_get (pc := 33) (C := RX11) (T := TX11) (n := 12) (ci := 10) (idx := 57) (ref := "BorderBeds") (x := .int (zI ((kept : Int) - 1)))  K (cel_ne (cel_ne (cel_ne (cel_ne (cel_ne (cel_self hc0.1) (by decide)) (by decide)) (by decide)) (by decide)) (by decide)) rfl (by decide +kernel) 9 (by decide) (by decide +kernel) rfl rfl dX11_undo_33 ?_
    refine x_iadd (pc := 36) K dX11_undo_36 ?_
    refine x_bipush (pc := 37) K (by decide) dX11_undo_37 ?_
    refine x_irem (pc := 39) K (by omega) (by omega) dX11_undo_39 ?_
    refine x_aald (pc := 40) (((((old : Int) + ((kept : Int) - 1)) % 24)).toNat) K (cel_ne (cel_ne (cel_ne (cel_ne (cel_ne (cel_ne hc1 (by decide)) (by decide)) (by decide)) (by decide)) (by decide)) (by decide)) rfl rfl (by omega) (by omega) (by decide) dX11_undo_40 ?_
    refine x_st (st' := [.ref (B + e), .ref (B + 7)]) (by rw [rf_some (h := actQ) (j := (((((old : Int) + ((kept : Int) - 1)) % 24)).toNat)) (o := e) (by rw [actQ_at (by omega)]; congr 1; omega)]) ?_
    refine x_callV (pc := 41) (C := RX4) (T := TX4) (n := 5) (ci := 4) (As := [.ref (B + e)]) K (c_X4_become (E := E) (B := B) (N := N)   (cel_ne (cel_ne (cel_ne (cel_ne (cel_self hc7.1) (by decide)) (by decide)) (by decide)) (by decide)) (cel_ne (cel_ne (cel_ne (cel_self hc8.1) (by decide)) (by decide)) (by decide)) (cel_ne (cel_ne (cel_self hc9.1) (by decide)) (by decide)) (cel_ne (cel_self hc10.1) (by decide)) (cel_self hc11.1) (cel_ne (cel_ne (cel_ne (cel_ne (cel_ne (cel_ne hc2 (by omega)) (by omega)) (by omega)) (by omega)) (by omega)) (by omega)) (cel_ne (cel_ne (cel_ne (cel_ne (cel_ne (cel_ne hc3 (by omega)) (by omega)) (by omega)) (by omega)) (by omega)) (by omega)) (cel_ne (cel_ne (cel_ne (cel_ne (cel_ne (cel_ne hc4 (by omega)) (by omega)) (by omega)) (by omega)) (by omega)) (by omega)) (cel_ne (cel_ne (cel_ne (cel_ne (cel_ne (cel_ne hc5 (by omega)) (by omega)) (by omega)) (by omega)) (by omega)) (by omega)) (cel_ne (cel_ne (cel_ne (cel_ne (cel_ne (cel_ne hc6 (by omega)) (by omega)) (by omega)) (by omega)) (by omega)) (by omega)) (by omega) hq3) gX11_undo_X4_become rfl (na := 1) (by decide +kernel) rfl ⟨(Nat.le_of_ble_eq_true rfl), (Nat.le_of_ble_eq_true rfl)⟩ (cel_ne (cel_ne (cel_ne (cel_ne (cel_self hc7.1) (by decide)) (by decide)) (by decide)) (by decide)) rfl (st := []) rfl (Nat.le_of_ble_eq_true rfl) ⟨(Nat.le_of_ble_eq_true rfl), (Nat.le_of_ble_eq_true rfl)⟩ dX11_undo_41 (fun r41 N41 w41 hpo41 hN41 => ?_)
    obtain ⟨rfl, rfl, rfl⟩ := hpo41
    refine x_v (congrArg (fun w => (va_up (va_up (va_up (va_up w 8 (iarr E 8 g9)) 9 (barr E 8 h9)) 10 (iarr E 8 s9)) 11 (iarr E 8 t9))) (show (va_up (va_up (va_up (va_up (va_up (va_up v 0 (.inr (10, [.ref (B + 1), .ref (B + 2), .ref (B + 5), .ref (B + 7), .ref (B + 12), .ref (B + 13), .ref (B + 14), cu, .int (zI (old : Int)), .int (zI ((kept : Int) - 1)), .int (zI fau), .int (zI fin)]))) 7 (.inr (4, [.ref (B + 8), .ref (B + 9), .int (zI (n9 : Int)), .ref (B + 10), .ref (B + 11)]))) 8 (iarr E 8 g)) 9 (barr E 8 h)) 10 (iarr E 8 s)) 11 (iarr E 8 t)) = _ from (up_at4 (by decide) (by decide) (by decide) (by decide)).symm)) ?_
    refine x_v (congrArg (fun w => (va_up (va_up (va_up w 9 (barr E 8 h9)) 10 (iarr E 8 s9)) 11 (iarr E 8 t9))) (show (va_up (va_up (va_up (va_up (va_up (va_up v 0 (.inr (10, [.ref (B + 1), .ref (B + 2), .ref (B + 5), .ref (B + 7), .ref (B + 12), .ref (B + 13), .ref (B + 14), cu, .int (zI (old : Int)), .int (zI ((kept : Int) - 1)), .int (zI fau), .int (zI fin)]))) 7 (.inr (4, [.ref (B + 8), .ref (B + 9), .int (zI (n9 : Int)), .ref (B + 10), .ref (B + 11)]))) 8 (iarr E 8 g9)) 9 (barr E 8 h)) 10 (iarr E 8 s)) 11 (iarr E 8 t)) = _ from (up_at3 (by decide) (by decide) (by decide)).symm)) ?_
    refine x_v (congrArg (fun w => (va_up (va_up w 10 (iarr E 8 s9)) 11 (iarr E 8 t9))) (show (va_up (va_up (va_up (va_up (va_up (va_up v 0 (.inr (10, [.ref (B + 1), .ref (B + 2), .ref (B + 5), .ref (B + 7), .ref (B + 12), .ref (B + 13), .ref (B + 14), cu, .int (zI (old : Int)), .int (zI ((kept : Int) - 1)), .int (zI fau), .int (zI fin)]))) 7 (.inr (4, [.ref (B + 8), .ref (B + 9), .int (zI (n9 : Int)), .ref (B + 10), .ref (B + 11)]))) 8 (iarr E 8 g9)) 9 (barr E 8 h9)) 10 (iarr E 8 s)) 11 (iarr E 8 t)) = _ from (up_at2 (by decide) (by decide)).symm)) ?_
    refine x_v (congrArg (fun w => (va_up w 11 (iarr E 8 t9))) (show (va_up (va_up (va_up (va_up (va_up (va_up v 0 (.inr (10, [.ref (B + 1), .ref (B + 2), .ref (B + 5), .ref (B + 7), .ref (B + 12), .ref (B + 13), .ref (B + 14), cu, .int (zI (old : Int)), .int (zI ((kept : Int) - 1)), .int (zI fau), .int (zI fin)]))) 7 (.inr (4, [.ref (B + 8), .ref (B + 9), .int (zI (n9 : Int)), .ref (B + 10), .ref (B + 11)]))) 8 (iarr E 8 g9)) 9 (barr E 8 h9)) 10 (iarr E 8 s9)) 11 (iarr E 8 t)) = _ from (up_at1 (by decide)).symm)) ?_
    refine x_v (w := (va_up (va_up (va_up (va_up (va_up (va_up v 0 (.inr (10, [.ref (B + 1), .ref (B + 2), .ref (B + 5), .ref (B + 7), .ref (B + 12), .ref (B + 13), .ref (B + 14), cu, .int (zI (old : Int)), .int (zI ((kept : Int) - 1)), .int (zI fau), .int (zI fin)]))) 7 (.inr (4, [.ref (B + 8), .ref (B + 9), .int (zI (n9 : Int)), .ref (B + 10), .ref (B + 11)]))) 8 (iarr E 8 g9)) 9 (barr E 8 h9)) 10 (iarr E 8 s9)) 11 (iarr E 8 t9))) (up_at0).symm ?_
    refine x_st (st' := []) rfl ?_
    refine x_aload_n (pc := 44) 0 K rfl rfl dX11_undo_44 ?_
    refine x_get (pc := 45) (C := RX11) (T := TX11) (n := 12) (ci := 10) (idx := 57) (ref := "BorderBeds") (x := .int (zI ((kept : Int) - 1)))  K (cel_ne (cel_ne (cel_ne (cel_ne (cel_ne (cel_self hc0.1) (by decide)) (by decide)) (by decide)) (by decide)) (by decide)) rfl (by decide +kernel) 9 (by decide) (by decide +kernel) rfl rfl dX11_undo_45 ?_
    refine x_iret (pc := 48) K KR (by omega) (Nat.le_of_ble_eq_true rfl) (Nat.le_of_ble_eq_true rfl) dX11_undo_48 ?_
    exact ⟨rfl, (kept : Int) - 1, kept - 1, n9, g9, h9, s9, t9, (Or.inr ⟨by omega, rfl, rfl, rfl, rfl, rfl, rfl, rfl⟩), rfl, by rw [show ((kept : Int) - 1) = ((kept - 1 : Nat) : Int) by omega]⟩
  · skip
    refine x_ldc (pc := 7) (x := (-1000002)) (-1000002) K (by decide) (by decide +kernel) dX11_undo_7 ?_
    refine x_iret (pc := 9) K KR (by omega) (Nat.le_of_ble_eq_true rfl) (Nat.le_of_ble_eq_true rfl) dX11_undo_9 ?_
    exact ⟨rfl, (-1000002), kept, n, g, h, s, t, (Or.inl ⟨by omega, rfl, rfl, rfl, rfl, rfl, rfl, rfl⟩), rfl, rfl⟩
