theorem dX11_feed_0 : decode cX11_feed 0 = .ok (.iload_n 3, 1) := by decide +kernel
theorem dX11_feed_1 : decode cX11_feed 1 = .ok (.iconst 1, 1) := by decide +kernel
theorem dX11_feed_2 : decode cX11_feed 2 = .ok (.if_icmp .lt 9, 3) := by decide +kernel
theorem dX11_feed_11 : decode cX11_feed 11 = .ok (.ldc 71, 2) := by decide +kernel
theorem dX11_feed_13 : decode cX11_feed 13 = .ok (.ireturn, 1) := by decide +kernel
theorem dX11_feed_5 : decode cX11_feed 5 = .ok (.iload_n 3, 1) := by decide +kernel
theorem dX11_feed_6 : decode cX11_feed 6 = .ok (.bipush 8, 2) := by decide +kernel
theorem dX11_feed_8 : decode cX11_feed 8 = .ok (.if_icmp .le 6, 3) := by decide +kernel
theorem dX11_feed_14 : decode cX11_feed 14 = .ok (.aload_n 0, 1) := by decide +kernel
theorem dX11_feed_15 : decode cX11_feed 15 = .ok (.getfield 18, 3) := by decide +kernel
theorem dX11_feed_18 : decode cX11_feed 18 = .ok (.lload_n 1, 1) := by decide +kernel
theorem dX11_feed_19 : decode cX11_feed 19 = .ok (.iload_n 3, 1) := by decide +kernel
set_option maxRecDepth 20000 in
theorem ggX11_feed_X8_take : GoodIn wsX11_feed wsX8_take := goodIn_r _ [9, 10, 11, 24, 25, 26, 27, 28, 29, 30, 31, 32] (by decide +kernel) (by decide +kernel)
set_option maxRecDepth 20000 in
theorem gX11_feed_X8_take : GoodIn wsX11_feed (wsV RX11 112 RX8 yX8_take wsX8_take) := goodIn_app (goodIn_of _ (by decide +kernel)) ggX11_feed_X8_take
theorem dX11_feed_20 : decode cX11_feed 20 = .ok (.invokevirtual 112, 3) := by decide +kernel
theorem dX11_feed_23 : decode cX11_feed 23 = .ok (.ifCond .eq 13, 3) := by decide +kernel
theorem dX11_feed_36 : decode cX11_feed 36 = .ok (.ldc 117, 2) := by decide +kernel
theorem dX11_feed_38 : decode cX11_feed 38 = .ok (.ireturn, 1) := by decide +kernel
theorem dX11_feed_26 : decode cX11_feed 26 = .ok (.aload_n 0, 1) := by decide +kernel
theorem dX11_feed_27 : decode cX11_feed 27 = .ok (.getfield 18, 3) := by decide +kernel
theorem dX11_feed_30 : decode cX11_feed 30 = .ok (.getfield 116, 3) := by decide +kernel
theorem dX11_feed_33 : decode cX11_feed 33 = .ok (.goto 5, 3) := by decide +kernel
set_option maxRecDepth 100000 in
set_option maxHeartbeats 4000000 in
theorem c_X11_feed {E : XE} {B N : Nat} {v : Nat → va_E} {cu : Value} {old kept fau fin : Int} {f pl so s e vv n : Int} {t : Nat → Int} {m : Nat} {w : Int64} (hc0 : Cel N v 0 (.inr (10, [.ref (B + 1), .ref (B + 2), .ref (B + 5), .ref (B + 7), .ref (B + 12), .ref (B + 13), .ref (B + 14), cu, .int (zI old), .int (zI kept), .int (zI fau), .int (zI fin)]))) (hc1 : Cel N v 2 (.inr (7, [.ref (B + 3), .ref (B + 4), .int (zI (m : Int)), .int (zI f), .int (zI pl), .int (zI so), .int (zI s), .int (zI e), .int (zI vv)]))) (hc2 : Cel N v 3 (iarr E 400 t)) (hq0 : (-2147483648 ≤ n ∧ n ≤ 2147483647)) (hq1 : m ≤ 400) : gM yX11_feed wsX11_feed ({ frames := 1, cells := 0, slots := 0, locals := 24 }) E B N v [.ref (B + 0), .long w, .int (zI n)] (po0 N (fun ρ v' => ∃ (res : Int), ∃ (m2 : Nat), ∃ (t2 : Nat → Int), ((¬ (1 ≤ n ∧ n ≤ 8) ∧ res = -1000001 ∧ m2 = m ∧ t2 = t) ∨ ((1 ≤ n ∧ n ≤ 8) ∧ 400 < (m : Int) + n ∧ res = -1000003 ∧ m2 = m ∧ t2 = t) ∨ ((1 ≤ n ∧ n ≤ 8) ∧ (m : Int) + n ≤ 400 ∧ res = (m : Int) + n ∧ m2 = m + n.toNat ∧ t2 = fdA t m n.toNat w n.toNat)) ∧ ρ = some (.int (zI res)) ∧ (va_up (va_up v 2 (.inr (7, [.ref (B + 3), .ref (B + 4), .int (zI (m2 : Int)), .int (zI f), .int (zI pl), .int (zI so), .int (zI s), .int (zI e), .int (zI vv)]))) 3 (iarr E 400 t2)) = v')) := by
  refine x_met (nm := "feed") (by decide +kernel) rfl (Nat.le_of_ble_eq_true rfl) rfl (fun Γ K KR hnL hnm => ?_)
  show XW Γ N v [(0, .ref (B + 0)), (1, .long w), (3, .int (zI n))] 0 0 0 []
  refine x_v (cel_pad hc1) ?_
  refine x_v (cel_pad (cel_ne hc2 (by decide))) ?_
  refine x_iload_n (pc := 0) 2 K rfl rfl dX11_feed_0 ?_
  refine x_iconst (pc := 1) K dX11_feed_1 ?_
  refine x_icmp_lt (pc := 2) (tgt := 11) K (by omega) (by decide) dX11_feed_2 (by decide) (fun h_2 => ?_) (fun h_2 => ?_)
  · skip
    refine x_ldc (pc := 11) (x := (-1000001)) (-1000001) K (by decide) (by decide +kernel) dX11_feed_11 ?_
    refine x_iret (pc := 13) K KR (by omega) (Nat.le_of_ble_eq_true rfl) (Nat.le_of_ble_eq_true rfl) dX11_feed_13 ?_
    exact ⟨rfl, (-1000001), m, t, (Or.inl ⟨by omega, rfl, rfl, rfl⟩), rfl, rfl⟩
  · skip
    refine x_iload_n (pc := 5) 2 K rfl rfl dX11_feed_5 ?_
    refine x_bipush (pc := 6) K (by decide) dX11_feed_6 ?_
    refine x_icmp_le (pc := 8) (tgt := 14) K (by omega) (by decide) dX11_feed_8 (by decide) (fun h_8 => ?_) (fun h_8 => ?_)
    · skip
      refine x_aload_n (pc := 14) 0 K rfl rfl dX11_feed_14 ?_
      refine x_get (pc := 15) (C := RX11) (T := TX11) (n := 12) (ci := 10) (idx := 18) (ref := "BorderBeds") (x := .ref (B + 2))  K (cel_ne (cel_ne hc0 (by decide)) (by decide)) rfl (by decide +kernel) 1 (by decide) (by decide +kernel) rfl rfl dX11_feed_15 ?_
      refine x_lload_n (pc := 18) 1 K rfl rfl dX11_feed_18 ?_
      refine x_iload_n (pc := 19) 2 K rfl rfl dX11_feed_19 ?_
      refine x_callV (pc := 20) (C := RX8) (T := TX8) (n := 9) (ci := 7) (As := [.long w, .int (zI n)]) K (c_X8_take (E := E) (B := B) (N := N) (m := m) (w := w)  (cel_ne (cel_self hc1.1) (by decide)) (cel_self hc2.1) (by omega) (by omega)) gX11_feed_X8_take rfl (na := 2) (by decide +kernel) rfl ⟨(Nat.le_of_ble_eq_true rfl), (Nat.le_of_ble_eq_true rfl)⟩ (cel_ne (cel_self hc1.1) (by decide)) rfl (st := []) rfl (Nat.le_of_ble_eq_true rfl) ⟨(Nat.le_of_ble_eq_true rfl), (Nat.le_of_ble_eq_true rfl)⟩ dX11_feed_20 (fun r20 N20 w20 hpo20 hN20 => ?_)
      obtain ⟨rfl, res_20, m2_20, t2_20, hp20_0, rfl, rfl⟩ := hpo20
      refine x_v (congrArg (fun w => (va_up w 3 (iarr E 400 t2_20))) (show (va_up (va_up v 2 (.inr (7, [.ref (B + 3), .ref (B + 4), .int (zI (m2_20 : Int)), .int (zI f), .int (zI pl), .int (zI so), .int (zI s), .int (zI e), .int (zI vv)]))) 3 (iarr E 400 t)) = _ from (up_at1 (by decide)).symm)) ?_
      refine x_v (w := (va_up (va_up v 2 (.inr (7, [.ref (B + 3), .ref (B + 4), .int (zI (m2_20 : Int)), .int (zI f), .int (zI pl), .int (zI so), .int (zI s), .int (zI e), .int (zI vv)]))) 3 (iarr E 400 t2_20))) (up_at0).symm ?_
      refine x_st (st' := [.int (zI res_20)]) rfl ?_
      refine x_if_eq (pc := 23) (tgt := 36) K (by omega) dX11_feed_23 (by decide) (fun h_23 => ?_) (fun h_23 => ?_)
      · skip
        have h9 := hp20_0.resolve_right (fun q => by omega)
        refine x_ldc (pc := 36) (x := (-1000003)) (-1000003) K (by decide) (by decide +kernel) dX11_feed_36 ?_
        refine x_iret (pc := 38) K KR (by omega) (Nat.le_of_ble_eq_true rfl) (Nat.le_of_ble_eq_true rfl) dX11_feed_38 ?_
        exact ⟨rfl, (-1000003), (((m2_20 : Int)).toNat), t2_20, (Or.inr (Or.inl ⟨by omega, h9.1, rfl, h9.2.2.1, h9.2.2.2⟩)), rfl, rfl⟩
      · skip
        have h9 := hp20_0.resolve_left (fun q => by omega)
        refine x_aload_n (pc := 26) 0 K rfl rfl dX11_feed_26 ?_
        refine x_get (pc := 27) (C := RX11) (T := TX11) (n := 12) (ci := 10) (idx := 18) (ref := "BorderBeds") (x := .ref (B + 2))  K (cel_ne (cel_ne hc0 (by decide)) (by decide)) rfl (by decide +kernel) 1 (by decide) (by decide +kernel) rfl rfl dX11_feed_27 ?_
        refine x_get (pc := 30) (C := RX8) (T := TX8) (n := 9) (ci := 7) (idx := 116) (ref := "BorderBeds$Tape") (x := .int (zI (m2_20 : Int)))  K (cel_ne (cel_self hc1.1) (by decide)) rfl (by decide +kernel) 2 (by decide) (by decide +kernel) rfl rfl dX11_feed_30 ?_
        refine x_goto (pc := 33) (tgt := 38) K dX11_feed_33 (by decide) ?_
        refine x_iret (pc := 38) K KR (by omega) (Nat.le_of_ble_eq_true rfl) (Nat.le_of_ble_eq_true rfl) dX11_feed_38 ?_
        exact ⟨rfl, (m2_20 : Int), (((m2_20 : Int)).toNat), t2_20, (Or.inr (Or.inr ⟨by omega, h9.1, by omega, h9.2.2.1, h9.2.2.2⟩)), rfl, rfl⟩
    · skip
      refine x_ldc (pc := 11) (x := (-1000001)) (-1000001) K (by decide) (by decide +kernel) dX11_feed_11 ?_
      refine x_iret (pc := 13) K KR (by omega) (Nat.le_of_ble_eq_true rfl) (Nat.le_of_ble_eq_true rfl) dX11_feed_13 ?_
      exact ⟨rfl, (-1000001), m, t, (Or.inl ⟨by omega, rfl, rfl, rfl⟩), rfl, rfl⟩
