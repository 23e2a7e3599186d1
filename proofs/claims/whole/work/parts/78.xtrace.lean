theorem dX11_trace_0 : decode cX11_trace 0 = .ok (.iload_n 1, 1) := by decide +kernel
theorem dX11_trace_1 : decode cX11_trace 1 = .ok (.ifCond .lt 14, 3) := by decide +kernel
theorem dX11_trace_15 : decode cX11_trace 15 = .ok (.ldc 205, 2) := by decide +kernel
theorem dX11_trace_17 : decode cX11_trace 17 = .ok (.goto 12, 3) := by decide +kernel
theorem dX11_trace_29 : decode cX11_trace 29 = .ok (.ireturn, 1) := by decide +kernel
theorem dX11_trace_4 : decode cX11_trace 4 = .ok (.iload_n 1, 1) := by decide +kernel
theorem dX11_trace_5 : decode cX11_trace 5 = .ok (.aload_n 0, 1) := by decide +kernel
theorem dX11_trace_6 : decode cX11_trace 6 = .ok (.getfield 25, 3) := by decide +kernel
theorem dX11_trace_9 : decode cX11_trace 9 = .ok (.getfield 252, 3) := by decide +kernel
theorem dX11_trace_12 : decode cX11_trace 12 = .ok (.if_icmp .lt 8, 3) := by decide +kernel
theorem dX11_trace_20 : decode cX11_trace 20 = .ok (.aload_n 0, 1) := by decide +kernel
theorem dX11_trace_21 : decode cX11_trace 21 = .ok (.getfield 25, 3) := by decide +kernel
theorem dX11_trace_24 : decode cX11_trace 24 = .ok (.getfield 253, 3) := by decide +kernel
theorem dX11_trace_27 : decode cX11_trace 27 = .ok (.iload_n 1, 1) := by decide +kernel
theorem dX11_trace_28 : decode cX11_trace 28 = .ok (.iaload, 1) := by decide +kernel
set_option maxRecDepth 100000 in
set_option maxHeartbeats 4000000 in
theorem c_X11_trace {E : XE} {B N : Nat} {v : Nat → va_E} {cu : Value} {old kept fau fin : Int} {i : Int} {m : Nat} {tr : Nat → Int} (hc0 : Cel N v 0 (.inr (10, [.ref (B + 1), .ref (B + 2), .ref (B + 5), .ref (B + 7), .ref (B + 12), .ref (B + 13), .ref (B + 14), cu, .int (zI old), .int (zI kept), .int (zI fau), .int (zI fin)]))) (hc1 : Cel N v 5 (.inr (8, [.ref (B + 6), .int (zI (m : Int))]))) (hc2 : Cel N v 6 (iarr E 16 tr)) (hq0 : (-2147483648 ≤ i ∧ i ≤ 2147483647)) (hq1 : m ≤ 16) : gM yX11_trace wsX11_trace ({ frames := 0, cells := 0, slots := 0, locals := 0 }) E B N v [.ref (B + 0), .int (zI i)] (po0 N (fun ρ v' => ∃ (res : Int), ((¬ (0 ≤ i ∧ i ≤ (m : Int) - 1) ∧ res = -1000000) ∨ ((0 ≤ i ∧ i ≤ (m : Int) - 1) ∧ res = tr i.toNat)) ∧ ρ = some (.int (zI res)) ∧ v = v')) := by
  refine x_met (nm := "trace") (by decide +kernel) rfl (Nat.le_of_ble_eq_true rfl) rfl (fun Γ K KR hnL hnm => ?_)
  show XW Γ N v [(0, .ref (B + 0)), (1, .int (zI i))] 0 0 0 []
  refine x_iload_n (pc := 0) 1 K rfl rfl dX11_trace_0 ?_
  refine x_if_lt (pc := 1) (tgt := 15) K (by omega) dX11_trace_1 (by decide) (fun h_1 => ?_) (fun h_1 => ?_)
  · skip
    refine x_ldc (pc := 15) (x := (-1000000)) (-1000000) K (by decide) (by decide +kernel) dX11_trace_15 ?_
    refine x_goto (pc := 17) (tgt := 29) K dX11_trace_17 (by decide) ?_
    refine x_iret (pc := 29) K KR (by omega) (Nat.le_of_ble_eq_true rfl) (Nat.le_of_ble_eq_true rfl) dX11_trace_29 ?_
    exact ⟨rfl, (-1000000), (Or.inl ⟨by omega, rfl⟩), rfl, rfl⟩
  · skip
    refine x_iload_n (pc := 4) 1 K rfl rfl dX11_trace_4 ?_
    refine x_aload_n (pc := 5) 0 K rfl rfl dX11_trace_5 ?_
    refine x_get (pc := 6) (C := RX11) (T := TX11) (n := 12) (ci := 10) (idx := 25) (ref := "BorderBeds") (x := .ref (B + 5))  K hc0 rfl (by decide +kernel) 2 (by decide) (by decide +kernel) rfl rfl dX11_trace_6 ?_
    refine x_get (pc := 9) (C := RX9) (T := TX9) (n := 2) (ci := 8) (idx := 252) (ref := "BorderBeds$Trace") (x := .int (zI (m : Int)))  K hc1 rfl (by decide +kernel) 1 (by decide) (by decide +kernel) rfl rfl dX11_trace_9 ?_
    refine x_icmp_lt (pc := 12) (tgt := 20) K (by omega) (by omega) dX11_trace_12 (by decide) (fun h_12 => ?_) (fun h_12 => ?_)
    · skip
      obtain ⟨ii, rfl⟩ : ∃ ii : Nat, i = (ii : Int) := ⟨i.toNat, by omega⟩
      refine x_aload_n (pc := 20) 0 K rfl rfl dX11_trace_20 ?_
      refine x_get (pc := 21) (C := RX11) (T := TX11) (n := 12) (ci := 10) (idx := 25) (ref := "BorderBeds") (x := .ref (B + 5))  K hc0 rfl (by decide +kernel) 2 (by decide) (by decide +kernel) rfl rfl dX11_trace_21 ?_
      refine x_get (pc := 24) (C := RX9) (T := TX9) (n := 2) (ci := 8) (idx := 253) (ref := "BorderBeds$Trace") (x := .ref (B + 6))  K hc1 rfl (by decide +kernel) 0 (by decide) (by decide +kernel) rfl rfl dX11_trace_24 ?_
      refine x_iload_n (pc := 27) 1 K rfl rfl dX11_trace_27 ?_
      refine x_iald (pc := 28) ii K hc2 rfl (by omega) (by decide) dX11_trace_28 ?_
      refine x_iret (pc := 29) K KR (by omega) (Nat.le_of_ble_eq_true rfl) (Nat.le_of_ble_eq_true rfl) dX11_trace_29 ?_
      exact ⟨rfl, (tr ii), (Or.inr ⟨by omega, by rw [Int.toNat_natCast]⟩), rfl, rfl⟩
    · skip
      refine x_ldc (pc := 15) (x := (-1000000)) (-1000000) K (by decide) (by decide +kernel) dX11_trace_15 ?_
      refine x_goto (pc := 17) (tgt := 29) K dX11_trace_17 (by decide) ?_
      refine x_iret (pc := 29) K KR (by omega) (Nat.le_of_ble_eq_true rfl) (Nat.le_of_ble_eq_true rfl) dX11_trace_29 ?_
      exact ⟨rfl, (-1000000), (Or.inl ⟨by omega, rfl⟩), rfl, rfl⟩
