theorem dX11_image_0 : decode cX11_image 0 = .ok (.iload_n 1, 1) := by decide +kernel
theorem dX11_image_1 : decode cX11_image 1 = .ok (.ifCond .lt 8, 3) := by decide +kernel
theorem dX11_image_9 : decode cX11_image 9 = .ok (.ldc 71, 2) := by decide +kernel
theorem dX11_image_11 : decode cX11_image 11 = .ok (.ireturn, 1) := by decide +kernel
theorem dX11_image_4 : decode cX11_image 4 = .ok (.iload_n 1, 1) := by decide +kernel
theorem dX11_image_5 : decode cX11_image 5 = .ok (.iconst 2, 1) := by decide +kernel
theorem dX11_image_6 : decode cX11_image 6 = .ok (.if_icmp .lt 6, 3) := by decide +kernel
theorem dX11_image_12 : decode cX11_image 12 = .ok (.aload_n 0, 1) := by decide +kernel
theorem dX11_image_13 : decode cX11_image 13 = .ok (.getfield 49, 3) := by decide +kernel
theorem dX11_image_16 : decode cX11_image 16 = .ok (.ifnonnull 6, 3) := by decide +kernel
theorem dX11_image_19 : decode cX11_image 19 = .ok (.ldc 147, 2) := by decide +kernel
theorem dX11_image_21 : decode cX11_image 21 = .ok (.ireturn, 1) := by decide +kernel
theorem dX11_image_22 : decode cX11_image 22 = .ok (.aload_n 0, 1) := by decide +kernel
theorem dX11_image_23 : decode cX11_image 23 = .ok (.getfield 45, 3) := by decide +kernel
theorem dX11_image_26 : decode cX11_image 26 = .ok (.iload_n 1, 1) := by decide +kernel
theorem dX11_image_27 : decode cX11_image 27 = .ok (.aload_n 0, 1) := by decide +kernel
theorem dX11_image_28 : decode cX11_image 28 = .ok (.getfield 49, 3) := by decide +kernel
theorem dX11_image_31 : decode cX11_image 31 = .ok (.aastore, 1) := by decide +kernel
theorem dX11_image_32 : decode cX11_image 32 = .ok (.aload_n 0, 1) := by decide +kernel
theorem dX11_image_33 : decode cX11_image 33 = .ok (.getfield 40, 3) := by decide +kernel
theorem dX11_image_36 : decode cX11_image 36 = .ok (.iload_n 1, 1) := by decide +kernel
theorem dX11_image_37 : decode cX11_image 37 = .ok (.aaload, 1) := by decide +kernel
theorem dX11_image_38 : decode cX11_image 38 = .ok (.aload_n 0, 1) := by decide +kernel
theorem dX11_image_39 : decode cX11_image 39 = .ok (.getfield 32, 3) := by decide +kernel
set_option maxRecDepth 20000 in
theorem ggX11_image_X4_become : GoodIn wsX11_image wsX4_become := goodIn_r _ [11, 12, 13, 14, 15, 16, 17, 18, 19, 20, 33, 34, 35, 36, 37] (by decide +kernel) (by decide +kernel)
set_option maxRecDepth 20000 in
theorem gX11_image_X4_become : GoodIn wsX11_image (wsV RX11 156 RX4 yX4_become wsX4_become) := goodIn_app (goodIn_of _ (by decide +kernel)) ggX11_image_X4_become
theorem dX11_image_42 : decode cX11_image 42 = .ok (.invokevirtual 156, 3) := by decide +kernel
theorem dX11_image_45 : decode cX11_image 45 = .ok (.iconst 1, 1) := by decide +kernel
theorem dX11_image_46 : decode cX11_image 46 = .ok (.ireturn, 1) := by decide +kernel
theorem dX11_restore_0 : decode cX11_restore 0 = .ok (.iload_n 1, 1) := by decide +kernel
theorem dX11_restore_1 : decode cX11_restore 1 = .ok (.ifCond .lt 8, 3) := by decide +kernel
theorem dX11_restore_9 : decode cX11_restore 9 = .ok (.ldc 71, 2) := by decide +kernel
theorem dX11_restore_11 : decode cX11_restore 11 = .ok (.ireturn, 1) := by decide +kernel
theorem dX11_restore_4 : decode cX11_restore 4 = .ok (.iload_n 1, 1) := by decide +kernel
theorem dX11_restore_5 : decode cX11_restore 5 = .ok (.iconst 2, 1) := by decide +kernel
theorem dX11_restore_6 : decode cX11_restore 6 = .ok (.if_icmp .lt 6, 3) := by decide +kernel
theorem dX11_restore_12 : decode cX11_restore 12 = .ok (.aload_n 0, 1) := by decide +kernel
theorem dX11_restore_13 : decode cX11_restore 13 = .ok (.getfield 45, 3) := by decide +kernel
theorem dX11_restore_16 : decode cX11_restore 16 = .ok (.iload_n 1, 1) := by decide +kernel
theorem dX11_restore_17 : decode cX11_restore 17 = .ok (.aaload, 1) := by decide +kernel
theorem dX11_restore_18 : decode cX11_restore 18 = .ok (.ifnonnull 6, 3) := by decide +kernel
theorem dX11_restore_21 : decode cX11_restore 21 = .ok (.ldc 147, 2) := by decide +kernel
theorem dX11_restore_23 : decode cX11_restore 23 = .ok (.ireturn, 1) := by decide +kernel
theorem dX11_restore_24 : decode cX11_restore 24 = .ok (.aload_n 0, 1) := by decide +kernel
theorem dX11_restore_25 : decode cX11_restore 25 = .ok (.aload_n 0, 1) := by decide +kernel
theorem dX11_restore_26 : decode cX11_restore 26 = .ok (.getfield 45, 3) := by decide +kernel
theorem dX11_restore_29 : decode cX11_restore 29 = .ok (.iload_n 1, 1) := by decide +kernel
theorem dX11_restore_30 : decode cX11_restore 30 = .ok (.aaload, 1) := by decide +kernel
theorem dX11_restore_31 : decode cX11_restore 31 = .ok (.putfield 49, 3) := by decide +kernel
theorem dX11_restore_34 : decode cX11_restore 34 = .ok (.aload_n 0, 1) := by decide +kernel
theorem dX11_restore_35 : decode cX11_restore 35 = .ok (.getfield 32, 3) := by decide +kernel
theorem dX11_restore_38 : decode cX11_restore 38 = .ok (.aload_n 0, 1) := by decide +kernel
theorem dX11_restore_39 : decode cX11_restore 39 = .ok (.getfield 40, 3) := by decide +kernel
theorem dX11_restore_42 : decode cX11_restore 42 = .ok (.iload_n 1, 1) := by decide +kernel
theorem dX11_restore_43 : decode cX11_restore 43 = .ok (.aaload, 1) := by decide +kernel
set_option maxRecDepth 20000 in
theorem ggX11_restore_X4_become : GoodIn wsX11_restore wsX4_become := goodIn_r _ [12, 13, 14, 15, 16, 17, 18, 19, 20, 21, 34, 35, 36, 37, 38] (by decide +kernel) (by decide +kernel)
set_option maxRecDepth 20000 in
theorem gX11_restore_X4_become : GoodIn wsX11_restore (wsV RX11 156 RX4 yX4_become wsX4_become) := goodIn_app (goodIn_of _ (by decide +kernel)) ggX11_restore_X4_become
theorem dX11_restore_44 : decode cX11_restore 44 = .ok (.invokevirtual 156, 3) := by decide +kernel
theorem dX11_restore_47 : decode cX11_restore 47 = .ok (.aload_n 0, 1) := by decide +kernel
theorem dX11_restore_48 : decode cX11_restore 48 = .ok (.iconst 0, 1) := by decide +kernel
theorem dX11_restore_49 : decode cX11_restore 49 = .ok (.putfield 57, 3) := by decide +kernel
theorem dX11_restore_52 : decode cX11_restore 52 = .ok (.iconst 1, 1) := by decide +kernel
theorem dX11_restore_53 : decode cX11_restore 53 = .ok (.ireturn, 1) := by decide +kernel
set_option maxRecDepth 100000 in
set_option maxHeartbeats 4000000 in
theorem c_X11_image_0 {E : XE} {B N : Nat} {v : Nat → va_E} {old kept fau fin : Int} {k : Int} (hc0 : Cel N v 0 (.inr (10, [.ref (B + 1), .ref (B + 2), .ref (B + 5), .ref (B + 7), .ref (B + 12), .ref (B + 13), .ref (B + 14), .null, .int (zI old), .int (zI kept), .int (zI fau), .int (zI fin)]))) (hq0 : (-2147483648 ≤ k ∧ k ≤ 2147483647)) : gM yX11_image wsX11_image ({ frames := 2, cells := 0, slots := 0, locals := 61 }) E B N v [.ref (B + 0), .int (zI k)] (po0 N (fun ρ v' => ∃ (res : Int), ((¬ (0 ≤ k ∧ k ≤ 1) ∧ res = -1000001) ∨ ((0 ≤ k ∧ k ≤ 1) ∧ res = -1000002)) ∧ ρ = some (.int (zI res)) ∧ v = v')) := by
  refine x_met (nm := "image") (by decide +kernel) rfl (Nat.le_of_ble_eq_true rfl) rfl (fun Γ K KR hnL hnm => ?_)
  show XW Γ N v [(0, .ref (B + 0)), (1, .int (zI k))] 0 0 0 []
  refine x_iload_n (pc := 0) 1 K rfl rfl dX11_image_0 ?_
  refine x_if_lt (pc := 1) (tgt := 9) K (by omega) dX11_image_1 (by decide) (fun h_1 => ?_) (fun h_1 => ?_)
  · skip
    refine x_ldc (pc := 9) (x := (-1000001)) (-1000001) K (by decide) (by decide +kernel) dX11_image_9 ?_
    refine x_iret (pc := 11) K KR (by omega) (Nat.le_of_ble_eq_true rfl) (Nat.le_of_ble_eq_true rfl) dX11_image_11 ?_
    exact ⟨rfl, (-1000001), (Or.inl ⟨by omega, rfl⟩), rfl, rfl⟩
  · skip
    refine x_iload_n (pc := 4) 1 K rfl rfl dX11_image_4 ?_
    refine x_iconst (pc := 5) K dX11_image_5 ?_
    refine x_icmp_lt (pc := 6) (tgt := 12) K (by omega) (by decide) dX11_image_6 (by decide) (fun h_6 => ?_) (fun h_6 => ?_)
    · skip
      refine x_aload_n (pc := 12) 0 K rfl rfl dX11_image_12 ?_
      refine x_get (pc := 13) (C := RX11) (T := TX11) (n := 12) (ci := 10) (idx := 49) (ref := "BorderBeds") (x := .null)  K hc0 rfl (by decide +kernel) 7 (by decide) (by decide +kernel) rfl rfl dX11_image_13 ?_
      refine x_ifnonnullN (pc := 16) K dX11_image_16 ?_
      refine x_ldc (pc := 19) (x := (-1000002)) (-1000002) K (by decide) (by decide +kernel) dX11_image_19 ?_
      refine x_iret (pc := 21) K KR (by omega) (Nat.le_of_ble_eq_true rfl) (Nat.le_of_ble_eq_true rfl) dX11_image_21 ?_
      exact ⟨rfl, (-1000002), (Or.inr ⟨by omega, rfl⟩), rfl, rfl⟩
    · skip
      refine x_ldc (pc := 9) (x := (-1000001)) (-1000001) K (by decide) (by decide +kernel) dX11_image_9 ?_
      refine x_iret (pc := 11) K KR (by omega) (Nat.le_of_ble_eq_true rfl) (Nat.le_of_ble_eq_true rfl) dX11_image_11 ?_
      exact ⟨rfl, (-1000001), (Or.inl ⟨by omega, rfl⟩), rfl, rfl⟩

set_option maxRecDepth 100000 in
set_option maxHeartbeats 4000000 in
theorem c_X11_image_c {E : XE} {B N : Nat} {v : Nat → va_E} {old kept fau fin : Int} {c : Nat} {p : Nat → Int} {e n9 : Nat} {g9 h9 s9 t9 : Nat → Int} {n : Nat} {g h s t : Nat → Int} {gq : Nat → Option Nat} {k : Int} (hc0 : Cel N v 0 (.inr (10, [.ref (B + 1), .ref (B + 2), .ref (B + 5), .ref (B + 7), .ref (B + 12), .ref (B + 13), .ref (B + 14), .ref (B + c), .int (zI old), .int (zI kept), .int (zI fau), .int (zI fin)]))) (hc1 : Cel N v c (.inr (3, [.int (zI (p 0)), .int (zI (p 1)), .int (zI (p 2)), .ref (B + (c + 1)), .ref (B + (c + 2)), .int (zI (p 3)), .ref (B + (c + 3)), .int (zI (p 4)), .ref (B + (c + 4)), .ref (B + (c + 13)), .ref (B + (c + 18))]))) (hc2 : Cel N v 13 (rarr E 3 2 B imgQ)) (hc3 : Cel N v 14 (rarr E 4 2 B gq)) (hc4 : Cel N v e (.inr (4, [.ref (B + (e + 1)), .ref (B + (e + 2)), .int (zI (n9 : Int)), .ref (B + (e + 3)), .ref (B + (e + 4))]))) (hc5 : Cel N v (e + 1) (iarr E 8 g9)) (hc6 : Cel N v (e + 2) (barr E 8 h9)) (hc7 : Cel N v (e + 3) (iarr E 8 s9)) (hc8 : Cel N v (e + 4) (iarr E 8 t9)) (hc9 : Cel N v 7 (.inr (4, [.ref (B + 8), .ref (B + 9), .int (zI (n : Int)), .ref (B + 10), .ref (B + 11)]))) (hc10 : Cel N v 8 (iarr E 8 g)) (hc11 : Cel N v 9 (barr E 8 h)) (hc12 : Cel N v 10 (iarr E 8 s)) (hc13 : Cel N v 11 (iarr E 8 t)) (hq0 : (-2147483648 ≤ k ∧ k ≤ 2147483647)) (hq1 : ∀ k, k < 8 → 0 ≤ h k ∧ h k ≤ 1) (hq2 : (0 ≤ k ∧ k ≤ 1 ∧ e = 151 + 5 * k.toNat) ∨ (¬ (0 ≤ k ∧ k ≤ 1) ∧ e = 151)) (hq3 : 174 ≤ c) : gM yX11_image wsX11_image ({ frames := 2, cells := 0, slots := 0, locals := 61 }) E B N v [.ref (B + 0), .int (zI k)] (po0 N (fun ρ v' => ∃ (res : Int), ∃ (gq2 : Nat → Option Nat), ∃ (n2 : Nat), ∃ (g2 : Nat → Int), ∃ (h2 : Nat → Int), ∃ (s2 : Nat → Int), ∃ (t2 : Nat → Int), ((¬ (0 ≤ k ∧ k ≤ 1) ∧ res = -1000001 ∧ gq2 = gq ∧ n2 = n9 ∧ g2 = g9 ∧ h2 = h9 ∧ s2 = s9 ∧ t2 = t9) ∨ ((0 ≤ k ∧ k ≤ 1) ∧ res = 1 ∧ gq2 = va_up gq k.toNat (some c) ∧ n2 = n ∧ g2 = g ∧ h2 = h ∧ s2 = s ∧ t2 = t)) ∧ ρ = some (.int (zI res)) ∧ (va_up (va_up (va_up (va_up (va_up (va_up v 14 (rarr E 4 2 B gq2)) e (.inr (4, [.ref (B + (e + 1)), .ref (B + (e + 2)), .int (zI (n2 : Int)), .ref (B + (e + 3)), .ref (B + (e + 4))]))) (e + 1) (iarr E 8 g2)) (e + 2) (barr E 8 h2)) (e + 3) (iarr E 8 s2)) (e + 4) (iarr E 8 t2)) = v')) := by
  refine x_met (nm := "image") (by decide +kernel) rfl (Nat.le_of_ble_eq_true rfl) rfl (fun Γ K KR hnL hnm => ?_)
  show XW Γ N v [(0, .ref (B + 0)), (1, .int (zI k))] 0 0 0 []
  refine x_v (cel_pad hc3) ?_
  refine x_v (cel_pad (cel_ne hc4 (by omega))) ?_
  refine x_v (cel_pad (cel_ne (cel_ne hc5 (by omega)) (by omega))) ?_
  refine x_v (cel_pad (cel_ne (cel_ne (cel_ne hc6 (by omega)) (by omega)) (by omega))) ?_
  refine x_v (cel_pad (cel_ne (cel_ne (cel_ne (cel_ne hc7 (by omega)) (by omega)) (by omega)) (by omega))) ?_
  refine x_v (cel_pad (cel_ne (cel_ne (cel_ne (cel_ne (cel_ne hc8 (by omega)) (by omega)) (by omega)) (by omega)) (by omega))) ?_
  by_cases hk : 0 ≤ k ∧ k ≤ 1
  · skip
    obtain ⟨kk, rfl⟩ : ∃ kk : Nat, k = (kk : Int) := ⟨k.toNat, by omega⟩
    refine x_iload_n (pc := 0) 1 K rfl rfl dX11_image_0 ?_
    refine x_if_lt (pc := 1) (tgt := 9) K (by omega) dX11_image_1 (by decide) (fun h_1 => ?_) (fun h_1 => ?_)
    · skip
      refine x_ldc (pc := 9) (x := (-1000001)) (-1000001) K (by decide) (by decide +kernel) dX11_image_9 ?_
      refine x_iret (pc := 11) K KR (by omega) (Nat.le_of_ble_eq_true rfl) (Nat.le_of_ble_eq_true rfl) dX11_image_11 ?_
      exact ⟨rfl, (-1000001), gq, n9, g9, h9, s9, t9, (Or.inl ⟨by omega, rfl, rfl, rfl, rfl, rfl, rfl, rfl⟩), rfl, rfl⟩
    · skip
      refine x_iload_n (pc := 4) 1 K rfl rfl dX11_image_4 ?_
      refine x_iconst (pc := 5) K dX11_image_5 ?_
      refine x_icmp_lt (pc := 6) (tgt := 12) K (by omega) (by decide) dX11_image_6 (by decide) (fun h_6 => ?_) (fun h_6 => ?_)
      · skip
        refine x_aload_n (pc := 12) 0 K rfl rfl dX11_image_12 ?_
        refine x_get (pc := 13) (C := RX11) (T := TX11) (n := 12) (ci := 10) (idx := 49) (ref := "BorderBeds") (x := .ref (B + c))  K (cel_ne (cel_ne (cel_ne (cel_ne (cel_ne (cel_ne hc0 (by decide)) (by omega)) (by omega)) (by omega)) (by omega)) (by omega)) rfl (by decide +kernel) 7 (by decide) (by decide +kernel) rfl rfl dX11_image_13 ?_
        refine x_ifnonnull (pc := 16) (tgt := 22) K dX11_image_16 (by decide) ?_
        refine x_aload_n (pc := 22) 0 K rfl rfl dX11_image_22 ?_
        refine x_get (pc := 23) (C := RX11) (T := TX11) (n := 12) (ci := 10) (idx := 45) (ref := "BorderBeds") (x := .ref (B + 14))  K (cel_ne (cel_ne (cel_ne (cel_ne (cel_ne (cel_ne hc0 (by decide)) (by omega)) (by omega)) (by omega)) (by omega)) (by omega)) rfl (by decide +kernel) 6 (by decide) (by decide +kernel) rfl rfl dX11_image_23 ?_
        refine x_iload_n (pc := 26) 1 K rfl rfl dX11_image_26 ?_
        refine x_aload_n (pc := 27) 0 K rfl rfl dX11_image_27 ?_
        refine x_get (pc := 28) (C := RX11) (T := TX11) (n := 12) (ci := 10) (idx := 49) (ref := "BorderBeds") (x := .ref (B + c))  K (cel_ne (cel_ne (cel_ne (cel_ne (cel_ne (cel_ne hc0 (by decide)) (by omega)) (by omega)) (by omega)) (by omega)) (by omega)) rfl (by decide +kernel) 7 (by decide) (by decide +kernel) rfl rfl dX11_image_28 ?_
        refine x_aast (pc := 31) (r := (RX3, TX3, 11)) kk K (cel_ne (cel_ne (cel_ne (cel_ne (cel_ne (cel_self hc3.1) (by omega)) (by omega)) (by omega)) (by omega)) (by omega)) (cel_ne (cel_ne (cel_ne (cel_ne (cel_ne (cel_ne hc1 (by omega)) (by omega)) (by omega)) (by omega)) (by omega)) (by omega)) rfl rfl rfl (by omega) (by decide) dX11_image_31 ?_
        refine x_v (w := (va_up (va_up (va_up (va_up (va_up (va_up v 14 (rarr E 4 2 B (va_up gq kk (some c)))) e (.inr (4, [.ref (B + (e + 1)), .ref (B + (e + 2)), .int (zI (n9 : Int)), .ref (B + (e + 3)), .ref (B + (e + 4))]))) (e + 1) (iarr E 8 g9)) (e + 2) (barr E 8 h9)) (e + 3) (iarr E 8 s9)) (e + 4) (iarr E 8 t9))) (up_at5 (by omega) (by omega) (by omega) (by omega) (by omega)).symm ?_
        refine x_aload_n (pc := 32) 0 K rfl rfl dX11_image_32 ?_
        refine x_get (pc := 33) (C := RX11) (T := TX11) (n := 12) (ci := 10) (idx := 40) (ref := "BorderBeds") (x := .ref (B + 13))  K (cel_ne (cel_ne (cel_ne (cel_ne (cel_ne (cel_ne hc0 (by decide)) (by omega)) (by omega)) (by omega)) (by omega)) (by omega)) rfl (by decide +kernel) 5 (by decide) (by decide +kernel) rfl rfl dX11_image_33 ?_
        refine x_iload_n (pc := 36) 1 K rfl rfl dX11_image_36 ?_
        refine x_aald (pc := 37) kk K (cel_ne (cel_ne (cel_ne (cel_ne (cel_ne (cel_ne hc2 (by decide)) (by omega)) (by omega)) (by omega)) (by omega)) (by omega)) rfl rfl rfl (by omega) (by decide) dX11_image_37 ?_
        refine x_st (st' := [.ref (B + e)]) (by rw [rf_some (h := imgQ) (j := kk) (o := e) (by rw [imgQ_at (by omega)]; congr 1; omega)]) ?_
        refine x_aload_n (pc := 38) 0 K rfl rfl dX11_image_38 ?_
        refine x_get (pc := 39) (C := RX11) (T := TX11) (n := 12) (ci := 10) (idx := 32) (ref := "BorderBeds") (x := .ref (B + 7))  K (cel_ne (cel_ne (cel_ne (cel_ne (cel_ne (cel_ne hc0 (by decide)) (by omega)) (by omega)) (by omega)) (by omega)) (by omega)) rfl (by decide +kernel) 3 (by decide) (by decide +kernel) rfl rfl dX11_image_39 ?_
        refine x_callV (pc := 42) (C := RX4) (T := TX4) (n := 5) (ci := 4) (As := [.ref (B + 7)]) K (c_X4_become (E := E) (B := B) (N := N)   (cel_ne (cel_ne (cel_ne (cel_ne (cel_self hc4.1) (by omega)) (by omega)) (by omega)) (by omega)) (cel_ne (cel_ne (cel_ne (cel_self hc5.1) (by omega)) (by omega)) (by omega)) (cel_ne (cel_ne (cel_self hc6.1) (by omega)) (by omega)) (cel_ne (cel_self hc7.1) (by omega)) (cel_self hc8.1) (cel_ne (cel_ne (cel_ne (cel_ne (cel_ne (cel_ne hc9 (by decide)) (by omega)) (by omega)) (by omega)) (by omega)) (by omega)) (cel_ne (cel_ne (cel_ne (cel_ne (cel_ne (cel_ne hc10 (by decide)) (by omega)) (by omega)) (by omega)) (by omega)) (by omega)) (cel_ne (cel_ne (cel_ne (cel_ne (cel_ne (cel_ne hc11 (by decide)) (by omega)) (by omega)) (by omega)) (by omega)) (by omega)) (cel_ne (cel_ne (cel_ne (cel_ne (cel_ne (cel_ne hc12 (by decide)) (by omega)) (by omega)) (by omega)) (by omega)) (by omega)) (cel_ne (cel_ne (cel_ne (cel_ne (cel_ne (cel_ne hc13 (by decide)) (by omega)) (by omega)) (by omega)) (by omega)) (by omega)) (by omega) hq1) gX11_image_X4_become rfl (na := 1) (by decide +kernel) rfl ⟨(Nat.le_of_ble_eq_true rfl), (Nat.le_of_ble_eq_true rfl)⟩ (cel_ne (cel_ne (cel_ne (cel_ne (cel_self hc4.1) (by omega)) (by omega)) (by omega)) (by omega)) rfl (st := []) rfl (Nat.le_of_ble_eq_true rfl) ⟨(Nat.le_of_ble_eq_true rfl), (Nat.le_of_ble_eq_true rfl)⟩ dX11_image_42 (fun r42 N42 w42 hpo42 hN42 => ?_)
        obtain ⟨rfl, rfl, rfl⟩ := hpo42
        refine x_v (congrArg (fun w => (va_up (va_up (va_up (va_up w (e + 1) (iarr E 8 g)) (e + 2) (barr E 8 h)) (e + 3) (iarr E 8 s)) (e + 4) (iarr E 8 t))) (show (va_up (va_up (va_up (va_up (va_up (va_up v 14 (rarr E 4 2 B (va_up gq kk (some c)))) e (.inr (4, [.ref (B + (e + 1)), .ref (B + (e + 2)), .int (zI (n : Int)), .ref (B + (e + 3)), .ref (B + (e + 4))]))) (e + 1) (iarr E 8 g9)) (e + 2) (barr E 8 h9)) (e + 3) (iarr E 8 s9)) (e + 4) (iarr E 8 t9)) = _ from (up_at4 (by omega) (by omega) (by omega) (by omega)).symm)) ?_
        refine x_v (congrArg (fun w => (va_up (va_up (va_up w (e + 2) (barr E 8 h)) (e + 3) (iarr E 8 s)) (e + 4) (iarr E 8 t))) (show (va_up (va_up (va_up (va_up (va_up (va_up v 14 (rarr E 4 2 B (va_up gq kk (some c)))) e (.inr (4, [.ref (B + (e + 1)), .ref (B + (e + 2)), .int (zI (n : Int)), .ref (B + (e + 3)), .ref (B + (e + 4))]))) (e + 1) (iarr E 8 g)) (e + 2) (barr E 8 h9)) (e + 3) (iarr E 8 s9)) (e + 4) (iarr E 8 t9)) = _ from (up_at3 (by omega) (by omega) (by omega)).symm)) ?_
        refine x_v (congrArg (fun w => (va_up (va_up w (e + 3) (iarr E 8 s)) (e + 4) (iarr E 8 t))) (show (va_up (va_up (va_up (va_up (va_up (va_up v 14 (rarr E 4 2 B (va_up gq kk (some c)))) e (.inr (4, [.ref (B + (e + 1)), .ref (B + (e + 2)), .int (zI (n : Int)), .ref (B + (e + 3)), .ref (B + (e + 4))]))) (e + 1) (iarr E 8 g)) (e + 2) (barr E 8 h)) (e + 3) (iarr E 8 s9)) (e + 4) (iarr E 8 t9)) = _ from (up_at2 (by omega) (by omega)).symm)) ?_
        refine x_v (congrArg (fun w => (va_up w (e + 4) (iarr E 8 t))) (show (va_up (va_up (va_up (va_up (va_up (va_up v 14 (rarr E 4 2 B (va_up gq kk (some c)))) e (.inr (4, [.ref (B + (e + 1)), .ref (B + (e + 2)), .int (zI (n : Int)), .ref (B + (e + 3)), .ref (B + (e + 4))]))) (e + 1) (iarr E 8 g)) (e + 2) (barr E 8 h)) (e + 3) (iarr E 8 s)) (e + 4) (iarr E 8 t9)) = _ from (up_at1 (by omega)).symm)) ?_
        refine x_v (w := (va_up (va_up (va_up (va_up (va_up (va_up v 14 (rarr E 4 2 B (va_up gq kk (some c)))) e (.inr (4, [.ref (B + (e + 1)), .ref (B + (e + 2)), .int (zI (n : Int)), .ref (B + (e + 3)), .ref (B + (e + 4))]))) (e + 1) (iarr E 8 g)) (e + 2) (barr E 8 h)) (e + 3) (iarr E 8 s)) (e + 4) (iarr E 8 t))) (up_at0).symm ?_
        refine x_st (st' := []) rfl ?_
        refine x_iconst (pc := 45) K dX11_image_45 ?_
        refine x_iret (pc := 46) K KR (by omega) (Nat.le_of_ble_eq_true rfl) (Nat.le_of_ble_eq_true rfl) dX11_image_46 ?_
        exact ⟨rfl, 1, (va_up gq kk (some c)), (((n : Int)).toNat), g, h, s, t, (Or.inr ⟨by omega, rfl, by rw [Int.toNat_natCast], rfl, rfl, rfl, rfl, rfl⟩), rfl, rfl⟩
      · skip
        refine x_ldc (pc := 9) (x := (-1000001)) (-1000001) K (by decide) (by decide +kernel) dX11_image_9 ?_
        refine x_iret (pc := 11) K KR (by omega) (Nat.le_of_ble_eq_true rfl) (Nat.le_of_ble_eq_true rfl) dX11_image_11 ?_
        exact ⟨rfl, (-1000001), gq, n9, g9, h9, s9, t9, (Or.inl ⟨by omega, rfl, rfl, rfl, rfl, rfl, rfl, rfl⟩), rfl, rfl⟩
  · skip
    refine x_iload_n (pc := 0) 1 K rfl rfl dX11_image_0 ?_
    refine x_if_lt (pc := 1) (tgt := 9) K (by omega) dX11_image_1 (by decide) (fun h_1 => ?_) (fun h_1 => ?_)
    · skip
      refine x_ldc (pc := 9) (x := (-1000001)) (-1000001) K (by decide) (by decide +kernel) dX11_image_9 ?_
      refine x_iret (pc := 11) K KR (by omega) (Nat.le_of_ble_eq_true rfl) (Nat.le_of_ble_eq_true rfl) dX11_image_11 ?_
      exact ⟨rfl, (-1000001), gq, n9, g9, h9, s9, t9, (Or.inl ⟨by omega, rfl, rfl, rfl, rfl, rfl, rfl, rfl⟩), rfl, rfl⟩
    · skip
      refine x_iload_n (pc := 4) 1 K rfl rfl dX11_image_4 ?_
      refine x_iconst (pc := 5) K dX11_image_5 ?_
      refine x_icmp_lt (pc := 6) (tgt := 12) K (by omega) (by decide) dX11_image_6 (by decide) (fun h_6 => ?_) (fun h_6 => ?_)
      · skip
        exfalso; omega
      · skip
        refine x_ldc (pc := 9) (x := (-1000001)) (-1000001) K (by decide) (by decide +kernel) dX11_image_9 ?_
        refine x_iret (pc := 11) K KR (by omega) (Nat.le_of_ble_eq_true rfl) (Nat.le_of_ble_eq_true rfl) dX11_image_11 ?_
        exact ⟨rfl, (-1000001), gq, n9, g9, h9, s9, t9, (Or.inl ⟨by omega, rfl, rfl, rfl, rfl, rfl, rfl, rfl⟩), rfl, rfl⟩

set_option maxRecDepth 100000 in
set_option maxHeartbeats 4000000 in
theorem c_X11_restore_n {E : XE} {B N : Nat} {v : Nat → va_E} {cu : Value} {old kept fau fin : Int} {gq : Nat → Option Nat} {k : Int} (hc0 : Cel N v 0 (.inr (10, [.ref (B + 1), .ref (B + 2), .ref (B + 5), .ref (B + 7), .ref (B + 12), .ref (B + 13), .ref (B + 14), cu, .int (zI old), .int (zI kept), .int (zI fau), .int (zI fin)]))) (hc1 : Cel N v 14 (rarr E 4 2 B gq)) (hq0 : (-2147483648 ≤ k ∧ k ≤ 2147483647)) (hq1 : (0 ≤ k ∧ k ≤ 1) → gq k.toNat = none) : gM yX11_restore wsX11_restore ({ frames := 2, cells := 0, slots := 0, locals := 61 }) E B N v [.ref (B + 0), .int (zI k)] (po0 N (fun ρ v' => ∃ (res : Int), ((¬ (0 ≤ k ∧ k ≤ 1) ∧ res = -1000001) ∨ ((0 ≤ k ∧ k ≤ 1) ∧ res = -1000002)) ∧ ρ = some (.int (zI res)) ∧ v = v')) := by
  refine x_met (nm := "restore") (by decide +kernel) rfl (Nat.le_of_ble_eq_true rfl) rfl (fun Γ K KR hnL hnm => ?_)
  show XW Γ N v [(0, .ref (B + 0)), (1, .int (zI k))] 0 0 0 []
  by_cases hk : 0 ≤ k ∧ k ≤ 1
  · skip
    obtain ⟨kk, rfl⟩ : ∃ kk : Nat, k = (kk : Int) := ⟨k.toNat, by omega⟩
    have hgq := hq1 (by omega)
    rw [Int.toNat_natCast] at hgq
    refine x_iload_n (pc := 0) 1 K rfl rfl dX11_restore_0 ?_
    refine x_if_lt (pc := 1) (tgt := 9) K (by omega) dX11_restore_1 (by decide) (fun h_1 => ?_) (fun h_1 => ?_)
    · skip
      refine x_ldc (pc := 9) (x := (-1000001)) (-1000001) K (by decide) (by decide +kernel) dX11_restore_9 ?_
      refine x_iret (pc := 11) K KR (by omega) (Nat.le_of_ble_eq_true rfl) (Nat.le_of_ble_eq_true rfl) dX11_restore_11 ?_
      exact ⟨rfl, (-1000001), (Or.inl ⟨by omega, rfl⟩), rfl, rfl⟩
    · skip
      refine x_iload_n (pc := 4) 1 K rfl rfl dX11_restore_4 ?_
      refine x_iconst (pc := 5) K dX11_restore_5 ?_
      refine x_icmp_lt (pc := 6) (tgt := 12) K (by omega) (by decide) dX11_restore_6 (by decide) (fun h_6 => ?_) (fun h_6 => ?_)
      · skip
        refine x_aload_n (pc := 12) 0 K rfl rfl dX11_restore_12 ?_
        refine x_get (pc := 13) (C := RX11) (T := TX11) (n := 12) (ci := 10) (idx := 45) (ref := "BorderBeds") (x := .ref (B + 14))  K hc0 rfl (by decide +kernel) 6 (by decide) (by decide +kernel) rfl rfl dX11_restore_13 ?_
        refine x_iload_n (pc := 16) 1 K rfl rfl dX11_restore_16 ?_
        refine x_aald (pc := 17) kk K hc1 rfl rfl rfl (by omega) (by decide) dX11_restore_17 ?_
        refine x_st (st' := [.null]) (by rw [hgq]; rfl) ?_
        refine x_ifnonnullN (pc := 18) K dX11_restore_18 ?_
        refine x_ldc (pc := 21) (x := (-1000002)) (-1000002) K (by decide) (by decide +kernel) dX11_restore_21 ?_
        refine x_iret (pc := 23) K KR (by omega) (Nat.le_of_ble_eq_true rfl) (Nat.le_of_ble_eq_true rfl) dX11_restore_23 ?_
        exact ⟨rfl, (-1000002), (Or.inr ⟨by omega, rfl⟩), rfl, rfl⟩
      · skip
        refine x_ldc (pc := 9) (x := (-1000001)) (-1000001) K (by decide) (by decide +kernel) dX11_restore_9 ?_
        refine x_iret (pc := 11) K KR (by omega) (Nat.le_of_ble_eq_true rfl) (Nat.le_of_ble_eq_true rfl) dX11_restore_11 ?_
        exact ⟨rfl, (-1000001), (Or.inl ⟨by omega, rfl⟩), rfl, rfl⟩
  · skip
    refine x_iload_n (pc := 0) 1 K rfl rfl dX11_restore_0 ?_
    refine x_if_lt (pc := 1) (tgt := 9) K (by omega) dX11_restore_1 (by decide) (fun h_1 => ?_) (fun h_1 => ?_)
    · skip
      refine x_ldc (pc := 9) (x := (-1000001)) (-1000001) K (by decide) (by decide +kernel) dX11_restore_9 ?_
      refine x_iret (pc := 11) K KR (by omega) (Nat.le_of_ble_eq_true rfl) (Nat.le_of_ble_eq_true rfl) dX11_restore_11 ?_
      exact ⟨rfl, (-1000001), (Or.inl ⟨by omega, rfl⟩), rfl, rfl⟩
    · skip
      refine x_iload_n (pc := 4) 1 K rfl rfl dX11_restore_4 ?_
      refine x_iconst (pc := 5) K dX11_restore_5 ?_
      refine x_icmp_lt (pc := 6) (tgt := 12) K (by omega) (by decide) dX11_restore_6 (by decide) (fun h_6 => ?_) (fun h_6 => ?_)
      · skip
        exfalso; omega
      · skip
        refine x_ldc (pc := 9) (x := (-1000001)) (-1000001) K (by decide) (by decide +kernel) dX11_restore_9 ?_
        refine x_iret (pc := 11) K KR (by omega) (Nat.le_of_ble_eq_true rfl) (Nat.le_of_ble_eq_true rfl) dX11_restore_11 ?_
        exact ⟨rfl, (-1000001), (Or.inl ⟨by omega, rfl⟩), rfl, rfl⟩

set_option maxRecDepth 100000 in
set_option maxHeartbeats 4000000 in
theorem c_X11_restore_y {E : XE} {B N : Nat} {v : Nat → va_E} {cu : Value} {old kept fau fin : Int} {q : Nat} {q1 q2 q3 q4 q5 q6 : Int} {e n9 : Nat} {g9 h9 s9 t9 : Nat → Int} {n : Nat} {g h s t : Nat → Int} {gq : Nat → Option Nat} {k : Int} (hc0 : Cel N v 0 (.inr (10, [.ref (B + 1), .ref (B + 2), .ref (B + 5), .ref (B + 7), .ref (B + 12), .ref (B + 13), .ref (B + 14), cu, .int (zI old), .int (zI kept), .int (zI fau), .int (zI fin)]))) (hc1 : Cel N v 13 (rarr E 3 2 B imgQ)) (hc2 : Cel N v 14 (rarr E 4 2 B gq)) (hc3 : Cel N v e (.inr (4, [.ref (B + (e + 1)), .ref (B + (e + 2)), .int (zI (n9 : Int)), .ref (B + (e + 3)), .ref (B + (e + 4))]))) (hc4 : Cel N v (e + 1) (iarr E 8 g9)) (hc5 : Cel N v (e + 2) (barr E 8 h9)) (hc6 : Cel N v (e + 3) (iarr E 8 s9)) (hc7 : Cel N v (e + 4) (iarr E 8 t9)) (hc8 : Cel N v 7 (.inr (4, [.ref (B + 8), .ref (B + 9), .int (zI (n : Int)), .ref (B + 10), .ref (B + 11)]))) (hc9 : Cel N v 8 (iarr E 8 g)) (hc10 : Cel N v 9 (barr E 8 h)) (hc11 : Cel N v 10 (iarr E 8 s)) (hc12 : Cel N v 11 (iarr E 8 t)) (hq0 : 0 ≤ k ∧ k ≤ 1) (hq1 : (0 ≤ k ∧ k ≤ 1) → gq k.toNat = some q) (hq2 : e = 151 + 5 * k.toNat) (hq3 : ∀ k, k < 8 → 0 ≤ h9 k ∧ h9 k ≤ 1) : gM yX11_restore wsX11_restore ({ frames := 2, cells := 0, slots := 0, locals := 61 }) E B N v [.ref (B + 0), .int (zI k)] (po0 N (fun ρ v' => ρ = some (.int (zI 1)) ∧ (va_up (va_up (va_up (va_up (va_up (va_up v 0 (.inr (10, [.ref (B + 1), .ref (B + 2), .ref (B + 5), .ref (B + 7), .ref (B + 12), .ref (B + 13), .ref (B + 14), .ref (B + q), .int (zI old), .int (zI 0), .int (zI fau), .int (zI fin)]))) 7 (.inr (4, [.ref (B + 8), .ref (B + 9), .int (zI (n9 : Int)), .ref (B + 10), .ref (B + 11)]))) 8 (iarr E 8 g9)) 9 (barr E 8 h9)) 10 (iarr E 8 s9)) 11 (iarr E 8 t9)) = v')) := by
  refine x_met (nm := "restore") (by decide +kernel) rfl (Nat.le_of_ble_eq_true rfl) rfl (fun Γ K KR hnL hnm => ?_)
  show XW Γ N v [(0, .ref (B + 0)), (1, .int (zI k))] 0 0 0 []
  refine x_v (cel_pad hc0) ?_
  refine x_v (cel_pad (cel_ne hc8 (by decide))) ?_
  refine x_v (cel_pad (cel_ne (cel_ne hc9 (by decide)) (by decide))) ?_
  refine x_v (cel_pad (cel_ne (cel_ne (cel_ne hc10 (by decide)) (by decide)) (by decide))) ?_
  refine x_v (cel_pad (cel_ne (cel_ne (cel_ne (cel_ne hc11 (by decide)) (by decide)) (by decide)) (by decide))) ?_
  refine x_v (cel_pad (cel_ne (cel_ne (cel_ne (cel_ne (cel_ne hc12 (by decide)) (by decide)) (by decide)) (by decide)) (by decide))) ?_
  obtain ⟨kk, rfl⟩ : ∃ kk : Nat, k = (kk : Int) := ⟨k.toNat, by omega⟩
  have hgq := hq1 (by omega)
  rw [Int.toNat_natCast] at hgq
  refine x_iload_n (pc := 0) 1 K rfl rfl dX11_restore_0 ?_
  refine x_if_lt (pc := 1) (tgt := 9) K (by omega) dX11_restore_1 (by decide) (fun h_1 => ?_) (fun h_1 => ?_)
  · skip
    exfalso; omega
  · skip
    refine x_iload_n (pc := 4) 1 K rfl rfl dX11_restore_4 ?_
    refine x_iconst (pc := 5) K dX11_restore_5 ?_
    refine x_icmp_lt (pc := 6) (tgt := 12) K (by omega) (by decide) dX11_restore_6 (by decide) (fun h_6 => ?_) (fun h_6 => ?_)
    · skip
      refine x_aload_n (pc := 12) 0 K rfl rfl dX11_restore_12 ?_
      refine x_get (pc := 13) (C := RX11) (T := TX11) (n := 12) (ci := 10) (idx := 45) (ref := "BorderBeds") (x := .ref (B + 14))  K (cel_ne (cel_ne (cel_ne (cel_ne (cel_ne (cel_self hc0.1) (by decide)) (by decide)) (by decide)) (by decide)) (by decide)) rfl (by decide +kernel) 6 (by decide) (by decide +kernel) rfl rfl dX11_restore_13 ?_
      refine x_iload_n (pc := 16) 1 K rfl rfl dX11_restore_16 ?_
      refine x_aald (pc := 17) kk K (cel_ne (cel_ne (cel_ne (cel_ne (cel_ne (cel_ne hc2 (by decide)) (by decide)) (by decide)) (by decide)) (by decide)) (by decide)) rfl rfl rfl (by omega) (by decide) dX11_restore_17 ?_
      refine x_st (st' := [.ref (B + q)]) (by rw [rf_some (h := gq) (j := kk) (o := q) hgq]) ?_
      refine x_ifnonnull (pc := 18) (tgt := 24) K dX11_restore_18 (by decide) ?_
      refine x_aload_n (pc := 24) 0 K rfl rfl dX11_restore_24 ?_
      refine x_aload_n (pc := 25) 0 K rfl rfl dX11_restore_25 ?_
      refine x_get (pc := 26) (C := RX11) (T := TX11) (n := 12) (ci := 10) (idx := 45) (ref := "BorderBeds") (x := .ref (B + 14))  K (cel_ne (cel_ne (cel_ne (cel_ne (cel_ne (cel_self hc0.1) (by decide)) (by decide)) (by decide)) (by decide)) (by decide)) rfl (by decide +kernel) 6 (by decide) (by decide +kernel) rfl rfl dX11_restore_26 ?_
      refine x_iload_n (pc := 29) 1 K rfl rfl dX11_restore_29 ?_
      refine x_aald (pc := 30) kk K (cel_ne (cel_ne (cel_ne (cel_ne (cel_ne (cel_ne hc2 (by decide)) (by decide)) (by decide)) (by decide)) (by decide)) (by decide)) rfl rfl rfl (by omega) (by decide) dX11_restore_30 ?_
      refine x_st (st' := [.ref (B + q), .ref (B + 0)]) (by rw [rf_some (h := gq) (j := kk) (o := q) hgq]) ?_
      refine x_put (pc := 31) (C := RX11) (T := TX11) (n := 12) (ci := 10) (idx := 49) (ref := "BorderBeds") (ty := .object "BorderBeds$Ground")  K (cel_ne (cel_ne (cel_ne (cel_ne (cel_ne (cel_self hc0.1) (by decide)) (by decide)) (by decide)) (by decide)) (by decide)) rfl (by decide +kernel) tyX11 tyX11_ok nmX11 7 (by decide) (by decide +kernel) rfl rfl (by decide +kernel) rfl rfl (Nat.le_of_ble_eq_true rfl) dX11_restore_31 ?_
      refine x_v (w := (va_up (va_up (va_up (va_up (va_up (va_up v 0 (.inr (10, [.ref (B + 1), .ref (B + 2), .ref (B + 5), .ref (B + 7), .ref (B + 12), .ref (B + 13), .ref (B + 14), .ref (B + q), .int (zI old), .int (zI kept), .int (zI fau), .int (zI fin)]))) 7 (.inr (4, [.ref (B + 8), .ref (B + 9), .int (zI (n : Int)), .ref (B + 10), .ref (B + 11)]))) 8 (iarr E 8 g)) 9 (barr E 8 h)) 10 (iarr E 8 s)) 11 (iarr E 8 t))) (up_at5 (by decide) (by decide) (by decide) (by decide) (by decide)).symm ?_
      refine x_aload_n (pc := 34) 0 K rfl rfl dX11_restore_34 ?_
      refine x_get (pc := 35) (C := RX11) (T := TX11) (n := 12) (ci := 10) (idx := 32) (ref := "BorderBeds") (x := .ref (B + 7))  K (cel_ne (cel_ne (cel_ne (cel_ne (cel_ne (cel_self hc0.1) (by decide)) (by decide)) (by decide)) (by decide)) (by decide)) rfl (by decide +kernel) 3 (by decide) (by decide +kernel) rfl rfl dX11_restore_35 ?_
      refine x_aload_n (pc := 38) 0 K rfl rfl dX11_restore_38 ?_
      refine x_get (pc := 39) (C := RX11) (T := TX11) (n := 12) (ci := 10) (idx := 40) (ref := "BorderBeds") (x := .ref (B + 13))  K (cel_ne (cel_ne (cel_ne (cel_ne (cel_ne (cel_self hc0.1) (by decide)) (by decide)) (by decide)) (by decide)) (by decide)) rfl (by decide +kernel) 5 (by decide) (by decide +kernel) rfl rfl dX11_restore_39 ?_
      refine x_iload_n (pc := 42) 1 K rfl rfl dX11_restore_42 ?_
      refine x_aald (pc := 43) kk K (cel_ne (cel_ne (cel_ne (cel_ne (cel_ne (cel_ne hc1 (by decide)) (by decide)) (by decide)) (by decide)) (by decide)) (by decide)) rfl rfl rfl (by omega) (by decide) dX11_restore_43 ?_
      refine x_st (st' := [.ref (B + e), .ref (B + 7)]) (by rw [rf_some (h := imgQ) (j := kk) (o := e) (by rw [imgQ_at (by omega)]; congr 1; omega)]) ?_
      refine x_callV (pc := 44) (C := RX4) (T := TX4) (n := 5) (ci := 4) (As := [.ref (B + e)]) K (c_X4_become (E := E) (B := B) (N := N)   (cel_ne (cel_ne (cel_ne (cel_ne (cel_self hc8.1) (by decide)) (by decide)) (by decide)) (by decide)) (cel_ne (cel_ne (cel_ne (cel_self hc9.1) (by decide)) (by decide)) (by decide)) (cel_ne (cel_ne (cel_self hc10.1) (by decide)) (by decide)) (cel_ne (cel_self hc11.1) (by decide)) (cel_self hc12.1) (cel_ne (cel_ne (cel_ne (cel_ne (cel_ne (cel_ne hc3 (by omega)) (by omega)) (by omega)) (by omega)) (by omega)) (by omega)) (cel_ne (cel_ne (cel_ne (cel_ne (cel_ne (cel_ne hc4 (by omega)) (by omega)) (by omega)) (by omega)) (by omega)) (by omega)) (cel_ne (cel_ne (cel_ne (cel_ne (cel_ne (cel_ne hc5 (by omega)) (by omega)) (by omega)) (by omega)) (by omega)) (by omega)) (cel_ne (cel_ne (cel_ne (cel_ne (cel_ne (cel_ne hc6 (by omega)) (by omega)) (by omega)) (by omega)) (by omega)) (by omega)) (cel_ne (cel_ne (cel_ne (cel_ne (cel_ne (cel_ne hc7 (by omega)) (by omega)) (by omega)) (by omega)) (by omega)) (by omega)) (by omega) hq3) gX11_restore_X4_become rfl (na := 1) (by decide +kernel) rfl ⟨(Nat.le_of_ble_eq_true rfl), (Nat.le_of_ble_eq_true rfl)⟩ (cel_ne (cel_ne (cel_ne (cel_ne (cel_self hc8.1) (by decide)) (by decide)) (by decide)) (by decide)) rfl (st := []) rfl (Nat.le_of_ble_eq_true rfl) ⟨(Nat.le_of_ble_eq_true rfl), (Nat.le_of_ble_eq_true rfl)⟩ dX11_restore_44 (fun r44 N44 w44 hpo44 hN44 => ?_)
      obtain ⟨rfl, rfl, rfl⟩ := hpo44
      refine x_v (congrArg (fun w => (va_up (va_up (va_up (va_up w 8 (iarr E 8 g9)) 9 (barr E 8 h9)) 10 (iarr E 8 s9)) 11 (iarr E 8 t9))) (show (va_up (va_up (va_up (va_up (va_up (va_up v 0 (.inr (10, [.ref (B + 1), .ref (B + 2), .ref (B + 5), .ref (B + 7), .ref (B + 12), .ref (B + 13), .ref (B + 14), .ref (B + q), .int (zI old), .int (zI kept), .int (zI fau), .int (zI fin)]))) 7 (.inr (4, [.ref (B + 8), .ref (B + 9), .int (zI (n9 : Int)), .ref (B + 10), .ref (B + 11)]))) 8 (iarr E 8 g)) 9 (barr E 8 h)) 10 (iarr E 8 s)) 11 (iarr E 8 t)) = _ from (up_at4 (by decide) (by decide) (by decide) (by decide)).symm)) ?_
      refine x_v (congrArg (fun w => (va_up (va_up (va_up w 9 (barr E 8 h9)) 10 (iarr E 8 s9)) 11 (iarr E 8 t9))) (show (va_up (va_up (va_up (va_up (va_up (va_up v 0 (.inr (10, [.ref (B + 1), .ref (B + 2), .ref (B + 5), .ref (B + 7), .ref (B + 12), .ref (B + 13), .ref (B + 14), .ref (B + q), .int (zI old), .int (zI kept), .int (zI fau), .int (zI fin)]))) 7 (.inr (4, [.ref (B + 8), .ref (B + 9), .int (zI (n9 : Int)), .ref (B + 10), .ref (B + 11)]))) 8 (iarr E 8 g9)) 9 (barr E 8 h)) 10 (iarr E 8 s)) 11 (iarr E 8 t)) = _ from (up_at3 (by decide) (by decide) (by decide)).symm)) ?_
      refine x_v (congrArg (fun w => (va_up (va_up w 10 (iarr E 8 s9)) 11 (iarr E 8 t9))) (show (va_up (va_up (va_up (va_up (va_up (va_up v 0 (.inr (10, [.ref (B + 1), .ref (B + 2), .ref (B + 5), .ref (B + 7), .ref (B + 12), .ref (B + 13), .ref (B + 14), .ref (B + q), .int (zI old), .int (zI kept), .int (zI fau), .int (zI fin)]))) 7 (.inr (4, [.ref (B + 8), .ref (B + 9), .int (zI (n9 : Int)), .ref (B + 10), .ref (B + 11)]))) 8 (iarr E 8 g9)) 9 (barr E 8 h9)) 10 (iarr E 8 s)) 11 (iarr E 8 t)) = _ from (up_at2 (by decide) (by decide)).symm)) ?_
      refine x_v (congrArg (fun w => (va_up w 11 (iarr E 8 t9))) (show (va_up (va_up (va_up (va_up (va_up (va_up v 0 (.inr (10, [.ref (B + 1), .ref (B + 2), .ref (B + 5), .ref (B + 7), .ref (B + 12), .ref (B + 13), .ref (B + 14), .ref (B + q), .int (zI old), .int (zI kept), .int (zI fau), .int (zI fin)]))) 7 (.inr (4, [.ref (B + 8), .ref (B + 9), .int (zI (n9 : Int)), .ref (B + 10), .ref (B + 11)]))) 8 (iarr E 8 g9)) 9 (barr E 8 h9)) 10 (iarr E 8 s9)) 11 (iarr E 8 t)) = _ from (up_at1 (by decide)).symm)) ?_
      refine x_v (w := (va_up (va_up (va_up (va_up (va_up (va_up v 0 (.inr (10, [.ref (B + 1), .ref (B + 2), .ref (B + 5), .ref (B + 7), .ref (B + 12), .ref (B + 13), .ref (B + 14), .ref (B + q), .int (zI old), .int (zI kept), .int (zI fau), .int (zI fin)]))) 7 (.inr (4, [.ref (B + 8), .ref (B + 9), .int (zI (n9 : Int)), .ref (B + 10), .ref (B + 11)]))) 8 (iarr E 8 g9)) 9 (barr E 8 h9)) 10 (iarr E 8 s9)) 11 (iarr E 8 t9))) (up_at0).symm ?_
      refine x_st (st' := []) rfl ?_
      refine x_aload_n (pc := 47) 0 K rfl rfl dX11_restore_47 ?_
      refine x_iconst (pc := 48) K dX11_restore_48 ?_
      refine x_put (pc := 49) (C := RX11) (T := TX11) (n := 12) (ci := 10) (idx := 57) (ref := "BorderBeds") (ty := .int)  K (cel_ne (cel_ne (cel_ne (cel_ne (cel_ne (cel_self hc0.1) (by decide)) (by decide)) (by decide)) (by decide)) (by decide)) rfl (by decide +kernel) tyX11 tyX11_ok nmX11 9 (by decide) (by decide +kernel) rfl rfl (by decide +kernel) rfl rfl (Nat.le_of_ble_eq_true rfl) dX11_restore_49 ?_
      refine x_v (w := (va_up (va_up (va_up (va_up (va_up (va_up v 0 (.inr (10, [.ref (B + 1), .ref (B + 2), .ref (B + 5), .ref (B + 7), .ref (B + 12), .ref (B + 13), .ref (B + 14), .ref (B + q), .int (zI old), .int (zI 0), .int (zI fau), .int (zI fin)]))) 7 (.inr (4, [.ref (B + 8), .ref (B + 9), .int (zI (n9 : Int)), .ref (B + 10), .ref (B + 11)]))) 8 (iarr E 8 g9)) 9 (barr E 8 h9)) 10 (iarr E 8 s9)) 11 (iarr E 8 t9))) (up_at5 (by decide) (by decide) (by decide) (by decide) (by decide)).symm ?_
      refine x_iconst (pc := 52) K dX11_restore_52 ?_
      refine x_iret (pc := 53) K KR (by omega) (Nat.le_of_ble_eq_true rfl) (Nat.le_of_ble_eq_true rfl) dX11_restore_53 ?_
      exact ⟨rfl, rfl, rfl⟩
    · skip
      exfalso; omega
