theorem dX11_held_0 : decode cX11_held 0 = .ok (.aload_n 0, 1) := by decide +kernel
theorem dX11_held_1 : decode cX11_held 1 = .ok (.getfield 49, 3) := by decide +kernel
theorem dX11_held_4 : decode cX11_held 4 = .ok (.astore 4, 2) := by decide +kernel
theorem dX11_held_6 : decode cX11_held 6 = .ok (.aload 4, 2) := by decide +kernel
theorem dX11_held_8 : decode cX11_held 8 = .ok (.ifnonnull 6, 3) := by decide +kernel
theorem dX11_held_11 : decode cX11_held 11 = .ok (.ldc 147, 2) := by decide +kernel
theorem dX11_held_13 : decode cX11_held 13 = .ok (.ireturn, 1) := by decide +kernel
theorem dX11_held_14 : decode cX11_held 14 = .ok (.iload_n 1, 1) := by decide +kernel
set_option maxRecDepth 20000 in
theorem ggX11_held_X11_isLand : GoodIn wsX11_held wsX11_isLand := goodIn_r _ [8] (by decide +kernel) (by decide +kernel)
set_option maxRecDepth 20000 in
theorem gX11_held_X11_isLand : GoodIn wsX11_held (va_wsS RX11 188 yX11_isLand wsX11_isLand) := goodIn_app (goodIn_of _ (by decide +kernel)) ggX11_held_X11_isLand
theorem dX11_held_15 : decode cX11_held 15 = .ok (.invokestatic 188, 3) := by decide +kernel
theorem dX11_held_18 : decode cX11_held 18 = .ok (.ifCond .eq 19, 3) := by decide +kernel
theorem dX11_held_37 : decode cX11_held 37 = .ok (.ldc 71, 2) := by decide +kernel
theorem dX11_held_39 : decode cX11_held 39 = .ok (.ireturn, 1) := by decide +kernel
theorem dX11_held_21 : decode cX11_held 21 = .ok (.iload_n 2, 1) := by decide +kernel
theorem dX11_held_22 : decode cX11_held 22 = .ok (.ifCond .lt 15, 3) := by decide +kernel
theorem dX11_held_25 : decode cX11_held 25 = .ok (.iload_n 2, 1) := by decide +kernel
theorem dX11_held_26 : decode cX11_held 26 = .ok (.sipush 999, 3) := by decide +kernel
theorem dX11_held_29 : decode cX11_held 29 = .ok (.if_icmp .gt 8, 3) := by decide +kernel
theorem dX11_held_32 : decode cX11_held 32 = .ok (.iload_n 3, 1) := by decide +kernel
theorem dX11_held_33 : decode cX11_held 33 = .ok (.iconst (-1), 1) := by decide +kernel
theorem dX11_held_34 : decode cX11_held 34 = .ok (.if_icmp .ge 6, 3) := by decide +kernel
theorem dX11_held_40 : decode cX11_held 40 = .ok (.aload 4, 2) := by decide +kernel
theorem dX11_held_42 : decode cX11_held 42 = .ok (.iload_n 1, 1) := by decide +kernel
theorem dX11_held_43 : decode cX11_held 43 = .ok (.iload_n 2, 1) := by decide +kernel
theorem dX11_held_44 : decode cX11_held 44 = .ok (.iload_n 3, 1) := by decide +kernel
theorem dX11_held_45 : decode cX11_held 45 = .ok (.aload_n 0, 1) := by decide +kernel
theorem dX11_held_46 : decode cX11_held 46 = .ok (.getfield 32, 3) := by decide +kernel
set_option maxRecDepth 20000 in
theorem ggX11_held_X3_heldCells : GoodIn wsX11_held wsX3_heldCells := goodIn_r _ [13, 14, 15, 16, 17, 12, 18, 19, 20, 21, 22, 23, 24, 25, 26, 27, 28, 29, 30, 31, 32, 33, 34, 35, 36, 37, 38, 39, 40, 41, 42, 43, 44, 45, 46, 47, 48, 49, 50, 51, 52, 53, 54, 55, 56, 57, 58, 59, 60, 61, 62, 63, 64, 65, 66, 67, 68, 69, 70, 71, 72, 73, 74, 75, 76, 77, 78, 79, 80, 81, 82, 83, 84, 85, 86, 87, 88, 89, 90, 91, 92, 93, 94, 95, 96, 97, 98, 99, 100, 101, 102, 103, 104, 105, 106, 107, 108, 109, 110, 111, 112, 113, 114, 115, 128, 129, 130, 131, 132, 133, 134, 135, 136, 137, 138, 139, 140, 141, 142, 143, 144, 145, 146, 147, 148, 149, 150, 151, 152, 153, 154, 155, 156, 157, 158, 159, 160, 161, 162, 163] (by decide +kernel) (by decide +kernel)
set_option maxRecDepth 20000 in
theorem gX11_held_X3_heldCells : GoodIn wsX11_held (wsV RX11 218 RX3 yX3_heldCells wsX3_heldCells) := goodIn_app (goodIn_of _ (by decide +kernel)) ggX11_held_X3_heldCells
theorem dX11_held_49 : decode cX11_held 49 = .ok (.invokevirtual 218, 3) := by decide +kernel
theorem dX11_held_52 : decode cX11_held 52 = .ok (.ireturn, 1) := by decide +kernel
set_option maxRecDepth 100000 in
set_option maxHeartbeats 4000000 in
theorem c_X11_held_0 {E : XE} {B N : Nat} {v : Nat → va_E} {old kept fau fin : Int} {ld m w : Int} (hc0 : Cel N v 0 (.inr (10, [.ref (B + 1), .ref (B + 2), .ref (B + 5), .ref (B + 7), .ref (B + 12), .ref (B + 13), .ref (B + 14), .null, .int (zI old), .int (zI kept), .int (zI fau), .int (zI fin)]))) : gM yX11_held wsX11_held ({ frames := 6, cells := 0, slots := 0, locals := 153 }) E B N v [.ref (B + 0), .int (zI ld), .int (zI m), .int (zI w)] (po0 N (fun ρ v' => ρ = some (.int (zI (-1000002))) ∧ v = v')) := by
  refine x_met (nm := "held") (by decide +kernel) rfl (Nat.le_of_ble_eq_true rfl) rfl (fun Γ K KR hnL hnm => ?_)
  show XW Γ N v [(0, .ref (B + 0)), (1, .int (zI ld)), (2, .int (zI m)), (3, .int (zI w))] 0 0 0 []
  refine x_aload_n (pc := 0) 0 K rfl rfl dX11_held_0 ?_
  refine x_get (pc := 1) (C := RX11) (T := TX11) (n := 12) (ci := 10) (idx := 49) (ref := "BorderBeds") (x := .null)  K hc0 rfl (by decide +kernel) 7 (by decide) (by decide +kernel) rfl rfl dX11_held_1 ?_
  refine x_astoreN (pc := 4) K (L' := [(4, .null), (0, .ref (B + 0)), (1, .int (zI ld)), (2, .int (zI m)), (3, .int (zI w))]) hnL (by decide) rfl dX11_held_4 ?_
  refine x_aloadN (pc := 6) 0 K rfl dX11_held_6 ?_
  refine x_ifnonnullN (pc := 8) K dX11_held_8 ?_
  refine x_ldc (pc := 11) (x := (-1000002)) (-1000002) K (by decide) (by decide +kernel) dX11_held_11 ?_
  refine x_iret (pc := 13) K KR (by omega) (Nat.le_of_ble_eq_true rfl) (Nat.le_of_ble_eq_true rfl) dX11_held_13 ?_
  exact ⟨rfl, rfl, rfl⟩

set_option maxRecDepth 100000 in
set_option maxHeartbeats 4000000 in
theorem c_X11_held_c {E : XE} {B N : Nat} {v : Nat → va_E} {old kept fau fin : Int} {c n : Nat} {p g h s t : Nat → Int} {l : Cor} {g1 h1 s1 t1 : Nat → Int} {n1 : Nat} {ld m w : Int} (hc0 : Cel N v 0 (.inr (10, [.ref (B + 1), .ref (B + 2), .ref (B + 5), .ref (B + 7), .ref (B + 12), .ref (B + 13), .ref (B + 14), .ref (B + c), .int (zI old), .int (zI kept), .int (zI fau), .int (zI fin)]))) (hc1 : Cel N v c (.inr (3, [.int (zI (p 0)), .int (zI (p 1)), .int (zI (p 2)), .ref (B + (c + 1)), .ref (B + (c + 2)), .int (zI (p 3)), .ref (B + (c + 3)), .int (zI (p 4)), .ref (B + (c + 4)), .ref (B + (c + 13)), .ref (B + (c + 18))]))) (hc2 : Cel N v 7 (.inr (4, [.ref (B + 8), .ref (B + 9), .int (zI (n : Int)), .ref (B + 10), .ref (B + 11)]))) (hc3 : Cel N v 8 (iarr E 8 g)) (hc4 : Cel N v 9 (barr E 8 h)) (hc5 : Cel N v 10 (iarr E 8 s)) (hc6 : Cel N v 11 (iarr E 8 t)) (hc7 : Cel N v (c + 13) (.inr (4, [.ref (B + (c + 14)), .ref (B + (c + 15)), .int (zI (n1 : Int)), .ref (B + (c + 16)), .ref (B + (c + 17))]))) (hc8 : Cel N v (c + 14) (iarr E 8 g1)) (hc9 : Cel N v (c + 15) (barr E 8 h1)) (hc10 : Cel N v (c + 16) (iarr E 8 s1)) (hc11 : Cel N v (c + 17) (iarr E 8 t1)) (hc12 : Cel N v (c + 4) (rarr E 6 8 B (ouA c))) (hc13 : Cel N v (c + 2) (barr E 48 (gA p))) (hc14 : Cel N v (c + 3) (rarr E 5 5 B (psA c p))) (hF0 : ∀ x : Nat, x < 8 → Cel N v (c + 5 + x) (iarr E 7 (wbS p x))) (hF1 : ∀ x : Nat, (x : Int) < p 4 → Cel N v (c + 23 + x) (perE p x)) (hq0 : LR g h l) (hq1 : n = l.length ∧ (l.length : Int) ≤ p 2) (hq2 : CorOk l) (hq3 : SR (p 0) (p 1) l s t) (hq4 : POk p) (hq5 : ∀ i : Nat, i < 5 → (i : Int) < p 4 → 1 ≤ p (5 + i)) (hq6 : 12 ≤ c) (hq7 : (-2147483648 ≤ ld ∧ ld ≤ 2147483647)) (hq8 : (-2147483648 ≤ m ∧ m ≤ 2147483647)) (hq9 : (-2147483648 ≤ w ∧ w ≤ 2147483647)) : gM yX11_held wsX11_held ({ frames := 6, cells := 0, slots := 0, locals := 153 }) E B N v [.ref (B + 0), .int (zI ld), .int (zI m), .int (zI w)] (po0 N (fun ρ v' => ∃ (res : Int), ∃ (n9 : Nat), ∃ (g9 : Nat → Int), ∃ (h9 : Nat → Int), ∃ (s9 : Nat → Int), ∃ (t9 : Nat → Int), ((¬ (0 ≤ ld ∧ ld ≤ 1 ∧ 0 ≤ m ∧ m ≤ 999 ∧ -1 ≤ w) ∧ res = -1000001) ∨ ((0 ≤ ld ∧ ld ≤ 1 ∧ 0 ≤ m ∧ m ≤ 999 ∧ -1 ≤ w) ∧ res = heldA p l ld m w (p 4).toNat)) ∧ ρ = some (.int (zI res)) ∧ (va_up (va_up (va_up (va_up (va_up v (c + 13) (.inr (4, [.ref (B + (c + 14)), .ref (B + (c + 15)), .int (zI (n9 : Int)), .ref (B + (c + 16)), .ref (B + (c + 17))]))) (c + 14) (iarr E 8 g9)) (c + 15) (barr E 8 h9)) (c + 16) (iarr E 8 s9)) (c + 17) (iarr E 8 t9)) = v')) := by
  refine x_met (nm := "held") (by decide +kernel) rfl (Nat.le_of_ble_eq_true rfl) rfl (fun Γ K KR hnL hnm => ?_)
  show XW Γ N v [(0, .ref (B + 0)), (1, .int (zI ld)), (2, .int (zI m)), (3, .int (zI w))] 0 0 0 []
  have hP2 := hq4.2.2.1
  have hp4 := hq4.2.2.2.2.1
  refine x_v (cel_pad hc7) ?_
  refine x_v (cel_pad (cel_ne hc8 (by omega))) ?_
  refine x_v (cel_pad (cel_ne (cel_ne hc9 (by omega)) (by omega))) ?_
  refine x_v (cel_pad (cel_ne (cel_ne (cel_ne hc10 (by omega)) (by omega)) (by omega))) ?_
  refine x_v (cel_pad (cel_ne (cel_ne (cel_ne (cel_ne hc11 (by omega)) (by omega)) (by omega)) (by omega))) ?_
  refine x_aload_n (pc := 0) 0 K rfl rfl dX11_held_0 ?_
  refine x_get (pc := 1) (C := RX11) (T := TX11) (n := 12) (ci := 10) (idx := 49) (ref := "BorderBeds") (x := .ref (B + c))  K (cel_ne (cel_ne (cel_ne (cel_ne (cel_ne hc0 (by omega)) (by omega)) (by omega)) (by omega)) (by omega)) rfl (by decide +kernel) 7 (by decide) (by decide +kernel) rfl rfl dX11_held_1 ?_
  refine x_astore (pc := 4) K (L' := [(4, .ref (B + c)), (0, .ref (B + 0)), (1, .int (zI ld)), (2, .int (zI m)), (3, .int (zI w))]) hnL (by decide) rfl dX11_held_4 ?_
  refine x_aload (pc := 6) 0 K rfl dX11_held_6 ?_
  refine x_ifnonnull (pc := 8) (tgt := 14) K dX11_held_8 (by decide) ?_
  refine x_iload_n (pc := 14) 2 K rfl rfl dX11_held_14 ?_
  refine x_callS (pc := 15) (As := [.int (zI ld)]) K (c_X11_isLand (E := E) (B := B) (N := N)    (by omega)) gX11_held_X11_isLand rfl (na := 1) (by decide +kernel) rfl ⟨(Nat.le_of_ble_eq_true rfl), (Nat.le_of_ble_eq_true rfl)⟩ (st := []) rfl (Nat.le_of_ble_eq_true rfl) ⟨(Nat.le_of_ble_eq_true rfl), (Nat.le_of_ble_eq_true rfl)⟩ dX11_held_15 (fun r15 N15 w15 hpo15 hN15 => ?_)
  obtain ⟨rfl, rfl, rfl⟩ := hpo15
  refine x_st (st' := [.int (zI (bI (0 ≤ ld ∧ ld ≤ 1)))]) rfl ?_
  have hrg15 := bI_rng (0 ≤ ld ∧ ld ≤ 1)
  refine x_if_eq (pc := 18) (tgt := 37) K (by omega) dX11_held_18 (by decide) (fun h_18 => ?_) (fun h_18 => ?_)
  · skip
    have h_18 := bI_t h_18
    refine x_ldc (pc := 37) (x := (-1000001)) (-1000001) K (by decide) (by decide +kernel) dX11_held_37 ?_
    refine x_iret (pc := 39) K KR (by omega) (Nat.le_of_ble_eq_true rfl) (Nat.le_of_ble_eq_true rfl) dX11_held_39 ?_
    exact ⟨rfl, (-1000001), n1, g1, h1, s1, t1, (Or.inl ⟨by omega, rfl⟩), rfl, rfl⟩
  · skip
    have h_18 := bI_f h_18
    refine x_iload_n (pc := 21) 3 K rfl rfl dX11_held_21 ?_
    refine x_if_lt (pc := 22) (tgt := 37) K (by omega) dX11_held_22 (by decide) (fun h_22 => ?_) (fun h_22 => ?_)
    · skip
      refine x_ldc (pc := 37) (x := (-1000001)) (-1000001) K (by decide) (by decide +kernel) dX11_held_37 ?_
      refine x_iret (pc := 39) K KR (by omega) (Nat.le_of_ble_eq_true rfl) (Nat.le_of_ble_eq_true rfl) dX11_held_39 ?_
      exact ⟨rfl, (-1000001), n1, g1, h1, s1, t1, (Or.inl ⟨by omega, rfl⟩), rfl, rfl⟩
    · skip
      refine x_iload_n (pc := 25) 3 K rfl rfl dX11_held_25 ?_
      refine x_sipush (pc := 26) K (by decide) dX11_held_26 ?_
      refine x_icmp_gt (pc := 29) (tgt := 37) K (by omega) (by decide) dX11_held_29 (by decide) (fun h_29 => ?_) (fun h_29 => ?_)
      · skip
        refine x_ldc (pc := 37) (x := (-1000001)) (-1000001) K (by decide) (by decide +kernel) dX11_held_37 ?_
        refine x_iret (pc := 39) K KR (by omega) (Nat.le_of_ble_eq_true rfl) (Nat.le_of_ble_eq_true rfl) dX11_held_39 ?_
        exact ⟨rfl, (-1000001), n1, g1, h1, s1, t1, (Or.inl ⟨by omega, rfl⟩), rfl, rfl⟩
      · skip
        refine x_iload_n (pc := 32) 4 K rfl rfl dX11_held_32 ?_
        refine x_iconst (pc := 33) K dX11_held_33 ?_
        refine x_icmp_ge (pc := 34) (tgt := 40) K (by omega) (by decide) dX11_held_34 (by decide) (fun h_34 => ?_) (fun h_34 => ?_)
        · skip
          refine x_aload (pc := 40) 0 K rfl dX11_held_40 ?_
          refine x_iload_n (pc := 42) 2 K rfl rfl dX11_held_42 ?_
          refine x_iload_n (pc := 43) 3 K rfl rfl dX11_held_43 ?_
          refine x_iload_n (pc := 44) 4 K rfl rfl dX11_held_44 ?_
          refine x_aload_n (pc := 45) 1 K rfl rfl dX11_held_45 ?_
          refine x_get (pc := 46) (C := RX11) (T := TX11) (n := 12) (ci := 10) (idx := 32) (ref := "BorderBeds") (x := .ref (B + 7))  K (cel_ne (cel_ne (cel_ne (cel_ne (cel_ne hc0 (by omega)) (by omega)) (by omega)) (by omega)) (by omega)) rfl (by decide +kernel) 3 (by decide) (by decide +kernel) rfl rfl dX11_held_46 ?_
          refine x_callV (pc := 49) (C := RX3) (T := TX3) (n := 11) (ci := 3) (As := [.int (zI ld), .int (zI m), .int (zI w), .ref (B + 7)]) K (c_X3_heldCells (E := E) (B := B) (N := N) (l := l)  (cel_ne (cel_ne (cel_ne (cel_ne (cel_ne hc1 (by omega)) (by omega)) (by omega)) (by omega)) (by omega)) (cel_ne (cel_ne (cel_ne (cel_ne (cel_self hc7.1) (by omega)) (by omega)) (by omega)) (by omega)) (cel_ne (cel_ne (cel_ne (cel_self hc8.1) (by omega)) (by omega)) (by omega)) (cel_ne (cel_ne (cel_self hc9.1) (by omega)) (by omega)) (cel_ne (cel_self hc10.1) (by omega)) (cel_self hc11.1) (cel_ne (cel_ne (cel_ne (cel_ne (cel_ne hc2 (by omega)) (by omega)) (by omega)) (by omega)) (by omega)) (cel_ne (cel_ne (cel_ne (cel_ne (cel_ne hc3 (by omega)) (by omega)) (by omega)) (by omega)) (by omega)) (cel_ne (cel_ne (cel_ne (cel_ne (cel_ne hc4 (by omega)) (by omega)) (by omega)) (by omega)) (by omega)) (cel_ne (cel_ne (cel_ne (cel_ne (cel_ne hc5 (by omega)) (by omega)) (by omega)) (by omega)) (by omega)) (cel_ne (cel_ne (cel_ne (cel_ne (cel_ne hc6 (by omega)) (by omega)) (by omega)) (by omega)) (by omega)) (cel_ne (cel_ne (cel_ne (cel_ne (cel_ne hc12 (by omega)) (by omega)) (by omega)) (by omega)) (by omega)) (cel_ne (cel_ne (cel_ne (cel_ne (cel_ne hc13 (by omega)) (by omega)) (by omega)) (by omega)) (by omega)) (cel_ne (cel_ne (cel_ne (cel_ne (cel_ne hc14 (by omega)) (by omega)) (by omega)) (by omega)) (by omega)) (fun x hx => (cel_ne (cel_ne (cel_ne (cel_ne (cel_ne (hF0 x hx) (by omega)) (by omega)) (by omega)) (by omega)) (by omega))) (fun x hx => (cel_ne (cel_ne (cel_ne (cel_ne (cel_ne (hF1 x hx) (by omega)) (by omega)) (by omega)) (by omega)) (by omega))) hq0 hq1 hq2 hq3 hq4 (by omega) (by omega) (by omega) (by omega) (by omega) hq5) gX11_held_X3_heldCells rfl (na := 4) (by decide +kernel) rfl ⟨(Nat.le_of_ble_eq_true rfl), (Nat.le_of_ble_eq_true rfl)⟩ (cel_ne (cel_ne (cel_ne (cel_ne (cel_ne hc1 (by omega)) (by omega)) (by omega)) (by omega)) (by omega)) rfl (st := []) rfl (Nat.le_of_ble_eq_true rfl) ⟨(Nat.le_of_ble_eq_true rfl), (Nat.le_of_ble_eq_true rfl)⟩ dX11_held_49 (fun r49 N49 w49 hpo49 hN49 => ?_)
          obtain ⟨rfl, n9_49, g9_49, h9_49, s9_49, t9_49, rfl, rfl⟩ := hpo49
          refine x_v (congrArg (fun w => (va_up (va_up (va_up (va_up w (c + 14) (iarr E 8 g9_49)) (c + 15) (barr E 8 h9_49)) (c + 16) (iarr E 8 s9_49)) (c + 17) (iarr E 8 t9_49))) (show (va_up (va_up (va_up (va_up (va_up v (c + 13) (.inr (4, [.ref (B + (c + 14)), .ref (B + (c + 15)), .int (zI (n9_49 : Int)), .ref (B + (c + 16)), .ref (B + (c + 17))]))) (c + 14) (iarr E 8 g1)) (c + 15) (barr E 8 h1)) (c + 16) (iarr E 8 s1)) (c + 17) (iarr E 8 t1)) = _ from (up_at4 (by omega) (by omega) (by omega) (by omega)).symm)) ?_
          refine x_v (congrArg (fun w => (va_up (va_up (va_up w (c + 15) (barr E 8 h9_49)) (c + 16) (iarr E 8 s9_49)) (c + 17) (iarr E 8 t9_49))) (show (va_up (va_up (va_up (va_up (va_up v (c + 13) (.inr (4, [.ref (B + (c + 14)), .ref (B + (c + 15)), .int (zI (n9_49 : Int)), .ref (B + (c + 16)), .ref (B + (c + 17))]))) (c + 14) (iarr E 8 g9_49)) (c + 15) (barr E 8 h1)) (c + 16) (iarr E 8 s1)) (c + 17) (iarr E 8 t1)) = _ from (up_at3 (by omega) (by omega) (by omega)).symm)) ?_
          refine x_v (congrArg (fun w => (va_up (va_up w (c + 16) (iarr E 8 s9_49)) (c + 17) (iarr E 8 t9_49))) (show (va_up (va_up (va_up (va_up (va_up v (c + 13) (.inr (4, [.ref (B + (c + 14)), .ref (B + (c + 15)), .int (zI (n9_49 : Int)), .ref (B + (c + 16)), .ref (B + (c + 17))]))) (c + 14) (iarr E 8 g9_49)) (c + 15) (barr E 8 h9_49)) (c + 16) (iarr E 8 s1)) (c + 17) (iarr E 8 t1)) = _ from (up_at2 (by omega) (by omega)).symm)) ?_
          refine x_v (congrArg (fun w => (va_up w (c + 17) (iarr E 8 t9_49))) (show (va_up (va_up (va_up (va_up (va_up v (c + 13) (.inr (4, [.ref (B + (c + 14)), .ref (B + (c + 15)), .int (zI (n9_49 : Int)), .ref (B + (c + 16)), .ref (B + (c + 17))]))) (c + 14) (iarr E 8 g9_49)) (c + 15) (barr E 8 h9_49)) (c + 16) (iarr E 8 s9_49)) (c + 17) (iarr E 8 t1)) = _ from (up_at1 (by omega)).symm)) ?_
          refine x_v (w := (va_up (va_up (va_up (va_up (va_up v (c + 13) (.inr (4, [.ref (B + (c + 14)), .ref (B + (c + 15)), .int (zI (n9_49 : Int)), .ref (B + (c + 16)), .ref (B + (c + 17))]))) (c + 14) (iarr E 8 g9_49)) (c + 15) (barr E 8 h9_49)) (c + 16) (iarr E 8 s9_49)) (c + 17) (iarr E 8 t9_49))) (up_at0).symm ?_
          refine x_st (st' := [.int (zI (heldA p l ld m w (p 4).toNat))]) rfl ?_
          refine x_iret (pc := 52) K KR (by omega) (Nat.le_of_ble_eq_true rfl) (Nat.le_of_ble_eq_true rfl) dX11_held_52 ?_
          exact ⟨rfl, (heldA p l ld m w (p 4).toNat), (((n9_49 : Int)).toNat), g9_49, h9_49, s9_49, t9_49, (Or.inr ⟨by omega, rfl⟩), rfl, rfl⟩
        · skip
          refine x_ldc (pc := 37) (x := (-1000001)) (-1000001) K (by decide) (by decide +kernel) dX11_held_37 ?_
          refine x_iret (pc := 39) K KR (by omega) (Nat.le_of_ble_eq_true rfl) (Nat.le_of_ble_eq_true rfl) dX11_held_39 ?_
          exact ⟨rfl, (-1000001), n1, g1, h1, s1, t1, (Or.inl ⟨by omega, rfl⟩), rfl, rfl⟩
