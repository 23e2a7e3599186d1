theorem dX11_best_0 : decode cX11_best 0 = .ok (.aload_n 0, 1) := by decide +kernel
theorem dX11_best_1 : decode cX11_best 1 = .ok (.getfield 49, 3) := by decide +kernel
theorem dX11_best_4 : decode cX11_best 4 = .ok (.astore_n 3, 1) := by decide +kernel
theorem dX11_best_5 : decode cX11_best 5 = .ok (.aload_n 0, 1) := by decide +kernel
theorem dX11_best_6 : decode cX11_best 6 = .ok (.iload_n 1, 1) := by decide +kernel
set_option maxRecDepth 20000 in
theorem ggX11_best_X11_personAt : GoodIn wsX11_best wsX11_personAt := goodIn_r _ [9, 1, 10, 11, 12, 13, 14, 15, 16, 129, 130, 131, 132, 133, 134, 135, 136, 137, 138, 139, 140, 141, 142, 143, 144, 145, 146, 147, 148, 149, 150, 151] (by decide +kernel) (by decide +kernel)
set_option maxRecDepth 20000 in
theorem gX11_best_X11_personAt : GoodIn wsX11_best (wsV RX11 135 RX11 yX11_personAt wsX11_personAt) := goodIn_app (goodIn_of _ (by decide +kernel)) ggX11_best_X11_personAt
theorem dX11_best_7 : decode cX11_best 7 = .ok (.invokevirtual 135, 3) := by decide +kernel
theorem dX11_best_10 : decode cX11_best 10 = .ok (.astore 4, 2) := by decide +kernel
theorem dX11_best_12 : decode cX11_best 12 = .ok (.aload_n 3, 1) := by decide +kernel
theorem dX11_best_13 : decode cX11_best 13 = .ok (.ifnull 17, 3) := by decide +kernel
theorem dX11_best_30 : decode cX11_best 30 = .ok (.ldc 71, 2) := by decide +kernel
theorem dX11_best_32 : decode cX11_best 32 = .ok (.ireturn, 1) := by decide +kernel
theorem dX11_best_16 : decode cX11_best 16 = .ok (.aload 4, 2) := by decide +kernel
theorem dX11_best_18 : decode cX11_best 18 = .ok (.ifnull 12, 3) := by decide +kernel
theorem dX11_best_21 : decode cX11_best 21 = .ok (.iload_n 2, 1) := by decide +kernel
theorem dX11_best_22 : decode cX11_best 22 = .ok (.ifCond .lt 8, 3) := by decide +kernel
theorem dX11_best_25 : decode cX11_best 25 = .ok (.iload_n 2, 1) := by decide +kernel
theorem dX11_best_26 : decode cX11_best 26 = .ok (.iconst 1, 1) := by decide +kernel
theorem dX11_best_27 : decode cX11_best 27 = .ok (.if_icmp .le 6, 3) := by decide +kernel
theorem dX11_best_33 : decode cX11_best 33 = .ok (.aload_n 3, 1) := by decide +kernel
theorem dX11_best_34 : decode cX11_best 34 = .ok (.aload 4, 2) := by decide +kernel
theorem dX11_best_36 : decode cX11_best 36 = .ok (.aload_n 0, 1) := by decide +kernel
theorem dX11_best_37 : decode cX11_best 37 = .ok (.getfield 32, 3) := by decide +kernel
set_option maxRecDepth 20000 in
theorem ggX11_best_X3_bestOf : GoodIn wsX11_best wsX3_bestOf := goodIn_r _ [20, 21, 22, 23, 24, 25, 13, 26, 27, 28, 29, 30, 31, 32, 33, 34, 35, 36, 37, 38, 39, 40, 41, 42, 43, 44, 45, 46, 47, 48, 49, 50, 51, 52, 53, 54, 55, 56, 57, 58, 59, 60, 61, 62, 63, 64, 65, 66, 67, 68, 69, 70, 71, 72, 73, 74, 75, 76, 77, 78, 79, 80, 81, 82, 83, 84, 85, 86, 87, 88, 89, 90, 91, 92, 93, 94, 95, 96, 97, 98, 99, 100, 101, 102, 103, 104, 105, 106, 107, 108, 109, 110, 111, 112, 113, 114, 115, 116, 117, 118, 119, 120, 121, 122, 123, 124, 152, 153, 154, 155, 156, 157, 158, 159, 160, 161, 162, 163, 164, 165, 166, 167, 168, 169, 170, 171, 141, 142, 143, 144, 145, 146, 147, 148, 149, 150, 151, 172, 173, 174, 175, 176] (by decide +kernel) (by decide +kernel)
set_option maxRecDepth 20000 in
theorem gX11_best_X3_bestOf : GoodIn wsX11_best (wsV RX11 202 RX3 yX3_bestOf wsX3_bestOf) := goodIn_app (goodIn_of _ (by decide +kernel)) ggX11_best_X3_bestOf
theorem dX11_best_40 : decode cX11_best 40 = .ok (.invokevirtual 202, 3) := by decide +kernel
theorem dX11_best_43 : decode cX11_best 43 = .ok (.istore 5, 2) := by decide +kernel
theorem dX11_best_45 : decode cX11_best 45 = .ok (.iload_n 2, 1) := by decide +kernel
theorem dX11_best_46 : decode cX11_best 46 = .ok (.ifCond .eq 10, 3) := by decide +kernel
theorem dX11_best_56 : decode cX11_best 56 = .ok (.iload 5, 2) := by decide +kernel
theorem dX11_best_58 : decode cX11_best 58 = .ok (.goto 15, 3) := by decide +kernel
theorem dX11_best_73 : decode cX11_best 73 = .ok (.ireturn, 1) := by decide +kernel
theorem dX11_best_49 : decode cX11_best 49 = .ok (.iload 5, 2) := by decide +kernel
theorem dX11_best_51 : decode cX11_best 51 = .ok (.ldc 205, 2) := by decide +kernel
theorem dX11_best_53 : decode cX11_best 53 = .ok (.if_icmp .ne 8, 3) := by decide +kernel
theorem dX11_best_61 : decode cX11_best 61 = .ok (.aload_n 3, 1) := by decide +kernel
theorem dX11_best_62 : decode cX11_best 62 = .ok (.aload 4, 2) := by decide +kernel
theorem dX11_best_64 : decode cX11_best 64 = .ok (.iload 5, 2) := by decide +kernel
theorem dX11_best_66 : decode cX11_best 66 = .ok (.aload_n 0, 1) := by decide +kernel
theorem dX11_best_67 : decode cX11_best 67 = .ok (.getfield 32, 3) := by decide +kernel
set_option maxRecDepth 20000 in
theorem ggX11_best_X3_leadBehind : GoodIn wsX11_best wsX3_leadBehind := goodIn_r _ [128, 22, 57, 58, 59, 13, 60, 61, 62, 63, 64, 53, 65, 66, 67, 68, 69, 70, 71, 72, 55, 56, 73, 74, 75, 76, 77, 78, 79, 80, 81, 82, 83, 84, 85, 86, 87, 88, 89, 90, 91, 92, 93, 94, 95, 96, 97, 98, 99, 100, 101, 102, 103, 104, 105, 106, 107, 108, 109, 110, 111, 112, 113, 114, 115, 116, 117, 118, 119, 120, 152, 153, 154, 155, 156, 157, 158, 159, 160, 161, 162, 163, 164, 165, 166, 167, 168, 169, 170, 171, 141, 142, 143, 144, 145, 146, 147, 148, 149, 150, 151, 172, 173, 174, 175, 176] (by decide +kernel) (by decide +kernel)
set_option maxRecDepth 20000 in
theorem gX11_best_X3_leadBehind : GoodIn wsX11_best (wsV RX11 206 RX3 yX3_leadBehind wsX3_leadBehind) := goodIn_app (goodIn_of _ (by decide +kernel)) ggX11_best_X3_leadBehind
theorem dX11_best_70 : decode cX11_best 70 = .ok (.invokevirtual 206, 3) := by decide +kernel
set_option maxRecDepth 100000 in
set_option maxHeartbeats 4000000 in
theorem c_X11_best_0 {E : XE} {B N : Nat} {v : Nat → va_E} {old kept fau fin : Int} {x what : Int} (hc0 : Cel N v 0 (.inr (10, [.ref (B + 1), .ref (B + 2), .ref (B + 5), .ref (B + 7), .ref (B + 12), .ref (B + 13), .ref (B + 14), .null, .int (zI old), .int (zI kept), .int (zI fau), .int (zI fin)]))) : gM yX11_best wsX11_best ({ frames := 5, cells := 0, slots := 0, locals := 130 }) E B N v [.ref (B + 0), .int (zI x), .int (zI what)] (po0 N (fun ρ v' => ρ = some (.int (zI (-1000001))) ∧ v = v')) := by
  refine x_met (nm := "best") (by decide +kernel) rfl (Nat.le_of_ble_eq_true rfl) rfl (fun Γ K KR hnL hnm => ?_)
  show XW Γ N v [(0, .ref (B + 0)), (1, .int (zI x)), (2, .int (zI what))] 0 0 0 []
  refine x_aload_n (pc := 0) 0 K rfl rfl dX11_best_0 ?_
  refine x_get (pc := 1) (C := RX11) (T := TX11) (n := 12) (ci := 10) (idx := 49) (ref := "BorderBeds") (x := .null)  K hc0 rfl (by decide +kernel) 7 (by decide) (by decide +kernel) rfl rfl dX11_best_1 ?_
  refine x_astore_nN (pc := 4) K (L' := [(3, .null), (0, .ref (B + 0)), (1, .int (zI x)), (2, .int (zI what))]) hnL rfl (by decide) rfl dX11_best_4 ?_
  refine x_aload_n (pc := 5) 1 K rfl rfl dX11_best_5 ?_
  refine x_iload_n (pc := 6) 2 K rfl rfl dX11_best_6 ?_
  refine x_callV (pc := 7) (C := RX11) (T := TX11) (n := 12) (ci := 10) (As := [.int (zI x)]) K (c_X11_personAt_0 (E := E) (B := B) (N := N)   hc0 ) gX11_best_X11_personAt rfl (na := 1) (by decide +kernel) rfl ⟨(Nat.le_of_ble_eq_true rfl), (Nat.le_of_ble_eq_true rfl)⟩ hc0 rfl (st := []) rfl (Nat.le_of_ble_eq_true rfl) ⟨(Nat.le_of_ble_eq_true rfl), (Nat.le_of_ble_eq_true rfl)⟩ dX11_best_7 (fun r7 N7 w7 hpo7 hN7 => ?_)
  obtain ⟨rfl, rfl, rfl⟩ := hpo7
  refine x_st (st' := [.null]) rfl ?_
  refine x_astoreN (pc := 10) K (L' := [(4, .null), (3, .null), (0, .ref (B + 0)), (1, .int (zI x)), (2, .int (zI what))]) hnL (by decide) rfl dX11_best_10 ?_
  refine x_aload_nN (pc := 12) 1 K rfl rfl dX11_best_12 ?_
  refine x_ifnullN (pc := 13) (tgt := 30) K dX11_best_13 (by decide) ?_
  refine x_ldc (pc := 30) (x := (-1000001)) (-1000001) K (by decide) (by decide +kernel) dX11_best_30 ?_
  refine x_iret (pc := 32) K KR (by omega) (Nat.le_of_ble_eq_true rfl) (Nat.le_of_ble_eq_true rfl) dX11_best_32 ?_
  exact ⟨rfl, rfl, rfl⟩

set_option maxRecDepth 100000 in
set_option maxHeartbeats 4000000 in
theorem c_X11_best_c {E : XE} {B N : Nat} {v : Nat → va_E} {old kept fau fin : Int} {c n : Nat} {p g h s t : Nat → Int} {l : Cor} {g1 h1 s1 t1 : Nat → Int} {n1 : Nat} {x what : Int} (hc0 : Cel N v 0 (.inr (10, [.ref (B + 1), .ref (B + 2), .ref (B + 5), .ref (B + 7), .ref (B + 12), .ref (B + 13), .ref (B + 14), .ref (B + c), .int (zI old), .int (zI kept), .int (zI fau), .int (zI fin)]))) (hc1 : Cel N v c (.inr (3, [.int (zI (p 0)), .int (zI (p 1)), .int (zI (p 2)), .ref (B + (c + 1)), .ref (B + (c + 2)), .int (zI (p 3)), .ref (B + (c + 3)), .int (zI (p 4)), .ref (B + (c + 4)), .ref (B + (c + 13)), .ref (B + (c + 18))]))) (hc2 : Cel N v 7 (.inr (4, [.ref (B + 8), .ref (B + 9), .int (zI (n : Int)), .ref (B + 10), .ref (B + 11)]))) (hc3 : Cel N v 8 (iarr E 8 g)) (hc4 : Cel N v 9 (barr E 8 h)) (hc5 : Cel N v 10 (iarr E 8 s)) (hc6 : Cel N v 11 (iarr E 8 t)) (hc7 : Cel N v (c + 13) (.inr (4, [.ref (B + (c + 14)), .ref (B + (c + 15)), .int (zI (n1 : Int)), .ref (B + (c + 16)), .ref (B + (c + 17))]))) (hc8 : Cel N v (c + 14) (iarr E 8 g1)) (hc9 : Cel N v (c + 15) (barr E 8 h1)) (hc10 : Cel N v (c + 16) (iarr E 8 s1)) (hc11 : Cel N v (c + 17) (iarr E 8 t1)) (hc12 : Cel N v (c + 2) (barr E 48 (gA p))) (hc13 : Cel N v (c + 3) (rarr E 5 5 B (psA c p))) (hc14 : Cel N v (c + 4) (rarr E 6 8 B (ouA c))) (hF0 : ∀ x : Nat, x < 8 → Cel N v (c + 5 + x) (iarr E 7 (wbS p x))) (hF1 : ∀ x : Nat, (x : Int) < p 4 → Cel N v (c + 23 + x) (perE p x)) (hq0 : LR g h l) (hq1 : n = l.length ∧ (l.length : Int) ≤ p 2) (hq2 : CorOk l) (hq3 : SR (p 0) (p 1) l s t) (hq4 : POk p) (hq5 : ∀ i : Nat, i < 5 → (i : Int) < p 4 → 1 ≤ p (5 + i)) (hq6 : 12 ≤ c) (hq7 : (-2147483648 ≤ x ∧ x ≤ 2147483647)) (hq8 : (-2147483648 ≤ what ∧ what ≤ 2147483647)) : gM yX11_best wsX11_best ({ frames := 5, cells := 0, slots := 0, locals := 130 }) E B N v [.ref (B + 0), .int (zI x), .int (zI what)] (po0 N (fun ρ v' => ∃ (res : Int), ∃ (n9 : Nat), ∃ (g9 : Nat → Int), ∃ (h9 : Nat → Int), ∃ (s9 : Nat → Int), ∃ (t9 : Nat → Int), ((¬ ((0 ≤ x ∧ x ≤ p 4 - 1) ∧ 0 ≤ what ∧ what ≤ 1) ∧ res = -1000001) ∨ (((0 ≤ x ∧ x ≤ p 4 - 1) ∧ 0 ≤ what ∧ what ≤ 1) ∧ res = bestW (bestF p l x.toNat 48) what)) ∧ ρ = some (.int (zI res)) ∧ (va_up (va_up (va_up (va_up (va_up v (c + 13) (.inr (4, [.ref (B + (c + 14)), .ref (B + (c + 15)), .int (zI (n9 : Int)), .ref (B + (c + 16)), .ref (B + (c + 17))]))) (c + 14) (iarr E 8 g9)) (c + 15) (barr E 8 h9)) (c + 16) (iarr E 8 s9)) (c + 17) (iarr E 8 t9)) = v')) := by
  refine x_met (nm := "best") (by decide +kernel) rfl (Nat.le_of_ble_eq_true rfl) rfl (fun Γ K KR hnL hnm => ?_)
  show XW Γ N v [(0, .ref (B + 0)), (1, .int (zI x)), (2, .int (zI what))] 0 0 0 []
  have hP2 := hq4.2.2.1
  have hp4 := hq4.2.2.2.2.1
  refine x_v (cel_pad hc7) ?_
  refine x_v (cel_pad (cel_ne hc8 (by omega))) ?_
  refine x_v (cel_pad (cel_ne (cel_ne hc9 (by omega)) (by omega))) ?_
  refine x_v (cel_pad (cel_ne (cel_ne (cel_ne hc10 (by omega)) (by omega)) (by omega))) ?_
  refine x_v (cel_pad (cel_ne (cel_ne (cel_ne (cel_ne hc11 (by omega)) (by omega)) (by omega)) (by omega))) ?_
  by_cases hx : 0 ≤ x ∧ x ≤ p 4 - 1
  · skip
    obtain ⟨xx, rfl⟩ : ∃ xx : Nat, x = (xx : Int) := ⟨x.toNat, by omega⟩
    obtain ⟨o, ho⟩ : ∃ o : Nat, o = c + 23 + xx := ⟨_, rfl⟩
    have hco : Cel N v o (perE p xx) := by rw [ho]; exact hF1 xx (by omega)
    have hwo := hq4.2.2.2.2.2.1 xx (by omega)
    have hko := hq5 xx (by omega) (by omega)
    refine x_aload_n (pc := 0) 0 K rfl rfl dX11_best_0 ?_
    refine x_get (pc := 1) (C := RX11) (T := TX11) (n := 12) (ci := 10) (idx := 49) (ref := "BorderBeds") (x := .ref (B + c))  K (cel_ne (cel_ne (cel_ne (cel_ne (cel_ne hc0 (by omega)) (by omega)) (by omega)) (by omega)) (by omega)) rfl (by decide +kernel) 7 (by decide) (by decide +kernel) rfl rfl dX11_best_1 ?_
    refine x_astore_n (pc := 4) K (L' := [(3, .ref (B + c)), (0, .ref (B + 0)), (1, .int (zI (xx : Int))), (2, .int (zI what))]) hnL rfl (by decide) rfl dX11_best_4 ?_
    refine x_aload_n (pc := 5) 1 K rfl rfl dX11_best_5 ?_
    refine x_iload_n (pc := 6) 2 K rfl rfl dX11_best_6 ?_
    refine x_callV (pc := 7) (C := RX11) (T := TX11) (n := 12) (ci := 10) (As := [.int (zI (xx : Int))]) K (c_X11_personAt_y (E := E) (B := B) (N := N) (o := o) (x := xx) rfl (cel_ne (cel_ne (cel_ne (cel_ne (cel_ne hc0 (by omega)) (by omega)) (by omega)) (by omega)) (by omega)) (cel_ne (cel_ne (cel_ne (cel_ne (cel_ne hc1 (by omega)) (by omega)) (by omega)) (by omega)) (by omega)) (cel_ne (cel_ne (cel_ne (cel_ne (cel_ne hc13 (by omega)) (by omega)) (by omega)) (by omega)) (by omega)) (by omega) (by omega) ho) gX11_best_X11_personAt rfl (na := 1) (by decide +kernel) rfl ⟨(Nat.le_of_ble_eq_true rfl), (Nat.le_of_ble_eq_true rfl)⟩ (cel_ne (cel_ne (cel_ne (cel_ne (cel_ne hc0 (by omega)) (by omega)) (by omega)) (by omega)) (by omega)) rfl (st := []) rfl (Nat.le_of_ble_eq_true rfl) ⟨(Nat.le_of_ble_eq_true rfl), (Nat.le_of_ble_eq_true rfl)⟩ dX11_best_7 (fun r7 N7 w7 hpo7 hN7 => ?_)
    obtain ⟨rfl, rfl, rfl⟩ := hpo7
    refine x_st (st' := [.ref (B + o)]) rfl ?_
    refine x_astore (pc := 10) K (L' := [(4, .ref (B + o)), (3, .ref (B + c)), (0, .ref (B + 0)), (1, .int (zI (xx : Int))), (2, .int (zI what))]) hnL (by decide) rfl dX11_best_10 ?_
    refine x_aload_n (pc := 12) 1 K rfl rfl dX11_best_12 ?_
    refine x_ifnull (pc := 13) K dX11_best_13 ?_
    refine x_aload (pc := 16) 0 K rfl dX11_best_16 ?_
    refine x_ifnull (pc := 18) K dX11_best_18 ?_
    refine x_iload_n (pc := 21) 4 K rfl rfl dX11_best_21 ?_
    refine x_if_lt (pc := 22) (tgt := 30) K (by omega) dX11_best_22 (by decide) (fun h_22 => ?_) (fun h_22 => ?_)
    · skip
      refine x_ldc (pc := 30) (x := (-1000001)) (-1000001) K (by decide) (by decide +kernel) dX11_best_30 ?_
      refine x_iret (pc := 32) K KR (by omega) (Nat.le_of_ble_eq_true rfl) (Nat.le_of_ble_eq_true rfl) dX11_best_32 ?_
      exact ⟨rfl, (-1000001), n1, g1, h1, s1, t1, (Or.inl ⟨by omega, rfl⟩), rfl, rfl⟩
    · skip
      refine x_iload_n (pc := 25) 4 K rfl rfl dX11_best_25 ?_
      refine x_iconst (pc := 26) K dX11_best_26 ?_
      refine x_icmp_le (pc := 27) (tgt := 33) K (by omega) (by decide) dX11_best_27 (by decide) (fun h_27 => ?_) (fun h_27 => ?_)
      · skip
        refine x_aload_n (pc := 33) 1 K rfl rfl dX11_best_33 ?_
        refine x_aload (pc := 34) 0 K rfl dX11_best_34 ?_
        refine x_aload_n (pc := 36) 2 K rfl rfl dX11_best_36 ?_
        refine x_get (pc := 37) (C := RX11) (T := TX11) (n := 12) (ci := 10) (idx := 32) (ref := "BorderBeds") (x := .ref (B + 7))  K (cel_ne (cel_ne (cel_ne (cel_ne (cel_ne hc0 (by omega)) (by omega)) (by omega)) (by omega)) (by omega)) rfl (by decide +kernel) 3 (by decide) (by decide +kernel) rfl rfl dX11_best_37 ?_
        refine x_callV (pc := 40) (C := RX3) (T := TX3) (n := 11) (ci := 3) (As := [.ref (B + o), .ref (B + 7)]) K (c_X3_bestOf (E := E) (B := B) (N := N) (l := l) (who := xx)  (cel_ne (cel_ne (cel_ne (cel_ne (cel_ne hc1 (by omega)) (by omega)) (by omega)) (by omega)) (by omega)) (cel_ne (cel_ne (cel_ne (cel_ne (cel_self hc7.1) (by omega)) (by omega)) (by omega)) (by omega)) (cel_ne (cel_ne (cel_ne (cel_self hc8.1) (by omega)) (by omega)) (by omega)) (cel_ne (cel_ne (cel_self hc9.1) (by omega)) (by omega)) (cel_ne (cel_self hc10.1) (by omega)) (cel_self hc11.1) (cel_ne (cel_ne (cel_ne (cel_ne (cel_ne hc2 (by omega)) (by omega)) (by omega)) (by omega)) (by omega)) (cel_ne (cel_ne (cel_ne (cel_ne (cel_ne hc3 (by omega)) (by omega)) (by omega)) (by omega)) (by omega)) (cel_ne (cel_ne (cel_ne (cel_ne (cel_ne hc4 (by omega)) (by omega)) (by omega)) (by omega)) (by omega)) (cel_ne (cel_ne (cel_ne (cel_ne (cel_ne hc5 (by omega)) (by omega)) (by omega)) (by omega)) (by omega)) (cel_ne (cel_ne (cel_ne (cel_ne (cel_ne hc6 (by omega)) (by omega)) (by omega)) (by omega)) (by omega)) (cel_ne (cel_ne (cel_ne (cel_ne (cel_ne hco (by omega)) (by omega)) (by omega)) (by omega)) (by omega)) (cel_ne (cel_ne (cel_ne (cel_ne (cel_ne hc14 (by omega)) (by omega)) (by omega)) (by omega)) (by omega)) (cel_ne (cel_ne (cel_ne (cel_ne (cel_ne hc12 (by omega)) (by omega)) (by omega)) (by omega)) (by omega)) (fun x hx => (cel_ne (cel_ne (cel_ne (cel_ne (cel_ne (hF0 x hx) (by omega)) (by omega)) (by omega)) (by omega)) (by omega))) hq0 hq1 hq2 hq3 hq4 (by omega) (by omega) (by omega) (by omega)) gX11_best_X3_bestOf rfl (na := 2) (by decide +kernel) rfl ⟨(Nat.le_of_ble_eq_true rfl), (Nat.le_of_ble_eq_true rfl)⟩ (cel_ne (cel_ne (cel_ne (cel_ne (cel_ne hc1 (by omega)) (by omega)) (by omega)) (by omega)) (by omega)) rfl (st := []) rfl (Nat.le_of_ble_eq_true rfl) ⟨(Nat.le_of_ble_eq_true rfl), (Nat.le_of_ble_eq_true rfl)⟩ dX11_best_40 (fun r40 N40 w40 hpo40 hN40 => ?_)
        obtain ⟨rfl, res_40, n9_40, g9_40, h9_40, s9_40, t9_40, hp40_0, hp40_1, rfl, rfl⟩ := hpo40
        refine x_v (congrArg (fun w => (va_up (va_up (va_up (va_up w (c + 14) (iarr E 8 g9_40)) (c + 15) (barr E 8 h9_40)) (c + 16) (iarr E 8 s9_40)) (c + 17) (iarr E 8 t9_40))) (show (va_up (va_up (va_up (va_up (va_up v (c + 13) (.inr (4, [.ref (B + (c + 14)), .ref (B + (c + 15)), .int (zI (n9_40 : Int)), .ref (B + (c + 16)), .ref (B + (c + 17))]))) (c + 14) (iarr E 8 g1)) (c + 15) (barr E 8 h1)) (c + 16) (iarr E 8 s1)) (c + 17) (iarr E 8 t1)) = _ from (up_at4 (by omega) (by omega) (by omega) (by omega)).symm)) ?_
        refine x_v (congrArg (fun w => (va_up (va_up (va_up w (c + 15) (barr E 8 h9_40)) (c + 16) (iarr E 8 s9_40)) (c + 17) (iarr E 8 t9_40))) (show (va_up (va_up (va_up (va_up (va_up v (c + 13) (.inr (4, [.ref (B + (c + 14)), .ref (B + (c + 15)), .int (zI (n9_40 : Int)), .ref (B + (c + 16)), .ref (B + (c + 17))]))) (c + 14) (iarr E 8 g9_40)) (c + 15) (barr E 8 h1)) (c + 16) (iarr E 8 s1)) (c + 17) (iarr E 8 t1)) = _ from (up_at3 (by omega) (by omega) (by omega)).symm)) ?_
        refine x_v (congrArg (fun w => (va_up (va_up w (c + 16) (iarr E 8 s9_40)) (c + 17) (iarr E 8 t9_40))) (show (va_up (va_up (va_up (va_up (va_up v (c + 13) (.inr (4, [.ref (B + (c + 14)), .ref (B + (c + 15)), .int (zI (n9_40 : Int)), .ref (B + (c + 16)), .ref (B + (c + 17))]))) (c + 14) (iarr E 8 g9_40)) (c + 15) (barr E 8 h9_40)) (c + 16) (iarr E 8 s1)) (c + 17) (iarr E 8 t1)) = _ from (up_at2 (by omega) (by omega)).symm)) ?_
        refine x_v (congrArg (fun w => (va_up w (c + 17) (iarr E 8 t9_40))) (show (va_up (va_up (va_up (va_up (va_up v (c + 13) (.inr (4, [.ref (B + (c + 14)), .ref (B + (c + 15)), .int (zI (n9_40 : Int)), .ref (B + (c + 16)), .ref (B + (c + 17))]))) (c + 14) (iarr E 8 g9_40)) (c + 15) (barr E 8 h9_40)) (c + 16) (iarr E 8 s9_40)) (c + 17) (iarr E 8 t1)) = _ from (up_at1 (by omega)).symm)) ?_
        refine x_v (w := (va_up (va_up (va_up (va_up (va_up v (c + 13) (.inr (4, [.ref (B + (c + 14)), .ref (B + (c + 15)), .int (zI (n9_40 : Int)), .ref (B + (c + 16)), .ref (B + (c + 17))]))) (c + 14) (iarr E 8 g9_40)) (c + 15) (barr E 8 h9_40)) (c + 16) (iarr E 8 s9_40)) (c + 17) (iarr E 8 t9_40))) (up_at0).symm ?_
        refine x_st (st' := [.int (zI res_40)]) rfl ?_
        obtain ⟨bl, m9, hb8⟩ := hp40_0
        refine x_istore (pc := 43) K (L' := [(5, .int (zI res_40)), (4, .ref (B + o)), (3, .ref (B + c)), (0, .ref (B + 0)), (1, .int (zI (xx : Int))), (2, .int (zI what))]) hnL (by decide) rfl dX11_best_43 ?_
        refine x_iload_n (pc := 45) 5 K rfl rfl dX11_best_45 ?_
        refine x_if_eq (pc := 46) (tgt := 56) K (by omega) dX11_best_46 (by decide) (fun h_46 => ?_) (fun h_46 => ?_)
        · skip
          refine x_iload (pc := 56) 0 K rfl dX11_best_56 ?_
          refine x_goto (pc := 58) (tgt := 73) K dX11_best_58 (by decide) ?_
          refine x_iret (pc := 73) K KR (by omega) (Nat.le_of_ble_eq_true rfl) (Nat.le_of_ble_eq_true rfl) dX11_best_73 ?_
          exact ⟨rfl, res_40, (((n9_40 : Int)).toNat), g9_40, h9_40, s9_40, t9_40, (Or.inr ⟨by omega, by rw [Int.toNat_natCast]; exact bestW_of hb8 (by first | exact Or.inl ⟨by omega, rfl⟩ | exact Or.inr (Or.inl ⟨by omega, rfl⟩))⟩), rfl, rfl⟩
        · skip
          refine x_iload (pc := 49) 0 K rfl dX11_best_49 ?_
          refine x_ldc (pc := 51) (x := (-1000000)) (-1000000) K (by decide) (by decide +kernel) dX11_best_51 ?_
          refine x_icmp_ne (pc := 53) (tgt := 61) K (by omega) (by decide) dX11_best_53 (by decide) (fun h_53 => ?_) (fun h_53 => ?_)
          · skip
            obtain ⟨bb, hbb⟩ : ∃ j : Nat, res_40 = (j : Int) := ⟨res_40.toNat, by omega⟩
            refine x_L (L' := [(5, .int (zI (bb : Int))), (4, .ref (B + o)), (3, .ref (B + c)), (0, .ref (B + 0)), (1, .int (zI (xx : Int))), (2, .int (zI what))]) (by rw [show res_40 = (bb : Int) by omega]) ?_
            refine x_aload_n (pc := 61) 2 K rfl rfl dX11_best_61 ?_
            refine x_aload (pc := 62) 1 K rfl dX11_best_62 ?_
            refine x_iload (pc := 64) 0 K rfl dX11_best_64 ?_
            refine x_aload_n (pc := 66) 3 K rfl rfl dX11_best_66 ?_
            refine x_get (pc := 67) (C := RX11) (T := TX11) (n := 12) (ci := 10) (idx := 32) (ref := "BorderBeds") (x := .ref (B + 7))  K (cel_ne (cel_ne (cel_ne (cel_ne (cel_ne hc0 (by omega)) (by omega)) (by omega)) (by omega)) (by omega)) rfl (by decide +kernel) 3 (by decide) (by decide +kernel) rfl rfl dX11_best_67 ?_
            refine x_callV (pc := 70) (C := RX3) (T := TX3) (n := 11) (ci := 3) (As := [.ref (B + o), .int (zI (bb : Int)), .ref (B + 7)]) K (c_X3_leadBehind (E := E) (B := B) (N := N) (l := l) (who := xx) (cell := bb) rfl (cel_ne (cel_ne (cel_ne (cel_ne (cel_ne hc1 (by omega)) (by omega)) (by omega)) (by omega)) (by omega)) (cel_ne (cel_ne (cel_ne (cel_ne (cel_self hc7.1) (by omega)) (by omega)) (by omega)) (by omega)) (cel_ne (cel_ne (cel_ne (cel_self hc8.1) (by omega)) (by omega)) (by omega)) (cel_ne (cel_ne (cel_self hc9.1) (by omega)) (by omega)) (cel_ne (cel_self hc10.1) (by omega)) (cel_self hc11.1) (cel_ne (cel_ne (cel_ne (cel_ne (cel_ne hc2 (by omega)) (by omega)) (by omega)) (by omega)) (by omega)) (cel_ne (cel_ne (cel_ne (cel_ne (cel_ne hc3 (by omega)) (by omega)) (by omega)) (by omega)) (by omega)) (cel_ne (cel_ne (cel_ne (cel_ne (cel_ne hc4 (by omega)) (by omega)) (by omega)) (by omega)) (by omega)) (cel_ne (cel_ne (cel_ne (cel_ne (cel_ne hc5 (by omega)) (by omega)) (by omega)) (by omega)) (by omega)) (cel_ne (cel_ne (cel_ne (cel_ne (cel_ne hc6 (by omega)) (by omega)) (by omega)) (by omega)) (by omega)) (cel_ne (cel_ne (cel_ne (cel_ne (cel_ne hco (by omega)) (by omega)) (by omega)) (by omega)) (by omega)) (cel_ne (cel_ne (cel_ne (cel_ne (cel_ne hc14 (by omega)) (by omega)) (by omega)) (by omega)) (by omega)) (fun x hx => (cel_ne (cel_ne (cel_ne (cel_ne (cel_ne (hF0 x hx) (by omega)) (by omega)) (by omega)) (by omega)) (by omega))) hq0 hq1 hq2 hq3 hq4 (by omega) (by omega) (by omega) (by omega) (by omega)) gX11_best_X3_leadBehind rfl (na := 3) (by decide +kernel) rfl ⟨(Nat.le_of_ble_eq_true rfl), (Nat.le_of_ble_eq_true rfl)⟩ (cel_ne (cel_ne (cel_ne (cel_ne (cel_ne hc1 (by omega)) (by omega)) (by omega)) (by omega)) (by omega)) rfl (st := []) rfl (Nat.le_of_ble_eq_true rfl) ⟨(Nat.le_of_ble_eq_true rfl), (Nat.le_of_ble_eq_true rfl)⟩ dX11_best_70 (fun r70 N70 w70 hpo70 hN70 => ?_)
            obtain ⟨rfl, g2_70, h2_70, s2_70, t2_70, hp70_0, hp70_1, rfl, rfl⟩ := hpo70
            refine x_v (congrArg (fun w => (va_up (va_up (va_up (va_up w (c + 14) (iarr E 8 g2_70)) (c + 15) (barr E 8 h2_70)) (c + 16) (iarr E 8 s2_70)) (c + 17) (iarr E 8 t2_70))) (show (va_up (va_up (va_up (va_up (va_up v (c + 13) (.inr (4, [.ref (B + (c + 14)), .ref (B + (c + 15)), .int (zI (((crossA (p (5 + xx)) (p 2) bb l).length : Nat) : Int)), .ref (B + (c + 16)), .ref (B + (c + 17))]))) (c + 14) (iarr E 8 g9_40)) (c + 15) (barr E 8 h9_40)) (c + 16) (iarr E 8 s9_40)) (c + 17) (iarr E 8 t9_40)) = _ from (up_at4 (by omega) (by omega) (by omega) (by omega)).symm)) ?_
            refine x_v (congrArg (fun w => (va_up (va_up (va_up w (c + 15) (barr E 8 h2_70)) (c + 16) (iarr E 8 s2_70)) (c + 17) (iarr E 8 t2_70))) (show (va_up (va_up (va_up (va_up (va_up v (c + 13) (.inr (4, [.ref (B + (c + 14)), .ref (B + (c + 15)), .int (zI (((crossA (p (5 + xx)) (p 2) bb l).length : Nat) : Int)), .ref (B + (c + 16)), .ref (B + (c + 17))]))) (c + 14) (iarr E 8 g2_70)) (c + 15) (barr E 8 h9_40)) (c + 16) (iarr E 8 s9_40)) (c + 17) (iarr E 8 t9_40)) = _ from (up_at3 (by omega) (by omega) (by omega)).symm)) ?_
            refine x_v (congrArg (fun w => (va_up (va_up w (c + 16) (iarr E 8 s2_70)) (c + 17) (iarr E 8 t2_70))) (show (va_up (va_up (va_up (va_up (va_up v (c + 13) (.inr (4, [.ref (B + (c + 14)), .ref (B + (c + 15)), .int (zI (((crossA (p (5 + xx)) (p 2) bb l).length : Nat) : Int)), .ref (B + (c + 16)), .ref (B + (c + 17))]))) (c + 14) (iarr E 8 g2_70)) (c + 15) (barr E 8 h2_70)) (c + 16) (iarr E 8 s9_40)) (c + 17) (iarr E 8 t9_40)) = _ from (up_at2 (by omega) (by omega)).symm)) ?_
            refine x_v (congrArg (fun w => (va_up w (c + 17) (iarr E 8 t2_70))) (show (va_up (va_up (va_up (va_up (va_up v (c + 13) (.inr (4, [.ref (B + (c + 14)), .ref (B + (c + 15)), .int (zI (((crossA (p (5 + xx)) (p 2) bb l).length : Nat) : Int)), .ref (B + (c + 16)), .ref (B + (c + 17))]))) (c + 14) (iarr E 8 g2_70)) (c + 15) (barr E 8 h2_70)) (c + 16) (iarr E 8 s2_70)) (c + 17) (iarr E 8 t9_40)) = _ from (up_at1 (by omega)).symm)) ?_
            refine x_v (w := (va_up (va_up (va_up (va_up (va_up v (c + 13) (.inr (4, [.ref (B + (c + 14)), .ref (B + (c + 15)), .int (zI (((crossA (p (5 + xx)) (p 2) bb l).length : Nat) : Int)), .ref (B + (c + 16)), .ref (B + (c + 17))]))) (c + 14) (iarr E 8 g2_70)) (c + 15) (barr E 8 h2_70)) (c + 16) (iarr E 8 s2_70)) (c + 17) (iarr E 8 t2_70))) (up_at0).symm ?_
            refine x_st (st' := [.int (zI (leadA p (crossA (p (5 + xx)) (p 2) bb l) (p (10 + xx))))]) rfl ?_
            refine x_iret (pc := 73) K KR (by omega) (Nat.le_of_ble_eq_true rfl) (Nat.le_of_ble_eq_true rfl) dX11_best_73 ?_
            exact ⟨rfl, (leadA p (crossA (p (5 + xx)) (p 2) bb l) (p (10 + xx))), ((crossA (p (5 + xx)) (p 2) bb l).length), g2_70, h2_70, s2_70, t2_70, (Or.inr ⟨by omega, by rw [Int.toNat_natCast]; exact bestW_of hb8 (Or.inr (Or.inr ⟨by omega, by omega, (best_lead hb8 (by omega)).symm⟩))⟩), rfl, rfl⟩
          · skip
            refine x_iload (pc := 56) 0 K rfl dX11_best_56 ?_
            refine x_goto (pc := 58) (tgt := 73) K dX11_best_58 (by decide) ?_
            refine x_iret (pc := 73) K KR (by omega) (Nat.le_of_ble_eq_true rfl) (Nat.le_of_ble_eq_true rfl) dX11_best_73 ?_
            exact ⟨rfl, res_40, (((n9_40 : Int)).toNat), g9_40, h9_40, s9_40, t9_40, (Or.inr ⟨by omega, by rw [Int.toNat_natCast]; exact bestW_of hb8 (by first | exact Or.inl ⟨by omega, rfl⟩ | exact Or.inr (Or.inl ⟨by omega, rfl⟩))⟩), rfl, rfl⟩
      · skip
        refine x_ldc (pc := 30) (x := (-1000001)) (-1000001) K (by decide) (by decide +kernel) dX11_best_30 ?_
        refine x_iret (pc := 32) K KR (by omega) (Nat.le_of_ble_eq_true rfl) (Nat.le_of_ble_eq_true rfl) dX11_best_32 ?_
        exact ⟨rfl, (-1000001), n1, g1, h1, s1, t1, (Or.inl ⟨by omega, rfl⟩), rfl, rfl⟩
  · skip
    refine x_aload_n (pc := 0) 0 K rfl rfl dX11_best_0 ?_
    refine x_get (pc := 1) (C := RX11) (T := TX11) (n := 12) (ci := 10) (idx := 49) (ref := "BorderBeds") (x := .ref (B + c))  K (cel_ne (cel_ne (cel_ne (cel_ne (cel_ne hc0 (by omega)) (by omega)) (by omega)) (by omega)) (by omega)) rfl (by decide +kernel) 7 (by decide) (by decide +kernel) rfl rfl dX11_best_1 ?_
    refine x_astore_n (pc := 4) K (L' := [(3, .ref (B + c)), (0, .ref (B + 0)), (1, .int (zI x)), (2, .int (zI what))]) hnL rfl (by decide) rfl dX11_best_4 ?_
    refine x_aload_n (pc := 5) 1 K rfl rfl dX11_best_5 ?_
    refine x_iload_n (pc := 6) 2 K rfl rfl dX11_best_6 ?_
    refine x_callV (pc := 7) (C := RX11) (T := TX11) (n := 12) (ci := 10) (As := [.int (zI x)]) K (c_X11_personAt_n (E := E) (B := B) (N := N)   (cel_ne (cel_ne (cel_ne (cel_ne (cel_ne hc0 (by omega)) (by omega)) (by omega)) (by omega)) (by omega)) (cel_ne (cel_ne (cel_ne (cel_ne (cel_ne hc1 (by omega)) (by omega)) (by omega)) (by omega)) (by omega)) (cel_ne (cel_ne (cel_ne (cel_ne (cel_ne hc13 (by omega)) (by omega)) (by omega)) (by omega)) (by omega)) hx (by omega) (by omega)) gX11_best_X11_personAt rfl (na := 1) (by decide +kernel) rfl ⟨(Nat.le_of_ble_eq_true rfl), (Nat.le_of_ble_eq_true rfl)⟩ (cel_ne (cel_ne (cel_ne (cel_ne (cel_ne hc0 (by omega)) (by omega)) (by omega)) (by omega)) (by omega)) rfl (st := []) rfl (Nat.le_of_ble_eq_true rfl) ⟨(Nat.le_of_ble_eq_true rfl), (Nat.le_of_ble_eq_true rfl)⟩ dX11_best_7 (fun r7 N7 w7 hpo7 hN7 => ?_)
    obtain ⟨rfl, rfl, rfl⟩ := hpo7
    refine x_st (st' := [.null]) rfl ?_
    refine x_astoreN (pc := 10) K (L' := [(4, .null), (3, .ref (B + c)), (0, .ref (B + 0)), (1, .int (zI x)), (2, .int (zI what))]) hnL (by decide) rfl dX11_best_10 ?_
    refine x_aload_n (pc := 12) 1 K rfl rfl dX11_best_12 ?_
    refine x_ifnull (pc := 13) K dX11_best_13 ?_
    refine x_aloadN (pc := 16) 0 K rfl dX11_best_16 ?_
    refine x_ifnullN (pc := 18) (tgt := 30) K dX11_best_18 (by decide) ?_
    refine x_ldc (pc := 30) (x := (-1000001)) (-1000001) K (by decide) (by decide +kernel) dX11_best_30 ?_
    refine x_iret (pc := 32) K KR (by omega) (Nat.le_of_ble_eq_true rfl) (Nat.le_of_ble_eq_true rfl) dX11_best_32 ?_
    exact ⟨rfl, (-1000001), n1, g1, h1, s1, t1, (Or.inl ⟨by omega, rfl⟩), rfl, rfl⟩
