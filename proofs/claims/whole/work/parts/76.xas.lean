theorem dX11_as_0 : decode cX11_as 0 = .ok (.aload_n 0, 1) := by decide +kernel
theorem dX11_as_1 : decode cX11_as 1 = .ok (.iload_n 1, 1) := by decide +kernel
set_option maxRecDepth 20000 in
theorem ggX11_as_X11_personAt : GoodIn wsX11_as wsX11_personAt := goodIn_r _ [7, 8, 9, 10, 11, 12, 13, 14, 15, 54, 55, 56, 57, 58, 59, 60, 61, 62, 63, 64, 65, 66, 67, 68, 69, 70, 71, 72, 73, 74, 75, 76] (by decide +kernel) (by decide +kernel)
set_option maxRecDepth 20000 in
theorem gX11_as_X11_personAt : GoodIn wsX11_as (wsV RX11 135 RX11 yX11_personAt wsX11_personAt) := goodIn_app (goodIn_of _ (by decide +kernel)) ggX11_as_X11_personAt
theorem dX11_as_2 : decode cX11_as 2 = .ok (.invokevirtual 135, 3) := by decide +kernel
theorem dX11_as_5 : decode cX11_as 5 = .ok (.astore_n 3, 1) := by decide +kernel
theorem dX11_as_6 : decode cX11_as 6 = .ok (.aload_n 3, 1) := by decide +kernel
theorem dX11_as_7 : decode cX11_as 7 = .ok (.ifnull 13, 3) := by decide +kernel
theorem dX11_as_20 : decode cX11_as 20 = .ok (.ldc 71, 2) := by decide +kernel
theorem dX11_as_22 : decode cX11_as 22 = .ok (.ireturn, 1) := by decide +kernel
theorem dX11_as_10 : decode cX11_as 10 = .ok (.iload_n 2, 1) := by decide +kernel
theorem dX11_as_11 : decode cX11_as 11 = .ok (.ifCond .lt 9, 3) := by decide +kernel
theorem dX11_as_14 : decode cX11_as 14 = .ok (.iload_n 2, 1) := by decide +kernel
theorem dX11_as_15 : decode cX11_as 15 = .ok (.bipush 6, 2) := by decide +kernel
theorem dX11_as_17 : decode cX11_as 17 = .ok (.if_icmp .lt 6, 3) := by decide +kernel
theorem dX11_as_23 : decode cX11_as 23 = .ok (.aload_n 3, 1) := by decide +kernel
theorem dX11_as_24 : decode cX11_as 24 = .ok (.iload_n 2, 1) := by decide +kernel
set_option maxRecDepth 20000 in
theorem ggX11_as_X11_isOne : GoodIn wsX11_as wsX11_isOne := goodIn_r _ [18, 19, 20, 21, 22, 23] (by decide +kernel) (by decide +kernel)
set_option maxRecDepth 20000 in
theorem gX11_as_X11_isOne : GoodIn wsX11_as (va_wsS RX11 237 yX11_isOne wsX11_isOne) := goodIn_app (goodIn_of _ (by decide +kernel)) ggX11_as_X11_isOne
theorem dX11_as_25 : decode cX11_as 25 = .ok (.invokestatic 237, 3) := by decide +kernel
theorem dX11_as_28 : decode cX11_as 28 = .ok (.ifCond .ne 9, 3) := by decide +kernel
theorem dX11_as_37 : decode cX11_as 37 = .ok (.aload_n 0, 1) := by decide +kernel
theorem dX11_as_38 : decode cX11_as 38 = .ok (.aload_n 3, 1) := by decide +kernel
theorem dX11_as_39 : decode cX11_as 39 = .ok (.getfield 241, 3) := by decide +kernel
set_option maxRecDepth 20000 in
theorem ggX11_as_X11_withoutFinding : GoodIn wsX11_as wsX11_withoutFinding := goodIn_r _ [33, 28, 54, 55, 56, 57, 58, 59, 60, 61, 62, 63, 64, 65] (by decide +kernel) (by decide +kernel)
set_option maxRecDepth 20000 in
theorem gX11_as_X11_withoutFinding : GoodIn wsX11_as (wsV RX11 80 RX11 yX11_withoutFinding wsX11_withoutFinding) := goodIn_app (goodIn_of _ (by decide +kernel)) ggX11_as_X11_withoutFinding
theorem dX11_as_42 : decode cX11_as 42 = .ok (.invokevirtual 80, 3) := by decide +kernel
theorem dX11_as_45 : decode cX11_as 45 = .ok (.ireturn, 1) := by decide +kernel
theorem dX11_as_31 : decode cX11_as 31 = .ok (.aload_n 0, 1) := by decide +kernel
theorem dX11_as_32 : decode cX11_as 32 = .ok (.iconst 3, 1) := by decide +kernel
set_option maxRecDepth 20000 in
theorem ggX11_as_X11_finding : GoodIn wsX11_as wsX11_finding := goodIn_r _ [27, 28, 29, 54, 55, 56, 57, 58, 59, 60, 61, 62, 63, 64, 65] (by decide +kernel) (by decide +kernel)
set_option maxRecDepth 20000 in
theorem gX11_as_X11_finding : GoodIn wsX11_as (wsV RX11 72 RX11 yX11_finding wsX11_finding) := goodIn_app (goodIn_of _ (by decide +kernel)) ggX11_as_X11_finding
theorem dX11_as_33 : decode cX11_as 33 = .ok (.invokevirtual 72, 3) := by decide +kernel
theorem dX11_as_36 : decode cX11_as 36 = .ok (.ireturn, 1) := by decide +kernel
set_option maxRecDepth 100000 in
set_option maxHeartbeats 4000000 in
theorem c_X11_as_0 {E : XE} {B N : Nat} {v : Nat → va_E} {old kept fau fin : Int} {x k : Int} (hc0 : Cel N v 0 (.inr (10, [.ref (B + 1), .ref (B + 2), .ref (B + 5), .ref (B + 7), .ref (B + 12), .ref (B + 13), .ref (B + 14), .null, .int (zI old), .int (zI kept), .int (zI fau), .int (zI fin)]))) : gM yX11_as wsX11_as ({ frames := 2, cells := 0, slots := 0, locals := 42 }) E B N v [.ref (B + 0), .int (zI x), .int (zI k)] (po0 N (fun ρ v' => ρ = some (.int (zI (-1000001))) ∧ v = v')) := by
  refine x_met (nm := "as") (by decide +kernel) rfl (Nat.le_of_ble_eq_true rfl) rfl (fun Γ K KR hnL hnm => ?_)
  show XW Γ N v [(0, .ref (B + 0)), (1, .int (zI x)), (2, .int (zI k))] 0 0 0 []
  refine x_aload_n (pc := 0) 0 K rfl rfl dX11_as_0 ?_
  refine x_iload_n (pc := 1) 1 K rfl rfl dX11_as_1 ?_
  refine x_callV (pc := 2) (C := RX11) (T := TX11) (n := 12) (ci := 10) (As := [.int (zI x)]) K (c_X11_personAt_0 (E := E) (B := B) (N := N)   hc0 ) gX11_as_X11_personAt rfl (na := 1) (by decide +kernel) rfl ⟨(Nat.le_of_ble_eq_true rfl), (Nat.le_of_ble_eq_true rfl)⟩ hc0 rfl (st := []) rfl (Nat.le_of_ble_eq_true rfl) ⟨(Nat.le_of_ble_eq_true rfl), (Nat.le_of_ble_eq_true rfl)⟩ dX11_as_2 (fun r2 N2 w2 hpo2 hN2 => ?_)
  obtain ⟨rfl, rfl, rfl⟩ := hpo2
  refine x_st (st' := [.null]) rfl ?_
  refine x_astore_nN (pc := 5) K (L' := [(3, .null), (0, .ref (B + 0)), (1, .int (zI x)), (2, .int (zI k))]) hnL rfl (by decide) rfl dX11_as_5 ?_
  refine x_aload_nN (pc := 6) 0 K rfl rfl dX11_as_6 ?_
  refine x_ifnullN (pc := 7) (tgt := 20) K dX11_as_7 (by decide) ?_
  refine x_ldc (pc := 20) (x := (-1000001)) (-1000001) K (by decide) (by decide +kernel) dX11_as_20 ?_
  refine x_iret (pc := 22) K KR (by omega) (Nat.le_of_ble_eq_true rfl) (Nat.le_of_ble_eq_true rfl) dX11_as_22 ?_
  exact ⟨rfl, rfl, rfl⟩

set_option maxRecDepth 100000 in
set_option maxHeartbeats 4000000 in
theorem c_X11_as_n {E : XE} {B N : Nat} {v : Nat → va_E} {old kept fau fin : Int} {c : Nat} {p : Nat → Int} {x k : Int} (hc0 : Cel N v 0 (.inr (10, [.ref (B + 1), .ref (B + 2), .ref (B + 5), .ref (B + 7), .ref (B + 12), .ref (B + 13), .ref (B + 14), .ref (B + c), .int (zI old), .int (zI kept), .int (zI fau), .int (zI fin)]))) (hc1 : Cel N v c (.inr (3, [.int (zI (p 0)), .int (zI (p 1)), .int (zI (p 2)), .ref (B + (c + 1)), .ref (B + (c + 2)), .int (zI (p 3)), .ref (B + (c + 3)), .int (zI (p 4)), .ref (B + (c + 4)), .ref (B + (c + 13)), .ref (B + (c + 18))]))) (hc2 : Cel N v (c + 3) (rarr E 5 5 B (psA c p))) (hq0 : ¬ (0 ≤ x ∧ x ≤ p 4 - 1)) (hq1 : 0 ≤ p 4 ∧ p 4 ≤ 5) (hq2 : (-2147483648 ≤ x ∧ x ≤ 2147483647)) : gM yX11_as wsX11_as ({ frames := 2, cells := 0, slots := 0, locals := 42 }) E B N v [.ref (B + 0), .int (zI x), .int (zI k)] (po0 N (fun ρ v' => ρ = some (.int (zI (-1000001))) ∧ v = v')) := by
  refine x_met (nm := "as") (by decide +kernel) rfl (Nat.le_of_ble_eq_true rfl) rfl (fun Γ K KR hnL hnm => ?_)
  show XW Γ N v [(0, .ref (B + 0)), (1, .int (zI x)), (2, .int (zI k))] 0 0 0 []
  refine x_aload_n (pc := 0) 0 K rfl rfl dX11_as_0 ?_
  refine x_iload_n (pc := 1) 1 K rfl rfl dX11_as_1 ?_
  refine x_callV (pc := 2) (C := RX11) (T := TX11) (n := 12) (ci := 10) (As := [.int (zI x)]) K (c_X11_personAt_n (E := E) (B := B) (N := N)   hc0 hc1 hc2 hq0 (by omega) (by omega)) gX11_as_X11_personAt rfl (na := 1) (by decide +kernel) rfl ⟨(Nat.le_of_ble_eq_true rfl), (Nat.le_of_ble_eq_true rfl)⟩ hc0 rfl (st := []) rfl (Nat.le_of_ble_eq_true rfl) ⟨(Nat.le_of_ble_eq_true rfl), (Nat.le_of_ble_eq_true rfl)⟩ dX11_as_2 (fun r2 N2 w2 hpo2 hN2 => ?_)
  obtain ⟨rfl, rfl, rfl⟩ := hpo2
  refine x_st (st' := [.null]) rfl ?_
  refine x_astore_nN (pc := 5) K (L' := [(3, .null), (0, .ref (B + 0)), (1, .int (zI x)), (2, .int (zI k))]) hnL rfl (by decide) rfl dX11_as_5 ?_
  refine x_aload_nN (pc := 6) 0 K rfl rfl dX11_as_6 ?_
  refine x_ifnullN (pc := 7) (tgt := 20) K dX11_as_7 (by decide) ?_
  refine x_ldc (pc := 20) (x := (-1000001)) (-1000001) K (by decide) (by decide +kernel) dX11_as_20 ?_
  refine x_iret (pc := 22) K KR (by omega) (Nat.le_of_ble_eq_true rfl) (Nat.le_of_ble_eq_true rfl) dX11_as_22 ?_
  exact ⟨rfl, rfl, rfl⟩

set_option maxRecDepth 100000 in
set_option maxHeartbeats 4000000 in
theorem c_X11_as_1 {E : XE} {B N : Nat} {v : Nat → va_E} {old kept fau fin : Int} {c o x : Nat} {p : Nat → Int} {lnd home mil : Int} {k : Int} {x_i : Int} (ha_x : x_i = (x : Int)) (hc0 : Cel N v 0 (.inr (10, [.ref (B + 1), .ref (B + 2), .ref (B + 5), .ref (B + 7), .ref (B + 12), .ref (B + 13), .ref (B + 14), .ref (B + c), .int (zI old), .int (zI kept), .int (zI fau), .int (zI fin)]))) (hc1 : Cel N v c (.inr (3, [.int (zI (p 0)), .int (zI (p 1)), .int (zI (p 2)), .ref (B + (c + 1)), .ref (B + (c + 2)), .int (zI (p 3)), .ref (B + (c + 3)), .int (zI (p 4)), .ref (B + (c + 4)), .ref (B + (c + 13)), .ref (B + (c + 18))]))) (hc2 : Cel N v (c + 3) (rarr E 5 5 B (psA c p))) (hc3 : Cel N v o (.inr (0, [.int (zI (x : Int)), .int (zI lnd), .int (zI home), .int (zI mil)]))) (hq0 : (x : Int) < p 4) (hq1 : p 4 ≤ 5) (hq2 : o = c + 23 + x) (hq3 : (-2147483648 ≤ k ∧ k ≤ 2147483647)) (hq4 : 12 ≤ c) : gM yX11_as wsX11_as ({ frames := 2, cells := 0, slots := 0, locals := 42 }) E B N v [.ref (B + 0), .int (zI x_i), .int (zI k)] (po0 N (fun ρ v' => ∃ (res : Int), ∃ (fin2 : Int), ((¬ (0 ≤ k ∧ k ≤ 5) ∧ res = -1000001 ∧ fin2 = fin) ∨ ((0 ≤ k ∧ k ≤ 5) ∧ ¬ ofA 1 k ∧ res = -1000013 ∧ fin2 = 3) ∨ ((0 ≤ k ∧ k ≤ 5) ∧ ofA 1 k ∧ res = (x : Int) ∧ fin2 = 0)) ∧ ρ = some (.int (zI res)) ∧ (va_up v 0 (.inr (10, [.ref (B + 1), .ref (B + 2), .ref (B + 5), .ref (B + 7), .ref (B + 12), .ref (B + 13), .ref (B + 14), .ref (B + c), .int (zI old), .int (zI kept), .int (zI fau), .int (zI fin2)]))) = v')) := by
  subst ha_x
  refine x_met (nm := "as") (by decide +kernel) rfl (Nat.le_of_ble_eq_true rfl) rfl (fun Γ K KR hnL hnm => ?_)
  show XW Γ N v [(0, .ref (B + 0)), (1, .int (zI (x : Int))), (2, .int (zI k))] 0 0 0 []
  refine x_v (cel_pad hc0) ?_
  refine x_aload_n (pc := 0) 0 K rfl rfl dX11_as_0 ?_
  refine x_iload_n (pc := 1) 1 K rfl rfl dX11_as_1 ?_
  refine x_callV (pc := 2) (C := RX11) (T := TX11) (n := 12) (ci := 10) (As := [.int (zI (x : Int))]) K (c_X11_personAt_y (E := E) (B := B) (N := N) (o := o) (x := x) rfl (cel_self hc0.1) (cel_ne hc1 (by omega)) (cel_ne hc2 (by omega)) hq0 hq1 hq2) gX11_as_X11_personAt rfl (na := 1) (by decide +kernel) rfl ⟨(Nat.le_of_ble_eq_true rfl), (Nat.le_of_ble_eq_true rfl)⟩ (cel_self hc0.1) rfl (st := []) rfl (Nat.le_of_ble_eq_true rfl) ⟨(Nat.le_of_ble_eq_true rfl), (Nat.le_of_ble_eq_true rfl)⟩ dX11_as_2 (fun r2 N2 w2 hpo2 hN2 => ?_)
  obtain ⟨rfl, rfl, rfl⟩ := hpo2
  refine x_st (st' := [.ref (B + o)]) rfl ?_
  refine x_astore_n (pc := 5) K (L' := [(3, .ref (B + o)), (0, .ref (B + 0)), (1, .int (zI (x : Int))), (2, .int (zI k))]) hnL rfl (by decide) rfl dX11_as_5 ?_
  refine x_aload_n (pc := 6) 0 K rfl rfl dX11_as_6 ?_
  refine x_ifnull (pc := 7) K dX11_as_7 ?_
  refine x_iload_n (pc := 10) 3 K rfl rfl dX11_as_10 ?_
  refine x_if_lt (pc := 11) (tgt := 20) K (by omega) dX11_as_11 (by decide) (fun h_11 => ?_) (fun h_11 => ?_)
  · skip
    refine x_ldc (pc := 20) (x := (-1000001)) (-1000001) K (by decide) (by decide +kernel) dX11_as_20 ?_
    refine x_iret (pc := 22) K KR (by omega) (Nat.le_of_ble_eq_true rfl) (Nat.le_of_ble_eq_true rfl) dX11_as_22 ?_
    exact ⟨rfl, (-1000001), fin, (Or.inl ⟨by omega, rfl, rfl⟩), rfl, rfl⟩
  · skip
    refine x_iload_n (pc := 14) 3 K rfl rfl dX11_as_14 ?_
    refine x_bipush (pc := 15) K (by decide) dX11_as_15 ?_
    refine x_icmp_lt (pc := 17) (tgt := 23) K (by omega) (by decide) dX11_as_17 (by decide) (fun h_17 => ?_) (fun h_17 => ?_)
    · skip
      refine x_aload_n (pc := 23) 0 K rfl rfl dX11_as_23 ?_
      refine x_iload_n (pc := 24) 3 K rfl rfl dX11_as_24 ?_
      refine x_callS (pc := 25) (As := [.ref (B + o), .int (zI k)]) K (c_X11_isOne_X0 (E := E) (B := B) (N := N)   (cel_ne hc3 (by omega)) (by omega)) gX11_as_X11_isOne rfl (na := 2) (by decide +kernel) rfl ⟨(Nat.le_of_ble_eq_true rfl), (Nat.le_of_ble_eq_true rfl)⟩ (st := []) rfl (Nat.le_of_ble_eq_true rfl) ⟨(Nat.le_of_ble_eq_true rfl), (Nat.le_of_ble_eq_true rfl)⟩ dX11_as_25 (fun r25 N25 w25 hpo25 hN25 => ?_)
      obtain ⟨rfl, rfl, rfl⟩ := hpo25
      refine x_st (st' := [.int (zI (bI (ofA 1 k)))]) rfl ?_
      have hrg25 := bI_rng (ofA 1 k)
      refine x_if_ne (pc := 28) (tgt := 37) K (by omega) dX11_as_28 (by decide) (fun h_28 => ?_) (fun h_28 => ?_)
      · skip
        have h_28 := bI_f h_28
        refine x_aload_n (pc := 37) 1 K rfl rfl dX11_as_37 ?_
        refine x_aload_n (pc := 38) 0 K rfl rfl dX11_as_38 ?_
        refine x_get (pc := 39) (C := RX0) (T := TX0) (n := 4) (ci := 0) (idx := 241) (ref := "BorderBeds$Person") (x := .int (zI (x : Int)))  K (cel_ne hc3 (by omega)) rfl (by decide +kernel) 0 (by decide) (by decide +kernel) rfl rfl dX11_as_39 ?_
        refine x_callV (pc := 42) (C := RX11) (T := TX11) (n := 12) (ci := 10) (As := [.int (zI (x : Int))]) K (c_X11_withoutFinding (E := E) (B := B) (N := N)   (cel_self hc0.1) ) gX11_as_X11_withoutFinding rfl (na := 1) (by decide +kernel) rfl ⟨(Nat.le_of_ble_eq_true rfl), (Nat.le_of_ble_eq_true rfl)⟩ (cel_self hc0.1) rfl (st := []) rfl (Nat.le_of_ble_eq_true rfl) ⟨(Nat.le_of_ble_eq_true rfl), (Nat.le_of_ble_eq_true rfl)⟩ dX11_as_42 (fun r42 N42 w42 hpo42 hN42 => ?_)
        obtain ⟨rfl, rfl, rfl⟩ := hpo42
        refine x_v (w := (va_up v 0 (.inr (10, [.ref (B + 1), .ref (B + 2), .ref (B + 5), .ref (B + 7), .ref (B + 12), .ref (B + 13), .ref (B + 14), .ref (B + c), .int (zI old), .int (zI kept), .int (zI fau), .int (zI 0)])))) (up_at0).symm ?_
        refine x_st (st' := [.int (zI (x : Int))]) rfl ?_
        refine x_iret (pc := 45) K KR (by omega) (Nat.le_of_ble_eq_true rfl) (Nat.le_of_ble_eq_true rfl) dX11_as_45 ?_
        exact ⟨rfl, (x : Int), 0, (Or.inr (Or.inr ⟨by omega, h_28, rfl, rfl⟩)), rfl, rfl⟩
      · skip
        have h_28 := bI_t h_28
        refine x_aload_n (pc := 31) 1 K rfl rfl dX11_as_31 ?_
        refine x_iconst (pc := 32) K dX11_as_32 ?_
        refine x_callV (pc := 33) (C := RX11) (T := TX11) (n := 12) (ci := 10) (As := [.int (zI 3)]) K (c_X11_finding (E := E) (B := B) (N := N)   (cel_self hc0.1) ) gX11_as_X11_finding rfl (na := 1) (by decide +kernel) rfl ⟨(Nat.le_of_ble_eq_true rfl), (Nat.le_of_ble_eq_true rfl)⟩ (cel_self hc0.1) rfl (st := []) rfl (Nat.le_of_ble_eq_true rfl) ⟨(Nat.le_of_ble_eq_true rfl), (Nat.le_of_ble_eq_true rfl)⟩ dX11_as_33 (fun r33 N33 w33 hpo33 hN33 => ?_)
        obtain ⟨rfl, rfl, rfl⟩ := hpo33
        refine x_v (w := (va_up v 0 (.inr (10, [.ref (B + 1), .ref (B + 2), .ref (B + 5), .ref (B + 7), .ref (B + 12), .ref (B + 13), .ref (B + 14), .ref (B + c), .int (zI old), .int (zI kept), .int (zI fau), .int (zI 3)])))) (up_at0).symm ?_
        refine x_st (st' := [.int (zI (-1000010 - 3))]) rfl ?_
        refine x_iret (pc := 36) K KR (by omega) (Nat.le_of_ble_eq_true rfl) (Nat.le_of_ble_eq_true rfl) dX11_as_36 ?_
        exact ⟨rfl, (-1000010 - 3), 3, (Or.inr (Or.inl ⟨by omega, h_28, rfl, rfl⟩)), rfl, rfl⟩
    · skip
      refine x_ldc (pc := 20) (x := (-1000001)) (-1000001) K (by decide) (by decide +kernel) dX11_as_20 ?_
      refine x_iret (pc := 22) K KR (by omega) (Nat.le_of_ble_eq_true rfl) (Nat.le_of_ble_eq_true rfl) dX11_as_22 ?_
      exact ⟨rfl, (-1000001), fin, (Or.inl ⟨by omega, rfl, rfl⟩), rfl, rfl⟩

set_option maxRecDepth 100000 in
set_option maxHeartbeats 4000000 in
theorem c_X11_as_2 {E : XE} {B N : Nat} {v : Nat → va_E} {old kept fau fin : Int} {c o x : Nat} {p : Nat → Int} {lnd home mil : Int} {k : Int} {x_i : Int} (ha_x : x_i = (x : Int)) (hc0 : Cel N v 0 (.inr (10, [.ref (B + 1), .ref (B + 2), .ref (B + 5), .ref (B + 7), .ref (B + 12), .ref (B + 13), .ref (B + 14), .ref (B + c), .int (zI old), .int (zI kept), .int (zI fau), .int (zI fin)]))) (hc1 : Cel N v c (.inr (3, [.int (zI (p 0)), .int (zI (p 1)), .int (zI (p 2)), .ref (B + (c + 1)), .ref (B + (c + 2)), .int (zI (p 3)), .ref (B + (c + 3)), .int (zI (p 4)), .ref (B + (c + 4)), .ref (B + (c + 13)), .ref (B + (c + 18))]))) (hc2 : Cel N v (c + 3) (rarr E 5 5 B (psA c p))) (hc3 : Cel N v o (.inr (2, [.int (zI (x : Int)), .int (zI lnd), .int (zI home), .int (zI mil)]))) (hq0 : (x : Int) < p 4) (hq1 : p 4 ≤ 5) (hq2 : o = c + 23 + x) (hq3 : (-2147483648 ≤ k ∧ k ≤ 2147483647)) (hq4 : 12 ≤ c) : gM yX11_as wsX11_as ({ frames := 2, cells := 0, slots := 0, locals := 42 }) E B N v [.ref (B + 0), .int (zI x_i), .int (zI k)] (po0 N (fun ρ v' => ∃ (res : Int), ∃ (fin2 : Int), ((¬ (0 ≤ k ∧ k ≤ 5) ∧ res = -1000001 ∧ fin2 = fin) ∨ ((0 ≤ k ∧ k ≤ 5) ∧ ¬ ofA 2 k ∧ res = -1000013 ∧ fin2 = 3) ∨ ((0 ≤ k ∧ k ≤ 5) ∧ ofA 2 k ∧ res = (x : Int) ∧ fin2 = 0)) ∧ ρ = some (.int (zI res)) ∧ (va_up v 0 (.inr (10, [.ref (B + 1), .ref (B + 2), .ref (B + 5), .ref (B + 7), .ref (B + 12), .ref (B + 13), .ref (B + 14), .ref (B + c), .int (zI old), .int (zI kept), .int (zI fau), .int (zI fin2)]))) = v')) := by
  subst ha_x
  refine x_met (nm := "as") (by decide +kernel) rfl (Nat.le_of_ble_eq_true rfl) rfl (fun Γ K KR hnL hnm => ?_)
  show XW Γ N v [(0, .ref (B + 0)), (1, .int (zI (x : Int))), (2, .int (zI k))] 0 0 0 []
  refine x_v (cel_pad hc0) ?_
  refine x_aload_n (pc := 0) 0 K rfl rfl dX11_as_0 ?_
  refine x_iload_n (pc := 1) 1 K rfl rfl dX11_as_1 ?_
  refine x_callV (pc := 2) (C := RX11) (T := TX11) (n := 12) (ci := 10) (As := [.int (zI (x : Int))]) K (c_X11_personAt_y (E := E) (B := B) (N := N) (o := o) (x := x) rfl (cel_self hc0.1) (cel_ne hc1 (by omega)) (cel_ne hc2 (by omega)) hq0 hq1 hq2) gX11_as_X11_personAt rfl (na := 1) (by decide +kernel) rfl ⟨(Nat.le_of_ble_eq_true rfl), (Nat.le_of_ble_eq_true rfl)⟩ (cel_self hc0.1) rfl (st := []) rfl (Nat.le_of_ble_eq_true rfl) ⟨(Nat.le_of_ble_eq_true rfl), (Nat.le_of_ble_eq_true rfl)⟩ dX11_as_2 (fun r2 N2 w2 hpo2 hN2 => ?_)
  obtain ⟨rfl, rfl, rfl⟩ := hpo2
  refine x_st (st' := [.ref (B + o)]) rfl ?_
  refine x_astore_n (pc := 5) K (L' := [(3, .ref (B + o)), (0, .ref (B + 0)), (1, .int (zI (x : Int))), (2, .int (zI k))]) hnL rfl (by decide) rfl dX11_as_5 ?_
  refine x_aload_n (pc := 6) 0 K rfl rfl dX11_as_6 ?_
  refine x_ifnull (pc := 7) K dX11_as_7 ?_
  refine x_iload_n (pc := 10) 3 K rfl rfl dX11_as_10 ?_
  refine x_if_lt (pc := 11) (tgt := 20) K (by omega) dX11_as_11 (by decide) (fun h_11 => ?_) (fun h_11 => ?_)
  · skip
    refine x_ldc (pc := 20) (x := (-1000001)) (-1000001) K (by decide) (by decide +kernel) dX11_as_20 ?_
    refine x_iret (pc := 22) K KR (by omega) (Nat.le_of_ble_eq_true rfl) (Nat.le_of_ble_eq_true rfl) dX11_as_22 ?_
    exact ⟨rfl, (-1000001), fin, (Or.inl ⟨by omega, rfl, rfl⟩), rfl, rfl⟩
  · skip
    refine x_iload_n (pc := 14) 3 K rfl rfl dX11_as_14 ?_
    refine x_bipush (pc := 15) K (by decide) dX11_as_15 ?_
    refine x_icmp_lt (pc := 17) (tgt := 23) K (by omega) (by decide) dX11_as_17 (by decide) (fun h_17 => ?_) (fun h_17 => ?_)
    · skip
      refine x_aload_n (pc := 23) 0 K rfl rfl dX11_as_23 ?_
      refine x_iload_n (pc := 24) 3 K rfl rfl dX11_as_24 ?_
      refine x_callS (pc := 25) (As := [.ref (B + o), .int (zI k)]) K (c_X11_isOne_X2 (E := E) (B := B) (N := N)   (cel_ne hc3 (by omega)) (by omega)) gX11_as_X11_isOne rfl (na := 2) (by decide +kernel) rfl ⟨(Nat.le_of_ble_eq_true rfl), (Nat.le_of_ble_eq_true rfl)⟩ (st := []) rfl (Nat.le_of_ble_eq_true rfl) ⟨(Nat.le_of_ble_eq_true rfl), (Nat.le_of_ble_eq_true rfl)⟩ dX11_as_25 (fun r25 N25 w25 hpo25 hN25 => ?_)
      obtain ⟨rfl, rfl, rfl⟩ := hpo25
      refine x_st (st' := [.int (zI (bI (ofA 2 k)))]) rfl ?_
      have hrg25 := bI_rng (ofA 2 k)
      refine x_if_ne (pc := 28) (tgt := 37) K (by omega) dX11_as_28 (by decide) (fun h_28 => ?_) (fun h_28 => ?_)
      · skip
        have h_28 := bI_f h_28
        refine x_aload_n (pc := 37) 1 K rfl rfl dX11_as_37 ?_
        refine x_aload_n (pc := 38) 0 K rfl rfl dX11_as_38 ?_
        refine x_get (pc := 39) (C := RX2) (T := TX2) (n := 4) (ci := 2) (idx := 241) (ref := "BorderBeds$Person") (x := .int (zI (x : Int)))  K (cel_ne hc3 (by omega)) rfl (by decide +kernel) 0 (by decide) (by decide +kernel) rfl rfl dX11_as_39 ?_
        refine x_callV (pc := 42) (C := RX11) (T := TX11) (n := 12) (ci := 10) (As := [.int (zI (x : Int))]) K (c_X11_withoutFinding (E := E) (B := B) (N := N)   (cel_self hc0.1) ) gX11_as_X11_withoutFinding rfl (na := 1) (by decide +kernel) rfl ⟨(Nat.le_of_ble_eq_true rfl), (Nat.le_of_ble_eq_true rfl)⟩ (cel_self hc0.1) rfl (st := []) rfl (Nat.le_of_ble_eq_true rfl) ⟨(Nat.le_of_ble_eq_true rfl), (Nat.le_of_ble_eq_true rfl)⟩ dX11_as_42 (fun r42 N42 w42 hpo42 hN42 => ?_)
        obtain ⟨rfl, rfl, rfl⟩ := hpo42
        refine x_v (w := (va_up v 0 (.inr (10, [.ref (B + 1), .ref (B + 2), .ref (B + 5), .ref (B + 7), .ref (B + 12), .ref (B + 13), .ref (B + 14), .ref (B + c), .int (zI old), .int (zI kept), .int (zI fau), .int (zI 0)])))) (up_at0).symm ?_
        refine x_st (st' := [.int (zI (x : Int))]) rfl ?_
        refine x_iret (pc := 45) K KR (by omega) (Nat.le_of_ble_eq_true rfl) (Nat.le_of_ble_eq_true rfl) dX11_as_45 ?_
        exact ⟨rfl, (x : Int), 0, (Or.inr (Or.inr ⟨by omega, h_28, rfl, rfl⟩)), rfl, rfl⟩
      · skip
        have h_28 := bI_t h_28
        refine x_aload_n (pc := 31) 1 K rfl rfl dX11_as_31 ?_
        refine x_iconst (pc := 32) K dX11_as_32 ?_
        refine x_callV (pc := 33) (C := RX11) (T := TX11) (n := 12) (ci := 10) (As := [.int (zI 3)]) K (c_X11_finding (E := E) (B := B) (N := N)   (cel_self hc0.1) ) gX11_as_X11_finding rfl (na := 1) (by decide +kernel) rfl ⟨(Nat.le_of_ble_eq_true rfl), (Nat.le_of_ble_eq_true rfl)⟩ (cel_self hc0.1) rfl (st := []) rfl (Nat.le_of_ble_eq_true rfl) ⟨(Nat.le_of_ble_eq_true rfl), (Nat.le_of_ble_eq_true rfl)⟩ dX11_as_33 (fun r33 N33 w33 hpo33 hN33 => ?_)
        obtain ⟨rfl, rfl, rfl⟩ := hpo33
        refine x_v (w := (va_up v 0 (.inr (10, [.ref (B + 1), .ref (B + 2), .ref (B + 5), .ref (B + 7), .ref (B + 12), .ref (B + 13), .ref (B + 14), .ref (B + c), .int (zI old), .int (zI kept), .int (zI fau), .int (zI 3)])))) (up_at0).symm ?_
        refine x_st (st' := [.int (zI (-1000010 - 3))]) rfl ?_
        refine x_iret (pc := 36) K KR (by omega) (Nat.le_of_ble_eq_true rfl) (Nat.le_of_ble_eq_true rfl) dX11_as_36 ?_
        exact ⟨rfl, (-1000010 - 3), 3, (Or.inr (Or.inl ⟨by omega, h_28, rfl, rfl⟩)), rfl, rfl⟩
    · skip
      refine x_ldc (pc := 20) (x := (-1000001)) (-1000001) K (by decide) (by decide +kernel) dX11_as_20 ?_
      refine x_iret (pc := 22) K KR (by omega) (Nat.le_of_ble_eq_true rfl) (Nat.le_of_ble_eq_true rfl) dX11_as_22 ?_
      exact ⟨rfl, (-1000001), fin, (Or.inl ⟨by omega, rfl, rfl⟩), rfl, rfl⟩

set_option maxRecDepth 100000 in
set_option maxHeartbeats 4000000 in
theorem c_X11_as_3 {E : XE} {B N : Nat} {v : Nat → va_E} {old kept fau fin : Int} {c o x : Nat} {p : Nat → Int} {lnd home mil : Int} {k : Int} {x_i : Int} (ha_x : x_i = (x : Int)) (hc0 : Cel N v 0 (.inr (10, [.ref (B + 1), .ref (B + 2), .ref (B + 5), .ref (B + 7), .ref (B + 12), .ref (B + 13), .ref (B + 14), .ref (B + c), .int (zI old), .int (zI kept), .int (zI fau), .int (zI fin)]))) (hc1 : Cel N v c (.inr (3, [.int (zI (p 0)), .int (zI (p 1)), .int (zI (p 2)), .ref (B + (c + 1)), .ref (B + (c + 2)), .int (zI (p 3)), .ref (B + (c + 3)), .int (zI (p 4)), .ref (B + (c + 4)), .ref (B + (c + 13)), .ref (B + (c + 18))]))) (hc2 : Cel N v (c + 3) (rarr E 5 5 B (psA c p))) (hc3 : Cel N v o (.inr (9, [.int (zI (x : Int)), .int (zI lnd), .int (zI home), .int (zI mil)]))) (hq0 : (x : Int) < p 4) (hq1 : p 4 ≤ 5) (hq2 : o = c + 23 + x) (hq3 : (-2147483648 ≤ k ∧ k ≤ 2147483647)) (hq4 : 12 ≤ c) : gM yX11_as wsX11_as ({ frames := 2, cells := 0, slots := 0, locals := 42 }) E B N v [.ref (B + 0), .int (zI x_i), .int (zI k)] (po0 N (fun ρ v' => ∃ (res : Int), ∃ (fin2 : Int), ((¬ (0 ≤ k ∧ k ≤ 5) ∧ res = -1000001 ∧ fin2 = fin) ∨ ((0 ≤ k ∧ k ≤ 5) ∧ ¬ ofA 3 k ∧ res = -1000013 ∧ fin2 = 3) ∨ ((0 ≤ k ∧ k ≤ 5) ∧ ofA 3 k ∧ res = (x : Int) ∧ fin2 = 0)) ∧ ρ = some (.int (zI res)) ∧ (va_up v 0 (.inr (10, [.ref (B + 1), .ref (B + 2), .ref (B + 5), .ref (B + 7), .ref (B + 12), .ref (B + 13), .ref (B + 14), .ref (B + c), .int (zI old), .int (zI kept), .int (zI fau), .int (zI fin2)]))) = v')) := by
  subst ha_x
  refine x_met (nm := "as") (by decide +kernel) rfl (Nat.le_of_ble_eq_true rfl) rfl (fun Γ K KR hnL hnm => ?_)
  show XW Γ N v [(0, .ref (B + 0)), (1, .int (zI (x : Int))), (2, .int (zI k))] 0 0 0 []
  refine x_v (cel_pad hc0) ?_
  refine x_aload_n (pc := 0) 0 K rfl rfl dX11_as_0 ?_
  refine x_iload_n (pc := 1) 1 K rfl rfl dX11_as_1 ?_
  refine x_callV (pc := 2) (C := RX11) (T := TX11) (n := 12) (ci := 10) (As := [.int (zI (x : Int))]) K (c_X11_personAt_y (E := E) (B := B) (N := N) (o := o) (x := x) rfl (cel_self hc0.1) (cel_ne hc1 (by omega)) (cel_ne hc2 (by omega)) hq0 hq1 hq2) gX11_as_X11_personAt rfl (na := 1) (by decide +kernel) rfl ⟨(Nat.le_of_ble_eq_true rfl), (Nat.le_of_ble_eq_true rfl)⟩ (cel_self hc0.1) rfl (st := []) rfl (Nat.le_of_ble_eq_true rfl) ⟨(Nat.le_of_ble_eq_true rfl), (Nat.le_of_ble_eq_true rfl)⟩ dX11_as_2 (fun r2 N2 w2 hpo2 hN2 => ?_)
  obtain ⟨rfl, rfl, rfl⟩ := hpo2
  refine x_st (st' := [.ref (B + o)]) rfl ?_
  refine x_astore_n (pc := 5) K (L' := [(3, .ref (B + o)), (0, .ref (B + 0)), (1, .int (zI (x : Int))), (2, .int (zI k))]) hnL rfl (by decide) rfl dX11_as_5 ?_
  refine x_aload_n (pc := 6) 0 K rfl rfl dX11_as_6 ?_
  refine x_ifnull (pc := 7) K dX11_as_7 ?_
  refine x_iload_n (pc := 10) 3 K rfl rfl dX11_as_10 ?_
  refine x_if_lt (pc := 11) (tgt := 20) K (by omega) dX11_as_11 (by decide) (fun h_11 => ?_) (fun h_11 => ?_)
  · skip
    refine x_ldc (pc := 20) (x := (-1000001)) (-1000001) K (by decide) (by decide +kernel) dX11_as_20 ?_
    refine x_iret (pc := 22) K KR (by omega) (Nat.le_of_ble_eq_true rfl) (Nat.le_of_ble_eq_true rfl) dX11_as_22 ?_
    exact ⟨rfl, (-1000001), fin, (Or.inl ⟨by omega, rfl, rfl⟩), rfl, rfl⟩
  · skip
    refine x_iload_n (pc := 14) 3 K rfl rfl dX11_as_14 ?_
    refine x_bipush (pc := 15) K (by decide) dX11_as_15 ?_
    refine x_icmp_lt (pc := 17) (tgt := 23) K (by omega) (by decide) dX11_as_17 (by decide) (fun h_17 => ?_) (fun h_17 => ?_)
    · skip
      refine x_aload_n (pc := 23) 0 K rfl rfl dX11_as_23 ?_
      refine x_iload_n (pc := 24) 3 K rfl rfl dX11_as_24 ?_
      refine x_callS (pc := 25) (As := [.ref (B + o), .int (zI k)]) K (c_X11_isOne_X10 (E := E) (B := B) (N := N)   (cel_ne hc3 (by omega)) (by omega)) gX11_as_X11_isOne rfl (na := 2) (by decide +kernel) rfl ⟨(Nat.le_of_ble_eq_true rfl), (Nat.le_of_ble_eq_true rfl)⟩ (st := []) rfl (Nat.le_of_ble_eq_true rfl) ⟨(Nat.le_of_ble_eq_true rfl), (Nat.le_of_ble_eq_true rfl)⟩ dX11_as_25 (fun r25 N25 w25 hpo25 hN25 => ?_)
      obtain ⟨rfl, rfl, rfl⟩ := hpo25
      refine x_st (st' := [.int (zI (bI (ofA 3 k)))]) rfl ?_
      have hrg25 := bI_rng (ofA 3 k)
      refine x_if_ne (pc := 28) (tgt := 37) K (by omega) dX11_as_28 (by decide) (fun h_28 => ?_) (fun h_28 => ?_)
      · skip
        have h_28 := bI_f h_28
        refine x_aload_n (pc := 37) 1 K rfl rfl dX11_as_37 ?_
        refine x_aload_n (pc := 38) 0 K rfl rfl dX11_as_38 ?_
        refine x_get (pc := 39) (C := RX10) (T := TX10) (n := 4) (ci := 9) (idx := 241) (ref := "BorderBeds$Person") (x := .int (zI (x : Int)))  K (cel_ne hc3 (by omega)) rfl (by decide +kernel) 0 (by decide) (by decide +kernel) rfl rfl dX11_as_39 ?_
        refine x_callV (pc := 42) (C := RX11) (T := TX11) (n := 12) (ci := 10) (As := [.int (zI (x : Int))]) K (c_X11_withoutFinding (E := E) (B := B) (N := N)   (cel_self hc0.1) ) gX11_as_X11_withoutFinding rfl (na := 1) (by decide +kernel) rfl ⟨(Nat.le_of_ble_eq_true rfl), (Nat.le_of_ble_eq_true rfl)⟩ (cel_self hc0.1) rfl (st := []) rfl (Nat.le_of_ble_eq_true rfl) ⟨(Nat.le_of_ble_eq_true rfl), (Nat.le_of_ble_eq_true rfl)⟩ dX11_as_42 (fun r42 N42 w42 hpo42 hN42 => ?_)
        obtain ⟨rfl, rfl, rfl⟩ := hpo42
        refine x_v (w := (va_up v 0 (.inr (10, [.ref (B + 1), .ref (B + 2), .ref (B + 5), .ref (B + 7), .ref (B + 12), .ref (B + 13), .ref (B + 14), .ref (B + c), .int (zI old), .int (zI kept), .int (zI fau), .int (zI 0)])))) (up_at0).symm ?_
        refine x_st (st' := [.int (zI (x : Int))]) rfl ?_
        refine x_iret (pc := 45) K KR (by omega) (Nat.le_of_ble_eq_true rfl) (Nat.le_of_ble_eq_true rfl) dX11_as_45 ?_
        exact ⟨rfl, (x : Int), 0, (Or.inr (Or.inr ⟨by omega, h_28, rfl, rfl⟩)), rfl, rfl⟩
      · skip
        have h_28 := bI_t h_28
        refine x_aload_n (pc := 31) 1 K rfl rfl dX11_as_31 ?_
        refine x_iconst (pc := 32) K dX11_as_32 ?_
        refine x_callV (pc := 33) (C := RX11) (T := TX11) (n := 12) (ci := 10) (As := [.int (zI 3)]) K (c_X11_finding (E := E) (B := B) (N := N)   (cel_self hc0.1) ) gX11_as_X11_finding rfl (na := 1) (by decide +kernel) rfl ⟨(Nat.le_of_ble_eq_true rfl), (Nat.le_of_ble_eq_true rfl)⟩ (cel_self hc0.1) rfl (st := []) rfl (Nat.le_of_ble_eq_true rfl) ⟨(Nat.le_of_ble_eq_true rfl), (Nat.le_of_ble_eq_true rfl)⟩ dX11_as_33 (fun r33 N33 w33 hpo33 hN33 => ?_)
        obtain ⟨rfl, rfl, rfl⟩ := hpo33
        refine x_v (w := (va_up v 0 (.inr (10, [.ref (B + 1), .ref (B + 2), .ref (B + 5), .ref (B + 7), .ref (B + 12), .ref (B + 13), .ref (B + 14), .ref (B + c), .int (zI old), .int (zI kept), .int (zI fau), .int (zI 3)])))) (up_at0).symm ?_
        refine x_st (st' := [.int (zI (-1000010 - 3))]) rfl ?_
        refine x_iret (pc := 36) K KR (by omega) (Nat.le_of_ble_eq_true rfl) (Nat.le_of_ble_eq_true rfl) dX11_as_36 ?_
        exact ⟨rfl, (-1000010 - 3), 3, (Or.inr (Or.inl ⟨by omega, h_28, rfl, rfl⟩)), rfl, rfl⟩
    · skip
      refine x_ldc (pc := 20) (x := (-1000001)) (-1000001) K (by decide) (by decide +kernel) dX11_as_20 ?_
      refine x_iret (pc := 22) K KR (by omega) (Nat.le_of_ble_eq_true rfl) (Nat.le_of_ble_eq_true rfl) dX11_as_22 ?_
      exact ⟨rfl, (-1000001), fin, (Or.inl ⟨by omega, rfl, rfl⟩), rfl, rfl⟩

set_option maxRecDepth 100000 in
set_option maxHeartbeats 4000000 in
theorem c_X11_as_4 {E : XE} {B N : Nat} {v : Nat → va_E} {old kept fau fin : Int} {c o x : Nat} {p : Nat → Int} {lnd home mil : Int} {k : Int} {x_i : Int} (ha_x : x_i = (x : Int)) (hc0 : Cel N v 0 (.inr (10, [.ref (B + 1), .ref (B + 2), .ref (B + 5), .ref (B + 7), .ref (B + 12), .ref (B + 13), .ref (B + 14), .ref (B + c), .int (zI old), .int (zI kept), .int (zI fau), .int (zI fin)]))) (hc1 : Cel N v c (.inr (3, [.int (zI (p 0)), .int (zI (p 1)), .int (zI (p 2)), .ref (B + (c + 1)), .ref (B + (c + 2)), .int (zI (p 3)), .ref (B + (c + 3)), .int (zI (p 4)), .ref (B + (c + 4)), .ref (B + (c + 13)), .ref (B + (c + 18))]))) (hc2 : Cel N v (c + 3) (rarr E 5 5 B (psA c p))) (hc3 : Cel N v o (.inr (1, [.int (zI (x : Int)), .int (zI lnd), .int (zI home), .int (zI mil)]))) (hq0 : (x : Int) < p 4) (hq1 : p 4 ≤ 5) (hq2 : o = c + 23 + x) (hq3 : (-2147483648 ≤ k ∧ k ≤ 2147483647)) (hq4 : 12 ≤ c) : gM yX11_as wsX11_as ({ frames := 2, cells := 0, slots := 0, locals := 42 }) E B N v [.ref (B + 0), .int (zI x_i), .int (zI k)] (po0 N (fun ρ v' => ∃ (res : Int), ∃ (fin2 : Int), ((¬ (0 ≤ k ∧ k ≤ 5) ∧ res = -1000001 ∧ fin2 = fin) ∨ ((0 ≤ k ∧ k ≤ 5) ∧ ¬ ofA 4 k ∧ res = -1000013 ∧ fin2 = 3) ∨ ((0 ≤ k ∧ k ≤ 5) ∧ ofA 4 k ∧ res = (x : Int) ∧ fin2 = 0)) ∧ ρ = some (.int (zI res)) ∧ (va_up v 0 (.inr (10, [.ref (B + 1), .ref (B + 2), .ref (B + 5), .ref (B + 7), .ref (B + 12), .ref (B + 13), .ref (B + 14), .ref (B + c), .int (zI old), .int (zI kept), .int (zI fau), .int (zI fin2)]))) = v')) := by
  subst ha_x
  refine x_met (nm := "as") (by decide +kernel) rfl (Nat.le_of_ble_eq_true rfl) rfl (fun Γ K KR hnL hnm => ?_)
  show XW Γ N v [(0, .ref (B + 0)), (1, .int (zI (x : Int))), (2, .int (zI k))] 0 0 0 []
  refine x_v (cel_pad hc0) ?_
  refine x_aload_n (pc := 0) 0 K rfl rfl dX11_as_0 ?_
  refine x_iload_n (pc := 1) 1 K rfl rfl dX11_as_1 ?_
  refine x_callV (pc := 2) (C := RX11) (T := TX11) (n := 12) (ci := 10) (As := [.int (zI (x : Int))]) K (c_X11_personAt_y (E := E) (B := B) (N := N) (o := o) (x := x) rfl (cel_self hc0.1) (cel_ne hc1 (by omega)) (cel_ne hc2 (by omega)) hq0 hq1 hq2) gX11_as_X11_personAt rfl (na := 1) (by decide +kernel) rfl ⟨(Nat.le_of_ble_eq_true rfl), (Nat.le_of_ble_eq_true rfl)⟩ (cel_self hc0.1) rfl (st := []) rfl (Nat.le_of_ble_eq_true rfl) ⟨(Nat.le_of_ble_eq_true rfl), (Nat.le_of_ble_eq_true rfl)⟩ dX11_as_2 (fun r2 N2 w2 hpo2 hN2 => ?_)
  obtain ⟨rfl, rfl, rfl⟩ := hpo2
  refine x_st (st' := [.ref (B + o)]) rfl ?_
  refine x_astore_n (pc := 5) K (L' := [(3, .ref (B + o)), (0, .ref (B + 0)), (1, .int (zI (x : Int))), (2, .int (zI k))]) hnL rfl (by decide) rfl dX11_as_5 ?_
  refine x_aload_n (pc := 6) 0 K rfl rfl dX11_as_6 ?_
  refine x_ifnull (pc := 7) K dX11_as_7 ?_
  refine x_iload_n (pc := 10) 3 K rfl rfl dX11_as_10 ?_
  refine x_if_lt (pc := 11) (tgt := 20) K (by omega) dX11_as_11 (by decide) (fun h_11 => ?_) (fun h_11 => ?_)
  · skip
    refine x_ldc (pc := 20) (x := (-1000001)) (-1000001) K (by decide) (by decide +kernel) dX11_as_20 ?_
    refine x_iret (pc := 22) K KR (by omega) (Nat.le_of_ble_eq_true rfl) (Nat.le_of_ble_eq_true rfl) dX11_as_22 ?_
    exact ⟨rfl, (-1000001), fin, (Or.inl ⟨by omega, rfl, rfl⟩), rfl, rfl⟩
  · skip
    refine x_iload_n (pc := 14) 3 K rfl rfl dX11_as_14 ?_
    refine x_bipush (pc := 15) K (by decide) dX11_as_15 ?_
    refine x_icmp_lt (pc := 17) (tgt := 23) K (by omega) (by decide) dX11_as_17 (by decide) (fun h_17 => ?_) (fun h_17 => ?_)
    · skip
      refine x_aload_n (pc := 23) 0 K rfl rfl dX11_as_23 ?_
      refine x_iload_n (pc := 24) 3 K rfl rfl dX11_as_24 ?_
      refine x_callS (pc := 25) (As := [.ref (B + o), .int (zI k)]) K (c_X11_isOne_X1 (E := E) (B := B) (N := N)   (cel_ne hc3 (by omega)) (by omega)) gX11_as_X11_isOne rfl (na := 2) (by decide +kernel) rfl ⟨(Nat.le_of_ble_eq_true rfl), (Nat.le_of_ble_eq_true rfl)⟩ (st := []) rfl (Nat.le_of_ble_eq_true rfl) ⟨(Nat.le_of_ble_eq_true rfl), (Nat.le_of_ble_eq_true rfl)⟩ dX11_as_25 (fun r25 N25 w25 hpo25 hN25 => ?_)
      obtain ⟨rfl, rfl, rfl⟩ := hpo25
      refine x_st (st' := [.int (zI (bI (ofA 4 k)))]) rfl ?_
      have hrg25 := bI_rng (ofA 4 k)
      refine x_if_ne (pc := 28) (tgt := 37) K (by omega) dX11_as_28 (by decide) (fun h_28 => ?_) (fun h_28 => ?_)
      · skip
        have h_28 := bI_f h_28
        refine x_aload_n (pc := 37) 1 K rfl rfl dX11_as_37 ?_
        refine x_aload_n (pc := 38) 0 K rfl rfl dX11_as_38 ?_
        refine x_get (pc := 39) (C := RX1) (T := TX1) (n := 4) (ci := 1) (idx := 241) (ref := "BorderBeds$Person") (x := .int (zI (x : Int)))  K (cel_ne hc3 (by omega)) rfl (by decide +kernel) 0 (by decide) (by decide +kernel) rfl rfl dX11_as_39 ?_
        refine x_callV (pc := 42) (C := RX11) (T := TX11) (n := 12) (ci := 10) (As := [.int (zI (x : Int))]) K (c_X11_withoutFinding (E := E) (B := B) (N := N)   (cel_self hc0.1) ) gX11_as_X11_withoutFinding rfl (na := 1) (by decide +kernel) rfl ⟨(Nat.le_of_ble_eq_true rfl), (Nat.le_of_ble_eq_true rfl)⟩ (cel_self hc0.1) rfl (st := []) rfl (Nat.le_of_ble_eq_true rfl) ⟨(Nat.le_of_ble_eq_true rfl), (Nat.le_of_ble_eq_true rfl)⟩ dX11_as_42 (fun r42 N42 w42 hpo42 hN42 => ?_)
        obtain ⟨rfl, rfl, rfl⟩ := hpo42
        refine x_v (w := (va_up v 0 (.inr (10, [.ref (B + 1), .ref (B + 2), .ref (B + 5), .ref (B + 7), .ref (B + 12), .ref (B + 13), .ref (B + 14), .ref (B + c), .int (zI old), .int (zI kept), .int (zI fau), .int (zI 0)])))) (up_at0).symm ?_
        refine x_st (st' := [.int (zI (x : Int))]) rfl ?_
        refine x_iret (pc := 45) K KR (by omega) (Nat.le_of_ble_eq_true rfl) (Nat.le_of_ble_eq_true rfl) dX11_as_45 ?_
        exact ⟨rfl, (x : Int), 0, (Or.inr (Or.inr ⟨by omega, h_28, rfl, rfl⟩)), rfl, rfl⟩
      · skip
        have h_28 := bI_t h_28
        refine x_aload_n (pc := 31) 1 K rfl rfl dX11_as_31 ?_
        refine x_iconst (pc := 32) K dX11_as_32 ?_
        refine x_callV (pc := 33) (C := RX11) (T := TX11) (n := 12) (ci := 10) (As := [.int (zI 3)]) K (c_X11_finding (E := E) (B := B) (N := N)   (cel_self hc0.1) ) gX11_as_X11_finding rfl (na := 1) (by decide +kernel) rfl ⟨(Nat.le_of_ble_eq_true rfl), (Nat.le_of_ble_eq_true rfl)⟩ (cel_self hc0.1) rfl (st := []) rfl (Nat.le_of_ble_eq_true rfl) ⟨(Nat.le_of_ble_eq_true rfl), (Nat.le_of_ble_eq_true rfl)⟩ dX11_as_33 (fun r33 N33 w33 hpo33 hN33 => ?_)
        obtain ⟨rfl, rfl, rfl⟩ := hpo33
        refine x_v (w := (va_up v 0 (.inr (10, [.ref (B + 1), .ref (B + 2), .ref (B + 5), .ref (B + 7), .ref (B + 12), .ref (B + 13), .ref (B + 14), .ref (B + c), .int (zI old), .int (zI kept), .int (zI fau), .int (zI 3)])))) (up_at0).symm ?_
        refine x_st (st' := [.int (zI (-1000010 - 3))]) rfl ?_
        refine x_iret (pc := 36) K KR (by omega) (Nat.le_of_ble_eq_true rfl) (Nat.le_of_ble_eq_true rfl) dX11_as_36 ?_
        exact ⟨rfl, (-1000010 - 3), 3, (Or.inr (Or.inl ⟨by omega, h_28, rfl, rfl⟩)), rfl, rfl⟩
    · skip
      refine x_ldc (pc := 20) (x := (-1000001)) (-1000001) K (by decide) (by decide +kernel) dX11_as_20 ?_
      refine x_iret (pc := 22) K KR (by omega) (Nat.le_of_ble_eq_true rfl) (Nat.le_of_ble_eq_true rfl) dX11_as_22 ?_
      exact ⟨rfl, (-1000001), fin, (Or.inl ⟨by omega, rfl, rfl⟩), rfl, rfl⟩

set_option maxRecDepth 100000 in
set_option maxHeartbeats 4000000 in
theorem c_X11_as_5 {E : XE} {B N : Nat} {v : Nat → va_E} {old kept fau fin : Int} {c o x : Nat} {p : Nat → Int} {lnd home mil : Int} {k : Int} {x_i : Int} (ha_x : x_i = (x : Int)) (hc0 : Cel N v 0 (.inr (10, [.ref (B + 1), .ref (B + 2), .ref (B + 5), .ref (B + 7), .ref (B + 12), .ref (B + 13), .ref (B + 14), .ref (B + c), .int (zI old), .int (zI kept), .int (zI fau), .int (zI fin)]))) (hc1 : Cel N v c (.inr (3, [.int (zI (p 0)), .int (zI (p 1)), .int (zI (p 2)), .ref (B + (c + 1)), .ref (B + (c + 2)), .int (zI (p 3)), .ref (B + (c + 3)), .int (zI (p 4)), .ref (B + (c + 4)), .ref (B + (c + 13)), .ref (B + (c + 18))]))) (hc2 : Cel N v (c + 3) (rarr E 5 5 B (psA c p))) (hc3 : Cel N v o (.inr (5, [.int (zI (x : Int)), .int (zI lnd), .int (zI home), .int (zI mil)]))) (hq0 : (x : Int) < p 4) (hq1 : p 4 ≤ 5) (hq2 : o = c + 23 + x) (hq3 : (-2147483648 ≤ k ∧ k ≤ 2147483647)) (hq4 : 12 ≤ c) : gM yX11_as wsX11_as ({ frames := 2, cells := 0, slots := 0, locals := 42 }) E B N v [.ref (B + 0), .int (zI x_i), .int (zI k)] (po0 N (fun ρ v' => ∃ (res : Int), ∃ (fin2 : Int), ((¬ (0 ≤ k ∧ k ≤ 5) ∧ res = -1000001 ∧ fin2 = fin) ∨ ((0 ≤ k ∧ k ≤ 5) ∧ ¬ ofA 5 k ∧ res = -1000013 ∧ fin2 = 3) ∨ ((0 ≤ k ∧ k ≤ 5) ∧ ofA 5 k ∧ res = (x : Int) ∧ fin2 = 0)) ∧ ρ = some (.int (zI res)) ∧ (va_up v 0 (.inr (10, [.ref (B + 1), .ref (B + 2), .ref (B + 5), .ref (B + 7), .ref (B + 12), .ref (B + 13), .ref (B + 14), .ref (B + c), .int (zI old), .int (zI kept), .int (zI fau), .int (zI fin2)]))) = v')) := by
  subst ha_x
  refine x_met (nm := "as") (by decide +kernel) rfl (Nat.le_of_ble_eq_true rfl) rfl (fun Γ K KR hnL hnm => ?_)
  show XW Γ N v [(0, .ref (B + 0)), (1, .int (zI (x : Int))), (2, .int (zI k))] 0 0 0 []
  refine x_v (cel_pad hc0) ?_
  refine x_aload_n (pc := 0) 0 K rfl rfl dX11_as_0 ?_
  refine x_iload_n (pc := 1) 1 K rfl rfl dX11_as_1 ?_
  refine x_callV (pc := 2) (C := RX11) (T := TX11) (n := 12) (ci := 10) (As := [.int (zI (x : Int))]) K (c_X11_personAt_y (E := E) (B := B) (N := N) (o := o) (x := x) rfl (cel_self hc0.1) (cel_ne hc1 (by omega)) (cel_ne hc2 (by omega)) hq0 hq1 hq2) gX11_as_X11_personAt rfl (na := 1) (by decide +kernel) rfl ⟨(Nat.le_of_ble_eq_true rfl), (Nat.le_of_ble_eq_true rfl)⟩ (cel_self hc0.1) rfl (st := []) rfl (Nat.le_of_ble_eq_true rfl) ⟨(Nat.le_of_ble_eq_true rfl), (Nat.le_of_ble_eq_true rfl)⟩ dX11_as_2 (fun r2 N2 w2 hpo2 hN2 => ?_)
  obtain ⟨rfl, rfl, rfl⟩ := hpo2
  refine x_st (st' := [.ref (B + o)]) rfl ?_
  refine x_astore_n (pc := 5) K (L' := [(3, .ref (B + o)), (0, .ref (B + 0)), (1, .int (zI (x : Int))), (2, .int (zI k))]) hnL rfl (by decide) rfl dX11_as_5 ?_
  refine x_aload_n (pc := 6) 0 K rfl rfl dX11_as_6 ?_
  refine x_ifnull (pc := 7) K dX11_as_7 ?_
  refine x_iload_n (pc := 10) 3 K rfl rfl dX11_as_10 ?_
  refine x_if_lt (pc := 11) (tgt := 20) K (by omega) dX11_as_11 (by decide) (fun h_11 => ?_) (fun h_11 => ?_)
  · skip
    refine x_ldc (pc := 20) (x := (-1000001)) (-1000001) K (by decide) (by decide +kernel) dX11_as_20 ?_
    refine x_iret (pc := 22) K KR (by omega) (Nat.le_of_ble_eq_true rfl) (Nat.le_of_ble_eq_true rfl) dX11_as_22 ?_
    exact ⟨rfl, (-1000001), fin, (Or.inl ⟨by omega, rfl, rfl⟩), rfl, rfl⟩
  · skip
    refine x_iload_n (pc := 14) 3 K rfl rfl dX11_as_14 ?_
    refine x_bipush (pc := 15) K (by decide) dX11_as_15 ?_
    refine x_icmp_lt (pc := 17) (tgt := 23) K (by omega) (by decide) dX11_as_17 (by decide) (fun h_17 => ?_) (fun h_17 => ?_)
    · skip
      refine x_aload_n (pc := 23) 0 K rfl rfl dX11_as_23 ?_
      refine x_iload_n (pc := 24) 3 K rfl rfl dX11_as_24 ?_
      refine x_callS (pc := 25) (As := [.ref (B + o), .int (zI k)]) K (c_X11_isOne_X5 (E := E) (B := B) (N := N)   (cel_ne hc3 (by omega)) (by omega)) gX11_as_X11_isOne rfl (na := 2) (by decide +kernel) rfl ⟨(Nat.le_of_ble_eq_true rfl), (Nat.le_of_ble_eq_true rfl)⟩ (st := []) rfl (Nat.le_of_ble_eq_true rfl) ⟨(Nat.le_of_ble_eq_true rfl), (Nat.le_of_ble_eq_true rfl)⟩ dX11_as_25 (fun r25 N25 w25 hpo25 hN25 => ?_)
      obtain ⟨rfl, rfl, rfl⟩ := hpo25
      refine x_st (st' := [.int (zI (bI (ofA 5 k)))]) rfl ?_
      have hrg25 := bI_rng (ofA 5 k)
      refine x_if_ne (pc := 28) (tgt := 37) K (by omega) dX11_as_28 (by decide) (fun h_28 => ?_) (fun h_28 => ?_)
      · skip
        have h_28 := bI_f h_28
        refine x_aload_n (pc := 37) 1 K rfl rfl dX11_as_37 ?_
        refine x_aload_n (pc := 38) 0 K rfl rfl dX11_as_38 ?_
        refine x_get (pc := 39) (C := RX5) (T := TX5) (n := 4) (ci := 5) (idx := 241) (ref := "BorderBeds$Person") (x := .int (zI (x : Int)))  K (cel_ne hc3 (by omega)) rfl (by decide +kernel) 0 (by decide) (by decide +kernel) rfl rfl dX11_as_39 ?_
        refine x_callV (pc := 42) (C := RX11) (T := TX11) (n := 12) (ci := 10) (As := [.int (zI (x : Int))]) K (c_X11_withoutFinding (E := E) (B := B) (N := N)   (cel_self hc0.1) ) gX11_as_X11_withoutFinding rfl (na := 1) (by decide +kernel) rfl ⟨(Nat.le_of_ble_eq_true rfl), (Nat.le_of_ble_eq_true rfl)⟩ (cel_self hc0.1) rfl (st := []) rfl (Nat.le_of_ble_eq_true rfl) ⟨(Nat.le_of_ble_eq_true rfl), (Nat.le_of_ble_eq_true rfl)⟩ dX11_as_42 (fun r42 N42 w42 hpo42 hN42 => ?_)
        obtain ⟨rfl, rfl, rfl⟩ := hpo42
        refine x_v (w := (va_up v 0 (.inr (10, [.ref (B + 1), .ref (B + 2), .ref (B + 5), .ref (B + 7), .ref (B + 12), .ref (B + 13), .ref (B + 14), .ref (B + c), .int (zI old), .int (zI kept), .int (zI fau), .int (zI 0)])))) (up_at0).symm ?_
        refine x_st (st' := [.int (zI (x : Int))]) rfl ?_
        refine x_iret (pc := 45) K KR (by omega) (Nat.le_of_ble_eq_true rfl) (Nat.le_of_ble_eq_true rfl) dX11_as_45 ?_
        exact ⟨rfl, (x : Int), 0, (Or.inr (Or.inr ⟨by omega, h_28, rfl, rfl⟩)), rfl, rfl⟩
      · skip
        have h_28 := bI_t h_28
        refine x_aload_n (pc := 31) 1 K rfl rfl dX11_as_31 ?_
        refine x_iconst (pc := 32) K dX11_as_32 ?_
        refine x_callV (pc := 33) (C := RX11) (T := TX11) (n := 12) (ci := 10) (As := [.int (zI 3)]) K (c_X11_finding (E := E) (B := B) (N := N)   (cel_self hc0.1) ) gX11_as_X11_finding rfl (na := 1) (by decide +kernel) rfl ⟨(Nat.le_of_ble_eq_true rfl), (Nat.le_of_ble_eq_true rfl)⟩ (cel_self hc0.1) rfl (st := []) rfl (Nat.le_of_ble_eq_true rfl) ⟨(Nat.le_of_ble_eq_true rfl), (Nat.le_of_ble_eq_true rfl)⟩ dX11_as_33 (fun r33 N33 w33 hpo33 hN33 => ?_)
        obtain ⟨rfl, rfl, rfl⟩ := hpo33
        refine x_v (w := (va_up v 0 (.inr (10, [.ref (B + 1), .ref (B + 2), .ref (B + 5), .ref (B + 7), .ref (B + 12), .ref (B + 13), .ref (B + 14), .ref (B + c), .int (zI old), .int (zI kept), .int (zI fau), .int (zI 3)])))) (up_at0).symm ?_
        refine x_st (st' := [.int (zI (-1000010 - 3))]) rfl ?_
        refine x_iret (pc := 36) K KR (by omega) (Nat.le_of_ble_eq_true rfl) (Nat.le_of_ble_eq_true rfl) dX11_as_36 ?_
        exact ⟨rfl, (-1000010 - 3), 3, (Or.inr (Or.inl ⟨by omega, h_28, rfl, rfl⟩)), rfl, rfl⟩
    · skip
      refine x_ldc (pc := 20) (x := (-1000001)) (-1000001) K (by decide) (by decide +kernel) dX11_as_20 ?_
      refine x_iret (pc := 22) K KR (by omega) (Nat.le_of_ble_eq_true rfl) (Nat.le_of_ble_eq_true rfl) dX11_as_22 ?_
      exact ⟨rfl, (-1000001), fin, (Or.inl ⟨by omega, rfl, rfl⟩), rfl, rfl⟩
