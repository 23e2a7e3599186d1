theorem dX11_kind_0 : decode cX11_kind 0 = .ok (.aload_n 0, 1) := by decide +kernel
theorem dX11_kind_1 : decode cX11_kind 1 = .ok (.iload_n 1, 1) := by decide +kernel
set_option maxRecDepth 20000 in
theorem ggX11_kind_X11_personAt : GoodIn wsX11_kind wsX11_personAt := goodIn_r _ [6, 7, 8, 9, 10, 11, 12, 13, 14, 37, 38, 39, 40, 41, 42, 43, 44, 45, 46, 47, 48, 49, 50, 51, 52, 53, 54, 55, 56, 57, 58, 59] (by decide +kernel) (by decide +kernel)
set_option maxRecDepth 20000 in
theorem gX11_kind_X11_personAt : GoodIn wsX11_kind (wsV RX11 135 RX11 yX11_personAt wsX11_personAt) := goodIn_app (goodIn_of _ (by decide +kernel)) ggX11_kind_X11_personAt
theorem dX11_kind_2 : decode cX11_kind 2 = .ok (.invokevirtual 135, 3) := by decide +kernel
theorem dX11_kind_5 : decode cX11_kind 5 = .ok (.astore_n 2, 1) := by decide +kernel
theorem dX11_kind_6 : decode cX11_kind 6 = .ok (.aload_n 2, 1) := by decide +kernel
theorem dX11_kind_7 : decode cX11_kind 7 = .ok (.ifnonnull 8, 3) := by decide +kernel
theorem dX11_kind_10 : decode cX11_kind 10 = .ok (.ldc 71, 2) := by decide +kernel
theorem dX11_kind_12 : decode cX11_kind 12 = .ok (.goto 7, 3) := by decide +kernel
theorem dX11_kind_19 : decode cX11_kind 19 = .ok (.ireturn, 1) := by decide +kernel
theorem dX11_kind_15 : decode cX11_kind 15 = .ok (.aload_n 2, 1) := by decide +kernel
set_option maxRecDepth 20000 in
theorem ggX11_kind_X0_sort : GoodIn wsX11_kind wsX0_sort := goodIn_r _ [20] (by decide +kernel) (by decide +kernel)
set_option maxRecDepth 20000 in
theorem gX11_kind_X0_sort_u233X0 : GoodIn wsX11_kind (va_wsU RX11 233 RX0 "BorderBeds$Person" ⟨"BorderBeds$Person", "sort", "()I"⟩ yX0_sort wsX0_sort) := goodIn_app (goodIn_of _ (by decide +kernel)) ggX11_kind_X0_sort
theorem dX11_kind_16 : decode cX11_kind 16 = .ok (.invokevirtual 233, 3) := by decide +kernel
theorem dX11_isOne_0 : decode cX11_isOne 0 = .ok (.iload_n 1, 1) := by decide +kernel
theorem dX11_isOne_1 : decode cX11_isOne 1 = .ok (.tableswitch 66 0 5 #[39, 41, 46, 51, 56, 61], 39) := by decide +kernel
theorem dX11_isOne_40 : decode cX11_isOne 40 = .ok (.iconst 1, 1) := by decide +kernel
theorem dX11_isOne_41 : decode cX11_isOne 41 = .ok (.ireturn, 1) := by decide +kernel
theorem dX11_isOne_42 : decode cX11_isOne 42 = .ok (.aload_n 0, 1) := by decide +kernel
theorem dX11_isOne_43 : decode cX11_isOne 43 = .ok (.instanceof 265, 3) := by decide +kernel
theorem dX11_isOne_46 : decode cX11_isOne 46 = .ok (.ireturn, 1) := by decide +kernel
theorem dX11_isOne_47 : decode cX11_isOne 47 = .ok (.aload_n 0, 1) := by decide +kernel
theorem dX11_isOne_48 : decode cX11_isOne 48 = .ok (.instanceof 267, 3) := by decide +kernel
theorem dX11_isOne_51 : decode cX11_isOne 51 = .ok (.ireturn, 1) := by decide +kernel
theorem dX11_isOne_52 : decode cX11_isOne 52 = .ok (.aload_n 0, 1) := by decide +kernel
theorem dX11_isOne_53 : decode cX11_isOne 53 = .ok (.instanceof 269, 3) := by decide +kernel
theorem dX11_isOne_56 : decode cX11_isOne 56 = .ok (.ireturn, 1) := by decide +kernel
theorem dX11_isOne_57 : decode cX11_isOne 57 = .ok (.aload_n 0, 1) := by decide +kernel
theorem dX11_isOne_58 : decode cX11_isOne 58 = .ok (.instanceof 271, 3) := by decide +kernel
theorem dX11_isOne_61 : decode cX11_isOne 61 = .ok (.ireturn, 1) := by decide +kernel
theorem dX11_isOne_62 : decode cX11_isOne 62 = .ok (.aload_n 0, 1) := by decide +kernel
theorem dX11_isOne_63 : decode cX11_isOne 63 = .ok (.instanceof 273, 3) := by decide +kernel
theorem dX11_isOne_66 : decode cX11_isOne 66 = .ok (.ireturn, 1) := by decide +kernel
theorem dX11_isOne_67 : decode cX11_isOne 67 = .ok (.iconst 0, 1) := by decide +kernel
theorem dX11_isOne_68 : decode cX11_isOne 68 = .ok (.ireturn, 1) := by decide +kernel
set_option maxRecDepth 20000 in
theorem ggX11_kind_X2_sort : GoodIn wsX11_kind wsX2_sort := goodIn_r _ [28] (by decide +kernel) (by decide +kernel)
set_option maxRecDepth 20000 in
theorem gX11_kind_X2_sort_u233X2 : GoodIn wsX11_kind (va_wsU RX11 233 RX2 "BorderBeds$Person" ⟨"BorderBeds$Person", "sort", "()I"⟩ yX2_sort wsX2_sort) := goodIn_app (goodIn_of _ (by decide +kernel)) ggX11_kind_X2_sort
set_option maxRecDepth 20000 in
theorem ggX11_kind_X10_sort : GoodIn wsX11_kind wsX10_sort := goodIn_r _ [36] (by decide +kernel) (by decide +kernel)
set_option maxRecDepth 20000 in
theorem gX11_kind_X10_sort_u233X10 : GoodIn wsX11_kind (va_wsU RX11 233 RX10 "BorderBeds$Person" ⟨"BorderBeds$Person", "sort", "()I"⟩ yX10_sort wsX10_sort) := goodIn_app (goodIn_of _ (by decide +kernel)) ggX11_kind_X10_sort
set_option maxRecDepth 20000 in
theorem ggX11_kind_X1_sort : GoodIn wsX11_kind wsX1_sort := goodIn_r _ [24] (by decide +kernel) (by decide +kernel)
set_option maxRecDepth 20000 in
theorem gX11_kind_X1_sort_u233X1 : GoodIn wsX11_kind (va_wsU RX11 233 RX1 "BorderBeds$Person" ⟨"BorderBeds$Person", "sort", "()I"⟩ yX1_sort wsX1_sort) := goodIn_app (goodIn_of _ (by decide +kernel)) ggX11_kind_X1_sort
set_option maxRecDepth 20000 in
theorem ggX11_kind_X5_sort : GoodIn wsX11_kind wsX5_sort := goodIn_r _ [32] (by decide +kernel) (by decide +kernel)
set_option maxRecDepth 20000 in
theorem gX11_kind_X5_sort_u233X5 : GoodIn wsX11_kind (va_wsU RX11 233 RX5 "BorderBeds$Person" ⟨"BorderBeds$Person", "sort", "()I"⟩ yX5_sort wsX5_sort) := goodIn_app (goodIn_of _ (by decide +kernel)) ggX11_kind_X5_sort
set_option maxRecDepth 100000 in
set_option maxHeartbeats 4000000 in
theorem c_X11_kind_0 {E : XE} {B N : Nat} {v : Nat → va_E} {old kept fau fin : Int} {x : Int} (hc0 : Cel N v 0 (.inr (10, [.ref (B + 1), .ref (B + 2), .ref (B + 5), .ref (B + 7), .ref (B + 12), .ref (B + 13), .ref (B + 14), .null, .int (zI old), .int (zI kept), .int (zI fau), .int (zI fin)]))) : gM yX11_kind wsX11_kind ({ frames := 2, cells := 0, slots := 0, locals := 42 }) E B N v [.ref (B + 0), .int (zI x)] (po0 N (fun ρ v' => ρ = some (.int (zI (-1000001))) ∧ v = v')) := by
  refine x_met (nm := "kind") (by decide +kernel) rfl (Nat.le_of_ble_eq_true rfl) rfl (fun Γ K KR hnL hnm => ?_)
  show XW Γ N v [(0, .ref (B + 0)), (1, .int (zI x))] 0 0 0 []
  refine x_aload_n (pc := 0) 0 K rfl rfl dX11_kind_0 ?_
  refine x_iload_n (pc := 1) 1 K rfl rfl dX11_kind_1 ?_
  refine x_callV (pc := 2) (C := RX11) (T := TX11) (n := 12) (ci := 10) (As := [.int (zI x)]) K (c_X11_personAt_0 (E := E) (B := B) (N := N)   hc0 ) gX11_kind_X11_personAt rfl (na := 1) (by decide +kernel) rfl ⟨(Nat.le_of_ble_eq_true rfl), (Nat.le_of_ble_eq_true rfl)⟩ hc0 rfl (st := []) rfl (Nat.le_of_ble_eq_true rfl) ⟨(Nat.le_of_ble_eq_true rfl), (Nat.le_of_ble_eq_true rfl)⟩ dX11_kind_2 (fun r2 N2 w2 hpo2 hN2 => ?_)
  obtain ⟨rfl, rfl, rfl⟩ := hpo2
  refine x_st (st' := [.null]) rfl ?_
  refine x_astore_nN (pc := 5) K (L' := [(2, .null), (0, .ref (B + 0)), (1, .int (zI x))]) hnL rfl (by decide) rfl dX11_kind_5 ?_
  refine x_aload_nN (pc := 6) 0 K rfl rfl dX11_kind_6 ?_
  refine x_ifnonnullN (pc := 7) K dX11_kind_7 ?_
  refine x_ldc (pc := 10) (x := (-1000001)) (-1000001) K (by decide) (by decide +kernel) dX11_kind_10 ?_
  refine x_goto (pc := 12) (tgt := 19) K dX11_kind_12 (by decide) ?_
  refine x_iret (pc := 19) K KR (by omega) (Nat.le_of_ble_eq_true rfl) (Nat.le_of_ble_eq_true rfl) dX11_kind_19 ?_
  exact ⟨rfl, rfl, rfl⟩

set_option maxRecDepth 100000 in
set_option maxHeartbeats 4000000 in
theorem c_X11_kind_n {E : XE} {B N : Nat} {v : Nat → va_E} {old kept fau fin : Int} {c : Nat} {p : Nat → Int} {x : Int} (hc0 : Cel N v 0 (.inr (10, [.ref (B + 1), .ref (B + 2), .ref (B + 5), .ref (B + 7), .ref (B + 12), .ref (B + 13), .ref (B + 14), .ref (B + c), .int (zI old), .int (zI kept), .int (zI fau), .int (zI fin)]))) (hc1 : Cel N v c (.inr (3, [.int (zI (p 0)), .int (zI (p 1)), .int (zI (p 2)), .ref (B + (c + 1)), .ref (B + (c + 2)), .int (zI (p 3)), .ref (B + (c + 3)), .int (zI (p 4)), .ref (B + (c + 4)), .ref (B + (c + 13)), .ref (B + (c + 18))]))) (hc2 : Cel N v (c + 3) (rarr E 5 5 B (psA c p))) (hq0 : ¬ (0 ≤ x ∧ x ≤ p 4 - 1)) (hq1 : 0 ≤ p 4 ∧ p 4 ≤ 5) (hq2 : (-2147483648 ≤ x ∧ x ≤ 2147483647)) : gM yX11_kind wsX11_kind ({ frames := 2, cells := 0, slots := 0, locals := 42 }) E B N v [.ref (B + 0), .int (zI x)] (po0 N (fun ρ v' => ρ = some (.int (zI (-1000001))) ∧ v = v')) := by
  refine x_met (nm := "kind") (by decide +kernel) rfl (Nat.le_of_ble_eq_true rfl) rfl (fun Γ K KR hnL hnm => ?_)
  show XW Γ N v [(0, .ref (B + 0)), (1, .int (zI x))] 0 0 0 []
  refine x_aload_n (pc := 0) 0 K rfl rfl dX11_kind_0 ?_
  refine x_iload_n (pc := 1) 1 K rfl rfl dX11_kind_1 ?_
  refine x_callV (pc := 2) (C := RX11) (T := TX11) (n := 12) (ci := 10) (As := [.int (zI x)]) K (c_X11_personAt_n (E := E) (B := B) (N := N)   hc0 hc1 hc2 hq0 (by omega) (by omega)) gX11_kind_X11_personAt rfl (na := 1) (by decide +kernel) rfl ⟨(Nat.le_of_ble_eq_true rfl), (Nat.le_of_ble_eq_true rfl)⟩ hc0 rfl (st := []) rfl (Nat.le_of_ble_eq_true rfl) ⟨(Nat.le_of_ble_eq_true rfl), (Nat.le_of_ble_eq_true rfl)⟩ dX11_kind_2 (fun r2 N2 w2 hpo2 hN2 => ?_)
  obtain ⟨rfl, rfl, rfl⟩ := hpo2
  refine x_st (st' := [.null]) rfl ?_
  refine x_astore_nN (pc := 5) K (L' := [(2, .null), (0, .ref (B + 0)), (1, .int (zI x))]) hnL rfl (by decide) rfl dX11_kind_5 ?_
  refine x_aload_nN (pc := 6) 0 K rfl rfl dX11_kind_6 ?_
  refine x_ifnonnullN (pc := 7) K dX11_kind_7 ?_
  refine x_ldc (pc := 10) (x := (-1000001)) (-1000001) K (by decide) (by decide +kernel) dX11_kind_10 ?_
  refine x_goto (pc := 12) (tgt := 19) K dX11_kind_12 (by decide) ?_
  refine x_iret (pc := 19) K KR (by omega) (Nat.le_of_ble_eq_true rfl) (Nat.le_of_ble_eq_true rfl) dX11_kind_19 ?_
  exact ⟨rfl, rfl, rfl⟩

set_option maxRecDepth 100000 in
set_option maxHeartbeats 4000000 in
theorem c_X11_kind_1 {E : XE} {B N : Nat} {v : Nat → va_E} {old kept fau fin : Int} {c o x : Nat} {p : Nat → Int} {lnd home mil : Int} {x_i : Int} (ha_x : x_i = (x : Int)) (hc0 : Cel N v 0 (.inr (10, [.ref (B + 1), .ref (B + 2), .ref (B + 5), .ref (B + 7), .ref (B + 12), .ref (B + 13), .ref (B + 14), .ref (B + c), .int (zI old), .int (zI kept), .int (zI fau), .int (zI fin)]))) (hc1 : Cel N v c (.inr (3, [.int (zI (p 0)), .int (zI (p 1)), .int (zI (p 2)), .ref (B + (c + 1)), .ref (B + (c + 2)), .int (zI (p 3)), .ref (B + (c + 3)), .int (zI (p 4)), .ref (B + (c + 4)), .ref (B + (c + 13)), .ref (B + (c + 18))]))) (hc2 : Cel N v (c + 3) (rarr E 5 5 B (psA c p))) (hc3 : Cel N v o (.inr (0, [.int (zI (x : Int)), .int (zI lnd), .int (zI home), .int (zI mil)]))) (hq0 : (x : Int) < p 4) (hq1 : p 4 ≤ 5) (hq2 : o = c + 23 + x) : gM yX11_kind wsX11_kind ({ frames := 2, cells := 0, slots := 0, locals := 42 }) E B N v [.ref (B + 0), .int (zI x_i)] (po0 N (fun ρ v' => ρ = some (.int (zI 1)) ∧ v = v')) := by
  subst ha_x
  refine x_met (nm := "kind") (by decide +kernel) rfl (Nat.le_of_ble_eq_true rfl) rfl (fun Γ K KR hnL hnm => ?_)
  show XW Γ N v [(0, .ref (B + 0)), (1, .int (zI (x : Int)))] 0 0 0 []
  refine x_aload_n (pc := 0) 0 K rfl rfl dX11_kind_0 ?_
  refine x_iload_n (pc := 1) 1 K rfl rfl dX11_kind_1 ?_
  refine x_callV (pc := 2) (C := RX11) (T := TX11) (n := 12) (ci := 10) (As := [.int (zI (x : Int))]) K (c_X11_personAt_y (E := E) (B := B) (N := N) (o := o) (x := x) rfl hc0 hc1 hc2 hq0 hq1 hq2) gX11_kind_X11_personAt rfl (na := 1) (by decide +kernel) rfl ⟨(Nat.le_of_ble_eq_true rfl), (Nat.le_of_ble_eq_true rfl)⟩ hc0 rfl (st := []) rfl (Nat.le_of_ble_eq_true rfl) ⟨(Nat.le_of_ble_eq_true rfl), (Nat.le_of_ble_eq_true rfl)⟩ dX11_kind_2 (fun r2 N2 w2 hpo2 hN2 => ?_)
  obtain ⟨rfl, rfl, rfl⟩ := hpo2
  refine x_st (st' := [.ref (B + o)]) rfl ?_
  refine x_astore_n (pc := 5) K (L' := [(2, .ref (B + o)), (0, .ref (B + 0)), (1, .int (zI (x : Int)))]) hnL rfl (by decide) rfl dX11_kind_5 ?_
  refine x_aload_n (pc := 6) 0 K rfl rfl dX11_kind_6 ?_
  refine x_ifnonnull (pc := 7) (tgt := 15) K dX11_kind_7 (by decide) ?_
  refine x_aload_n (pc := 15) 0 K rfl rfl dX11_kind_15 ?_
  refine x_callA (pc := 16) (C := RX0) (T := TX0) (n := 4) (ci := 0) (As := []) K (c_X0_sort_X0 (E := E) (B := B) (N := N)   hc3 ) gX11_kind_X0_sort_u233X0 rfl (na := 0) (by decide +kernel) rfl ⟨(Nat.le_of_ble_eq_true rfl), (Nat.le_of_ble_eq_true rfl)⟩ hc3 rfl (st := []) rfl (Nat.le_of_ble_eq_true rfl) ⟨(Nat.le_of_ble_eq_true rfl), (Nat.le_of_ble_eq_true rfl)⟩ dX11_kind_16 (fun r16 N16 w16 hpo16 hN16 => ?_)
  obtain ⟨rfl, rfl, rfl⟩ := hpo16
  refine x_st (st' := [.int (zI 1)]) rfl ?_
  refine x_iret (pc := 19) K KR (by omega) (Nat.le_of_ble_eq_true rfl) (Nat.le_of_ble_eq_true rfl) dX11_kind_19 ?_
  exact ⟨rfl, rfl, rfl⟩

set_option maxRecDepth 100000 in
set_option maxHeartbeats 4000000 in
theorem c_X11_isOne_X0 {E : XE} {B N : Nat} {v : Nat → va_E} {o : Nat} {num lnd home mil : Int} {k : Int} (hc0 : Cel N v o (.inr (0, [.int (zI num), .int (zI lnd), .int (zI home), .int (zI mil)]))) (hq0 : (-2147483648 ≤ k ∧ k ≤ 2147483647)) : gM yX11_isOne wsX11_isOne ({ frames := 0, cells := 0, slots := 0, locals := 0 }) E B N v [.ref (B + o), .int (zI k)] (po0 N (fun ρ v' => ρ = some (.int (zI (bI (ofA 1 k)))) ∧ v = v')) := by
  refine x_met (nm := "isOne") (by decide +kernel) rfl (Nat.le_of_ble_eq_true rfl) rfl (fun Γ K KR hnL hnm => ?_)
  show XW Γ N v [(0, .ref (B + o)), (1, .int (zI k))] 0 0 0 []
  refine x_iload_n (pc := 0) 1 K rfl rfl dX11_isOne_0 ?_
  by_cases h_1_0 : k = 0
  · skip
    refine x_tswIn (pc := 1) (tgt := 40) K (by omega) (by omega) (by omega) dX11_isOne_1 (by rw [h_1_0]; rfl) (by decide) ?_
    refine x_iconst (pc := 40) K dX11_isOne_40 ?_
    refine x_zret (pc := 41) K KR (by omega) (Nat.le_of_ble_eq_true rfl) (Nat.le_of_ble_eq_true rfl) rfl dX11_isOne_41 ?_
    exact ⟨rfl, ri (by unfold bI ofA; split <;> omega), rfl⟩
  by_cases h_1_1 : k = 1
  · skip
    refine x_tswIn (pc := 1) (tgt := 42) K (by omega) (by omega) (by omega) dX11_isOne_1 (by rw [h_1_1]; rfl) (by decide) ?_
    refine x_aload_n (pc := 42) 0 K rfl rfl dX11_isOne_42 ?_
    refine x_instS (pc := 43) (C := RX0) (T := TX0) (n := 4) (ci := 0) (nm := RX0) K hc0 rfl (by decide +kernel) rfl dX11_isOne_43 ?_
    refine x_zret (pc := 46) K KR (by omega) (Nat.le_of_ble_eq_true rfl) (Nat.le_of_ble_eq_true rfl) rfl dX11_isOne_46 ?_
    exact ⟨rfl, ri (by unfold bI ofA; split <;> omega), rfl⟩
  by_cases h_1_2 : k = 2
  · skip
    refine x_tswIn (pc := 1) (tgt := 47) K (by omega) (by omega) (by omega) dX11_isOne_1 (by rw [h_1_2]; rfl) (by decide) ?_
    refine x_aload_n (pc := 47) 0 K rfl rfl dX11_isOne_47 ?_
    refine x_instN (pc := 48) (C := RX0) (T := TX0) (n := 4) (ci := 0) (nm := RX2) K hc0 rfl (by decide +kernel) (by decide +kernel) dX11_isOne_48 ?_
    refine x_zret (pc := 51) K KR (by omega) (Nat.le_of_ble_eq_true rfl) (Nat.le_of_ble_eq_true rfl) rfl dX11_isOne_51 ?_
    exact ⟨rfl, ri (by unfold bI ofA; split <;> omega), rfl⟩
  by_cases h_1_3 : k = 3
  · skip
    refine x_tswIn (pc := 1) (tgt := 52) K (by omega) (by omega) (by omega) dX11_isOne_1 (by rw [h_1_3]; rfl) (by decide) ?_
    refine x_aload_n (pc := 52) 0 K rfl rfl dX11_isOne_52 ?_
    refine x_instN (pc := 53) (C := RX0) (T := TX0) (n := 4) (ci := 0) (nm := RX10) K hc0 rfl (by decide +kernel) (by decide +kernel) dX11_isOne_53 ?_
    refine x_zret (pc := 56) K KR (by omega) (Nat.le_of_ble_eq_true rfl) (Nat.le_of_ble_eq_true rfl) rfl dX11_isOne_56 ?_
    exact ⟨rfl, ri (by unfold bI ofA; split <;> omega), rfl⟩
  by_cases h_1_4 : k = 4
  · skip
    refine x_tswIn (pc := 1) (tgt := 57) K (by omega) (by omega) (by omega) dX11_isOne_1 (by rw [h_1_4]; rfl) (by decide) ?_
    refine x_aload_n (pc := 57) 0 K rfl rfl dX11_isOne_57 ?_
    refine x_instN (pc := 58) (C := RX0) (T := TX0) (n := 4) (ci := 0) (nm := RX1) K hc0 rfl (by decide +kernel) (by decide +kernel) dX11_isOne_58 ?_
    refine x_zret (pc := 61) K KR (by omega) (Nat.le_of_ble_eq_true rfl) (Nat.le_of_ble_eq_true rfl) rfl dX11_isOne_61 ?_
    exact ⟨rfl, ri (by unfold bI ofA; split <;> omega), rfl⟩
  by_cases h_1_5 : k = 5
  · skip
    refine x_tswIn (pc := 1) (tgt := 62) K (by omega) (by omega) (by omega) dX11_isOne_1 (by rw [h_1_5]; rfl) (by decide) ?_
    refine x_aload_n (pc := 62) 0 K rfl rfl dX11_isOne_62 ?_
    refine x_instN (pc := 63) (C := RX0) (T := TX0) (n := 4) (ci := 0) (nm := RX5) K hc0 rfl (by decide +kernel) (by decide +kernel) dX11_isOne_63 ?_
    refine x_zret (pc := 66) K KR (by omega) (Nat.le_of_ble_eq_true rfl) (Nat.le_of_ble_eq_true rfl) rfl dX11_isOne_66 ?_
    exact ⟨rfl, ri (by unfold bI ofA; split <;> omega), rfl⟩
  refine x_tswOut (pc := 1) (tgt := 67) K (by omega) (by omega) dX11_isOne_1 (by decide) ?_
  refine x_iconst (pc := 67) K dX11_isOne_67 ?_
  refine x_zret (pc := 68) K KR (by omega) (Nat.le_of_ble_eq_true rfl) (Nat.le_of_ble_eq_true rfl) rfl dX11_isOne_68 ?_
  exact ⟨rfl, ri (by unfold bI ofA; split <;> omega), rfl⟩

set_option maxRecDepth 100000 in
set_option maxHeartbeats 4000000 in
theorem c_X11_kind_2 {E : XE} {B N : Nat} {v : Nat → va_E} {old kept fau fin : Int} {c o x : Nat} {p : Nat → Int} {lnd home mil : Int} {x_i : Int} (ha_x : x_i = (x : Int)) (hc0 : Cel N v 0 (.inr (10, [.ref (B + 1), .ref (B + 2), .ref (B + 5), .ref (B + 7), .ref (B + 12), .ref (B + 13), .ref (B + 14), .ref (B + c), .int (zI old), .int (zI kept), .int (zI fau), .int (zI fin)]))) (hc1 : Cel N v c (.inr (3, [.int (zI (p 0)), .int (zI (p 1)), .int (zI (p 2)), .ref (B + (c + 1)), .ref (B + (c + 2)), .int (zI (p 3)), .ref (B + (c + 3)), .int (zI (p 4)), .ref (B + (c + 4)), .ref (B + (c + 13)), .ref (B + (c + 18))]))) (hc2 : Cel N v (c + 3) (rarr E 5 5 B (psA c p))) (hc3 : Cel N v o (.inr (2, [.int (zI (x : Int)), .int (zI lnd), .int (zI home), .int (zI mil)]))) (hq0 : (x : Int) < p 4) (hq1 : p 4 ≤ 5) (hq2 : o = c + 23 + x) : gM yX11_kind wsX11_kind ({ frames := 2, cells := 0, slots := 0, locals := 42 }) E B N v [.ref (B + 0), .int (zI x_i)] (po0 N (fun ρ v' => ρ = some (.int (zI 2)) ∧ v = v')) := by
  subst ha_x
  refine x_met (nm := "kind") (by decide +kernel) rfl (Nat.le_of_ble_eq_true rfl) rfl (fun Γ K KR hnL hnm => ?_)
  show XW Γ N v [(0, .ref (B + 0)), (1, .int (zI (x : Int)))] 0 0 0 []
  refine x_aload_n (pc := 0) 0 K rfl rfl dX11_kind_0 ?_
  refine x_iload_n (pc := 1) 1 K rfl rfl dX11_kind_1 ?_
  refine x_callV (pc := 2) (C := RX11) (T := TX11) (n := 12) (ci := 10) (As := [.int (zI (x : Int))]) K (c_X11_personAt_y (E := E) (B := B) (N := N) (o := o) (x := x) rfl hc0 hc1 hc2 hq0 hq1 hq2) gX11_kind_X11_personAt rfl (na := 1) (by decide +kernel) rfl ⟨(Nat.le_of_ble_eq_true rfl), (Nat.le_of_ble_eq_true rfl)⟩ hc0 rfl (st := []) rfl (Nat.le_of_ble_eq_true rfl) ⟨(Nat.le_of_ble_eq_true rfl), (Nat.le_of_ble_eq_true rfl)⟩ dX11_kind_2 (fun r2 N2 w2 hpo2 hN2 => ?_)
  obtain ⟨rfl, rfl, rfl⟩ := hpo2
  refine x_st (st' := [.ref (B + o)]) rfl ?_
  refine x_astore_n (pc := 5) K (L' := [(2, .ref (B + o)), (0, .ref (B + 0)), (1, .int (zI (x : Int)))]) hnL rfl (by decide) rfl dX11_kind_5 ?_
  refine x_aload_n (pc := 6) 0 K rfl rfl dX11_kind_6 ?_
  refine x_ifnonnull (pc := 7) (tgt := 15) K dX11_kind_7 (by decide) ?_
  refine x_aload_n (pc := 15) 0 K rfl rfl dX11_kind_15 ?_
  refine x_callA (pc := 16) (C := RX2) (T := TX2) (n := 4) (ci := 2) (As := []) K (c_X2_sort_X2 (E := E) (B := B) (N := N)   hc3 ) gX11_kind_X2_sort_u233X2 rfl (na := 0) (by decide +kernel) rfl ⟨(Nat.le_of_ble_eq_true rfl), (Nat.le_of_ble_eq_true rfl)⟩ hc3 rfl (st := []) rfl (Nat.le_of_ble_eq_true rfl) ⟨(Nat.le_of_ble_eq_true rfl), (Nat.le_of_ble_eq_true rfl)⟩ dX11_kind_16 (fun r16 N16 w16 hpo16 hN16 => ?_)
  obtain ⟨rfl, rfl, rfl⟩ := hpo16
  refine x_st (st' := [.int (zI 2)]) rfl ?_
  refine x_iret (pc := 19) K KR (by omega) (Nat.le_of_ble_eq_true rfl) (Nat.le_of_ble_eq_true rfl) dX11_kind_19 ?_
  exact ⟨rfl, rfl, rfl⟩

set_option maxRecDepth 100000 in
set_option maxHeartbeats 4000000 in
theorem c_X11_isOne_X2 {E : XE} {B N : Nat} {v : Nat → va_E} {o : Nat} {num lnd home mil : Int} {k : Int} (hc0 : Cel N v o (.inr (2, [.int (zI num), .int (zI lnd), .int (zI home), .int (zI mil)]))) (hq0 : (-2147483648 ≤ k ∧ k ≤ 2147483647)) : gM yX11_isOne wsX11_isOne ({ frames := 0, cells := 0, slots := 0, locals := 0 }) E B N v [.ref (B + o), .int (zI k)] (po0 N (fun ρ v' => ρ = some (.int (zI (bI (ofA 2 k)))) ∧ v = v')) := by
  refine x_met (nm := "isOne") (by decide +kernel) rfl (Nat.le_of_ble_eq_true rfl) rfl (fun Γ K KR hnL hnm => ?_)
  show XW Γ N v [(0, .ref (B + o)), (1, .int (zI k))] 0 0 0 []
  refine x_iload_n (pc := 0) 1 K rfl rfl dX11_isOne_0 ?_
  by_cases h_1_0 : k = 0
  · skip
    refine x_tswIn (pc := 1) (tgt := 40) K (by omega) (by omega) (by omega) dX11_isOne_1 (by rw [h_1_0]; rfl) (by decide) ?_
    refine x_iconst (pc := 40) K dX11_isOne_40 ?_
    refine x_zret (pc := 41) K KR (by omega) (Nat.le_of_ble_eq_true rfl) (Nat.le_of_ble_eq_true rfl) rfl dX11_isOne_41 ?_
    exact ⟨rfl, ri (by unfold bI ofA; split <;> omega), rfl⟩
  by_cases h_1_1 : k = 1
  · skip
    refine x_tswIn (pc := 1) (tgt := 42) K (by omega) (by omega) (by omega) dX11_isOne_1 (by rw [h_1_1]; rfl) (by decide) ?_
    refine x_aload_n (pc := 42) 0 K rfl rfl dX11_isOne_42 ?_
    refine x_instY (pc := 43) (C := RX2) (T := TX2) (n := 4) (ci := 2) (nm := RX0) K hc0 rfl (by decide +kernel) (by decide +kernel) dX11_isOne_43 ?_
    refine x_zret (pc := 46) K KR (by omega) (Nat.le_of_ble_eq_true rfl) (Nat.le_of_ble_eq_true rfl) rfl dX11_isOne_46 ?_
    exact ⟨rfl, ri (by unfold bI ofA; split <;> omega), rfl⟩
  by_cases h_1_2 : k = 2
  · skip
    refine x_tswIn (pc := 1) (tgt := 47) K (by omega) (by omega) (by omega) dX11_isOne_1 (by rw [h_1_2]; rfl) (by decide) ?_
    refine x_aload_n (pc := 47) 0 K rfl rfl dX11_isOne_47 ?_
    refine x_instS (pc := 48) (C := RX2) (T := TX2) (n := 4) (ci := 2) (nm := RX2) K hc0 rfl (by decide +kernel) rfl dX11_isOne_48 ?_
    refine x_zret (pc := 51) K KR (by omega) (Nat.le_of_ble_eq_true rfl) (Nat.le_of_ble_eq_true rfl) rfl dX11_isOne_51 ?_
    exact ⟨rfl, ri (by unfold bI ofA; split <;> omega), rfl⟩
  by_cases h_1_3 : k = 3
  · skip
    refine x_tswIn (pc := 1) (tgt := 52) K (by omega) (by omega) (by omega) dX11_isOne_1 (by rw [h_1_3]; rfl) (by decide) ?_
    refine x_aload_n (pc := 52) 0 K rfl rfl dX11_isOne_52 ?_
    refine x_instN (pc := 53) (C := RX2) (T := TX2) (n := 4) (ci := 2) (nm := RX10) K hc0 rfl (by decide +kernel) (by decide +kernel) dX11_isOne_53 ?_
    refine x_zret (pc := 56) K KR (by omega) (Nat.le_of_ble_eq_true rfl) (Nat.le_of_ble_eq_true rfl) rfl dX11_isOne_56 ?_
    exact ⟨rfl, ri (by unfold bI ofA; split <;> omega), rfl⟩
  by_cases h_1_4 : k = 4
  · skip
    refine x_tswIn (pc := 1) (tgt := 57) K (by omega) (by omega) (by omega) dX11_isOne_1 (by rw [h_1_4]; rfl) (by decide) ?_
    refine x_aload_n (pc := 57) 0 K rfl rfl dX11_isOne_57 ?_
    refine x_instN (pc := 58) (C := RX2) (T := TX2) (n := 4) (ci := 2) (nm := RX1) K hc0 rfl (by decide +kernel) (by decide +kernel) dX11_isOne_58 ?_
    refine x_zret (pc := 61) K KR (by omega) (Nat.le_of_ble_eq_true rfl) (Nat.le_of_ble_eq_true rfl) rfl dX11_isOne_61 ?_
    exact ⟨rfl, ri (by unfold bI ofA; split <;> omega), rfl⟩
  by_cases h_1_5 : k = 5
  · skip
    refine x_tswIn (pc := 1) (tgt := 62) K (by omega) (by omega) (by omega) dX11_isOne_1 (by rw [h_1_5]; rfl) (by decide) ?_
    refine x_aload_n (pc := 62) 0 K rfl rfl dX11_isOne_62 ?_
    refine x_instN (pc := 63) (C := RX2) (T := TX2) (n := 4) (ci := 2) (nm := RX5) K hc0 rfl (by decide +kernel) (by decide +kernel) dX11_isOne_63 ?_
    refine x_zret (pc := 66) K KR (by omega) (Nat.le_of_ble_eq_true rfl) (Nat.le_of_ble_eq_true rfl) rfl dX11_isOne_66 ?_
    exact ⟨rfl, ri (by unfold bI ofA; split <;> omega), rfl⟩
  refine x_tswOut (pc := 1) (tgt := 67) K (by omega) (by omega) dX11_isOne_1 (by decide) ?_
  refine x_iconst (pc := 67) K dX11_isOne_67 ?_
  refine x_zret (pc := 68) K KR (by omega) (Nat.le_of_ble_eq_true rfl) (Nat.le_of_ble_eq_true rfl) rfl dX11_isOne_68 ?_
  exact ⟨rfl, ri (by unfold bI ofA; split <;> omega), rfl⟩

set_option maxRecDepth 100000 in
set_option maxHeartbeats 4000000 in
theorem c_X11_kind_3 {E : XE} {B N : Nat} {v : Nat → va_E} {old kept fau fin : Int} {c o x : Nat} {p : Nat → Int} {lnd home mil : Int} {x_i : Int} (ha_x : x_i = (x : Int)) (hc0 : Cel N v 0 (.inr (10, [.ref (B + 1), .ref (B + 2), .ref (B + 5), .ref (B + 7), .ref (B + 12), .ref (B + 13), .ref (B + 14), .ref (B + c), .int (zI old), .int (zI kept), .int (zI fau), .int (zI fin)]))) (hc1 : Cel N v c (.inr (3, [.int (zI (p 0)), .int (zI (p 1)), .int (zI (p 2)), .ref (B + (c + 1)), .ref (B + (c + 2)), .int (zI (p 3)), .ref (B + (c + 3)), .int (zI (p 4)), .ref (B + (c + 4)), .ref (B + (c + 13)), .ref (B + (c + 18))]))) (hc2 : Cel N v (c + 3) (rarr E 5 5 B (psA c p))) (hc3 : Cel N v o (.inr (9, [.int (zI (x : Int)), .int (zI lnd), .int (zI home), .int (zI mil)]))) (hq0 : (x : Int) < p 4) (hq1 : p 4 ≤ 5) (hq2 : o = c + 23 + x) : gM yX11_kind wsX11_kind ({ frames := 2, cells := 0, slots := 0, locals := 42 }) E B N v [.ref (B + 0), .int (zI x_i)] (po0 N (fun ρ v' => ρ = some (.int (zI 3)) ∧ v = v')) := by
  subst ha_x
  refine x_met (nm := "kind") (by decide +kernel) rfl (Nat.le_of_ble_eq_true rfl) rfl (fun Γ K KR hnL hnm => ?_)
  show XW Γ N v [(0, .ref (B + 0)), (1, .int (zI (x : Int)))] 0 0 0 []
  refine x_aload_n (pc := 0) 0 K rfl rfl dX11_kind_0 ?_
  refine x_iload_n (pc := 1) 1 K rfl rfl dX11_kind_1 ?_
  refine x_callV (pc := 2) (C := RX11) (T := TX11) (n := 12) (ci := 10) (As := [.int (zI (x : Int))]) K (c_X11_personAt_y (E := E) (B := B) (N := N) (o := o) (x := x) rfl hc0 hc1 hc2 hq0 hq1 hq2) gX11_kind_X11_personAt rfl (na := 1) (by decide +kernel) rfl ⟨(Nat.le_of_ble_eq_true rfl), (Nat.le_of_ble_eq_true rfl)⟩ hc0 rfl (st := []) rfl (Nat.le_of_ble_eq_true rfl) ⟨(Nat.le_of_ble_eq_true rfl), (Nat.le_of_ble_eq_true rfl)⟩ dX11_kind_2 (fun r2 N2 w2 hpo2 hN2 => ?_)
  obtain ⟨rfl, rfl, rfl⟩ := hpo2
  refine x_st (st' := [.ref (B + o)]) rfl ?_
  refine x_astore_n (pc := 5) K (L' := [(2, .ref (B + o)), (0, .ref (B + 0)), (1, .int (zI (x : Int)))]) hnL rfl (by decide) rfl dX11_kind_5 ?_
  refine x_aload_n (pc := 6) 0 K rfl rfl dX11_kind_6 ?_
  refine x_ifnonnull (pc := 7) (tgt := 15) K dX11_kind_7 (by decide) ?_
  refine x_aload_n (pc := 15) 0 K rfl rfl dX11_kind_15 ?_
  refine x_callA (pc := 16) (C := RX10) (T := TX10) (n := 4) (ci := 9) (As := []) K (c_X10_sort_X10 (E := E) (B := B) (N := N)   hc3 ) gX11_kind_X10_sort_u233X10 rfl (na := 0) (by decide +kernel) rfl ⟨(Nat.le_of_ble_eq_true rfl), (Nat.le_of_ble_eq_true rfl)⟩ hc3 rfl (st := []) rfl (Nat.le_of_ble_eq_true rfl) ⟨(Nat.le_of_ble_eq_true rfl), (Nat.le_of_ble_eq_true rfl)⟩ dX11_kind_16 (fun r16 N16 w16 hpo16 hN16 => ?_)
  obtain ⟨rfl, rfl, rfl⟩ := hpo16
  refine x_st (st' := [.int (zI 3)]) rfl ?_
  refine x_iret (pc := 19) K KR (by omega) (Nat.le_of_ble_eq_true rfl) (Nat.le_of_ble_eq_true rfl) dX11_kind_19 ?_
  exact ⟨rfl, rfl, rfl⟩

set_option maxRecDepth 100000 in
set_option maxHeartbeats 4000000 in
theorem c_X11_isOne_X10 {E : XE} {B N : Nat} {v : Nat → va_E} {o : Nat} {num lnd home mil : Int} {k : Int} (hc0 : Cel N v o (.inr (9, [.int (zI num), .int (zI lnd), .int (zI home), .int (zI mil)]))) (hq0 : (-2147483648 ≤ k ∧ k ≤ 2147483647)) : gM yX11_isOne wsX11_isOne ({ frames := 0, cells := 0, slots := 0, locals := 0 }) E B N v [.ref (B + o), .int (zI k)] (po0 N (fun ρ v' => ρ = some (.int (zI (bI (ofA 3 k)))) ∧ v = v')) := by
  refine x_met (nm := "isOne") (by decide +kernel) rfl (Nat.le_of_ble_eq_true rfl) rfl (fun Γ K KR hnL hnm => ?_)
  show XW Γ N v [(0, .ref (B + o)), (1, .int (zI k))] 0 0 0 []
  refine x_iload_n (pc := 0) 1 K rfl rfl dX11_isOne_0 ?_
  by_cases h_1_0 : k = 0
  · skip
    refine x_tswIn (pc := 1) (tgt := 40) K (by omega) (by omega) (by omega) dX11_isOne_1 (by rw [h_1_0]; rfl) (by decide) ?_
    refine x_iconst (pc := 40) K dX11_isOne_40 ?_
    refine x_zret (pc := 41) K KR (by omega) (Nat.le_of_ble_eq_true rfl) (Nat.le_of_ble_eq_true rfl) rfl dX11_isOne_41 ?_
    exact ⟨rfl, ri (by unfold bI ofA; split <;> omega), rfl⟩
  by_cases h_1_1 : k = 1
  · skip
    refine x_tswIn (pc := 1) (tgt := 42) K (by omega) (by omega) (by omega) dX11_isOne_1 (by rw [h_1_1]; rfl) (by decide) ?_
    refine x_aload_n (pc := 42) 0 K rfl rfl dX11_isOne_42 ?_
    refine x_instY (pc := 43) (C := RX10) (T := TX10) (n := 4) (ci := 9) (nm := RX0) K hc0 rfl (by decide +kernel) (by decide +kernel) dX11_isOne_43 ?_
    refine x_zret (pc := 46) K KR (by omega) (Nat.le_of_ble_eq_true rfl) (Nat.le_of_ble_eq_true rfl) rfl dX11_isOne_46 ?_
    exact ⟨rfl, ri (by unfold bI ofA; split <;> omega), rfl⟩
  by_cases h_1_2 : k = 2
  · skip
    refine x_tswIn (pc := 1) (tgt := 47) K (by omega) (by omega) (by omega) dX11_isOne_1 (by rw [h_1_2]; rfl) (by decide) ?_
    refine x_aload_n (pc := 47) 0 K rfl rfl dX11_isOne_47 ?_
    refine x_instN (pc := 48) (C := RX10) (T := TX10) (n := 4) (ci := 9) (nm := RX2) K hc0 rfl (by decide +kernel) (by decide +kernel) dX11_isOne_48 ?_
    refine x_zret (pc := 51) K KR (by omega) (Nat.le_of_ble_eq_true rfl) (Nat.le_of_ble_eq_true rfl) rfl dX11_isOne_51 ?_
    exact ⟨rfl, ri (by unfold bI ofA; split <;> omega), rfl⟩
  by_cases h_1_3 : k = 3
  · skip
    refine x_tswIn (pc := 1) (tgt := 52) K (by omega) (by omega) (by omega) dX11_isOne_1 (by rw [h_1_3]; rfl) (by decide) ?_
    refine x_aload_n (pc := 52) 0 K rfl rfl dX11_isOne_52 ?_
    refine x_instS (pc := 53) (C := RX10) (T := TX10) (n := 4) (ci := 9) (nm := RX10) K hc0 rfl (by decide +kernel) rfl dX11_isOne_53 ?_
    refine x_zret (pc := 56) K KR (by omega) (Nat.le_of_ble_eq_true rfl) (Nat.le_of_ble_eq_true rfl) rfl dX11_isOne_56 ?_
    exact ⟨rfl, ri (by unfold bI ofA; split <;> omega), rfl⟩
  by_cases h_1_4 : k = 4
  · skip
    refine x_tswIn (pc := 1) (tgt := 57) K (by omega) (by omega) (by omega) dX11_isOne_1 (by rw [h_1_4]; rfl) (by decide) ?_
    refine x_aload_n (pc := 57) 0 K rfl rfl dX11_isOne_57 ?_
    refine x_instN (pc := 58) (C := RX10) (T := TX10) (n := 4) (ci := 9) (nm := RX1) K hc0 rfl (by decide +kernel) (by decide +kernel) dX11_isOne_58 ?_
    refine x_zret (pc := 61) K KR (by omega) (Nat.le_of_ble_eq_true rfl) (Nat.le_of_ble_eq_true rfl) rfl dX11_isOne_61 ?_
    exact ⟨rfl, ri (by unfold bI ofA; split <;> omega), rfl⟩
  by_cases h_1_5 : k = 5
  · skip
    refine x_tswIn (pc := 1) (tgt := 62) K (by omega) (by omega) (by omega) dX11_isOne_1 (by rw [h_1_5]; rfl) (by decide) ?_
    refine x_aload_n (pc := 62) 0 K rfl rfl dX11_isOne_62 ?_
    refine x_instN (pc := 63) (C := RX10) (T := TX10) (n := 4) (ci := 9) (nm := RX5) K hc0 rfl (by decide +kernel) (by decide +kernel) dX11_isOne_63 ?_
    refine x_zret (pc := 66) K KR (by omega) (Nat.le_of_ble_eq_true rfl) (Nat.le_of_ble_eq_true rfl) rfl dX11_isOne_66 ?_
    exact ⟨rfl, ri (by unfold bI ofA; split <;> omega), rfl⟩
  refine x_tswOut (pc := 1) (tgt := 67) K (by omega) (by omega) dX11_isOne_1 (by decide) ?_
  refine x_iconst (pc := 67) K dX11_isOne_67 ?_
  refine x_zret (pc := 68) K KR (by omega) (Nat.le_of_ble_eq_true rfl) (Nat.le_of_ble_eq_true rfl) rfl dX11_isOne_68 ?_
  exact ⟨rfl, ri (by unfold bI ofA; split <;> omega), rfl⟩

set_option maxRecDepth 100000 in
set_option maxHeartbeats 4000000 in
theorem c_X11_kind_4 {E : XE} {B N : Nat} {v : Nat → va_E} {old kept fau fin : Int} {c o x : Nat} {p : Nat → Int} {lnd home mil : Int} {x_i : Int} (ha_x : x_i = (x : Int)) (hc0 : Cel N v 0 (.inr (10, [.ref (B + 1), .ref (B + 2), .ref (B + 5), .ref (B + 7), .ref (B + 12), .ref (B + 13), .ref (B + 14), .ref (B + c), .int (zI old), .int (zI kept), .int (zI fau), .int (zI fin)]))) (hc1 : Cel N v c (.inr (3, [.int (zI (p 0)), .int (zI (p 1)), .int (zI (p 2)), .ref (B + (c + 1)), .ref (B + (c + 2)), .int (zI (p 3)), .ref (B + (c + 3)), .int (zI (p 4)), .ref (B + (c + 4)), .ref (B + (c + 13)), .ref (B + (c + 18))]))) (hc2 : Cel N v (c + 3) (rarr E 5 5 B (psA c p))) (hc3 : Cel N v o (.inr (1, [.int (zI (x : Int)), .int (zI lnd), .int (zI home), .int (zI mil)]))) (hq0 : (x : Int) < p 4) (hq1 : p 4 ≤ 5) (hq2 : o = c + 23 + x) : gM yX11_kind wsX11_kind ({ frames := 2, cells := 0, slots := 0, locals := 42 }) E B N v [.ref (B + 0), .int (zI x_i)] (po0 N (fun ρ v' => ρ = some (.int (zI 4)) ∧ v = v')) := by
  subst ha_x
  refine x_met (nm := "kind") (by decide +kernel) rfl (Nat.le_of_ble_eq_true rfl) rfl (fun Γ K KR hnL hnm => ?_)
  show XW Γ N v [(0, .ref (B + 0)), (1, .int (zI (x : Int)))] 0 0 0 []
  refine x_aload_n (pc := 0) 0 K rfl rfl dX11_kind_0 ?_
  refine x_iload_n (pc := 1) 1 K rfl rfl dX11_kind_1 ?_
  refine x_callV (pc := 2) (C := RX11) (T := TX11) (n := 12) (ci := 10) (As := [.int (zI (x : Int))]) K (c_X11_personAt_y (E := E) (B := B) (N := N) (o := o) (x := x) rfl hc0 hc1 hc2 hq0 hq1 hq2) gX11_kind_X11_personAt rfl (na := 1) (by decide +kernel) rfl ⟨(Nat.le_of_ble_eq_true rfl), (Nat.le_of_ble_eq_true rfl)⟩ hc0 rfl (st := []) rfl (Nat.le_of_ble_eq_true rfl) ⟨(Nat.le_of_ble_eq_true rfl), (Nat.le_of_ble_eq_true rfl)⟩ dX11_kind_2 (fun r2 N2 w2 hpo2 hN2 => ?_)
  obtain ⟨rfl, rfl, rfl⟩ := hpo2
  refine x_st (st' := [.ref (B + o)]) rfl ?_
  refine x_astore_n (pc := 5) K (L' := [(2, .ref (B + o)), (0, .ref (B + 0)), (1, .int (zI (x : Int)))]) hnL rfl (by decide) rfl dX11_kind_5 ?_
  refine x_aload_n (pc := 6) 0 K rfl rfl dX11_kind_6 ?_
  refine x_ifnonnull (pc := 7) (tgt := 15) K dX11_kind_7 (by decide) ?_
  refine x_aload_n (pc := 15) 0 K rfl rfl dX11_kind_15 ?_
  refine x_callA (pc := 16) (C := RX1) (T := TX1) (n := 4) (ci := 1) (As := []) K (c_X1_sort_X1 (E := E) (B := B) (N := N)   hc3 ) gX11_kind_X1_sort_u233X1 rfl (na := 0) (by decide +kernel) rfl ⟨(Nat.le_of_ble_eq_true rfl), (Nat.le_of_ble_eq_true rfl)⟩ hc3 rfl (st := []) rfl (Nat.le_of_ble_eq_true rfl) ⟨(Nat.le_of_ble_eq_true rfl), (Nat.le_of_ble_eq_true rfl)⟩ dX11_kind_16 (fun r16 N16 w16 hpo16 hN16 => ?_)
  obtain ⟨rfl, rfl, rfl⟩ := hpo16
  refine x_st (st' := [.int (zI 4)]) rfl ?_
  refine x_iret (pc := 19) K KR (by omega) (Nat.le_of_ble_eq_true rfl) (Nat.le_of_ble_eq_true rfl) dX11_kind_19 ?_
  exact ⟨rfl, rfl, rfl⟩

set_option maxRecDepth 100000 in
set_option maxHeartbeats 4000000 in
theorem c_X11_isOne_X1 {E : XE} {B N : Nat} {v : Nat → va_E} {o : Nat} {num lnd home mil : Int} {k : Int} (hc0 : Cel N v o (.inr (1, [.int (zI num), .int (zI lnd), .int (zI home), .int (zI mil)]))) (hq0 : (-2147483648 ≤ k ∧ k ≤ 2147483647)) : gM yX11_isOne wsX11_isOne ({ frames := 0, cells := 0, slots := 0, locals := 0 }) E B N v [.ref (B + o), .int (zI k)] (po0 N (fun ρ v' => ρ = some (.int (zI (bI (ofA 4 k)))) ∧ v = v')) := by
  refine x_met (nm := "isOne") (by decide +kernel) rfl (Nat.le_of_ble_eq_true rfl) rfl (fun Γ K KR hnL hnm => ?_)
  show XW Γ N v [(0, .ref (B + o)), (1, .int (zI k))] 0 0 0 []
  refine x_iload_n (pc := 0) 1 K rfl rfl dX11_isOne_0 ?_
  by_cases h_1_0 : k = 0
  · skip
    refine x_tswIn (pc := 1) (tgt := 40) K (by omega) (by omega) (by omega) dX11_isOne_1 (by rw [h_1_0]; rfl) (by decide) ?_
    refine x_iconst (pc := 40) K dX11_isOne_40 ?_
    refine x_zret (pc := 41) K KR (by omega) (Nat.le_of_ble_eq_true rfl) (Nat.le_of_ble_eq_true rfl) rfl dX11_isOne_41 ?_
    exact ⟨rfl, ri (by unfold bI ofA; split <;> omega), rfl⟩
  by_cases h_1_1 : k = 1
  · skip
    refine x_tswIn (pc := 1) (tgt := 42) K (by omega) (by omega) (by omega) dX11_isOne_1 (by rw [h_1_1]; rfl) (by decide) ?_
    refine x_aload_n (pc := 42) 0 K rfl rfl dX11_isOne_42 ?_
    refine x_instN (pc := 43) (C := RX1) (T := TX1) (n := 4) (ci := 1) (nm := RX0) K hc0 rfl (by decide +kernel) (by decide +kernel) dX11_isOne_43 ?_
    refine x_zret (pc := 46) K KR (by omega) (Nat.le_of_ble_eq_true rfl) (Nat.le_of_ble_eq_true rfl) rfl dX11_isOne_46 ?_
    exact ⟨rfl, ri (by unfold bI ofA; split <;> omega), rfl⟩
  by_cases h_1_2 : k = 2
  · skip
    refine x_tswIn (pc := 1) (tgt := 47) K (by omega) (by omega) (by omega) dX11_isOne_1 (by rw [h_1_2]; rfl) (by decide) ?_
    refine x_aload_n (pc := 47) 0 K rfl rfl dX11_isOne_47 ?_
    refine x_instN (pc := 48) (C := RX1) (T := TX1) (n := 4) (ci := 1) (nm := RX2) K hc0 rfl (by decide +kernel) (by decide +kernel) dX11_isOne_48 ?_
    refine x_zret (pc := 51) K KR (by omega) (Nat.le_of_ble_eq_true rfl) (Nat.le_of_ble_eq_true rfl) rfl dX11_isOne_51 ?_
    exact ⟨rfl, ri (by unfold bI ofA; split <;> omega), rfl⟩
  by_cases h_1_3 : k = 3
  · skip
    refine x_tswIn (pc := 1) (tgt := 52) K (by omega) (by omega) (by omega) dX11_isOne_1 (by rw [h_1_3]; rfl) (by decide) ?_
    refine x_aload_n (pc := 52) 0 K rfl rfl dX11_isOne_52 ?_
    refine x_instN (pc := 53) (C := RX1) (T := TX1) (n := 4) (ci := 1) (nm := RX10) K hc0 rfl (by decide +kernel) (by decide +kernel) dX11_isOne_53 ?_
    refine x_zret (pc := 56) K KR (by omega) (Nat.le_of_ble_eq_true rfl) (Nat.le_of_ble_eq_true rfl) rfl dX11_isOne_56 ?_
    exact ⟨rfl, ri (by unfold bI ofA; split <;> omega), rfl⟩
  by_cases h_1_4 : k = 4
  · skip
    refine x_tswIn (pc := 1) (tgt := 57) K (by omega) (by omega) (by omega) dX11_isOne_1 (by rw [h_1_4]; rfl) (by decide) ?_
    refine x_aload_n (pc := 57) 0 K rfl rfl dX11_isOne_57 ?_
    refine x_instS (pc := 58) (C := RX1) (T := TX1) (n := 4) (ci := 1) (nm := RX1) K hc0 rfl (by decide +kernel) rfl dX11_isOne_58 ?_
    refine x_zret (pc := 61) K KR (by omega) (Nat.le_of_ble_eq_true rfl) (Nat.le_of_ble_eq_true rfl) rfl dX11_isOne_61 ?_
    exact ⟨rfl, ri (by unfold bI ofA; split <;> omega), rfl⟩
  by_cases h_1_5 : k = 5
  · skip
    refine x_tswIn (pc := 1) (tgt := 62) K (by omega) (by omega) (by omega) dX11_isOne_1 (by rw [h_1_5]; rfl) (by decide) ?_
    refine x_aload_n (pc := 62) 0 K rfl rfl dX11_isOne_62 ?_
    refine x_instN (pc := 63) (C := RX1) (T := TX1) (n := 4) (ci := 1) (nm := RX5) K hc0 rfl (by decide +kernel) (by decide +kernel) dX11_isOne_63 ?_
    refine x_zret (pc := 66) K KR (by omega) (Nat.le_of_ble_eq_true rfl) (Nat.le_of_ble_eq_true rfl) rfl dX11_isOne_66 ?_
    exact ⟨rfl, ri (by unfold bI ofA; split <;> omega), rfl⟩
  refine x_tswOut (pc := 1) (tgt := 67) K (by omega) (by omega) dX11_isOne_1 (by decide) ?_
  refine x_iconst (pc := 67) K dX11_isOne_67 ?_
  refine x_zret (pc := 68) K KR (by omega) (Nat.le_of_ble_eq_true rfl) (Nat.le_of_ble_eq_true rfl) rfl dX11_isOne_68 ?_
  exact ⟨rfl, ri (by unfold bI ofA; split <;> omega), rfl⟩

set_option maxRecDepth 100000 in
set_option maxHeartbeats 4000000 in
theorem c_X11_kind_5 {E : XE} {B N : Nat} {v : Nat → va_E} {old kept fau fin : Int} {c o x : Nat} {p : Nat → Int} {lnd home mil : Int} {x_i : Int} (ha_x : x_i = (x : Int)) (hc0 : Cel N v 0 (.inr (10, [.ref (B + 1), .ref (B + 2), .ref (B + 5), .ref (B + 7), .ref (B + 12), .ref (B + 13), .ref (B + 14), .ref (B + c), .int (zI old), .int (zI kept), .int (zI fau), .int (zI fin)]))) (hc1 : Cel N v c (.inr (3, [.int (zI (p 0)), .int (zI (p 1)), .int (zI (p 2)), .ref (B + (c + 1)), .ref (B + (c + 2)), .int (zI (p 3)), .ref (B + (c + 3)), .int (zI (p 4)), .ref (B + (c + 4)), .ref (B + (c + 13)), .ref (B + (c + 18))]))) (hc2 : Cel N v (c + 3) (rarr E 5 5 B (psA c p))) (hc3 : Cel N v o (.inr (5, [.int (zI (x : Int)), .int (zI lnd), .int (zI home), .int (zI mil)]))) (hq0 : (x : Int) < p 4) (hq1 : p 4 ≤ 5) (hq2 : o = c + 23 + x) : gM yX11_kind wsX11_kind ({ frames := 2, cells := 0, slots := 0, locals := 42 }) E B N v [.ref (B + 0), .int (zI x_i)] (po0 N (fun ρ v' => ρ = some (.int (zI 5)) ∧ v = v')) := by
  subst ha_x
  refine x_met (nm := "kind") (by decide +kernel) rfl (Nat.le_of_ble_eq_true rfl) rfl (fun Γ K KR hnL hnm => ?_)
  show XW Γ N v [(0, .ref (B + 0)), (1, .int (zI (x : Int)))] 0 0 0 []
  refine x_aload_n (pc := 0) 0 K rfl rfl dX11_kind_0 ?_
  refine x_iload_n (pc := 1) 1 K rfl rfl dX11_kind_1 ?_
  refine x_callV (pc := 2) (C := RX11) (T := TX11) (n := 12) (ci := 10) (As := [.int (zI (x : Int))]) K (c_X11_personAt_y (E := E) (B := B) (N := N) (o := o) (x := x) rfl hc0 hc1 hc2 hq0 hq1 hq2) gX11_kind_X11_personAt rfl (na := 1) (by decide +kernel) rfl ⟨(Nat.le_of_ble_eq_true rfl), (Nat.le_of_ble_eq_true rfl)⟩ hc0 rfl (st := []) rfl (Nat.le_of_ble_eq_true rfl) ⟨(Nat.le_of_ble_eq_true rfl), (Nat.le_of_ble_eq_true rfl)⟩ dX11_kind_2 (fun r2 N2 w2 hpo2 hN2 => ?_)
  obtain ⟨rfl, rfl, rfl⟩ := hpo2
  refine x_st (st' := [.ref (B + o)]) rfl ?_
  refine x_astore_n (pc := 5) K (L' := [(2, .ref (B + o)), (0, .ref (B + 0)), (1, .int (zI (x : Int)))]) hnL rfl (by decide) rfl dX11_kind_5 ?_
  refine x_aload_n (pc := 6) 0 K rfl rfl dX11_kind_6 ?_
  refine x_ifnonnull (pc := 7) (tgt := 15) K dX11_kind_7 (by decide) ?_
  refine x_aload_n (pc := 15) 0 K rfl rfl dX11_kind_15 ?_
  refine x_callA (pc := 16) (C := RX5) (T := TX5) (n := 4) (ci := 5) (As := []) K (c_X5_sort_X5 (E := E) (B := B) (N := N)   hc3 ) gX11_kind_X5_sort_u233X5 rfl (na := 0) (by decide +kernel) rfl ⟨(Nat.le_of_ble_eq_true rfl), (Nat.le_of_ble_eq_true rfl)⟩ hc3 rfl (st := []) rfl (Nat.le_of_ble_eq_true rfl) ⟨(Nat.le_of_ble_eq_true rfl), (Nat.le_of_ble_eq_true rfl)⟩ dX11_kind_16 (fun r16 N16 w16 hpo16 hN16 => ?_)
  obtain ⟨rfl, rfl, rfl⟩ := hpo16
  refine x_st (st' := [.int (zI 5)]) rfl ?_
  refine x_iret (pc := 19) K KR (by omega) (Nat.le_of_ble_eq_true rfl) (Nat.le_of_ble_eq_true rfl) dX11_kind_19 ?_
  exact ⟨rfl, rfl, rfl⟩

set_option maxRecDepth 100000 in
set_option maxHeartbeats 4000000 in
theorem c_X11_isOne_X5 {E : XE} {B N : Nat} {v : Nat → va_E} {o : Nat} {num lnd home mil : Int} {k : Int} (hc0 : Cel N v o (.inr (5, [.int (zI num), .int (zI lnd), .int (zI home), .int (zI mil)]))) (hq0 : (-2147483648 ≤ k ∧ k ≤ 2147483647)) : gM yX11_isOne wsX11_isOne ({ frames := 0, cells := 0, slots := 0, locals := 0 }) E B N v [.ref (B + o), .int (zI k)] (po0 N (fun ρ v' => ρ = some (.int (zI (bI (ofA 5 k)))) ∧ v = v')) := by
  refine x_met (nm := "isOne") (by decide +kernel) rfl (Nat.le_of_ble_eq_true rfl) rfl (fun Γ K KR hnL hnm => ?_)
  show XW Γ N v [(0, .ref (B + o)), (1, .int (zI k))] 0 0 0 []
  refine x_iload_n (pc := 0) 1 K rfl rfl dX11_isOne_0 ?_
  by_cases h_1_0 : k = 0
  · skip
    refine x_tswIn (pc := 1) (tgt := 40) K (by omega) (by omega) (by omega) dX11_isOne_1 (by rw [h_1_0]; rfl) (by decide) ?_
    refine x_iconst (pc := 40) K dX11_isOne_40 ?_
    refine x_zret (pc := 41) K KR (by omega) (Nat.le_of_ble_eq_true rfl) (Nat.le_of_ble_eq_true rfl) rfl dX11_isOne_41 ?_
    exact ⟨rfl, ri (by unfold bI ofA; split <;> omega), rfl⟩
  by_cases h_1_1 : k = 1
  · skip
    refine x_tswIn (pc := 1) (tgt := 42) K (by omega) (by omega) (by omega) dX11_isOne_1 (by rw [h_1_1]; rfl) (by decide) ?_
    refine x_aload_n (pc := 42) 0 K rfl rfl dX11_isOne_42 ?_
    refine x_instN (pc := 43) (C := RX5) (T := TX5) (n := 4) (ci := 5) (nm := RX0) K hc0 rfl (by decide +kernel) (by decide +kernel) dX11_isOne_43 ?_
    refine x_zret (pc := 46) K KR (by omega) (Nat.le_of_ble_eq_true rfl) (Nat.le_of_ble_eq_true rfl) rfl dX11_isOne_46 ?_
    exact ⟨rfl, ri (by unfold bI ofA; split <;> omega), rfl⟩
  by_cases h_1_2 : k = 2
  · skip
    refine x_tswIn (pc := 1) (tgt := 47) K (by omega) (by omega) (by omega) dX11_isOne_1 (by rw [h_1_2]; rfl) (by decide) ?_
    refine x_aload_n (pc := 47) 0 K rfl rfl dX11_isOne_47 ?_
    refine x_instN (pc := 48) (C := RX5) (T := TX5) (n := 4) (ci := 5) (nm := RX2) K hc0 rfl (by decide +kernel) (by decide +kernel) dX11_isOne_48 ?_
    refine x_zret (pc := 51) K KR (by omega) (Nat.le_of_ble_eq_true rfl) (Nat.le_of_ble_eq_true rfl) rfl dX11_isOne_51 ?_
    exact ⟨rfl, ri (by unfold bI ofA; split <;> omega), rfl⟩
  by_cases h_1_3 : k = 3
  · skip
    refine x_tswIn (pc := 1) (tgt := 52) K (by omega) (by omega) (by omega) dX11_isOne_1 (by rw [h_1_3]; rfl) (by decide) ?_
    refine x_aload_n (pc := 52) 0 K rfl rfl dX11_isOne_52 ?_
    refine x_instN (pc := 53) (C := RX5) (T := TX5) (n := 4) (ci := 5) (nm := RX10) K hc0 rfl (by decide +kernel) (by decide +kernel) dX11_isOne_53 ?_
    refine x_zret (pc := 56) K KR (by omega) (Nat.le_of_ble_eq_true rfl) (Nat.le_of_ble_eq_true rfl) rfl dX11_isOne_56 ?_
    exact ⟨rfl, ri (by unfold bI ofA; split <;> omega), rfl⟩
  by_cases h_1_4 : k = 4
  · skip
    refine x_tswIn (pc := 1) (tgt := 57) K (by omega) (by omega) (by omega) dX11_isOne_1 (by rw [h_1_4]; rfl) (by decide) ?_
    refine x_aload_n (pc := 57) 0 K rfl rfl dX11_isOne_57 ?_
    refine x_instY (pc := 58) (C := RX5) (T := TX5) (n := 4) (ci := 5) (nm := RX1) K hc0 rfl (by decide +kernel) (by decide +kernel) dX11_isOne_58 ?_
    refine x_zret (pc := 61) K KR (by omega) (Nat.le_of_ble_eq_true rfl) (Nat.le_of_ble_eq_true rfl) rfl dX11_isOne_61 ?_
    exact ⟨rfl, ri (by unfold bI ofA; split <;> omega), rfl⟩
  by_cases h_1_5 : k = 5
  · skip
    refine x_tswIn (pc := 1) (tgt := 62) K (by omega) (by omega) (by omega) dX11_isOne_1 (by rw [h_1_5]; rfl) (by decide) ?_
    refine x_aload_n (pc := 62) 0 K rfl rfl dX11_isOne_62 ?_
    refine x_instS (pc := 63) (C := RX5) (T := TX5) (n := 4) (ci := 5) (nm := RX5) K hc0 rfl (by decide +kernel) rfl dX11_isOne_63 ?_
    refine x_zret (pc := 66) K KR (by omega) (Nat.le_of_ble_eq_true rfl) (Nat.le_of_ble_eq_true rfl) rfl dX11_isOne_66 ?_
    exact ⟨rfl, ri (by unfold bI ofA; split <;> omega), rfl⟩
  refine x_tswOut (pc := 1) (tgt := 67) K (by omega) (by omega) dX11_isOne_1 (by decide) ?_
  refine x_iconst (pc := 67) K dX11_isOne_67 ?_
  refine x_zret (pc := 68) K KR (by omega) (Nat.le_of_ble_eq_true rfl) (Nat.le_of_ble_eq_true rfl) rfl dX11_isOne_68 ?_
  exact ⟨rfl, ri (by unfold bI ofA; split <;> omega), rfl⟩
