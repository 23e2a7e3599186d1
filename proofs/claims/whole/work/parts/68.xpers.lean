theorem dX3_personAt_0 : decode cX3_personAt 0 = .ok (.iload_n 1, 1) := by decide +kernel
theorem dX3_personAt_1 : decode cX3_personAt 1 = .ok (.ifCond .lt 11, 3) := by decide +kernel
theorem dX3_personAt_4 : decode cX3_personAt 4 = .ok (.iload_n 1, 1) := by decide +kernel
theorem dX3_personAt_5 : decode cX3_personAt 5 = .ok (.aload_n 0, 1) := by decide +kernel
theorem dX3_personAt_6 : decode cX3_personAt 6 = .ok (.getfield 38, 3) := by decide +kernel
theorem dX3_personAt_9 : decode cX3_personAt 9 = .ok (.if_icmp .lt 7, 3) := by decide +kernel
theorem dX3_personAt_16 : decode cX3_personAt 16 = .ok (.aload_n 0, 1) := by decide +kernel
theorem dX3_personAt_17 : decode cX3_personAt 17 = .ok (.getfield 34, 3) := by decide +kernel
theorem dX3_personAt_20 : decode cX3_personAt 20 = .ok (.iload_n 1, 1) := by decide +kernel
theorem dX3_personAt_21 : decode cX3_personAt 21 = .ok (.aaload, 1) := by decide +kernel
theorem dX3_personAt_22 : decode cX3_personAt 22 = .ok (.areturn, 1) := by decide +kernel
theorem dX3_personAt_12 : decode cX3_personAt 12 = .ok (.aconst_null, 1) := by decide +kernel
theorem dX3_personAt_13 : decode cX3_personAt 13 = .ok (.goto 9, 3) := by decide +kernel
theorem dX11_personAt_0 : decode cX11_personAt 0 = .ok (.aload_n 0, 1) := by decide +kernel
theorem dX11_personAt_1 : decode cX11_personAt 1 = .ok (.getfield 49, 3) := by decide +kernel
theorem dX11_personAt_4 : decode cX11_personAt 4 = .ok (.ifnonnull 7, 3) := by decide +kernel
theorem dX11_personAt_7 : decode cX11_personAt 7 = .ok (.aconst_null, 1) := by decide +kernel
theorem dX11_personAt_8 : decode cX11_personAt 8 = .ok (.goto 11, 3) := by decide +kernel
theorem dX11_personAt_19 : decode cX11_personAt 19 = .ok (.areturn, 1) := by decide +kernel
theorem dX11_personAt_11 : decode cX11_personAt 11 = .ok (.aload_n 0, 1) := by decide +kernel
theorem dX11_personAt_12 : decode cX11_personAt 12 = .ok (.getfield 49, 3) := by decide +kernel
theorem dX11_personAt_15 : decode cX11_personAt 15 = .ok (.iload_n 1, 1) := by decide +kernel
set_option maxRecDepth 20000 in
theorem ggX11_personAt_X3_personAt : GoodIn wsX11_personAt wsX3_personAt := goodIn_r _ [6, 7, 8, 21, 22, 23, 24, 25, 26, 27, 28, 29, 30, 31] (by decide +kernel) (by decide +kernel)
set_option maxRecDepth 20000 in
theorem gX11_personAt_X3_personAt : GoodIn wsX11_personAt (wsV RX11 201 RX3 yX3_personAt wsX3_personAt) := goodIn_app (goodIn_of _ (by decide +kernel)) ggX11_personAt_X3_personAt
theorem dX11_personAt_16 : decode cX11_personAt 16 = .ok (.invokevirtual 201, 3) := by decide +kernel
set_option maxRecDepth 100000 in
set_option maxHeartbeats 4000000 in
theorem c_X3_personAt_y {E : XE} {B N : Nat} {v : Nat → va_E} {c o x : Nat} {p : Nat → Int} {x_i : Int} (ha_x : x_i = (x : Int)) (hc0 : Cel N v c (.inr (3, [.int (zI (p 0)), .int (zI (p 1)), .int (zI (p 2)), .ref (B + (c + 1)), .ref (B + (c + 2)), .int (zI (p 3)), .ref (B + (c + 3)), .int (zI (p 4)), .ref (B + (c + 4)), .ref (B + (c + 13)), .ref (B + (c + 18))]))) (hc1 : Cel N v (c + 3) (rarr E 5 5 B (psA c p))) (hq0 : (x : Int) < p 4) (hq1 : p 4 ≤ 5) (hq2 : o = c + 23 + x) : gM yX3_personAt wsX3_personAt ({ frames := 0, cells := 0, slots := 0, locals := 0 }) E B N v [.ref (B + c), .int (zI x_i)] (po0 N (fun ρ v' => ρ = some (.ref (B + o)) ∧ v = v')) := by
  subst ha_x
  refine x_met (nm := "personAt") (by decide +kernel) rfl (Nat.le_of_ble_eq_true rfl) rfl (fun Γ K KR hnL hnm => ?_)
  show XW Γ N v [(0, .ref (B + c)), (1, .int (zI (x : Int)))] 0 0 0 []
  refine x_iload_n (pc := 0) 1 K rfl rfl dX3_personAt_0 ?_
  refine x_if_lt (pc := 1) (tgt := 12) K (by omega) dX3_personAt_1 (by decide) (fun h_1 => ?_) (fun h_1 => ?_)
  · skip
    exfalso; omega
  · skip
    refine x_iload_n (pc := 4) 1 K rfl rfl dX3_personAt_4 ?_
    refine x_aload_n (pc := 5) 0 K rfl rfl dX3_personAt_5 ?_
    refine x_get (pc := 6) (C := RX3) (T := TX3) (n := 11) (ci := 3) (idx := 38) (ref := "BorderBeds$Ground") (x := .int (zI (p 4)))  K hc0 rfl (by decide +kernel) 7 (by decide) (by decide +kernel) rfl rfl dX3_personAt_6 ?_
    refine x_icmp_lt (pc := 9) (tgt := 16) K (by omega) (by omega) dX3_personAt_9 (by decide) (fun h_9 => ?_) (fun h_9 => ?_)
    · skip
      refine x_aload_n (pc := 16) 0 K rfl rfl dX3_personAt_16 ?_
      refine x_get (pc := 17) (C := RX3) (T := TX3) (n := 11) (ci := 3) (idx := 34) (ref := "BorderBeds$Ground") (x := .ref (B + (c + 3)))  K hc0 rfl (by decide +kernel) 6 (by decide) (by decide +kernel) rfl rfl dX3_personAt_17 ?_
      refine x_iload_n (pc := 20) 1 K rfl rfl dX3_personAt_20 ?_
      refine x_aald (pc := 21) x K hc1 rfl rfl rfl (by omega) (by decide) dX3_personAt_21 ?_
      refine x_st (st' := [.ref (B + o)]) (by rw [rf_some (h := (psA c p)) (j := x) (o := o) (by rw [psA_at (by omega), hq2])]) ?_
      refine x_aret (pc := 22) K KR (by omega) (Nat.le_of_ble_eq_true rfl) (Nat.le_of_ble_eq_true rfl) (Or.inr ⟨_, rfl⟩) dX3_personAt_22 ?_
      exact ⟨rfl, rfl, rfl⟩
    · skip
      exfalso; omega

set_option maxRecDepth 100000 in
set_option maxHeartbeats 4000000 in
theorem c_X3_personAt_n {E : XE} {B N : Nat} {v : Nat → va_E} {c : Nat} {p : Nat → Int} {x : Int} (hc0 : Cel N v c (.inr (3, [.int (zI (p 0)), .int (zI (p 1)), .int (zI (p 2)), .ref (B + (c + 1)), .ref (B + (c + 2)), .int (zI (p 3)), .ref (B + (c + 3)), .int (zI (p 4)), .ref (B + (c + 4)), .ref (B + (c + 13)), .ref (B + (c + 18))]))) (hc1 : Cel N v (c + 3) (rarr E 5 5 B (psA c p))) (hq0 : ¬ (0 ≤ x ∧ x ≤ p 4 - 1)) (hq1 : 0 ≤ p 4 ∧ p 4 ≤ 5) (hq2 : (-2147483648 ≤ x ∧ x ≤ 2147483647)) : gM yX3_personAt wsX3_personAt ({ frames := 0, cells := 0, slots := 0, locals := 0 }) E B N v [.ref (B + c), .int (zI x)] (po0 N (fun ρ v' => ρ = some (.null) ∧ v = v')) := by
  refine x_met (nm := "personAt") (by decide +kernel) rfl (Nat.le_of_ble_eq_true rfl) rfl (fun Γ K KR hnL hnm => ?_)
  show XW Γ N v [(0, .ref (B + c)), (1, .int (zI x))] 0 0 0 []
  refine x_iload_n (pc := 0) 1 K rfl rfl dX3_personAt_0 ?_
  refine x_if_lt (pc := 1) (tgt := 12) K (by omega) dX3_personAt_1 (by decide) (fun h_1 => ?_) (fun h_1 => ?_)
  · skip
    refine x_null (pc := 12) K dX3_personAt_12 ?_
    refine x_goto (pc := 13) (tgt := 22) K dX3_personAt_13 (by decide) ?_
    refine x_aret (pc := 22) K KR (by omega) (Nat.le_of_ble_eq_true rfl) (Nat.le_of_ble_eq_true rfl) (Or.inl rfl) dX3_personAt_22 ?_
    exact ⟨rfl, rfl, rfl⟩
  · skip
    refine x_iload_n (pc := 4) 1 K rfl rfl dX3_personAt_4 ?_
    refine x_aload_n (pc := 5) 0 K rfl rfl dX3_personAt_5 ?_
    refine x_get (pc := 6) (C := RX3) (T := TX3) (n := 11) (ci := 3) (idx := 38) (ref := "BorderBeds$Ground") (x := .int (zI (p 4)))  K hc0 rfl (by decide +kernel) 7 (by decide) (by decide +kernel) rfl rfl dX3_personAt_6 ?_
    refine x_icmp_lt (pc := 9) (tgt := 16) K (by omega) (by omega) dX3_personAt_9 (by decide) (fun h_9 => ?_) (fun h_9 => ?_)
    · skip
      exfalso; omega
    · skip
      refine x_null (pc := 12) K dX3_personAt_12 ?_
      refine x_goto (pc := 13) (tgt := 22) K dX3_personAt_13 (by decide) ?_
      refine x_aret (pc := 22) K KR (by omega) (Nat.le_of_ble_eq_true rfl) (Nat.le_of_ble_eq_true rfl) (Or.inl rfl) dX3_personAt_22 ?_
      exact ⟨rfl, rfl, rfl⟩

set_option maxRecDepth 100000 in
set_option maxHeartbeats 4000000 in
theorem c_X11_personAt_0 {E : XE} {B N : Nat} {v : Nat → va_E} {old kept fau fin : Int} {x : Int} (hc0 : Cel N v 0 (.inr (10, [.ref (B + 1), .ref (B + 2), .ref (B + 5), .ref (B + 7), .ref (B + 12), .ref (B + 13), .ref (B + 14), .null, .int (zI old), .int (zI kept), .int (zI fau), .int (zI fin)]))) : gM yX11_personAt wsX11_personAt ({ frames := 1, cells := 0, slots := 0, locals := 21 }) E B N v [.ref (B + 0), .int (zI x)] (po0 N (fun ρ v' => ρ = some (.null) ∧ v = v')) := by
  refine x_met (nm := "personAt") (by decide +kernel) rfl (Nat.le_of_ble_eq_true rfl) rfl (fun Γ K KR hnL hnm => ?_)
  show XW Γ N v [(0, .ref (B + 0)), (1, .int (zI x))] 0 0 0 []
  refine x_aload_n (pc := 0) 0 K rfl rfl dX11_personAt_0 ?_
  refine x_get (pc := 1) (C := RX11) (T := TX11) (n := 12) (ci := 10) (idx := 49) (ref := "BorderBeds") (x := .null)  K hc0 rfl (by decide +kernel) 7 (by decide) (by decide +kernel) rfl rfl dX11_personAt_1 ?_
  refine x_ifnonnullN (pc := 4) K dX11_personAt_4 ?_
  refine x_null (pc := 7) K dX11_personAt_7 ?_
  refine x_goto (pc := 8) (tgt := 19) K dX11_personAt_8 (by decide) ?_
  refine x_aret (pc := 19) K KR (by omega) (Nat.le_of_ble_eq_true rfl) (Nat.le_of_ble_eq_true rfl) (Or.inl rfl) dX11_personAt_19 ?_
  exact ⟨rfl, rfl, rfl⟩

set_option maxRecDepth 100000 in
set_option maxHeartbeats 4000000 in
theorem c_X11_personAt_n {E : XE} {B N : Nat} {v : Nat → va_E} {old kept fau fin : Int} {c : Nat} {p : Nat → Int} {x : Int} (hc0 : Cel N v 0 (.inr (10, [.ref (B + 1), .ref (B + 2), .ref (B + 5), .ref (B + 7), .ref (B + 12), .ref (B + 13), .ref (B + 14), .ref (B + c), .int (zI old), .int (zI kept), .int (zI fau), .int (zI fin)]))) (hc1 : Cel N v c (.inr (3, [.int (zI (p 0)), .int (zI (p 1)), .int (zI (p 2)), .ref (B + (c + 1)), .ref (B + (c + 2)), .int (zI (p 3)), .ref (B + (c + 3)), .int (zI (p 4)), .ref (B + (c + 4)), .ref (B + (c + 13)), .ref (B + (c + 18))]))) (hc2 : Cel N v (c + 3) (rarr E 5 5 B (psA c p))) (hq0 : ¬ (0 ≤ x ∧ x ≤ p 4 - 1)) (hq1 : 0 ≤ p 4 ∧ p 4 ≤ 5) (hq2 : (-2147483648 ≤ x ∧ x ≤ 2147483647)) : gM yX11_personAt wsX11_personAt ({ frames := 1, cells := 0, slots := 0, locals := 21 }) E B N v [.ref (B + 0), .int (zI x)] (po0 N (fun ρ v' => ρ = some (.null) ∧ v = v')) := by
  refine x_met (nm := "personAt") (by decide +kernel) rfl (Nat.le_of_ble_eq_true rfl) rfl (fun Γ K KR hnL hnm => ?_)
  show XW Γ N v [(0, .ref (B + 0)), (1, .int (zI x))] 0 0 0 []
  refine x_aload_n (pc := 0) 0 K rfl rfl dX11_personAt_0 ?_
  refine x_get (pc := 1) (C := RX11) (T := TX11) (n := 12) (ci := 10) (idx := 49) (ref := "BorderBeds") (x := .ref (B + c))  K hc0 rfl (by decide +kernel) 7 (by decide) (by decide +kernel) rfl rfl dX11_personAt_1 ?_
  refine x_ifnonnull (pc := 4) (tgt := 11) K dX11_personAt_4 (by decide) ?_
  refine x_aload_n (pc := 11) 0 K rfl rfl dX11_personAt_11 ?_
  refine x_get (pc := 12) (C := RX11) (T := TX11) (n := 12) (ci := 10) (idx := 49) (ref := "BorderBeds") (x := .ref (B + c))  K hc0 rfl (by decide +kernel) 7 (by decide) (by decide +kernel) rfl rfl dX11_personAt_12 ?_
  refine x_iload_n (pc := 15) 1 K rfl rfl dX11_personAt_15 ?_
  refine x_callV (pc := 16) (C := RX3) (T := TX3) (n := 11) (ci := 3) (As := [.int (zI x)]) K (c_X3_personAt_n (E := E) (B := B) (N := N)   hc1 hc2 hq0 (by omega) (by omega)) gX11_personAt_X3_personAt rfl (na := 1) (by decide +kernel) rfl ⟨(Nat.le_of_ble_eq_true rfl), (Nat.le_of_ble_eq_true rfl)⟩ hc1 rfl (st := []) rfl (Nat.le_of_ble_eq_true rfl) ⟨(Nat.le_of_ble_eq_true rfl), (Nat.le_of_ble_eq_true rfl)⟩ dX11_personAt_16 (fun r16 N16 w16 hpo16 hN16 => ?_)
  obtain ⟨rfl, rfl, rfl⟩ := hpo16
  refine x_st (st' := [.null]) rfl ?_
  refine x_aret (pc := 19) K KR (by omega) (Nat.le_of_ble_eq_true rfl) (Nat.le_of_ble_eq_true rfl) (Or.inl rfl) dX11_personAt_19 ?_
  exact ⟨rfl, rfl, rfl⟩

set_option maxRecDepth 100000 in
set_option maxHeartbeats 4000000 in
theorem c_X11_personAt_y {E : XE} {B N : Nat} {v : Nat → va_E} {old kept fau fin : Int} {c o x : Nat} {p : Nat → Int} {x_i : Int} (ha_x : x_i = (x : Int)) (hc0 : Cel N v 0 (.inr (10, [.ref (B + 1), .ref (B + 2), .ref (B + 5), .ref (B + 7), .ref (B + 12), .ref (B + 13), .ref (B + 14), .ref (B + c), .int (zI old), .int (zI kept), .int (zI fau), .int (zI fin)]))) (hc1 : Cel N v c (.inr (3, [.int (zI (p 0)), .int (zI (p 1)), .int (zI (p 2)), .ref (B + (c + 1)), .ref (B + (c + 2)), .int (zI (p 3)), .ref (B + (c + 3)), .int (zI (p 4)), .ref (B + (c + 4)), .ref (B + (c + 13)), .ref (B + (c + 18))]))) (hc2 : Cel N v (c + 3) (rarr E 5 5 B (psA c p))) (hq0 : (x : Int) < p 4) (hq1 : p 4 ≤ 5) (hq2 : o = c + 23 + x) : gM yX11_personAt wsX11_personAt ({ frames := 1, cells := 0, slots := 0, locals := 21 }) E B N v [.ref (B + 0), .int (zI x_i)] (po0 N (fun ρ v' => ρ = some (.ref (B + o)) ∧ v = v')) := by
  subst ha_x
  refine x_met (nm := "personAt") (by decide +kernel) rfl (Nat.le_of_ble_eq_true rfl) rfl (fun Γ K KR hnL hnm => ?_)
  show XW Γ N v [(0, .ref (B + 0)), (1, .int (zI (x : Int)))] 0 0 0 []
  refine x_aload_n (pc := 0) 0 K rfl rfl dX11_personAt_0 ?_
  refine x_get (pc := 1) (C := RX11) (T := TX11) (n := 12) (ci := 10) (idx := 49) (ref := "BorderBeds") (x := .ref (B + c))  K hc0 rfl (by decide +kernel) 7 (by decide) (by decide +kernel) rfl rfl dX11_personAt_1 ?_
  refine x_ifnonnull (pc := 4) (tgt := 11) K dX11_personAt_4 (by decide) ?_
  refine x_aload_n (pc := 11) 0 K rfl rfl dX11_personAt_11 ?_
  refine x_get (pc := 12) (C := RX11) (T := TX11) (n := 12) (ci := 10) (idx := 49) (ref := "BorderBeds") (x := .ref (B + c))  K hc0 rfl (by decide +kernel) 7 (by decide) (by decide +kernel) rfl rfl dX11_personAt_12 ?_
  refine x_iload_n (pc := 15) 1 K rfl rfl dX11_personAt_15 ?_
  refine x_callV (pc := 16) (C := RX3) (T := TX3) (n := 11) (ci := 3) (As := [.int (zI (x : Int))]) K (c_X3_personAt_y (E := E) (B := B) (N := N) (o := o) (x := x) rfl hc1 hc2 hq0 hq1 hq2) gX11_personAt_X3_personAt rfl (na := 1) (by decide +kernel) rfl ⟨(Nat.le_of_ble_eq_true rfl), (Nat.le_of_ble_eq_true rfl)⟩ hc1 rfl (st := []) rfl (Nat.le_of_ble_eq_true rfl) ⟨(Nat.le_of_ble_eq_true rfl), (Nat.le_of_ble_eq_true rfl)⟩ dX11_personAt_16 (fun r16 N16 w16 hpo16 hN16 => ?_)
  obtain ⟨rfl, rfl, rfl⟩ := hpo16
  refine x_st (st' := [.ref (B + o)]) rfl ?_
  refine x_aret (pc := 19) K KR (by omega) (Nat.le_of_ble_eq_true rfl) (Nat.le_of_ble_eq_true rfl) (Or.inr ⟨_, rfl⟩) dX11_personAt_19 ?_
  exact ⟨rfl, rfl, rfl⟩
