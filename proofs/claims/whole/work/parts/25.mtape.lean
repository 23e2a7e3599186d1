theorem dX12_mustBe_0 : decode cX12_mustBe 0 = .ok (.aload_n 0, 1) := by decide +kernel
theorem dX12_mustBe_1 : decode cX12_mustBe 1 = .ok (.iload_n 1, 1) := by decide +kernel
theorem dX12_mustBe_2 : decode cX12_mustBe 2 = .ok (.ifCond .eq 10, 3) := by decide +kernel
theorem dX12_mustBe_12 : decode cX12_mustBe 12 = .ok (.iconst 1, 1) := by decide +kernel
theorem dX12_mustBe_13 : decode cX12_mustBe 13 = .ok (.putfield 118, 3) := by decide +kernel
theorem dX12_mustBe_16 : decode cX12_mustBe 16 = .ok (.iload_n 1, 1) := by decide +kernel
theorem dX12_mustBe_17 : decode cX12_mustBe 17 = .ok (.ireturn, 1) := by decide +kernel
theorem dX12_mustBe_5 : decode cX12_mustBe 5 = .ok (.aload_n 0, 1) := by decide +kernel
theorem dX12_mustBe_6 : decode cX12_mustBe 6 = .ok (.getfield 118, 3) := by decide +kernel
theorem dX12_mustBe_9 : decode cX12_mustBe 9 = .ok (.goto 4, 3) := by decide +kernel
theorem dX12_hasRoom_0 : decode cX12_hasRoom 0 = .ok (.aload_n 0, 1) := by decide +kernel
theorem dX12_hasRoom_1 : decode cX12_hasRoom 1 = .ok (.iload_n 1, 1) := by decide +kernel
theorem dX12_hasRoom_2 : decode cX12_hasRoom 2 = .ok (.ifCond .eq 10, 3) := by decide +kernel
theorem dX12_hasRoom_12 : decode cX12_hasRoom 12 = .ok (.iconst 3, 1) := by decide +kernel
theorem dX12_hasRoom_13 : decode cX12_hasRoom 13 = .ok (.putfield 118, 3) := by decide +kernel
theorem dX12_hasRoom_16 : decode cX12_hasRoom 16 = .ok (.iload_n 1, 1) := by decide +kernel
theorem dX12_hasRoom_17 : decode cX12_hasRoom 17 = .ok (.ireturn, 1) := by decide +kernel
theorem dX12_hasRoom_5 : decode cX12_hasRoom 5 = .ok (.aload_n 0, 1) := by decide +kernel
theorem dX12_hasRoom_6 : decode cX12_hasRoom 6 = .ok (.getfield 118, 3) := by decide +kernel
theorem dX12_hasRoom_9 : decode cX12_hasRoom 9 = .ok (.goto 4, 3) := by decide +kernel
theorem dX12_begins_0 : decode cX12_begins 0 = .ok (.aload_n 0, 1) := by decide +kernel
theorem dX12_begins_1 : decode cX12_begins 1 = .ok (.getfield 100, 3) := by decide +kernel
theorem dX12_begins_4 : decode cX12_begins 4 = .ok (.iconst 1, 1) := by decide +kernel
theorem dX12_begins_5 : decode cX12_begins 5 = .ok (.if_icmp .eq 7, 3) := by decide +kernel
theorem dX12_begins_12 : decode cX12_begins 12 = .ok (.aload_n 0, 1) := by decide +kernel
theorem dX12_begins_13 : decode cX12_begins 13 = .ok (.getfield 103, 3) := by decide +kernel
theorem dX12_begins_16 : decode cX12_begins 16 = .ok (.ldc2_w 161, 3) := by decide +kernel
theorem dX12_begins_19 : decode cX12_begins 19 = .ok (.lcmp, 1) := by decide +kernel
theorem dX12_begins_20 : decode cX12_begins 20 = .ok (.ifCond .ne 7, 3) := by decide +kernel
theorem dX12_begins_27 : decode cX12_begins 27 = .ok (.aload_n 0, 1) := by decide +kernel
theorem dX12_begins_28 : decode cX12_begins 28 = .ok (.getfield 103, 3) := by decide +kernel
theorem dX12_begins_31 : decode cX12_begins 31 = .ok (.ldc2_w 163, 3) := by decide +kernel
theorem dX12_begins_34 : decode cX12_begins 34 = .ok (.lcmp, 1) := by decide +kernel
theorem dX12_begins_35 : decode cX12_begins 35 = .ok (.ifCond .ne 7, 3) := by decide +kernel
theorem dX12_begins_42 : decode cX12_begins 42 = .ok (.aload_n 0, 1) := by decide +kernel
theorem dX12_begins_43 : decode cX12_begins 43 = .ok (.getfield 103, 3) := by decide +kernel
theorem dX12_begins_46 : decode cX12_begins 46 = .ok (.ldc2_w 165, 3) := by decide +kernel
theorem dX12_begins_49 : decode cX12_begins 49 = .ok (.lcmp, 1) := by decide +kernel
theorem dX12_begins_50 : decode cX12_begins 50 = .ok (.ifCond .ne 7, 3) := by decide +kernel
theorem dX12_begins_57 : decode cX12_begins 57 = .ok (.iconst 0, 1) := by decide +kernel
theorem dX12_begins_58 : decode cX12_begins 58 = .ok (.ireturn, 1) := by decide +kernel
theorem dX12_begins_53 : decode cX12_begins 53 = .ok (.iconst 3, 1) := by decide +kernel
theorem dX12_begins_54 : decode cX12_begins 54 = .ok (.goto 4, 3) := by decide +kernel
theorem dX12_begins_38 : decode cX12_begins 38 = .ok (.iconst 2, 1) := by decide +kernel
theorem dX12_begins_39 : decode cX12_begins 39 = .ok (.goto 19, 3) := by decide +kernel
theorem dX12_begins_23 : decode cX12_begins 23 = .ok (.iconst 1, 1) := by decide +kernel
theorem dX12_begins_24 : decode cX12_begins 24 = .ok (.goto 34, 3) := by decide +kernel
theorem dX12_begins_8 : decode cX12_begins 8 = .ok (.iconst 0, 1) := by decide +kernel
theorem dX12_begins_9 : decode cX12_begins 9 = .ok (.goto 49, 3) := by decide +kernel
set_option maxRecDepth 100000 in
set_option maxHeartbeats 4000000 in
theorem c_X12_mustBe {E : XE} {B N : Nat} {v : Nat → va_E} {F : Nat → Int} {V b : Int} (hc0 : Cel N v 161 (oM B F V)) (hq0 : 0 ≤ b ∧ b ≤ 1) : gM yX12_mustBe wsX12_mustBe ({ frames := 0, cells := 0, slots := 0, locals := 0 }) E B N v [.ref (B + 161), .int (zI b)] (po0 N (fun ρ v' => ∃ (f2 : Int), (f2 = (if b = 1 then F 6 else 1)) ∧ ρ = some (.int (zI b)) ∧ (va_up v 161 (oM B (va_up F 6 f2) V)) = v')) := by
  refine x_met (nm := "mustBe") (by decide +kernel) rfl (Nat.le_of_ble_eq_true rfl) rfl (fun Γ K KR hnL hnm => ?_)
  show XW Γ N v [(0, .ref (B + 161)), (1, .int (zI b))] 0 0 0 []
  refine x_v (cel_pad hc0) ?_
  refine x_aload_n (pc := 0) 0 K rfl rfl dX12_mustBe_0 ?_
  refine x_iload_n (pc := 1) 1 K rfl rfl dX12_mustBe_1 ?_
  refine x_if_eq (pc := 2) (tgt := 12) K (by omega) dX12_mustBe_2 (by decide) (fun h_2 => ?_) (fun h_2 => ?_)
  · skip
    refine x_iconst (pc := 12) K dX12_mustBe_12 ?_
    refine x_put (pc := 13) (C := RX12) (T := TX12) (n := 26) (ci := 11) (idx := 118) (ref := "BorderBedsModel") (ty := .int)  K (cel_self hc0.1) rfl (by decide +kernel) tyX12 tyX12_ok nmX12 6 (by decide) (by decide +kernel) rfl rfl (by decide +kernel) rfl rfl (Nat.le_of_ble_eq_true rfl) dX12_mustBe_13 ?_
    refine x_v (w := (va_up v 161 (oM B (va_up F 6 1) V))) (up_at0).symm ?_
    refine x_iload_n (pc := 16) 1 K rfl rfl dX12_mustBe_16 ?_
    refine x_zret (pc := 17) K KR (by omega) (Nat.le_of_ble_eq_true rfl) (Nat.le_of_ble_eq_true rfl) (nb_ok (by omega)) dX12_mustBe_17 ?_
    exact ⟨rfl, 1, (by first | rw [if_pos (by omega)] | rw [if_neg (by omega)]), rfl, rfl⟩
  · skip
    refine x_aload_n (pc := 5) 0 K rfl rfl dX12_mustBe_5 ?_
    refine x_get (pc := 6) (C := RX12) (T := TX12) (n := 26) (ci := 11) (idx := 118) (ref := "BorderBedsModel") (x := .int (zI (F 6)))  K (cel_self hc0.1) rfl (by decide +kernel) 6 (by decide) (by decide +kernel) rfl rfl dX12_mustBe_6 ?_
    refine x_goto (pc := 9) (tgt := 13) K dX12_mustBe_9 (by decide) ?_
    refine x_put (pc := 13) (C := RX12) (T := TX12) (n := 26) (ci := 11) (idx := 118) (ref := "BorderBedsModel") (ty := .int)  K (cel_self hc0.1) rfl (by decide +kernel) tyX12 tyX12_ok nmX12 6 (by decide) (by decide +kernel) rfl rfl (by decide +kernel) rfl rfl (Nat.le_of_ble_eq_true rfl) dX12_mustBe_13 ?_
    refine x_v (w := (va_up v 161 (oM B (va_up F 6 (F 6)) V))) (up_at0).symm ?_
    refine x_iload_n (pc := 16) 1 K rfl rfl dX12_mustBe_16 ?_
    refine x_zret (pc := 17) K KR (by omega) (Nat.le_of_ble_eq_true rfl) (Nat.le_of_ble_eq_true rfl) (nb_ok (by omega)) dX12_mustBe_17 ?_
    exact ⟨rfl, (F 6), (by first | rw [if_pos (by omega)] | rw [if_neg (by omega)]), rfl, rfl⟩

set_option maxRecDepth 100000 in
set_option maxHeartbeats 4000000 in
theorem c_X12_hasRoom {E : XE} {B N : Nat} {v : Nat → va_E} {F : Nat → Int} {V b : Int} (hc0 : Cel N v 161 (oM B F V)) (hq0 : 0 ≤ b ∧ b ≤ 1) : gM yX12_hasRoom wsX12_hasRoom ({ frames := 0, cells := 0, slots := 0, locals := 0 }) E B N v [.ref (B + 161), .int (zI b)] (po0 N (fun ρ v' => ∃ (f2 : Int), (f2 = (if b = 1 then F 6 else 3)) ∧ ρ = some (.int (zI b)) ∧ (va_up v 161 (oM B (va_up F 6 f2) V)) = v')) := by
  refine x_met (nm := "hasRoom") (by decide +kernel) rfl (Nat.le_of_ble_eq_true rfl) rfl (fun Γ K KR hnL hnm => ?_)
  show XW Γ N v [(0, .ref (B + 161)), (1, .int (zI b))] 0 0 0 []
  refine x_v (cel_pad hc0) ?_
  refine x_aload_n (pc := 0) 0 K rfl rfl dX12_hasRoom_0 ?_
  refine x_iload_n (pc := 1) 1 K rfl rfl dX12_hasRoom_1 ?_
  refine x_if_eq (pc := 2) (tgt := 12) K (by omega) dX12_hasRoom_2 (by decide) (fun h_2 => ?_) (fun h_2 => ?_)
  · skip
    refine x_iconst (pc := 12) K dX12_hasRoom_12 ?_
    refine x_put (pc := 13) (C := RX12) (T := TX12) (n := 26) (ci := 11) (idx := 118) (ref := "BorderBedsModel") (ty := .int)  K (cel_self hc0.1) rfl (by decide +kernel) tyX12 tyX12_ok nmX12 6 (by decide) (by decide +kernel) rfl rfl (by decide +kernel) rfl rfl (Nat.le_of_ble_eq_true rfl) dX12_hasRoom_13 ?_
    refine x_v (w := (va_up v 161 (oM B (va_up F 6 3) V))) (up_at0).symm ?_
    refine x_iload_n (pc := 16) 1 K rfl rfl dX12_hasRoom_16 ?_
    refine x_zret (pc := 17) K KR (by omega) (Nat.le_of_ble_eq_true rfl) (Nat.le_of_ble_eq_true rfl) (nb_ok (by omega)) dX12_hasRoom_17 ?_
    exact ⟨rfl, 3, (by first | rw [if_pos (by omega)] | rw [if_neg (by omega)]), rfl, rfl⟩
  · skip
    refine x_aload_n (pc := 5) 0 K rfl rfl dX12_hasRoom_5 ?_
    refine x_get (pc := 6) (C := RX12) (T := TX12) (n := 26) (ci := 11) (idx := 118) (ref := "BorderBedsModel") (x := .int (zI (F 6)))  K (cel_self hc0.1) rfl (by decide +kernel) 6 (by decide) (by decide +kernel) rfl rfl dX12_hasRoom_6 ?_
    refine x_goto (pc := 9) (tgt := 13) K dX12_hasRoom_9 (by decide) ?_
    refine x_put (pc := 13) (C := RX12) (T := TX12) (n := 26) (ci := 11) (idx := 118) (ref := "BorderBedsModel") (ty := .int)  K (cel_self hc0.1) rfl (by decide +kernel) tyX12 tyX12_ok nmX12 6 (by decide) (by decide +kernel) rfl rfl (by decide +kernel) rfl rfl (Nat.le_of_ble_eq_true rfl) dX12_hasRoom_13 ?_
    refine x_v (w := (va_up v 161 (oM B (va_up F 6 (F 6)) V))) (up_at0).symm ?_
    refine x_iload_n (pc := 16) 1 K rfl rfl dX12_hasRoom_16 ?_
    refine x_zret (pc := 17) K KR (by omega) (Nat.le_of_ble_eq_true rfl) (Nat.le_of_ble_eq_true rfl) (nb_ok (by omega)) dX12_hasRoom_17 ?_
    exact ⟨rfl, (F 6), (by first | rw [if_pos (by omega)] | rw [if_neg (by omega)]), rfl, rfl⟩

set_option maxRecDepth 100000 in
set_option maxHeartbeats 4000000 in
theorem c_X12_begins {E : XE} {B N : Nat} {v : Nat → va_E} {F : Nat → Int} {V : Int} (hc0 : Cel N v 161 (oM B F V)) (hq0 : (-2147483648 ≤ F 17 ∧ F 17 ≤ 2147483647)) (hq1 : (-9223372036854775808 ≤ V ∧ V ≤ 9223372036854775807)) : gM yX12_begins wsX12_begins ({ frames := 0, cells := 0, slots := 0, locals := 0 }) E B N v [.ref (B + 161)] (po0 N (fun ρ v' => ∃ (res : Int), (res = (if F 17 = 1 then (if V = 23937287397 then 1 else if V = 8029764 then 2 else if V = 542723566 then 3 else 0) else 0)) ∧ ρ = some (.int (zI res)) ∧ v = v')) := by
  refine x_met (nm := "begins") (by decide +kernel) rfl (Nat.le_of_ble_eq_true rfl) rfl (fun Γ K KR hnL hnm => ?_)
  show XW Γ N v [(0, .ref (B + 161))] 0 0 0 []
  refine x_aload_n (pc := 0) 0 K rfl rfl dX12_begins_0 ?_
  refine x_get (pc := 1) (C := RX12) (T := TX12) (n := 26) (ci := 11) (idx := 100) (ref := "BorderBedsModel") (x := .int (zI (F 17)))  K hc0 rfl (by decide +kernel) 17 (by decide) (by decide +kernel) rfl rfl dX12_begins_1 ?_
  refine x_iconst (pc := 4) K dX12_begins_4 ?_
  refine x_icmp_eq (pc := 5) (tgt := 12) K (by omega) (by decide) dX12_begins_5 (by decide) (fun h_5 => ?_) (fun h_5 => ?_)
  · skip
    refine x_aload_n (pc := 12) 0 K rfl rfl dX12_begins_12 ?_
    refine x_get (pc := 13) (C := RX12) (T := TX12) (n := 26) (ci := 11) (idx := 103) (ref := "BorderBedsModel") (x := .long (zL V))  K hc0 rfl (by decide +kernel) 18 (by decide) (by decide +kernel) rfl rfl dX12_begins_13 ?_
    refine x_ldc2 (pc := 16) (x := (23937287397)) (23937287397) K (by decide) (by decide +kernel) dX12_begins_16 ?_
    refine x_lcmp (pc := 19) K (by omega) (by omega) dX12_begins_19 ?_
    refine x_if_ne (pc := 20) (tgt := 27) K (cmpZ_rng _ _) dX12_begins_20 (by decide) (fun h_20 => ?_) (fun h_20 => ?_)
    · skip
      have h_20 := cz_eq_n h_20
      refine x_aload_n (pc := 27) 0 K rfl rfl dX12_begins_27 ?_
      refine x_get (pc := 28) (C := RX12) (T := TX12) (n := 26) (ci := 11) (idx := 103) (ref := "BorderBedsModel") (x := .long (zL V))  K hc0 rfl (by decide +kernel) 18 (by decide) (by decide +kernel) rfl rfl dX12_begins_28 ?_
      refine x_ldc2 (pc := 31) (x := (8029764)) (8029764) K (by decide) (by decide +kernel) dX12_begins_31 ?_
      refine x_lcmp (pc := 34) K (by omega) (by omega) dX12_begins_34 ?_
      refine x_if_ne (pc := 35) (tgt := 42) K (cmpZ_rng _ _) dX12_begins_35 (by decide) (fun h_35 => ?_) (fun h_35 => ?_)
      · skip
        have h_35 := cz_eq_n h_35
        refine x_aload_n (pc := 42) 0 K rfl rfl dX12_begins_42 ?_
        refine x_get (pc := 43) (C := RX12) (T := TX12) (n := 26) (ci := 11) (idx := 103) (ref := "BorderBedsModel") (x := .long (zL V))  K hc0 rfl (by decide +kernel) 18 (by decide) (by decide +kernel) rfl rfl dX12_begins_43 ?_
        refine x_ldc2 (pc := 46) (x := (542723566)) (542723566) K (by decide) (by decide +kernel) dX12_begins_46 ?_
        refine x_lcmp (pc := 49) K (by omega) (by omega) dX12_begins_49 ?_
        refine x_if_ne (pc := 50) (tgt := 57) K (cmpZ_rng _ _) dX12_begins_50 (by decide) (fun h_50 => ?_) (fun h_50 => ?_)
        · skip
          have h_50 := cz_eq_n h_50
          refine x_iconst (pc := 57) K dX12_begins_57 ?_
          refine x_iret (pc := 58) K KR (by omega) (Nat.le_of_ble_eq_true rfl) (Nat.le_of_ble_eq_true rfl) dX12_begins_58 ?_
          exact ⟨rfl, 0, (by split <;> (try split) <;> (try split) <;> (try split) <;> omega), rfl, rfl⟩
        · skip
          have h_50 := cz_eq h_50
          refine x_iconst (pc := 53) K dX12_begins_53 ?_
          refine x_goto (pc := 54) (tgt := 58) K dX12_begins_54 (by decide) ?_
          refine x_iret (pc := 58) K KR (by omega) (Nat.le_of_ble_eq_true rfl) (Nat.le_of_ble_eq_true rfl) dX12_begins_58 ?_
          exact ⟨rfl, 3, (by split <;> (try split) <;> (try split) <;> (try split) <;> omega), rfl, rfl⟩
      · skip
        have h_35 := cz_eq h_35
        refine x_iconst (pc := 38) K dX12_begins_38 ?_
        refine x_goto (pc := 39) (tgt := 58) K dX12_begins_39 (by decide) ?_
        refine x_iret (pc := 58) K KR (by omega) (Nat.le_of_ble_eq_true rfl) (Nat.le_of_ble_eq_true rfl) dX12_begins_58 ?_
        exact ⟨rfl, 2, (by split <;> (try split) <;> (try split) <;> (try split) <;> omega), rfl, rfl⟩
    · skip
      have h_20 := cz_eq h_20
      refine x_iconst (pc := 23) K dX12_begins_23 ?_
      refine x_goto (pc := 24) (tgt := 58) K dX12_begins_24 (by decide) ?_
      refine x_iret (pc := 58) K KR (by omega) (Nat.le_of_ble_eq_true rfl) (Nat.le_of_ble_eq_true rfl) dX12_begins_58 ?_
      exact ⟨rfl, 1, (by split <;> (try split) <;> (try split) <;> (try split) <;> omega), rfl, rfl⟩
  · skip
    refine x_iconst (pc := 8) K dX12_begins_8 ?_
    refine x_goto (pc := 9) (tgt := 58) K dX12_begins_9 (by decide) ?_
    refine x_iret (pc := 58) K KR (by omega) (Nat.le_of_ble_eq_true rfl) (Nat.le_of_ble_eq_true rfl) dX12_begins_58 ?_
    exact ⟨rfl, 0, (by split <;> (try split) <;> (try split) <;> (try split) <;> omega), rfl, rfl⟩
