theorem dX4_layBetween_0 : decode cX4_layBetween 0 = .ok (.iload_n 3, 1) := by decide +kernel
theorem dX4_layBetween_1 : decode cX4_layBetween 1 = .ok (.iload_n 1, 1) := by decide +kernel
theorem dX4_layBetween_2 : decode cX4_layBetween 2 = .ok (.isub, 1) := by decide +kernel
theorem dX4_layBetween_3 : decode cX4_layBetween 3 = .ok (.istore 5, 2) := by decide +kernel
theorem dX4_layBetween_5 : decode cX4_layBetween 5 = .ok (.iload 5, 2) := by decide +kernel
theorem dX4_layBetween_7 : decode cX4_layBetween 7 = .ok (.ifCond .gt 4, 3) := by decide +kernel
theorem dX4_layBetween_11 : decode cX4_layBetween 11 = .ok (.iload_n 1, 1) := by decide +kernel
theorem dX4_layBetween_12 : decode cX4_layBetween 12 = .ok (.iconst 1, 1) := by decide +kernel
theorem dX4_layBetween_13 : decode cX4_layBetween 13 = .ok (.iadd, 1) := by decide +kernel
theorem dX4_layBetween_14 : decode cX4_layBetween 14 = .ok (.istore 6, 2) := by decide +kernel
theorem dX4_layBetween_16 : decode cX4_layBetween 16 = .ok (.iload 6, 2) := by decide +kernel
theorem dX4_layBetween_18 : decode cX4_layBetween 18 = .ok (.iload_n 3, 1) := by decide +kernel
theorem dX4_layBetween_19 : decode cX4_layBetween 19 = .ok (.if_icmp .gt 63, 3) := by decide +kernel
theorem dX4_layBetween_82 : decode cX4_layBetween 82 = .ok (.return_, 1) := by decide +kernel
theorem dX4_layBetween_22 : decode cX4_layBetween 22 = .ok (.iload 6, 2) := by decide +kernel
theorem dX4_layBetween_24 : decode cX4_layBetween 24 = .ok (.bipush 8, 2) := by decide +kernel
theorem dX4_layBetween_26 : decode cX4_layBetween 26 = .ok (.if_icmp .ge 56, 3) := by decide +kernel
theorem dX4_layBetween_29 : decode cX4_layBetween 29 = .ok (.iload_n 2, 1) := by decide +kernel
theorem dX4_layBetween_30 : decode cX4_layBetween 30 = .ok (.iload 5, 2) := by decide +kernel
theorem dX4_layBetween_32 : decode cX4_layBetween 32 = .ok (.imul, 1) := by decide +kernel
theorem dX4_layBetween_33 : decode cX4_layBetween 33 = .ok (.iload 4, 2) := by decide +kernel
theorem dX4_layBetween_35 : decode cX4_layBetween 35 = .ok (.iload_n 2, 1) := by decide +kernel
theorem dX4_layBetween_36 : decode cX4_layBetween 36 = .ok (.isub, 1) := by decide +kernel
theorem dX4_layBetween_37 : decode cX4_layBetween 37 = .ok (.iload 6, 2) := by decide +kernel
theorem dX4_layBetween_39 : decode cX4_layBetween 39 = .ok (.iload_n 1, 1) := by decide +kernel
theorem dX4_layBetween_40 : decode cX4_layBetween 40 = .ok (.isub, 1) := by decide +kernel
theorem dX4_layBetween_41 : decode cX4_layBetween 41 = .ok (.imul, 1) := by decide +kernel
theorem dX4_layBetween_42 : decode cX4_layBetween 42 = .ok (.iadd, 1) := by decide +kernel
theorem dX4_layBetween_43 : decode cX4_layBetween 43 = .ok (.istore 7, 2) := by decide +kernel
theorem dX4_layBetween_45 : decode cX4_layBetween 45 = .ok (.aload_n 0, 1) := by decide +kernel
theorem dX4_layBetween_46 : decode cX4_layBetween 46 = .ok (.getfield 23, 3) := by decide +kernel
theorem dX4_layBetween_49 : decode cX4_layBetween 49 = .ok (.iload 6, 2) := by decide +kernel
theorem dX4_layBetween_51 : decode cX4_layBetween 51 = .ok (.iload 7, 2) := by decide +kernel
theorem dX4_layBetween_53 : decode cX4_layBetween 53 = .ok (.iload 5, 2) := by decide +kernel
theorem dX4_layBetween_55 : decode cX4_layBetween 55 = .ok (.iadd, 1) := by decide +kernel
theorem dX4_layBetween_56 : decode cX4_layBetween 56 = .ok (.iconst 1, 1) := by decide +kernel
theorem dX4_layBetween_57 : decode cX4_layBetween 57 = .ok (.isub, 1) := by decide +kernel
theorem dX4_layBetween_58 : decode cX4_layBetween 58 = .ok (.iload 5, 2) := by decide +kernel
theorem dX4_layBetween_60 : decode cX4_layBetween 60 = .ok (.idiv, 1) := by decide +kernel
theorem dX4_layBetween_61 : decode cX4_layBetween 61 = .ok (.iastore, 1) := by decide +kernel
theorem dX4_layBetween_62 : decode cX4_layBetween 62 = .ok (.aload_n 0, 1) := by decide +kernel
theorem dX4_layBetween_63 : decode cX4_layBetween 63 = .ok (.getfield 26, 3) := by decide +kernel
theorem dX4_layBetween_66 : decode cX4_layBetween 66 = .ok (.iload 6, 2) := by decide +kernel
theorem dX4_layBetween_68 : decode cX4_layBetween 68 = .ok (.iload 7, 2) := by decide +kernel
theorem dX4_layBetween_70 : decode cX4_layBetween 70 = .ok (.iload 5, 2) := by decide +kernel
theorem dX4_layBetween_72 : decode cX4_layBetween 72 = .ok (.idiv, 1) := by decide +kernel
theorem dX4_layBetween_73 : decode cX4_layBetween 73 = .ok (.iconst 1, 1) := by decide +kernel
theorem dX4_layBetween_74 : decode cX4_layBetween 74 = .ok (.iadd, 1) := by decide +kernel
theorem dX4_layBetween_75 : decode cX4_layBetween 75 = .ok (.iastore, 1) := by decide +kernel
theorem dX4_layBetween_76 : decode cX4_layBetween 76 = .ok (.iinc 6 1, 3) := by decide +kernel
theorem dX4_layBetween_79 : decode cX4_layBetween 79 = .ok (.goto (-63), 3) := by decide +kernel
theorem dX4_lay_0 : decode cX4_lay 0 = .ok (.iconst (-1), 1) := by decide +kernel
theorem dX4_lay_1 : decode cX4_lay 1 = .ok (.istore_n 3, 1) := by decide +kernel
theorem dX4_lay_2 : decode cX4_lay 2 = .ok (.iload_n 1, 1) := by decide +kernel
theorem dX4_lay_3 : decode cX4_lay 3 = .ok (.istore 4, 2) := by decide +kernel
theorem dX4_lay_5 : decode cX4_lay 5 = .ok (.iconst 0, 1) := by decide +kernel
theorem dX4_lay_6 : decode cX4_lay 6 = .ok (.istore 5, 2) := by decide +kernel
theorem dX4_lay_8 : decode cX4_lay 8 = .ok (.iload 5, 2) := by decide +kernel
theorem dX4_lay_10 : decode cX4_lay 10 = .ok (.bipush 8, 2) := by decide +kernel
theorem dX4_lay_12 : decode cX4_lay 12 = .ok (.if_icmp .ge 52, 3) := by decide +kernel
theorem dX4_lay_64 : decode cX4_lay 64 = .ok (.aload_n 0, 1) := by decide +kernel
theorem dX4_lay_65 : decode cX4_lay 65 = .ok (.iload_n 3, 1) := by decide +kernel
theorem dX4_lay_66 : decode cX4_lay 66 = .ok (.iload 4, 2) := by decide +kernel
theorem dX4_lay_68 : decode cX4_lay 68 = .ok (.bipush 8, 2) := by decide +kernel
theorem dX4_lay_70 : decode cX4_lay 70 = .ok (.iload_n 2, 1) := by decide +kernel
set_option maxRecDepth 20000 in
theorem ggX4_lay_X4_layBetween : GoodIn wsX4_lay wsX4_layBetween := goodIn_r _ [11, 12, 13, 14, 15, 16, 17, 18] (by decide +kernel) (by decide +kernel)
set_option maxRecDepth 20000 in
theorem gX4_lay_X4_layBetween : GoodIn wsX4_lay (wsV RX4 75 RX4 yX4_layBetween wsX4_layBetween) := goodIn_app (goodIn_of _ (by decide +kernel)) ggX4_lay_X4_layBetween
theorem dX4_lay_71 : decode cX4_lay 71 = .ok (.invokevirtual 75, 3) := by decide +kernel
theorem dX4_lay_74 : decode cX4_lay 74 = .ok (.return_, 1) := by decide +kernel
theorem dX4_lay_15 : decode cX4_lay 15 = .ok (.aload_n 0, 1) := by decide +kernel
theorem dX4_lay_16 : decode cX4_lay 16 = .ok (.iload 5, 2) := by decide +kernel
set_option maxRecDepth 20000 in
theorem ggX4_lay_X4_cornerIn : GoodIn wsX4_lay wsX4_cornerIn := goodIn_r _ [6, 7, 1, 14, 15, 16, 17, 18] (by decide +kernel) (by decide +kernel)
set_option maxRecDepth 20000 in
theorem gX4_lay_X4_cornerIn : GoodIn wsX4_lay (wsV RX4 72 RX4 yX4_cornerIn wsX4_cornerIn) := goodIn_app (goodIn_of _ (by decide +kernel)) ggX4_lay_X4_cornerIn
theorem dX4_lay_18 : decode cX4_lay 18 = .ok (.invokevirtual 72, 3) := by decide +kernel
theorem dX4_lay_21 : decode cX4_lay 21 = .ok (.istore 6, 2) := by decide +kernel
theorem dX4_lay_23 : decode cX4_lay 23 = .ok (.iload 6, 2) := by decide +kernel
theorem dX4_lay_25 : decode cX4_lay 25 = .ok (.ifCond .lt 33, 3) := by decide +kernel
theorem dX4_lay_58 : decode cX4_lay 58 = .ok (.iinc 5 1, 3) := by decide +kernel
theorem dX4_lay_61 : decode cX4_lay 61 = .ok (.goto (-53), 3) := by decide +kernel
theorem dX4_lay_28 : decode cX4_lay 28 = .ok (.aload_n 0, 1) := by decide +kernel
theorem dX4_lay_29 : decode cX4_lay 29 = .ok (.getfield 11, 3) := by decide +kernel
theorem dX4_lay_32 : decode cX4_lay 32 = .ok (.iload 6, 2) := by decide +kernel
theorem dX4_lay_34 : decode cX4_lay 34 = .ok (.iaload, 1) := by decide +kernel
theorem dX4_lay_35 : decode cX4_lay 35 = .ok (.bipush 8, 2) := by decide +kernel
theorem dX4_lay_37 : decode cX4_lay 37 = .ok (.idiv, 1) := by decide +kernel
theorem dX4_lay_38 : decode cX4_lay 38 = .ok (.istore 7, 2) := by decide +kernel
theorem dX4_lay_40 : decode cX4_lay 40 = .ok (.aload_n 0, 1) := by decide +kernel
theorem dX4_lay_41 : decode cX4_lay 41 = .ok (.iload_n 3, 1) := by decide +kernel
theorem dX4_lay_42 : decode cX4_lay 42 = .ok (.iload 4, 2) := by decide +kernel
theorem dX4_lay_44 : decode cX4_lay 44 = .ok (.iload 5, 2) := by decide +kernel
theorem dX4_lay_46 : decode cX4_lay 46 = .ok (.iload 7, 2) := by decide +kernel
theorem dX4_lay_48 : decode cX4_lay 48 = .ok (.invokevirtual 75, 3) := by decide +kernel
theorem dX4_lay_51 : decode cX4_lay 51 = .ok (.iload 5, 2) := by decide +kernel
theorem dX4_lay_53 : decode cX4_lay 53 = .ok (.istore_n 3, 1) := by decide +kernel
theorem dX4_lay_54 : decode cX4_lay 54 = .ok (.iload 7, 2) := by decide +kernel
theorem dX4_lay_56 : decode cX4_lay 56 = .ok (.istore 4, 2) := by decide +kernel
theorem dX4_liesAs_0 : decode cX4_liesAs 0 = .ok (.iconst 0, 1) := by decide +kernel
theorem dX4_liesAs_1 : decode cX4_liesAs 1 = .ok (.istore_n 3, 1) := by decide +kernel
theorem dX4_liesAs_2 : decode cX4_liesAs 2 = .ok (.iload_n 3, 1) := by decide +kernel
theorem dX4_liesAs_3 : decode cX4_liesAs 3 = .ok (.bipush 8, 2) := by decide +kernel
theorem dX4_liesAs_5 : decode cX4_liesAs 5 = .ok (.if_icmp .ge 28, 3) := by decide +kernel
theorem dX4_liesAs_33 : decode cX4_liesAs 33 = .ok (.iconst 1, 1) := by decide +kernel
theorem dX4_liesAs_34 : decode cX4_liesAs 34 = .ok (.ireturn, 1) := by decide +kernel
theorem dX4_liesAs_8 : decode cX4_liesAs 8 = .ok (.aload_n 0, 1) := by decide +kernel
theorem dX4_liesAs_9 : decode cX4_liesAs 9 = .ok (.getfield 23, 3) := by decide +kernel
theorem dX4_liesAs_12 : decode cX4_liesAs 12 = .ok (.iload_n 3, 1) := by decide +kernel
theorem dX4_liesAs_13 : decode cX4_liesAs 13 = .ok (.iaload, 1) := by decide +kernel
theorem dX4_liesAs_14 : decode cX4_liesAs 14 = .ok (.aload_n 1, 1) := by decide +kernel
theorem dX4_liesAs_15 : decode cX4_liesAs 15 = .ok (.getfield 79, 3) := by decide +kernel
theorem dX4_liesAs_18 : decode cX4_liesAs 18 = .ok (.iload_n 2, 1) := by decide +kernel
theorem dX4_liesAs_19 : decode cX4_liesAs 19 = .ok (.iload_n 3, 1) := by decide +kernel
theorem dX4_liesAs_20 : decode cX4_liesAs 20 = .ok (.iadd, 1) := by decide +kernel
theorem dX4_liesAs_21 : decode cX4_liesAs 21 = .ok (.iaload, 1) := by decide +kernel
theorem dX4_liesAs_22 : decode cX4_liesAs 22 = .ok (.if_icmp .eq 5, 3) := by decide +kernel
theorem dX4_liesAs_27 : decode cX4_liesAs 27 = .ok (.iinc 3 1, 3) := by decide +kernel
theorem dX4_liesAs_30 : decode cX4_liesAs 30 = .ok (.goto (-28), 3) := by decide +kernel
theorem dX4_liesAs_25 : decode cX4_liesAs 25 = .ok (.iconst 0, 1) := by decide +kernel
theorem dX4_liesAs_26 : decode cX4_liesAs 26 = .ok (.ireturn, 1) := by decide +kernel
set_option maxRecDepth 100000 in
set_option maxHeartbeats 4000000 in
theorem c_X4_layBetween {E : XE} {B N : Nat} {v : Nat → va_E} {c n : Nat} {fx fy tx ty : Int} {s t : Nat → Int} (hc0 : Cel N v c (.inr (4, [.ref (B + (c + 1)), .ref (B + (c + 2)), .int (zI (n : Int)), .ref (B + (c + 3)), .ref (B + (c + 4))]))) (hc1 : Cel N v (c + 3) (iarr E 8 s)) (hc2 : Cel N v (c + 4) (iarr E 8 t)) (hq0 : -1 ≤ fx ∧ fx < tx ∧ tx ≤ 8) (hq1 : 0 ≤ fy ∧ fy ≤ 5) (hq2 : 0 ≤ ty ∧ ty ≤ 5) : gM yX4_layBetween wsX4_layBetween ({ frames := 0, cells := 0, slots := 0, locals := 0 }) E B N v [.ref (B + c), .int (zI fx), .int (zI fy), .int (zI tx), .int (zI ty)] (po0 N (fun ρ v' => ρ = none ∧ (va_up (va_up v (c + 3) (iarr E 8 (lyS s fx fy tx ty (min (tx + 1) 8)))) (c + 4) (iarr E 8 (lyT t fx fy tx ty (min (tx + 1) 8)))) = v')) := by
  refine x_met (nm := "layBetween") (by decide +kernel) rfl (Nat.le_of_ble_eq_true rfl) rfl (fun Γ K KR hnL hnm => ?_)
  show XW Γ N v [(0, .ref (B + c)), (1, .int (zI fx)), (2, .int (zI fy)), (3, .int (zI tx)), (4, .int (zI ty))] 0 0 0 []
  refine x_v (cel_pad hc1) ?_
  refine x_v (cel_pad (cel_ne hc2 (by omega))) ?_
  refine x_iload_n (pc := 0) 3 K rfl rfl dX4_layBetween_0 ?_
  refine x_iload_n (pc := 1) 1 K rfl rfl dX4_layBetween_1 ?_
  refine x_isub (pc := 2) K dX4_layBetween_2 ?_
  refine x_nm (fun z1 hz1 => ?_)
  refine x_istore (pc := 3) K (L' := [(5, .int (zI z1)), (0, .ref (B + c)), (1, .int (zI fx)), (2, .int (zI fy)), (3, .int (zI tx)), (4, .int (zI ty))]) hnL (by decide) rfl dX4_layBetween_3 ?_
  refine x_iload (pc := 5) 0 K rfl dX4_layBetween_5 ?_
  refine x_if_gt (pc := 7) (tgt := 11) K (by omega) dX4_layBetween_7 (by decide) (fun h_7 => ?_) (fun h_7 => ?_)
  · skip
    refine x_iload_n (pc := 11) 2 K rfl rfl dX4_layBetween_11 ?_
    refine x_iconst (pc := 12) K dX4_layBetween_12 ?_
    refine x_iadd (pc := 13) K dX4_layBetween_13 ?_
    refine x_nm (fun z2 hz2 => ?_)
    refine x_istore (pc := 14) K (L' := [(6, .int (zI z2)), (5, .int (zI z1)), (0, .ref (B + c)), (1, .int (zI fx)), (2, .int (zI fy)), (3, .int (zI tx)), (4, .int (zI ty))]) hnL (by decide) rfl dX4_layBetween_14 ?_
    obtain ⟨j0, rfl⟩ : ∃ j0 : Nat, z2 = (j0 : Int) := ⟨z2.toNat, by omega⟩
    have LOOP16 : ∀ (n_16 : Nat) (j : Nat) (x : Nat → Int) (y : Nat → Int), (fx + 1 ≤ (j : Int) ∧ (j : Int) ≤ 8 ∧ (j : Int) ≤ tx + 1) → (x = lyS s fx fy tx ty (j : Int)) → (y = lyT t fx fy tx ty (j : Int)) → (8 - j) < n_16 → XW Γ N (va_up (va_up v (c + 3) (iarr E 8 x)) (c + 4) (iarr E 8 y)) [(0, .ref (B + c)), (1, .int (zI fx)), (2, .int (zI fy)), (3, .int (zI tx)), (4, .int (zI ty)), (5, .int (zI z1)), (6, .int (zI (j : Int)))] 0 0 16 [] := by
      intro n_16
      induction n_16 with
      | zero =>
        intro j x y hi16_0 hi16_1 hi16_2 hm_16
        exfalso; omega
      | succ n_16 ih16 =>
        intro j x y hi16_0 hi16_1 hi16_2 hm_16
        refine x_iload (pc := 16) 6 K rfl dX4_layBetween_16 ?_
        refine x_iload_n (pc := 18) 3 K rfl rfl dX4_layBetween_18 ?_
        refine x_icmp_gt (pc := 19) (tgt := 82) K (by omega) (by omega) dX4_layBetween_19 (by decide) (fun h_19 => ?_) (fun h_19 => ?_)
        · skip
          refine x_vret (pc := 82) K KR (by omega) (Nat.le_of_ble_eq_true rfl) (Nat.le_of_ble_eq_true rfl) dX4_layBetween_82 ?_
          have hj : (j : Int) = min (tx + 1) 8 := by omega
          rw [hj] at hi16_1 hi16_2
          subst hi16_1
          subst hi16_2
          exact ⟨rfl, rfl, rfl⟩
        · skip
          refine x_iload (pc := 22) 6 K rfl dX4_layBetween_22 ?_
          refine x_bipush (pc := 24) K (by decide) dX4_layBetween_24 ?_
          refine x_icmp_ge (pc := 26) (tgt := 82) K (by omega) (by decide) dX4_layBetween_26 (by decide) (fun h_26 => ?_) (fun h_26 => ?_)
          · skip
            refine x_vret (pc := 82) K KR (by omega) (Nat.le_of_ble_eq_true rfl) (Nat.le_of_ble_eq_true rfl) dX4_layBetween_82 ?_
            have hj : (j : Int) = min (tx + 1) 8 := by omega
            rw [hj] at hi16_1 hi16_2
            subst hi16_1
            subst hi16_2
            exact ⟨rfl, rfl, rfl⟩
          · skip
            refine x_iload_n (pc := 29) 2 K rfl rfl dX4_layBetween_29 ?_
            refine x_iload (pc := 30) 5 K rfl dX4_layBetween_30 ?_
            refine x_imul (pc := 32) K dX4_layBetween_32 ?_
            refine x_iload (pc := 33) 4 K rfl dX4_layBetween_33 ?_
            refine x_iload_n (pc := 35) 2 K rfl rfl dX4_layBetween_35 ?_
            refine x_isub (pc := 36) K dX4_layBetween_36 ?_
            refine x_iload (pc := 37) 6 K rfl dX4_layBetween_37 ?_
            refine x_iload_n (pc := 39) 1 K rfl rfl dX4_layBetween_39 ?_
            refine x_isub (pc := 40) K dX4_layBetween_40 ?_
            refine x_imul (pc := 41) K dX4_layBetween_41 ?_
            refine x_iadd (pc := 42) K dX4_layBetween_42 ?_
            refine x_nm (fun z3 hz3 => ?_)
            refine x_istore (pc := 43) K (L' := [(7, .int (zI z3)), (0, .ref (B + c)), (1, .int (zI fx)), (2, .int (zI fy)), (3, .int (zI tx)), (4, .int (zI ty)), (5, .int (zI z1)), (6, .int (zI (j : Int)))]) hnL (by decide) rfl dX4_layBetween_43 ?_
            have hB43 : z3 = hB fx fy tx ty j := by unfold hB; rw [hz3, hz1]
            have hr43 := hB_rng (fx := fx) (tx := tx) (x := (j : Int)) hq1 hq2 (by omega) (by omega)
            rw [← hB43] at hr43
            refine x_aload_n (pc := 45) 1 K rfl rfl dX4_layBetween_45 ?_
            refine x_get (pc := 46) (C := RX4) (T := TX4) (n := 5) (ci := 4) (idx := 23) (ref := "BorderBeds$Line") (x := .ref (B + (c + 3)))  K (cel_ne (cel_ne hc0 (by omega)) (by omega)) rfl (by decide +kernel) 3 (by decide) (by decide +kernel) rfl rfl dX4_layBetween_46 ?_
            refine x_iload (pc := 49) 7 K rfl dX4_layBetween_49 ?_
            refine x_iload (pc := 51) 0 K rfl dX4_layBetween_51 ?_
            refine x_iload (pc := 53) 6 K rfl dX4_layBetween_53 ?_
            refine x_iadd (pc := 55) K dX4_layBetween_55 ?_
            refine x_iconst (pc := 56) K dX4_layBetween_56 ?_
            refine x_isub (pc := 57) K dX4_layBetween_57 ?_
            refine x_iload (pc := 58) 6 K rfl dX4_layBetween_58 ?_
            refine x_idiv (pc := 60) K (by omega) (by omega) dX4_layBetween_60 ?_
            refine x_iast (pc := 61) j K (cel_ne (cel_self hc1.1) (by omega)) rfl (by omega) (by decide) dX4_layBetween_61 ?_
            refine x_v (w := (va_up (va_up v (c + 3) (iarr E 8 (va_up x j (((z3 + z1) - 1) / z1)))) (c + 4) (iarr E 8 y))) (up_at1 (by omega)).symm ?_
            refine x_aload_n (pc := 62) 1 K rfl rfl dX4_layBetween_62 ?_
            refine x_get (pc := 63) (C := RX4) (T := TX4) (n := 5) (ci := 4) (idx := 26) (ref := "BorderBeds$Line") (x := .ref (B + (c + 4)))  K (cel_ne (cel_ne hc0 (by omega)) (by omega)) rfl (by decide +kernel) 4 (by decide) (by decide +kernel) rfl rfl dX4_layBetween_63 ?_
            refine x_iload (pc := 66) 7 K rfl dX4_layBetween_66 ?_
            refine x_iload (pc := 68) 0 K rfl dX4_layBetween_68 ?_
            refine x_iload (pc := 70) 6 K rfl dX4_layBetween_70 ?_
            refine x_idiv (pc := 72) K (by omega) (by omega) dX4_layBetween_72 ?_
            refine x_iconst (pc := 73) K dX4_layBetween_73 ?_
            refine x_iadd (pc := 74) K dX4_layBetween_74 ?_
            refine x_iast (pc := 75) j K (cel_self hc2.1) rfl (by omega) (by decide) dX4_layBetween_75 ?_
            refine x_v (w := (va_up (va_up v (c + 3) (iarr E 8 (va_up x j (((z3 + z1) - 1) / z1)))) (c + 4) (iarr E 8 (va_up y j ((z3 / z1) + 1))))) (up_at0).symm ?_
            refine x_iinc (pc := 76) (L' := [(6, .int (zI ((j : Int) + 1))), (7, .int (zI z3)), (0, .ref (B + c)), (1, .int (zI fx)), (2, .int (zI fy)), (3, .int (zI tx)), (4, .int (zI ty)), (5, .int (zI z1))]) 7 K hnL rfl (by decide) rfl dX4_layBetween_76 ?_
            refine x_goto (pc := 79) (tgt := 16) K dX4_layBetween_79 (by decide) ?_
            refine x_sub (L' := [(0, .ref (B + c)), (1, .int (zI fx)), (2, .int (zI fy)), (3, .int (zI tx)), (4, .int (zI ty)), (5, .int (zI z1)), (6, .int (zI ((j : Int) + 1)))]) [2, 3, 4, 5, 6, 7, 0] rfl ?_
            exact ih16 (j + 1) (va_up x j (((z3 + z1) - 1) / z1)) (va_up y j ((z3 / z1) + 1)) (by omega) (by rw [hB43, hz1, hi16_1]; exact lyS_s (by omega)) (by rw [hB43, hz1, hi16_2]; exact lyT_s (by omega)) (by omega)
    refine x_sub (L' := [(0, .ref (B + c)), (1, .int (zI fx)), (2, .int (zI fy)), (3, .int (zI tx)), (4, .int (zI ty)), (5, .int (zI z1)), (6, .int (zI (j0 : Int)))]) [2, 3, 4, 5, 6, 1, 0] rfl ?_
    exact LOOP16 (_) j0 s t (by omega) (by rw [show (j0 : Int) = fx + 1 by omega]; exact (lyS_0 s fx fy tx ty).symm) (by rw [show (j0 : Int) = fx + 1 by omega]; exact (lyT_0 t fx fy tx ty).symm) (Nat.lt_succ_self _)
  · skip
    exfalso; omega

set_option maxRecDepth 100000 in
set_option maxHeartbeats 4000000 in
theorem c_X4_lay {E : XE} {B N : Nat} {v : Nat → va_E} {c n : Nat} {w e : Int} {g h s t : Nat → Int} {l : Cor} (hc0 : Cel N v c (.inr (4, [.ref (B + (c + 1)), .ref (B + (c + 2)), .int (zI (n : Int)), .ref (B + (c + 3)), .ref (B + (c + 4))]))) (hc1 : Cel N v (c + 1) (iarr E 8 g)) (hc2 : Cel N v (c + 3) (iarr E 8 s)) (hc3 : Cel N v (c + 4) (iarr E 8 t)) (hq0 : LR g h l) (hq1 : n = l.length ∧ n ≤ 8) (hq2 : CorOk l) (hq3 : 0 ≤ w ∧ w ≤ 5) (hq4 : 0 ≤ e ∧ e ≤ 5) : gM yX4_lay wsX4_lay ({ frames := 1, cells := 0, slots := 0, locals := 27 }) E B N v [.ref (B + c), .int (zI w), .int (zI e)] (po0 N (fun ρ v' => ∃ (s2 : Nat → Int), ∃ (t2 : Nat → Int), (SR w e l s2 t2) ∧ ρ = none ∧ (va_up (va_up v (c + 3) (iarr E 8 s2)) (c + 4) (iarr E 8 t2)) = v')) := by
  refine x_met (nm := "lay") (by decide +kernel) rfl (Nat.le_of_ble_eq_true rfl) rfl (fun Γ K KR hnL hnm => ?_)
  show XW Γ N v [(0, .ref (B + c)), (1, .int (zI w)), (2, .int (zI e))] 0 0 0 []
  refine x_v (cel_pad hc2) ?_
  refine x_v (cel_pad (cel_ne hc3 (by omega))) ?_
  refine x_iconst (pc := 0) K dX4_lay_0 ?_
  refine x_istore_n (pc := 1) K (L' := [(3, .int (zI (-1))), (0, .ref (B + c)), (1, .int (zI w)), (2, .int (zI e))]) hnL rfl (by decide) rfl dX4_lay_1 ?_
  refine x_iload_n (pc := 2) 2 K rfl rfl dX4_lay_2 ?_
  refine x_istore (pc := 3) K (L' := [(4, .int (zI w)), (3, .int (zI (-1))), (0, .ref (B + c)), (1, .int (zI w)), (2, .int (zI e))]) hnL (by decide) rfl dX4_lay_3 ?_
  refine x_iconst (pc := 5) K dX4_lay_5 ?_
  refine x_istore (pc := 6) K (L' := [(5, .int (zI 0)), (4, .int (zI w)), (3, .int (zI (-1))), (0, .ref (B + c)), (1, .int (zI w)), (2, .int (zI e))]) hnL (by decide) rfl dX4_lay_6 ?_
  have LOOP8 : ∀ (n_8 : Nat) (a : Int) (b : Int) (x : Nat) (s1 : Nat → Int) (t1 : Nat → Int), (x ≤ 8) → (westOf w l ((x : Int) - 1) a b) → (∀ k : Nat, (k : Int) ≤ a → SX w e l k (s1 k) (t1 k)) → (8 - x) < n_8 → XW Γ N (va_up (va_up v (c + 3) (iarr E 8 s1)) (c + 4) (iarr E 8 t1)) [(0, .ref (B + c)), (1, .int (zI w)), (2, .int (zI e)), (3, .int (zI a)), (4, .int (zI b)), (5, .int (zI (x : Int)))] 0 0 8 [] := by
    intro n_8
    induction n_8 with
    | zero =>
      intro a b x s1 t1 hi8_0 hi8_1 hi8_2 hm_8
      exfalso; omega
    | succ n_8 ih8 =>
      intro a b x s1 t1 hi8_0 hi8_1 hi8_2 hm_8
      have hwr := west_rng hq2 hq3 hi8_1
      refine x_iload (pc := 8) 5 K rfl dX4_lay_8 ?_
      refine x_bipush (pc := 10) K (by decide) dX4_lay_10 ?_
      refine x_icmp_ge (pc := 12) (tgt := 64) K (by omega) (by decide) dX4_lay_12 (by decide) (fun h_12 => ?_) (fun h_12 => ?_)
      · skip
        have hx8 : x = 8 := by omega
        rw [show (x : Int) = 8 by omega] at hi8_1
        refine x_aload_n (pc := 64) 0 K rfl rfl dX4_lay_64 ?_
        refine x_iload_n (pc := 65) 3 K rfl rfl dX4_lay_65 ?_
        refine x_iload (pc := 66) 4 K rfl dX4_lay_66 ?_
        refine x_bipush (pc := 68) K (by decide) dX4_lay_68 ?_
        refine x_iload_n (pc := 70) 2 K rfl rfl dX4_lay_70 ?_
        refine x_callV (pc := 71) (C := RX4) (T := TX4) (n := 5) (ci := 4) (As := [.int (zI a), .int (zI b), .int (zI 8), .int (zI e)]) K (c_X4_layBetween (E := E) (B := B) (N := N)   (cel_ne (cel_ne hc0 (by omega)) (by omega)) (cel_ne (cel_self hc2.1) (by omega)) (cel_self hc3.1) (by omega) (by omega) (by omega)) gX4_lay_X4_layBetween rfl (na := 4) (by decide +kernel) rfl ⟨(Nat.le_of_ble_eq_true rfl), (Nat.le_of_ble_eq_true rfl)⟩ (cel_ne (cel_ne hc0 (by omega)) (by omega)) rfl (st := []) rfl (Nat.le_of_ble_eq_true rfl) ⟨(Nat.le_of_ble_eq_true rfl), (Nat.le_of_ble_eq_true rfl)⟩ dX4_lay_71 (fun r71 N71 w71 hpo71 hN71 => ?_)
        obtain ⟨rfl, rfl, rfl⟩ := hpo71
        refine x_v (congrArg (fun w => (va_up w (c + 4) (iarr E 8 (lyT t1 a b 8 e (min (8 + 1) 8))))) (show (va_up (va_up v (c + 3) (iarr E 8 (lyS s1 a b 8 e (min (8 + 1) 8)))) (c + 4) (iarr E 8 t1)) = _ from (up_at1 (by omega)).symm)) ?_
        refine x_v (w := (va_up (va_up v (c + 3) (iarr E 8 (lyS s1 a b 8 e (min (8 + 1) 8)))) (c + 4) (iarr E 8 (lyT t1 a b 8 e (min (8 + 1) 8))))) (up_at0).symm ?_
        refine x_st (st' := []) rfl ?_
        refine x_vret (pc := 74) K KR (by omega) (Nat.le_of_ble_eq_true rfl) (Nat.le_of_ble_eq_true rfl) dX4_lay_74 ?_
        have hfin := lay_end hq2 hq3 hq4 hi8_1 hi8_2
        exact ⟨rfl, _, _, hfin, rfl, rfl⟩
      · skip
        refine x_aload_n (pc := 15) 0 K rfl rfl dX4_lay_15 ?_
        refine x_iload (pc := 16) 5 K rfl dX4_lay_16 ?_
        refine x_callV (pc := 18) (C := RX4) (T := TX4) (n := 5) (ci := 4) (As := [.int (zI (x : Int))]) K (c_X4_cornerIn (E := E) (B := B) (N := N) (l := l)  (cel_ne (cel_ne hc0 (by omega)) (by omega)) (cel_ne (cel_ne hc1 (by omega)) (by omega)) hq0 hq1 hq2 (by omega)) gX4_lay_X4_cornerIn rfl (na := 1) (by decide +kernel) rfl ⟨(Nat.le_of_ble_eq_true rfl), (Nat.le_of_ble_eq_true rfl)⟩ (cel_ne (cel_ne hc0 (by omega)) (by omega)) rfl (st := []) rfl (Nat.le_of_ble_eq_true rfl) ⟨(Nat.le_of_ble_eq_true rfl), (Nat.le_of_ble_eq_true rfl)⟩ dX4_lay_18 (fun r18 N18 w18 hpo18 hN18 => ?_)
        obtain ⟨rfl, rfl, rfl⟩ := hpo18
        refine x_st (st' := [.int (zI (cinA (x : Int) l))]) rfl ?_
        have hrg18 := cinA_rng (x : Int) l
        refine x_nm (fun z1 hz1 => ?_)
        refine x_istore (pc := 21) K (L' := [(6, .int (zI z1)), (0, .ref (B + c)), (1, .int (zI w)), (2, .int (zI e)), (3, .int (zI a)), (4, .int (zI b)), (5, .int (zI (x : Int)))]) hnL (by decide) rfl dX4_lay_21 ?_
        refine x_iload (pc := 23) 0 K rfl dX4_lay_23 ?_
        refine x_if_lt (pc := 25) (tgt := 58) K (by omega) dX4_lay_25 (by decide) (fun h_25 => ?_) (fun h_25 => ?_)
        · skip
          have hnx : westOf w l ((x : Int) + 1 - 1) a b := westOf_next hi8_1 (by
            rcases cinA_spec (x : Int) l with ⟨-, hh⟩ | ⟨k, hk, hh, -⟩
            · exact hh
            · exfalso; omega)
          refine x_iinc (pc := 58) (L' := [(5, .int (zI ((x : Int) + 1))), (6, .int (zI z1)), (0, .ref (B + c)), (1, .int (zI w)), (2, .int (zI e)), (3, .int (zI a)), (4, .int (zI b))]) 6 K hnL rfl (by decide) rfl dX4_lay_58 ?_
          refine x_goto (pc := 61) (tgt := 8) K dX4_lay_61 (by decide) ?_
          refine x_sub (L' := [(0, .ref (B + c)), (1, .int (zI w)), (2, .int (zI e)), (3, .int (zI a)), (4, .int (zI b)), (5, .int (zI ((x : Int) + 1)))]) [2, 3, 4, 5, 6, 0] rfl ?_
          exact ih8 a b (x + 1) s1 t1 (by omega) (by exact hnx) (by exact hi8_2) (by omega)
        · skip
          obtain ⟨k, hk, hck, hk8⟩ : ∃ (k : Nat) (hk : k < l.length), cinA (x : Int) l = (k : Int) ∧ (l[k]).1 % 8 = (x : Int) := by
            rcases cinA_spec (x : Int) l with ⟨hh, -⟩ | hh
            · exfalso; omega
            · exact hh
          have e34 := (hq0.1 k hk).1
          have b34 := hq2.at hk
          refine x_L (L' := [(6, .int (zI (k : Int))), (0, .ref (B + c)), (1, .int (zI w)), (2, .int (zI e)), (3, .int (zI a)), (4, .int (zI b)), (5, .int (zI (x : Int)))]) (by rw [show z1 = (k : Int) by omega]) ?_
          refine x_aload_n (pc := 28) 1 K rfl rfl dX4_lay_28 ?_
          refine x_get (pc := 29) (C := RX4) (T := TX4) (n := 5) (ci := 4) (idx := 11) (ref := "BorderBeds$Line") (x := .ref (B + (c + 1)))  K (cel_ne (cel_ne hc0 (by omega)) (by omega)) rfl (by decide +kernel) 0 (by decide) (by decide +kernel) rfl rfl dX4_lay_29 ?_
          refine x_iload (pc := 32) 0 K rfl dX4_lay_32 ?_
          refine x_iald (pc := 34) k K (cel_ne (cel_ne hc1 (by omega)) (by omega)) rfl (by omega) (by decide) dX4_lay_34 ?_
          refine x_st (st' := [.int (zI ((l[k]).1))]) (by rw [e34]) ?_
          refine x_bipush (pc := 35) K (by decide) dX4_lay_35 ?_
          refine x_idiv (pc := 37) K (by omega) (by omega) dX4_lay_37 ?_
          refine x_nm (fun z2 hz2 => ?_)
          refine x_istore (pc := 38) K (L' := [(7, .int (zI z2)), (6, .int (zI (k : Int))), (0, .ref (B + c)), (1, .int (zI w)), (2, .int (zI e)), (3, .int (zI a)), (4, .int (zI b)), (5, .int (zI (x : Int)))]) hnL (by decide) rfl dX4_lay_38 ?_
          refine x_aload_n (pc := 40) 2 K rfl rfl dX4_lay_40 ?_
          refine x_iload_n (pc := 41) 5 K rfl rfl dX4_lay_41 ?_
          refine x_iload (pc := 42) 6 K rfl dX4_lay_42 ?_
          refine x_iload (pc := 44) 7 K rfl dX4_lay_44 ?_
          refine x_iload (pc := 46) 0 K rfl dX4_lay_46 ?_
          refine x_callV (pc := 48) (C := RX4) (T := TX4) (n := 5) (ci := 4) (As := [.int (zI a), .int (zI b), .int (zI (x : Int)), .int (zI z2)]) K (c_X4_layBetween (E := E) (B := B) (N := N)   (cel_ne (cel_ne hc0 (by omega)) (by omega)) (cel_ne (cel_self hc2.1) (by omega)) (cel_self hc3.1) (by omega) (by omega) (by omega)) gX4_lay_X4_layBetween rfl (na := 4) (by decide +kernel) rfl ⟨(Nat.le_of_ble_eq_true rfl), (Nat.le_of_ble_eq_true rfl)⟩ (cel_ne (cel_ne hc0 (by omega)) (by omega)) rfl (st := []) rfl (Nat.le_of_ble_eq_true rfl) ⟨(Nat.le_of_ble_eq_true rfl), (Nat.le_of_ble_eq_true rfl)⟩ dX4_lay_48 (fun r48 N48 w48 hpo48 hN48 => ?_)
          obtain ⟨rfl, rfl, rfl⟩ := hpo48
          refine x_v (congrArg (fun w => (va_up w (c + 4) (iarr E 8 (lyT t1 a b (x : Int) z2 (min ((x : Int) + 1) 8))))) (show (va_up (va_up v (c + 3) (iarr E 8 (lyS s1 a b (x : Int) z2 (min ((x : Int) + 1) 8)))) (c + 4) (iarr E 8 t1)) = _ from (up_at1 (by omega)).symm)) ?_
          refine x_v (w := (va_up (va_up v (c + 3) (iarr E 8 (lyS s1 a b (x : Int) z2 (min ((x : Int) + 1) 8)))) (c + 4) (iarr E 8 (lyT t1 a b (x : Int) z2 (min ((x : Int) + 1) 8))))) (up_at0).symm ?_
          refine x_st (st' := []) rfl ?_
          have hst : ∀ k2 : Nat, (k2 : Int) ≤ (x : Int) → SX w e l k2 (lyS s1 a b (x : Int) z2 ((x : Int) + 1) k2) (lyT t1 a b (x : Int) z2 ((x : Int) + 1) k2) := lay_step hq2 hq3 hq4 (List.getElem_mem hk) hk8 hz2.symm hi8_1 hi8_2
          have hmin : min ((x : Int) + 1) 8 = (x : Int) + 1 := by omega
          rw [← hmin] at hst
          refine x_iload (pc := 51) 7 K rfl dX4_lay_51 ?_
          refine x_istore_n (pc := 53) K (L' := [(3, .int (zI (x : Int))), (7, .int (zI z2)), (6, .int (zI (k : Int))), (0, .ref (B + c)), (1, .int (zI w)), (2, .int (zI e)), (4, .int (zI b)), (5, .int (zI (x : Int)))]) hnL rfl (by decide) rfl dX4_lay_53 ?_
          refine x_iload (pc := 54) 1 K rfl dX4_lay_54 ?_
          refine x_istore (pc := 56) K (L' := [(4, .int (zI z2)), (3, .int (zI (x : Int))), (7, .int (zI z2)), (6, .int (zI (k : Int))), (0, .ref (B + c)), (1, .int (zI w)), (2, .int (zI e)), (5, .int (zI (x : Int)))]) hnL (by decide) rfl dX4_lay_56 ?_
          refine x_iinc (pc := 58) (L' := [(5, .int (zI ((x : Int) + 1))), (4, .int (zI z2)), (3, .int (zI (x : Int))), (7, .int (zI z2)), (6, .int (zI (k : Int))), (0, .ref (B + c)), (1, .int (zI w)), (2, .int (zI e))]) 7 K hnL rfl (by decide) rfl dX4_lay_58 ?_
          refine x_goto (pc := 61) (tgt := 8) K dX4_lay_61 (by decide) ?_
          refine x_sub (L' := [(0, .ref (B + c)), (1, .int (zI w)), (2, .int (zI e)), (3, .int (zI (x : Int))), (4, .int (zI z2)), (5, .int (zI ((x : Int) + 1)))]) [5, 6, 7, 2, 1, 0] rfl ?_
          exact ih8 (x : Int) z2 (x + 1) (lyS s1 a b (x : Int) z2 (min ((x : Int) + 1) 8)) (lyT t1 a b (x : Int) z2 (min ((x : Int) + 1) 8)) (by omega) (by rw [hz2]; exact westOf_here (List.getElem_mem hk) hk8) (by exact hst) (by omega)
  refine x_sub (L' := [(0, .ref (B + c)), (1, .int (zI w)), (2, .int (zI e)), (3, .int (zI (-1))), (4, .int (zI w)), (5, .int (zI 0))]) [3, 4, 5, 2, 1, 0] rfl ?_
  exact LOOP8 (_) (-1) w 0 s t (by omega) (by exact westOf_none) (by exact fun k hk => by exfalso; omega) (Nat.lt_succ_self _)

set_option maxRecDepth 100000 in
set_option maxHeartbeats 4000000 in
theorem c_X4_liesAs {E : XE} {B N : Nat} {v : Nat → va_E} {c r n o : Nat} {lane size : Int} {p s t it : Nat → Int} {l : Cor} {o_i : Int} (ha_o : o_i = (o : Int)) (hc0 : Cel N v c (.inr (4, [.ref (B + (c + 1)), .ref (B + (c + 2)), .int (zI (n : Int)), .ref (B + (c + 3)), .ref (B + (c + 4))]))) (hc1 : Cel N v (c + 3) (iarr E 8 s)) (hc2 : Cel N v r (.inr (6, [.ref (B + (r + 1)), .int (zI lane), .int (zI size)]))) (hc3 : Cel N v (r + 1) (iarr E 40 it)) (hq0 : SR (p 0) (p 1) l s t) (hq1 : o ≤ 32) (hq2 : ∀ k, k < 40 → -2147483648 ≤ it k ∧ it k ≤ 2147483647) : gM yX4_liesAs wsX4_liesAs ({ frames := 0, cells := 0, slots := 0, locals := 0 }) E B N v [.ref (B + c), .ref (B + r), .int (zI o_i)] (po0 N (fun ρ v' => ρ = some (.int (zI (isSoF p l it o 8))) ∧ v = v')) := by
  subst ha_o
  refine x_met (nm := "liesAs") (by decide +kernel) rfl (Nat.le_of_ble_eq_true rfl) rfl (fun Γ K KR hnL hnm => ?_)
  show XW Γ N v [(0, .ref (B + c)), (1, .ref (B + r)), (2, .int (zI (o : Int)))] 0 0 0 []
  refine x_iconst (pc := 0) K dX4_liesAs_0 ?_
  refine x_istore_n (pc := 1) K (L' := [(3, .int (zI 0)), (0, .ref (B + c)), (1, .ref (B + r)), (2, .int (zI (o : Int)))]) hnL rfl (by decide) rfl dX4_liesAs_1 ?_
  have LOOP2 : ∀ (n_2 : Nat) (k : Nat), (k ≤ 8) → (isSoF p l it o k = 1) → (8 - k) < n_2 → XW Γ N v [(0, .ref (B + c)), (1, .ref (B + r)), (2, .int (zI (o : Int))), (3, .int (zI (k : Int)))] 0 0 2 [] := by
    intro n_2
    induction n_2 with
    | zero =>
      intro k hi2_0 hi2_1 hm_2
      exfalso; omega
    | succ n_2 ih2 =>
      intro k hi2_0 hi2_1 hm_2
      refine x_iload_n (pc := 2) 3 K rfl rfl dX4_liesAs_2 ?_
      refine x_bipush (pc := 3) K (by decide) dX4_liesAs_3 ?_
      refine x_icmp_ge (pc := 5) (tgt := 33) K (by omega) (by decide) dX4_liesAs_5 (by decide) (fun h_5 => ?_) (fun h_5 => ?_)
      · skip
        have hk8 : k = 8 := by omega
        rw [hk8] at hi2_1
        refine x_iconst (pc := 33) K dX4_liesAs_33 ?_
        refine x_zret (pc := 34) K KR (by omega) (Nat.le_of_ble_eq_true rfl) (Nat.le_of_ble_eq_true rfl) rfl dX4_liesAs_34 ?_
        exact ⟨rfl, ri hi2_1.symm, rfl⟩
      · skip
        have hsx := hq0 k (by omega)
        have hso := soC_is hsx
        have b21 := hq2 (o + k) (by omega)
        refine x_aload_n (pc := 8) 0 K rfl rfl dX4_liesAs_8 ?_
        refine x_get (pc := 9) (C := RX4) (T := TX4) (n := 5) (ci := 4) (idx := 23) (ref := "BorderBeds$Line") (x := .ref (B + (c + 3)))  K hc0 rfl (by decide +kernel) 3 (by decide) (by decide +kernel) rfl rfl dX4_liesAs_9 ?_
        refine x_iload_n (pc := 12) 3 K rfl rfl dX4_liesAs_12 ?_
        refine x_iald (pc := 13) k K hc1 rfl (by omega) (by decide) dX4_liesAs_13 ?_
        refine x_aload_n (pc := 14) 1 K rfl rfl dX4_liesAs_14 ?_
        refine x_get (pc := 15) (C := RX7) (T := TX7) (n := 3) (ci := 6) (idx := 79) (ref := "BorderBeds$Row") (x := .ref (B + (r + 1)))  K hc2 rfl (by decide +kernel) 0 (by decide) (by decide +kernel) rfl rfl dX4_liesAs_15 ?_
        refine x_iload_n (pc := 18) 2 K rfl rfl dX4_liesAs_18 ?_
        refine x_iload_n (pc := 19) 3 K rfl rfl dX4_liesAs_19 ?_
        refine x_iadd (pc := 20) K dX4_liesAs_20 ?_
        refine x_iald (pc := 21) (o + k) K hc3 (by omega) (by omega) (by decide) dX4_liesAs_21 ?_
        refine x_icmp_eq (pc := 22) (tgt := 27) K (by omega) (by omega) dX4_liesAs_22 (by decide) (fun h_22 => ?_) (fun h_22 => ?_)
        · skip
          refine x_iinc (pc := 27) (L' := [(3, .int (zI ((k : Int) + 1))), (0, .ref (B + c)), (1, .ref (B + r)), (2, .int (zI (o : Int)))]) 3 K hnL rfl (by decide) rfl dX4_liesAs_27 ?_
          refine x_goto (pc := 30) (tgt := 2) K dX4_liesAs_30 (by decide) ?_
          refine x_sub (L' := [(0, .ref (B + c)), (1, .ref (B + r)), (2, .int (zI (o : Int))), (3, .int (zI ((k : Int) + 1)))]) [1, 2, 3, 0] rfl ?_
          exact ih2 (k + 1) (by omega) (by exact isSoF_yes hi2_1 (by omega)) (by omega)
        · skip
          refine x_iconst (pc := 25) K dX4_liesAs_25 ?_
          refine x_zret (pc := 26) K KR (by omega) (Nat.le_of_ble_eq_true rfl) (Nat.le_of_ble_eq_true rfl) rfl dX4_liesAs_26 ?_
          exact ⟨rfl, ri (by have e := isSoF_no (p := p) (l := l) (it := it) (o := o) (k := k) (by omega) (7 - k); rw [show k + 1 + (7 - k) = 8 by omega] at e; exact e.symm), rfl⟩
  refine x_sub (L' := [(0, .ref (B + c)), (1, .ref (B + r)), (2, .int (zI (o : Int))), (3, .int (zI 0))]) [1, 2, 3, 0] rfl ?_
  exact LOOP2 (_) 0 (by omega) (by rfl) (Nat.lt_succ_self _)
