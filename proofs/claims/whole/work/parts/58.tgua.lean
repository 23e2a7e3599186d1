theorem dX8_readGuards_0 : decode cX8_readGuards 0 = .ok (.iconst 0, 1) := by decide +kernel
theorem dX8_readGuards_1 : decode cX8_readGuards 1 = .ok (.istore_n 2, 1) := by decide +kernel
theorem dX8_readGuards_2 : decode cX8_readGuards 2 = .ok (.iload_n 2, 1) := by decide +kernel
theorem dX8_readGuards_3 : decode cX8_readGuards 3 = .ok (.bipush 8, 2) := by decide +kernel
theorem dX8_readGuards_5 : decode cX8_readGuards 5 = .ok (.if_icmp .gt 86, 3) := by decide +kernel
theorem dX8_readGuards_8 : decode cX8_readGuards 8 = .ok (.aload_n 0, 1) := by decide +kernel
theorem dX8_readGuards_9 : decode cX8_readGuards 9 = .ok (.ldc 95, 2) := by decide +kernel
set_option maxRecDepth 20000 in
theorem ggX8_readGuards_X8_isWord : GoodIn wsX8_readGuards wsX8_isWord := goodIn_r _ [7, 8, 9, 10, 11, 12, 13, 14, 15, 16, 17, 18, 19, 20, 21, 22, 23, 24, 25, 26, 27, 28, 29, 30, 31, 32, 33, 34, 35, 36, 37, 38, 39, 40, 41, 42, 43, 44, 45, 46, 47, 48, 49, 50, 51, 52, 53, 54, 55, 56, 57, 58, 59, 60, 109, 110, 111, 112, 113, 114, 115, 116, 117] (by decide +kernel) (by decide +kernel)
set_option maxRecDepth 20000 in
theorem gX8_readGuards_X8_isWord : GoodIn wsX8_readGuards (wsV RX8 88 RX8 yX8_isWord wsX8_isWord) := goodIn_app (goodIn_of _ (by decide +kernel)) ggX8_readGuards_X8_isWord
theorem dX8_readGuards_11 : decode cX8_readGuards 11 = .ok (.invokevirtual 88, 3) := by decide +kernel
theorem dX8_readGuards_14 : decode cX8_readGuards 14 = .ok (.ifCond .eq 77, 3) := by decide +kernel
theorem dX8_readGuards_91 : decode cX8_readGuards 91 = .ok (.iconst 1, 1) := by decide +kernel
theorem dX8_readGuards_92 : decode cX8_readGuards 92 = .ok (.ireturn, 1) := by decide +kernel
theorem dX8_readGuards_17 : decode cX8_readGuards 17 = .ok (.iload_n 2, 1) := by decide +kernel
theorem dX8_readGuards_18 : decode cX8_readGuards 18 = .ok (.bipush 8, 2) := by decide +kernel
theorem dX8_readGuards_20 : decode cX8_readGuards 20 = .ok (.if_icmp .ne 9, 3) := by decide +kernel
theorem dX8_readGuards_29 : decode cX8_readGuards 29 = .ok (.aload_n 0, 1) := by decide +kernel
set_option maxRecDepth 20000 in
theorem ggX8_readGuards_X8_step : GoodIn wsX8_readGuards wsX8_step := goodIn_r _ [70, 9, 10, 71, 11, 8, 72, 73, 6, 74, 75, 76, 77, 78, 79, 80, 81, 82, 83, 84, 85, 86, 87, 88, 89, 109, 110, 111, 112, 113, 114, 115, 116, 117] (by decide +kernel) (by decide +kernel)
set_option maxRecDepth 20000 in
theorem gX8_readGuards_X8_step : GoodIn wsX8_readGuards (wsV RX8 43 RX8 yX8_step wsX8_step) := goodIn_app (goodIn_of _ (by decide +kernel)) ggX8_readGuards_X8_step
theorem dX8_readGuards_30 : decode cX8_readGuards 30 = .ok (.invokevirtual 43, 3) := by decide +kernel
theorem dX8_readGuards_33 : decode cX8_readGuards 33 = .ok (.aload_n 0, 1) := by decide +kernel
theorem dX8_readGuards_34 : decode cX8_readGuards 34 = .ok (.iconst 0, 1) := by decide +kernel
theorem dX8_readGuards_35 : decode cX8_readGuards 35 = .ok (.iconst 0, 1) := by decide +kernel
theorem dX8_readGuards_36 : decode cX8_readGuards 36 = .ok (.bipush 7, 2) := by decide +kernel
set_option maxRecDepth 20000 in
theorem ggX8_readGuards_X8_number : GoodIn wsX8_readGuards wsX8_number := goodIn_r _ [93, 8, 89, 2, 61, 62, 63, 6, 64, 65, 10, 66, 67, 68, 69, 70, 9, 71, 11, 72, 73, 74, 75, 76, 77, 78, 79, 80, 81, 82, 83, 84, 85, 86, 87, 88, 109, 110, 111, 112, 113, 114, 115, 116, 117] (by decide +kernel) (by decide +kernel)
set_option maxRecDepth 20000 in
theorem gX8_readGuards_X8_number : GoodIn wsX8_readGuards (wsV RX8 69 RX8 yX8_number wsX8_number) := goodIn_app (goodIn_of _ (by decide +kernel)) ggX8_readGuards_X8_number
theorem dX8_readGuards_38 : decode cX8_readGuards 38 = .ok (.invokevirtual 69, 3) := by decide +kernel
theorem dX8_readGuards_41 : decode cX8_readGuards 41 = .ok (.ifCond .eq 20, 3) := by decide +kernel
theorem dX8_readGuards_61 : decode cX8_readGuards 61 = .ok (.iconst 0, 1) := by decide +kernel
theorem dX8_readGuards_62 : decode cX8_readGuards 62 = .ok (.ireturn, 1) := by decide +kernel
theorem dX8_readGuards_44 : decode cX8_readGuards 44 = .ok (.aload_n 0, 1) := by decide +kernel
theorem dX8_readGuards_45 : decode cX8_readGuards 45 = .ok (.iconst 1, 1) := by decide +kernel
theorem dX8_readGuards_46 : decode cX8_readGuards 46 = .ok (.iconst 0, 1) := by decide +kernel
theorem dX8_readGuards_47 : decode cX8_readGuards 47 = .ok (.iconst 5, 1) := by decide +kernel
theorem dX8_readGuards_48 : decode cX8_readGuards 48 = .ok (.invokevirtual 69, 3) := by decide +kernel
theorem dX8_readGuards_51 : decode cX8_readGuards 51 = .ok (.ifCond .eq 10, 3) := by decide +kernel
theorem dX8_readGuards_54 : decode cX8_readGuards 54 = .ok (.aload_n 0, 1) := by decide +kernel
set_option maxRecDepth 20000 in
theorem ggX8_readGuards_X8_sign : GoodIn wsX8_readGuards wsX8_sign := goodIn_r _ [97, 8, 61, 62, 63, 6, 64, 65, 10, 66, 67, 68, 69, 70, 9, 71, 11, 72, 73, 74, 75, 76, 77, 78, 79, 80, 81, 82, 83, 84, 85, 86, 87, 88, 89, 109, 110, 111, 112, 113, 114, 115, 116, 117] (by decide +kernel) (by decide +kernel)
set_option maxRecDepth 20000 in
theorem gX8_readGuards_X8_sign : GoodIn wsX8_readGuards (wsV RX8 73 RX8 yX8_sign wsX8_sign) := goodIn_app (goodIn_of _ (by decide +kernel)) ggX8_readGuards_X8_sign
theorem dX8_readGuards_55 : decode cX8_readGuards 55 = .ok (.invokevirtual 73, 3) := by decide +kernel
theorem dX8_readGuards_58 : decode cX8_readGuards 58 = .ok (.ifCond .ne 5, 3) := by decide +kernel
theorem dX8_readGuards_63 : decode cX8_readGuards 63 = .ok (.aload_n 1, 1) := by decide +kernel
theorem dX8_readGuards_64 : decode cX8_readGuards 64 = .ok (.getfield 97, 3) := by decide +kernel
theorem dX8_readGuards_67 : decode cX8_readGuards 67 = .ok (.bipush 8, 2) := by decide +kernel
theorem dX8_readGuards_69 : decode cX8_readGuards 69 = .ok (.aload_n 0, 1) := by decide +kernel
theorem dX8_readGuards_70 : decode cX8_readGuards 70 = .ok (.getfield 15, 3) := by decide +kernel
theorem dX8_readGuards_73 : decode cX8_readGuards 73 = .ok (.iconst 1, 1) := by decide +kernel
theorem dX8_readGuards_74 : decode cX8_readGuards 74 = .ok (.iaload, 1) := by decide +kernel
theorem dX8_readGuards_75 : decode cX8_readGuards 75 = .ok (.imul, 1) := by decide +kernel
theorem dX8_readGuards_76 : decode cX8_readGuards 76 = .ok (.aload_n 0, 1) := by decide +kernel
theorem dX8_readGuards_77 : decode cX8_readGuards 77 = .ok (.getfield 15, 3) := by decide +kernel
theorem dX8_readGuards_80 : decode cX8_readGuards 80 = .ok (.iconst 0, 1) := by decide +kernel
theorem dX8_readGuards_81 : decode cX8_readGuards 81 = .ok (.iaload, 1) := by decide +kernel
theorem dX8_readGuards_82 : decode cX8_readGuards 82 = .ok (.iadd, 1) := by decide +kernel
theorem dX8_readGuards_83 : decode cX8_readGuards 83 = .ok (.iconst 1, 1) := by decide +kernel
theorem dX8_readGuards_84 : decode cX8_readGuards 84 = .ok (.bastore, 1) := by decide +kernel
theorem dX8_readGuards_85 : decode cX8_readGuards 85 = .ok (.iinc 2 1, 3) := by decide +kernel
theorem dX8_readGuards_88 : decode cX8_readGuards 88 = .ok (.goto (-86), 3) := by decide +kernel
theorem dX8_readGuards_23 : decode cX8_readGuards 23 = .ok (.aload_n 0, 1) := by decide +kernel
theorem dX8_readGuards_24 : decode cX8_readGuards 24 = .ok (.iconst 3, 1) := by decide +kernel
set_option maxRecDepth 20000 in
theorem ggX8_readGuards_X8_fails : GoodIn wsX8_readGuards wsX8_fails := goodIn_r _ [64, 65, 10, 66, 109, 110, 111, 112, 113, 114, 115, 116, 117] (by decide +kernel) (by decide +kernel)
set_option maxRecDepth 20000 in
theorem gX8_readGuards_X8_fails : GoodIn wsX8_readGuards (wsV RX8 59 RX8 yX8_fails wsX8_fails) := goodIn_app (goodIn_of _ (by decide +kernel)) ggX8_readGuards_X8_fails
theorem dX8_readGuards_25 : decode cX8_readGuards 25 = .ok (.invokevirtual 59, 3) := by decide +kernel
theorem dX8_readGuards_28 : decode cX8_readGuards 28 = .ok (.ireturn, 1) := by decide +kernel
set_option maxRecDepth 100000 in
set_option maxHeartbeats 4000000 in
theorem c_X8_readGuards {E : XE} {B N : Nat} {v : Nat → va_E} {c n : Nat} {f pl : Int} {t : Nat → Int} {R0 : Except (Int × Nat) (Nat → Int)} (hq0 : n ≤ 400) (hq1 : ∀ i : Nat, 0 ≤ t i ∧ t i ≤ 255) (hq2 : 4 < c) (hq3 : RS E B N v c n t f pl 2 R0) : gM yX8_readGuards wsX8_readGuards ({ frames := 5, cells := 0, slots := 0, locals := 112 }) E B N v [.ref (B + 2), .ref (B + c)] (fun ρ N' v' => ∃ (res : Int), (N ≤ N') ∧ (FRM v v' c) ∧ ((res = 1 ∧ RS E B N' v' c n t f pl 3 R0) ∨ (res = 0 ∧ RE E B N' v' n R0)) ∧ ρ = some (.int (zI res))) := by
  refine x_met (nm := "readGuards") (by decide +kernel) rfl (Nat.le_of_ble_eq_true rfl) rfl (fun Γ K KR hnL hnm => ?_)
  show XW Γ N v [(0, .ref (B + 2)), (1, .ref (B + c))] 0 0 0 []
  obtain ⟨a0, r0, g0, fu0, tl0, vv0, hR0, h40, hg0, h30⟩ := hq3
  specialize hg0 (by decide)
  subst hg0
  specialize h40 (by decide)
  clear h30
  refine x_iconst (pc := 0) K dX8_readGuards_0 ?_
  refine x_istore_n (pc := 1) K (L' := [(2, .int (zI 0)), (0, .ref (B + 2)), (1, .ref (B + c))]) hnL rfl (by decide) rfl dX8_readGuards_1 ?_
  have LOOP2 : ∀ (n_2 : Nat) (v3 : Nat → va_E) (a3 : Nat) (r3 : Nat → Int) (fu3 : Nat) (tl3 : Nat → Int) (vv3 : Int) (m3 : Nat), (RSx E B N v3 c n t f pl 2 R0 a3 r3 (m3 : Int) fu3 tl3 vv3) → (FRM v v3 c) → (r3 4 = 0) → (n - a3) < n_2 → XW Γ N v3 [(0, .ref (B + 2)), (1, .ref (B + c)), (2, .int (zI (m3 : Int)))] 0 0 2 [] := by
    intro n_2
    induction n_2 with
    | zero =>
      intro v3 a3 r3 fu3 tl3 vv3 m3 hR3 hF3 hr40 hm_2
      exfalso; omega
    | succ n_2 ih2 =>
      intro v3 a3 r3 fu3 tl3 vv3 m3 hR3 hF3 hr40 hm_2
      have hR4 := hR3
      obtain ⟨k2, k3, k4, ka, -, kG, kr, kR, kf, kg8, kN⟩ := hR3
      have kG9 := kG
      obtain ⟨G0, G1, G2, G3, G4, G5, G6, G7, G8⟩ := kG9
      have her := (tokE_rng (t := t) ka).2.1
      have hr3 := kr.1.2.2.2.1
      have hr4 := kr.1.2.2.2.2.1
      refine x_iload_n (pc := 2) 2 K rfl rfl dX8_readGuards_2 ?_
      refine x_bipush (pc := 3) K (by decide) dX8_readGuards_3 ?_
      refine x_icmp_gt (pc := 5) (tgt := 91) K (by omega) (by decide) dX8_readGuards_5 (by decide) (fun h_5 => ?_) (fun h_5 => ?_)
      · skip
        exfalso; omega
      · skip
        refine x_aload_n (pc := 8) 0 K rfl rfl dX8_readGuards_8 ?_
        refine x_ldcS (pc := 9) 2 K (by decide) rfl rfl dX8_readGuards_9 ?_
        refine x_callV (pc := 11) (C := RX8) (T := TX8) (n := 9) (ci := 7) (As := [.ref (E.2.2.1 2)]) K (c_X8_isWord (E := E) (B := B) (N := N) (i := 2) (a := a3) (n := n) (t := t)  k2 k3 (by omega) hq1 (by decide)) gX8_readGuards_X8_isWord rfl (na := 1) (by decide +kernel) rfl ⟨(Nat.le_of_ble_eq_true rfl), (Nat.le_of_ble_eq_true rfl)⟩ k2 rfl (st := []) rfl (Nat.le_of_ble_eq_true rfl) ⟨(Nat.le_of_ble_eq_true rfl), (Nat.le_of_ble_eq_true rfl)⟩ dX8_readGuards_11 (fun r11 N11 w11 hpo11 hN11 => ?_)
        obtain ⟨rfl, res_11, hp11_0, rfl, rfl⟩ := hpo11
        refine x_st (st' := [.int (zI res_11)]) rfl ?_
        refine x_if_eq (pc := 14) (tgt := 91) K (by omega) dX8_readGuards_14 (by decide) (fun h_14 => ?_) (fun h_14 => ?_)
        · skip
          have hnw := (hp11_0.resolve_left (fun q => by omega)).2
          clear hp11_0
          refine x_iconst (pc := 91) K dX8_readGuards_91 ?_
          refine x_zret (pc := 92) K KR (by omega) (Nat.le_of_ble_eq_true rfl) (Nat.le_of_ble_eq_true rfl) rfl dX8_readGuards_92 ?_
          exact ⟨1, by omega, hF3, Or.inl ⟨rfl, RS_mk (RSx_mk k2 k3 k4 ka (RSx_kv hR4) kG kr (by rw [kR]; exact pLoop_up (fun q => hnw ((isW_bg ka).2.1.mpr q))) kf (by omega) kN) (fun _ => hr40) (fun q => absurd q (by decide)) (fun q => absurd q (by decide))⟩, rfl⟩
        · skip
          have hw := (hp11_0.resolve_right (fun q => by omega)).2
          clear hp11_0
          have hb := (isW_bg ka).2.1.mp hw
          have hK1 := hw.1
          have hea := (tokE_rng (t := t) ka).2.2 (by omega)
          refine x_iload_n (pc := 17) 2 K rfl rfl dX8_readGuards_17 ?_
          refine x_bipush (pc := 18) K (by decide) dX8_readGuards_18 ?_
          refine x_icmp_ne (pc := 20) (tgt := 29) K (by omega) (by decide) dX8_readGuards_20 (by decide) (fun h_20 => ?_) (fun h_20 => ?_)
          · skip
            refine x_aload_n (pc := 29) 0 K rfl rfl dX8_readGuards_29 ?_
            refine x_callV (pc := 30) (C := RX8) (T := TX8) (n := 9) (ci := 7) (As := []) K (c_X8_step (E := E) (B := B) (N := N) (a := (tokE t n a3)) (n := n)  k2 k3 (by omega) hq1) gX8_readGuards_X8_step rfl (na := 0) (by decide +kernel) rfl ⟨(Nat.le_of_ble_eq_true rfl), (Nat.le_of_ble_eq_true rfl)⟩ k2 rfl (st := []) rfl (Nat.le_of_ble_eq_true rfl) ⟨(Nat.le_of_ble_eq_true rfl), (Nat.le_of_ble_eq_true rfl)⟩ dX8_readGuards_30 (fun r30 N30 w30 hpo30 hN30 => ?_)
            obtain ⟨rfl, v2_30, hp30_0, rfl, rfl⟩ := hpo30
            refine x_v (w := (va_up v3 2 (.inr (7, [.ref (B + 3), .ref (B + 4), .int (zI (n : Int)), .int (zI f), .int (zI pl), .int (zI (tokK t n (tokE t n a3))), .int (zI (((skT t n (tokE t n a3)) : Nat) : Int)), .int (zI (((tokE t n (tokE t n a3)) : Nat) : Int)), .int (zI v2_30)])))) rfl ?_
            refine x_st (st' := []) rfl ?_
            refine x_aload_n (pc := 33) 0 K rfl rfl dX8_readGuards_33 ?_
            refine x_iconst (pc := 34) K dX8_readGuards_34 ?_
            refine x_iconst (pc := 35) K dX8_readGuards_35 ?_
            refine x_bipush (pc := 36) K (by decide) dX8_readGuards_36 ?_
            refine x_callV (pc := 38) (C := RX8) (T := TX8) (n := 9) (ci := 7) (As := [.int (zI 0), .int (zI 0), .int (zI 7)]) K (c_X8_number (E := E) (B := B) (N := N) (a := (tokE t n a3)) (n := n) (t := t) (i := 0) rfl (cel_self k2.1) (cel_ne k3 (by decide)) (cel_ne k4 (by decide)) (by omega) hq1 (by decide) (by omega) (by omega) hp30_0) gX8_readGuards_X8_number rfl (na := 3) (by decide +kernel) rfl ⟨(Nat.le_of_ble_eq_true rfl), (Nat.le_of_ble_eq_true rfl)⟩ (cel_self k2.1) rfl (st := []) rfl (Nat.le_of_ble_eq_true rfl) ⟨(Nat.le_of_ble_eq_true rfl), (Nat.le_of_ble_eq_true rfl)⟩ dX8_readGuards_38 (fun r38 N38 w38 hpo38 hN38 => ?_)
            obtain ⟨rfl, res_38, f2_38, pl2_38, so2_38, s2_38, e2_38, v2_38, tl2_38, hp38_0, rfl, rfl⟩ := hpo38
            refine x_v (congrArg (fun w => (va_up w 4 (iarr E 4 tl2_38))) (show (va_up v3 2 (.inr (7, [.ref (B + 3), .ref (B + 4), .int (zI (n : Int)), .int (zI f2_38), .int (zI pl2_38), .int (zI so2_38), .int (zI s2_38), .int (zI e2_38), .int (zI v2_38)]))) = _ from (up_at0).symm)) ?_
            refine x_v (w := (va_up (va_up v3 2 (.inr (7, [.ref (B + 3), .ref (B + 4), .int (zI (n : Int)), .int (zI f2_38), .int (zI pl2_38), .int (zI so2_38), .int (zI s2_38), .int (zI e2_38), .int (zI v2_38)]))) 4 (iarr E 4 tl2_38))) rfl ?_
            refine x_st (st' := [.int (zI res_38)]) rfl ?_
            refine x_if_eq (pc := 41) (tgt := 61) K (by omega) dX8_readGuards_41 (by decide) (fun h_41 => ?_) (fun h_41 => ?_)
            · skip
              obtain ⟨g_38, p_38, hP_38, -, hf_38, hl_38⟩ := hp38_0.resolve_left (fun ⟨_, _, _, q, _⟩ => by omega)
              clear hp38_0
              clear hp30_0
              have hE9 : R0 = .error (g_38, p_38) := kR.trans (gua_e (by omega) hb (by omega) (pGua_1 hP_38))
              refine x_iconst (pc := 61) K dX8_readGuards_61 ?_
              refine x_zret (pc := 62) K KR (by omega) (Nat.le_of_ble_eq_true rfl) (Nat.le_of_ble_eq_true rfl) rfl dX8_readGuards_62 ?_
              exact ⟨0, by omega, (fun q h1 h2 h3 => by rw [va_up_ne _ _ (by omega), va_up_ne _ _ (by omega)] <;> exact hF3 q h1 h2 h3), Or.inr ⟨rfl, RE_mk (p := p_38) (cel_ne (cel_self k2.1) (by decide)) (cel_self k4.1) (by rw [hE9, hf_38]) hl_38⟩, rfl⟩
            · skip
              obtain ⟨x_38, e_38, hP_38, -, ⟨hf_38, hg_38⟩, ⟨hk_38, hs_38, hE_38, hv_38⟩, ht_38⟩ := hp38_0.resolve_right (fun ⟨_, _, _, q, _⟩ => by omega)
              clear hp38_0
              subst f2_38
              subst pl2_38
              subst so2_38
              subst s2_38
              subst e2_38
              subst tl2_38
              have ho_38 := pNum_ok hP_38 (by omega)
              obtain ⟨y_38, rfl⟩ : ∃ j : Nat, x_38 = (j : Int) := ⟨x_38.toNat, by omega⟩
              have her_38 := (tokE_rng (t := t) ho_38.2.2).2.1
              clear hp30_0
              refine x_aload_n (pc := 44) 0 K rfl rfl dX8_readGuards_44 ?_
              refine x_iconst (pc := 45) K dX8_readGuards_45 ?_
              refine x_iconst (pc := 46) K dX8_readGuards_46 ?_
              refine x_iconst (pc := 47) K dX8_readGuards_47 ?_
              refine x_callV (pc := 48) (C := RX8) (T := TX8) (n := 9) (ci := 7) (As := [.int (zI 1), .int (zI 0), .int (zI 5)]) K (c_X8_number (E := E) (B := B) (N := N) (a := e_38) (n := n) (t := t) (i := 1) rfl (cel_ne (cel_self k2.1) (by decide)) (cel_ne (cel_ne k3 (by decide)) (by decide)) (cel_self k4.1) (by omega) hq1 (by decide) (by omega) (by omega) hv_38) gX8_readGuards_X8_number rfl (na := 3) (by decide +kernel) rfl ⟨(Nat.le_of_ble_eq_true rfl), (Nat.le_of_ble_eq_true rfl)⟩ (cel_ne (cel_self k2.1) (by decide)) rfl (st := []) rfl (Nat.le_of_ble_eq_true rfl) ⟨(Nat.le_of_ble_eq_true rfl), (Nat.le_of_ble_eq_true rfl)⟩ dX8_readGuards_48 (fun r48 N48 w48 hpo48 hN48 => ?_)
              obtain ⟨rfl, res_48, f2_48, pl2_48, so2_48, s2_48, e2_48, v2_48, tl2_48, hp48_0, rfl, rfl⟩ := hpo48
              refine x_v (congrArg (fun w => (va_up w 4 (iarr E 4 tl2_48))) (show (va_up (va_up v3 2 (.inr (7, [.ref (B + 3), .ref (B + 4), .int (zI (n : Int)), .int (zI f2_48), .int (zI pl2_48), .int (zI so2_48), .int (zI s2_48), .int (zI e2_48), .int (zI v2_48)]))) 4 (iarr E 4 (va_up tl3 0 (y_38 : Int)))) = _ from (up_at1 (by decide)).symm)) ?_
              refine x_v (w := (va_up (va_up v3 2 (.inr (7, [.ref (B + 3), .ref (B + 4), .int (zI (n : Int)), .int (zI f2_48), .int (zI pl2_48), .int (zI so2_48), .int (zI s2_48), .int (zI e2_48), .int (zI v2_48)]))) 4 (iarr E 4 tl2_48))) (up_at0).symm ?_
              refine x_st (st' := [.int (zI res_48)]) rfl ?_
              refine x_if_eq (pc := 51) (tgt := 61) K (by omega) dX8_readGuards_51 (by decide) (fun h_51 => ?_) (fun h_51 => ?_)
              · skip
                obtain ⟨g_48, p_48, hP_48, -, hf_48, hl_48⟩ := hp48_0.resolve_left (fun ⟨_, _, _, q, _⟩ => by omega)
                clear hp48_0
                clear hv_38
                have hE9 : R0 = .error (g_48, p_48) := kR.trans (gua_e (by omega) hb (by omega) (pGua_2 hP_38 hP_48))
                refine x_iconst (pc := 61) K dX8_readGuards_61 ?_
                refine x_zret (pc := 62) K KR (by omega) (Nat.le_of_ble_eq_true rfl) (Nat.le_of_ble_eq_true rfl) rfl dX8_readGuards_62 ?_
                exact ⟨0, by omega, (fun q h1 h2 h3 => by rw [va_up_ne _ _ (by omega), va_up_ne _ _ (by omega)] <;> exact hF3 q h1 h2 h3), Or.inr ⟨rfl, RE_mk (p := p_48) (cel_ne (cel_self k2.1) (by decide)) (cel_self k4.1) (by rw [hE9, hf_48]) hl_48⟩, rfl⟩
              · skip
                obtain ⟨x_48, e_48, hP_48, -, ⟨hf_48, hg_48⟩, ⟨hk_48, hs_48, hE_48, hv_48⟩, ht_48⟩ := hp48_0.resolve_right (fun ⟨_, _, _, q, _⟩ => by omega)
                clear hp48_0
                subst f2_48
                subst pl2_48
                subst so2_48
                subst s2_48
                subst e2_48
                subst tl2_48
                have ho_48 := pNum_ok hP_48 (by omega)
                obtain ⟨y_48, rfl⟩ : ∃ j : Nat, x_48 = (j : Int) := ⟨x_48.toNat, by omega⟩
                have her_48 := (tokE_rng (t := t) ho_48.2.2).2.1
                clear hv_38
                refine x_aload_n (pc := 54) 0 K rfl rfl dX8_readGuards_54 ?_
                refine x_callV (pc := 55) (C := RX8) (T := TX8) (n := 9) (ci := 7) (As := []) K (c_X8_sign (E := E) (B := B) (N := N) (a := e_48) (n := n) (t := t)  (cel_ne (cel_self k2.1) (by decide)) (cel_ne (cel_ne k3 (by decide)) (by decide)) (by omega) hq1) gX8_readGuards_X8_sign rfl (na := 0) (by decide +kernel) rfl ⟨(Nat.le_of_ble_eq_true rfl), (Nat.le_of_ble_eq_true rfl)⟩ (cel_ne (cel_self k2.1) (by decide)) rfl (st := []) rfl (Nat.le_of_ble_eq_true rfl) ⟨(Nat.le_of_ble_eq_true rfl), (Nat.le_of_ble_eq_true rfl)⟩ dX8_readGuards_55 (fun r55 N55 w55 hpo55 hN55 => ?_)
                obtain ⟨rfl, res_55, f2_55, pl2_55, so2_55, s2_55, e2_55, v2_55, hp55_0, rfl, rfl⟩ := hpo55
                refine x_v (w := (va_up (va_up v3 2 (.inr (7, [.ref (B + 3), .ref (B + 4), .int (zI (n : Int)), .int (zI f2_55), .int (zI pl2_55), .int (zI so2_55), .int (zI s2_55), .int (zI e2_55), .int (zI v2_55)]))) 4 (iarr E 4 (va_up (va_up tl3 0 (y_38 : Int)) 1 (y_48 : Int))))) (up_at1 (by decide)).symm ?_
                refine x_st (st' := [.int (zI res_55)]) rfl ?_
                refine x_if_ne (pc := 58) (tgt := 63) K (by omega) dX8_readGuards_58 (by decide) (fun h_58 => ?_) (fun h_58 => ?_)
                · skip
                  obtain ⟨x_55, e_55, hP_55, -, ⟨hf_55, hg_55⟩, ⟨hk_55, hs_55, hE_55, hv_55⟩⟩ := hp55_0.resolve_right (fun ⟨_, _, _, q, _⟩ => by omega)
                  clear hp55_0
                  subst f2_55
                  subst pl2_55
                  subst so2_55
                  subst s2_55
                  subst e2_55
                  have ho_55 := pSig_ok hP_55 (by omega)
                  have her_55 := (tokE_rng (t := t) ho_55.2).2.1
                  clear hv_48
                  refine x_aload_n (pc := 63) 1 K rfl rfl dX8_readGuards_63 ?_
                  refine x_get (pc := 64) (C := RX3) (T := TX3) (n := 11) (ci := 3) (idx := 97) (ref := "BorderBeds$Ground") (x := .ref (B + (c + 2)))  K (cel_ne (cel_ne G0 (by omega)) (by omega)) rfl (by decide +kernel) 4 (by decide) (by decide +kernel) rfl rfl dX8_readGuards_64 ?_
                  refine x_bipush (pc := 67) K (by decide) dX8_readGuards_67 ?_
                  refine x_aload_n (pc := 69) 0 K rfl rfl dX8_readGuards_69 ?_
                  refine x_get (pc := 70) (C := RX8) (T := TX8) (n := 9) (ci := 7) (idx := 15) (ref := "BorderBeds$Tape") (x := .ref (B + 4))  K (cel_ne (cel_self k2.1) (by decide)) rfl (by decide +kernel) 1 (by decide) (by decide +kernel) rfl rfl dX8_readGuards_70 ?_
                  refine x_iconst (pc := 73) K dX8_readGuards_73 ?_
                  refine x_iald (pc := 74) 1 K (cel_self k4.1) rfl (by omega) (by decide) dX8_readGuards_74 ?_
                  refine x_st (st' := [.int (zI (y_48 : Int)), .int (zI 8), .ref (B + (c + 2))]) (rfl) ?_
                  refine x_imul (pc := 75) K dX8_readGuards_75 ?_
                  refine x_aload_n (pc := 76) 0 K rfl rfl dX8_readGuards_76 ?_
                  refine x_get (pc := 77) (C := RX8) (T := TX8) (n := 9) (ci := 7) (idx := 15) (ref := "BorderBeds$Tape") (x := .ref (B + 4))  K (cel_ne (cel_self k2.1) (by decide)) rfl (by decide +kernel) 1 (by decide) (by decide +kernel) rfl rfl dX8_readGuards_77 ?_
                  refine x_iconst (pc := 80) K dX8_readGuards_80 ?_
                  refine x_iald (pc := 81) 0 K (cel_self k4.1) rfl (by omega) (by decide) dX8_readGuards_81 ?_
                  refine x_st (st' := [.int (zI (y_38 : Int)), .int (zI (8 * (y_48 : Int))), .ref (B + (c + 2))]) (rfl) ?_
                  refine x_iadd (pc := 82) K dX8_readGuards_82 ?_
                  refine x_iconst (pc := 83) K dX8_readGuards_83 ?_
                  refine x_zast (pc := 84) ((8 * y_48) + y_38) K (cel_ne (cel_ne G2 (by omega)) (by omega)) (by omega) (by omega) (by decide) rfl dX8_readGuards_84 ?_
                  refine x_v (w := (va_up (va_up (va_up v3 2 (.inr (7, [.ref (B + 3), .ref (B + 4), .int (zI (n : Int)), .int (zI f), .int (zI pl), .int (zI (tokK t n e_55)), .int (zI (((skT t n e_55) : Nat) : Int)), .int (zI (((tokE t n e_55) : Nat) : Int)), .int (zI v2_55)]))) 4 (iarr E 4 (va_up (va_up tl3 0 (y_38 : Int)) 1 (y_48 : Int)))) (c + 2) (barr E 48 (va_up (gA r3) ((8 * y_48) + y_38) 1)))) rfl ?_
                  have hRR : va_up (gA r3) ((8 * y_48) + y_38) 1 = (gA (guaR r3 ((8 * y_48 + y_38 : Nat) : Int))) := by rw [← gua_gua (by omega)]; rfl
                  refine x_v (w := (va_up (va_up (va_up v3 2 (.inr (7, [.ref (B + 3), .ref (B + 4), .int (zI (n : Int)), .int (zI f), .int (zI pl), .int (zI (tokK t n e_55)), .int (zI (((skT t n e_55) : Nat) : Int)), .int (zI (((tokE t n e_55) : Nat) : Int)), .int (zI v2_55)]))) 4 (iarr E 4 (va_up (va_up tl3 0 (y_38 : Int)) 1 (y_48 : Int)))) (c + 2) (barr E 48 (gA (guaR r3 ((8 * y_48 + y_38 : Nat) : Int)))))) (by rw [hRR]) ?_
                  refine x_iinc (pc := 85) (L' := [(2, .int (zI ((m3 : Int) + 1))), (0, .ref (B + 2)), (1, .ref (B + c))]) 2 K hnL rfl (by decide) rfl dX8_readGuards_85 ?_
                  refine x_goto (pc := 88) (tgt := 2) K dX8_readGuards_88 (by decide) ?_
                  refine x_sub (L' := [(0, .ref (B + 2)), (1, .ref (B + c)), (2, .int (zI ((m3 : Int) + 1)))]) [1, 2, 0] rfl ?_
                  exact ih2 (va_up (va_up (va_up v3 2 (.inr (7, [.ref (B + 3), .ref (B + 4), .int (zI (n : Int)), .int (zI f), .int (zI pl), .int (zI (tokK t n e_55)), .int (zI (((skT t n e_55) : Nat) : Int)), .int (zI (((tokE t n e_55) : Nat) : Int)), .int (zI v2_55)]))) 4 (iarr E 4 (va_up (va_up tl3 0 (y_38 : Int)) 1 (y_48 : Int)))) (c + 2) (barr E 48 (gA (guaR r3 ((8 * y_48 + y_38 : Nat) : Int))))) e_55 (guaR r3 ((8 * y_48 + y_38 : Nat) : Int)) (fu3 - 1) (va_up (va_up tl3 0 (y_38 : Int)) 1 (y_48 : Int)) v2_55 (m3 + 1) (RSx_mk (cel_ne (cel_ne (cel_self k2.1) (by decide)) (by omega)) (cel_ne (cel_ne (cel_ne k3 (by decide)) (by decide)) (by omega)) (cel_ne (cel_self k4.1) (by omega)) ho_55.2 hv_55 (GS_gua (GS_fr kG (by omega) (Nat.le_refl _) (fun k h1 h2 h3 => by rw [va_up_ne _ _ (by omega), va_up_ne _ _ (by omega)])) (by omega) (by omega)) (rOk_gua kr (by omega)) (by rw [show fu3 - 1 + 1 = fu3 by omega, kR]; exact gua_o (by omega) hb (by omega) (pGua_4 hP_38 hP_48 hP_55)) (by omega) (by omega) (by rw [guaR_4]; exact kN)) (fun q h1 h2 h3 => by rw [va_up_ne _ _ (by omega), va_up_ne _ _ (by omega), va_up_ne _ _ (by omega)] <;> exact hF3 q h1 h2 h3) (by rw [guaR_4]; exact hr40) (by omega)
                · skip
                  obtain ⟨g_55, p_55, hP_55, -, hf_55, hl_55⟩ := hp55_0.resolve_left (fun ⟨_, _, _, q, _⟩ => by omega)
                  clear hp55_0
                  clear hv_48
                  have hE9 : R0 = .error (g_55, p_55) := kR.trans (gua_e (by omega) hb (by omega) (pGua_3 hP_38 hP_48 hP_55))
                  refine x_iconst (pc := 61) K dX8_readGuards_61 ?_
                  refine x_zret (pc := 62) K KR (by omega) (Nat.le_of_ble_eq_true rfl) (Nat.le_of_ble_eq_true rfl) rfl dX8_readGuards_62 ?_
                  exact ⟨0, by omega, (fun q h1 h2 h3 => by rw [va_up_ne _ _ (by omega), va_up_ne _ _ (by omega)] <;> exact hF3 q h1 h2 h3), Or.inr ⟨rfl, RE_mk (p := p_55) (cel_ne (cel_self k2.1) (by decide)) (cel_self k4.1) (by rw [hE9, hf_55]) hl_55⟩, rfl⟩
          · skip
            have hE9 : R0 = .error (3, skT t n a3) := kR.trans (gua_f (by omega) hb (by omega))
            refine x_aload_n (pc := 23) 0 K rfl rfl dX8_readGuards_23 ?_
            refine x_iconst (pc := 24) K dX8_readGuards_24 ?_
            refine x_callV (pc := 25) (C := RX8) (T := TX8) (n := 9) (ci := 7) (As := [.int (zI 3)]) K (c_X8_fails (E := E) (B := B) (N := N)   k2 ) gX8_readGuards_X8_fails rfl (na := 1) (by decide +kernel) rfl ⟨(Nat.le_of_ble_eq_true rfl), (Nat.le_of_ble_eq_true rfl)⟩ k2 rfl (st := []) rfl (Nat.le_of_ble_eq_true rfl) ⟨(Nat.le_of_ble_eq_true rfl), (Nat.le_of_ble_eq_true rfl)⟩ dX8_readGuards_25 (fun r25 N25 w25 hpo25 hN25 => ?_)
            obtain ⟨rfl, rfl, rfl⟩ := hpo25
            refine x_v (w := (va_up v3 2 (.inr (7, [.ref (B + 3), .ref (B + 4), .int (zI (n : Int)), .int (zI 3), .int (zI (((skT t n a3) : Nat) : Int)), .int (zI (tokK t n a3)), .int (zI (((skT t n a3) : Nat) : Int)), .int (zI (((tokE t n a3) : Nat) : Int)), .int (zI vv3)])))) rfl ?_
            refine x_st (st' := [.int (zI 0)]) rfl ?_
            refine x_zret (pc := 28) K KR (by omega) (Nat.le_of_ble_eq_true rfl) (Nat.le_of_ble_eq_true rfl) (nb_ok (by omega)) dX8_readGuards_28 ?_
            exact ⟨0, by omega, (fun q h1 h2 h3 => by rw [va_up_ne _ _ (by omega)] <;> exact hF3 q h1 h2 h3), Or.inr ⟨rfl, RE_mk (p := skT t n a3) (cel_self k2.1) (cel_ne k4 (by decide)) hE9 rfl⟩, rfl⟩
  refine x_sub (L' := [(0, .ref (B + 2)), (1, .ref (B + c)), (2, .int (zI 0))]) [1, 2, 0] rfl ?_
  exact LOOP2 (_) v a0 r0 fu0 tl0 vv0 0 hR0 (FRM_r v c) (by omega) (Nat.lt_succ_self _)
