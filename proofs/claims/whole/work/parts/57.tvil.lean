theorem dX8_readVillages_0 : decode cX8_readVillages 0 = .ok (.iconst 0, 1) := by decide +kernel
theorem dX8_readVillages_1 : decode cX8_readVillages 1 = .ok (.istore_n 2, 1) := by decide +kernel
theorem dX8_readVillages_2 : decode cX8_readVillages 2 = .ok (.iload_n 2, 1) := by decide +kernel
theorem dX8_readVillages_3 : decode cX8_readVillages 3 = .ok (.bipush 8, 2) := by decide +kernel
theorem dX8_readVillages_5 : decode cX8_readVillages 5 = .ok (.if_icmp .gt 97, 3) := by decide +kernel
theorem dX8_readVillages_8 : decode cX8_readVillages 8 = .ok (.aload_n 0, 1) := by decide +kernel
theorem dX8_readVillages_9 : decode cX8_readVillages 9 = .ok (.ldc 86, 2) := by decide +kernel
set_option maxRecDepth 20000 in
theorem ggX8_readVillages_X8_isWord : GoodIn wsX8_readVillages wsX8_isWord := goodIn_r _ [6, 7, 8, 9, 10, 11, 12, 13, 14, 15, 16, 17, 18, 19, 20, 21, 22, 23, 24, 25, 26, 27, 28, 29, 30, 31, 32, 33, 34, 35, 36, 37, 38, 39, 40, 41, 42, 43, 44, 45, 46, 47, 48, 49, 50, 51, 52, 53, 54, 55, 56, 57, 58, 59, 105, 106, 107, 108, 109, 110, 111, 112, 113] (by decide +kernel) (by decide +kernel)
set_option maxRecDepth 20000 in
theorem gX8_readVillages_X8_isWord : GoodIn wsX8_readVillages (wsV RX8 88 RX8 yX8_isWord wsX8_isWord) := goodIn_app (goodIn_of _ (by decide +kernel)) ggX8_readVillages_X8_isWord
theorem dX8_readVillages_11 : decode cX8_readVillages 11 = .ok (.invokevirtual 88, 3) := by decide +kernel
theorem dX8_readVillages_14 : decode cX8_readVillages 14 = .ok (.ifCond .eq 88, 3) := by decide +kernel
theorem dX8_readVillages_102 : decode cX8_readVillages 102 = .ok (.iconst 1, 1) := by decide +kernel
theorem dX8_readVillages_103 : decode cX8_readVillages 103 = .ok (.ireturn, 1) := by decide +kernel
theorem dX8_readVillages_17 : decode cX8_readVillages 17 = .ok (.iload_n 2, 1) := by decide +kernel
theorem dX8_readVillages_18 : decode cX8_readVillages 18 = .ok (.bipush 8, 2) := by decide +kernel
theorem dX8_readVillages_20 : decode cX8_readVillages 20 = .ok (.if_icmp .ne 9, 3) := by decide +kernel
theorem dX8_readVillages_29 : decode cX8_readVillages 29 = .ok (.aload_n 0, 1) := by decide +kernel
set_option maxRecDepth 20000 in
theorem ggX8_readVillages_X8_step : GoodIn wsX8_readVillages wsX8_step := goodIn_r _ [69, 8, 9, 70, 10, 7, 71, 72, 5, 73, 74, 75, 76, 77, 78, 79, 80, 81, 82, 83, 84, 85, 86, 87, 88, 105, 106, 107, 108, 109, 110, 111, 112, 113] (by decide +kernel) (by decide +kernel)
set_option maxRecDepth 20000 in
theorem gX8_readVillages_X8_step : GoodIn wsX8_readVillages (wsV RX8 43 RX8 yX8_step wsX8_step) := goodIn_app (goodIn_of _ (by decide +kernel)) ggX8_readVillages_X8_step
theorem dX8_readVillages_30 : decode cX8_readVillages 30 = .ok (.invokevirtual 43, 3) := by decide +kernel
theorem dX8_readVillages_33 : decode cX8_readVillages 33 = .ok (.aload_n 0, 1) := by decide +kernel
theorem dX8_readVillages_34 : decode cX8_readVillages 34 = .ok (.iconst 0, 1) := by decide +kernel
theorem dX8_readVillages_35 : decode cX8_readVillages 35 = .ok (.iconst 0, 1) := by decide +kernel
theorem dX8_readVillages_36 : decode cX8_readVillages 36 = .ok (.bipush 7, 2) := by decide +kernel
set_option maxRecDepth 20000 in
theorem ggX8_readVillages_X8_number : GoodIn wsX8_readVillages wsX8_number := goodIn_r _ [92, 7, 88, 1, 60, 61, 62, 5, 63, 64, 9, 65, 66, 67, 68, 69, 8, 70, 10, 71, 72, 73, 74, 75, 76, 77, 78, 79, 80, 81, 82, 83, 84, 85, 86, 87, 105, 106, 107, 108, 109, 110, 111, 112, 113] (by decide +kernel) (by decide +kernel)
set_option maxRecDepth 20000 in
theorem gX8_readVillages_X8_number : GoodIn wsX8_readVillages (wsV RX8 69 RX8 yX8_number wsX8_number) := goodIn_app (goodIn_of _ (by decide +kernel)) ggX8_readVillages_X8_number
theorem dX8_readVillages_38 : decode cX8_readVillages 38 = .ok (.invokevirtual 69, 3) := by decide +kernel
theorem dX8_readVillages_41 : decode cX8_readVillages 41 = .ok (.ifCond .eq 31, 3) := by decide +kernel
theorem dX8_readVillages_72 : decode cX8_readVillages 72 = .ok (.iconst 0, 1) := by decide +kernel
theorem dX8_readVillages_73 : decode cX8_readVillages 73 = .ok (.ireturn, 1) := by decide +kernel
theorem dX8_readVillages_44 : decode cX8_readVillages 44 = .ok (.aload_n 0, 1) := by decide +kernel
theorem dX8_readVillages_45 : decode cX8_readVillages 45 = .ok (.iconst 1, 1) := by decide +kernel
theorem dX8_readVillages_46 : decode cX8_readVillages 46 = .ok (.iconst 0, 1) := by decide +kernel
theorem dX8_readVillages_47 : decode cX8_readVillages 47 = .ok (.iconst 5, 1) := by decide +kernel
theorem dX8_readVillages_48 : decode cX8_readVillages 48 = .ok (.invokevirtual 69, 3) := by decide +kernel
theorem dX8_readVillages_51 : decode cX8_readVillages 51 = .ok (.ifCond .eq 21, 3) := by decide +kernel
theorem dX8_readVillages_54 : decode cX8_readVillages 54 = .ok (.aload_n 0, 1) := by decide +kernel
theorem dX8_readVillages_55 : decode cX8_readVillages 55 = .ok (.iconst 2, 1) := by decide +kernel
theorem dX8_readVillages_56 : decode cX8_readVillages 56 = .ok (.iconst 1, 1) := by decide +kernel
theorem dX8_readVillages_57 : decode cX8_readVillages 57 = .ok (.bipush 99, 2) := by decide +kernel
theorem dX8_readVillages_59 : decode cX8_readVillages 59 = .ok (.invokevirtual 69, 3) := by decide +kernel
theorem dX8_readVillages_62 : decode cX8_readVillages 62 = .ok (.ifCond .eq 10, 3) := by decide +kernel
theorem dX8_readVillages_65 : decode cX8_readVillages 65 = .ok (.aload_n 0, 1) := by decide +kernel
set_option maxRecDepth 20000 in
theorem ggX8_readVillages_X8_sign : GoodIn wsX8_readVillages wsX8_sign := goodIn_r _ [96, 7, 60, 61, 62, 5, 63, 64, 9, 65, 66, 67, 68, 69, 8, 70, 10, 71, 72, 73, 74, 75, 76, 77, 78, 79, 80, 81, 82, 83, 84, 85, 86, 87, 88, 105, 106, 107, 108, 109, 110, 111, 112, 113] (by decide +kernel) (by decide +kernel)
set_option maxRecDepth 20000 in
theorem gX8_readVillages_X8_sign : GoodIn wsX8_readVillages (wsV RX8 73 RX8 yX8_sign wsX8_sign) := goodIn_app (goodIn_of _ (by decide +kernel)) ggX8_readVillages_X8_sign
theorem dX8_readVillages_66 : decode cX8_readVillages 66 = .ok (.invokevirtual 73, 3) := by decide +kernel
theorem dX8_readVillages_69 : decode cX8_readVillages 69 = .ok (.ifCond .ne 5, 3) := by decide +kernel
theorem dX8_readVillages_74 : decode cX8_readVillages 74 = .ok (.aload_n 1, 1) := by decide +kernel
theorem dX8_readVillages_75 : decode cX8_readVillages 75 = .ok (.aload_n 0, 1) := by decide +kernel
theorem dX8_readVillages_76 : decode cX8_readVillages 76 = .ok (.getfield 15, 3) := by decide +kernel
theorem dX8_readVillages_79 : decode cX8_readVillages 79 = .ok (.iconst 0, 1) := by decide +kernel
theorem dX8_readVillages_80 : decode cX8_readVillages 80 = .ok (.iaload, 1) := by decide +kernel
theorem dX8_readVillages_81 : decode cX8_readVillages 81 = .ok (.aload_n 0, 1) := by decide +kernel
theorem dX8_readVillages_82 : decode cX8_readVillages 82 = .ok (.getfield 15, 3) := by decide +kernel
theorem dX8_readVillages_85 : decode cX8_readVillages 85 = .ok (.iconst 1, 1) := by decide +kernel
theorem dX8_readVillages_86 : decode cX8_readVillages 86 = .ok (.iaload, 1) := by decide +kernel
theorem dX8_readVillages_87 : decode cX8_readVillages 87 = .ok (.aload_n 0, 1) := by decide +kernel
theorem dX8_readVillages_88 : decode cX8_readVillages 88 = .ok (.getfield 15, 3) := by decide +kernel
theorem dX8_readVillages_91 : decode cX8_readVillages 91 = .ok (.iconst 2, 1) := by decide +kernel
theorem dX8_readVillages_92 : decode cX8_readVillages 92 = .ok (.iaload, 1) := by decide +kernel
set_option maxRecDepth 20000 in
theorem ggX8_readVillages_X3_addVillage : GoodIn wsX8_readVillages wsX3_addVillage := goodIn_r _ [101, 102, 103, 104, 114, 115, 116, 117, 118, 119, 120, 121, 122, 123, 124] (by decide +kernel) (by decide +kernel)
set_option maxRecDepth 20000 in
theorem gX8_readVillages_X3_addVillage : GoodIn wsX8_readVillages (wsV RX8 91 RX3 yX3_addVillage wsX3_addVillage) := goodIn_app (goodIn_of _ (by decide +kernel)) ggX8_readVillages_X3_addVillage
theorem dX8_readVillages_93 : decode cX8_readVillages 93 = .ok (.invokevirtual 91, 3) := by decide +kernel
theorem dX8_readVillages_96 : decode cX8_readVillages 96 = .ok (.iinc 2 1, 3) := by decide +kernel
theorem dX8_readVillages_99 : decode cX8_readVillages 99 = .ok (.goto (-97), 3) := by decide +kernel
theorem dX8_readVillages_23 : decode cX8_readVillages 23 = .ok (.aload_n 0, 1) := by decide +kernel
theorem dX8_readVillages_24 : decode cX8_readVillages 24 = .ok (.iconst 3, 1) := by decide +kernel
set_option maxRecDepth 20000 in
theorem ggX8_readVillages_X8_fails : GoodIn wsX8_readVillages wsX8_fails := goodIn_r _ [63, 64, 9, 65, 105, 106, 107, 108, 109, 110, 111, 112, 113] (by decide +kernel) (by decide +kernel)
set_option maxRecDepth 20000 in
theorem gX8_readVillages_X8_fails : GoodIn wsX8_readVillages (wsV RX8 59 RX8 yX8_fails wsX8_fails) := goodIn_app (goodIn_of _ (by decide +kernel)) ggX8_readVillages_X8_fails
theorem dX8_readVillages_25 : decode cX8_readVillages 25 = .ok (.invokevirtual 59, 3) := by decide +kernel
theorem dX8_readVillages_28 : decode cX8_readVillages 28 = .ok (.ireturn, 1) := by decide +kernel
set_option maxRecDepth 100000 in
set_option maxHeartbeats 4000000 in
theorem c_X8_readVillages {E : XE} {B N : Nat} {v : Nat → va_E} {c n : Nat} {f pl : Int} {t : Nat → Int} {R0 : Except (Int × Nat) (Nat → Int)} (hq0 : n ≤ 400) (hq1 : ∀ i : Nat, 0 ≤ t i ∧ t i ≤ 255) (hq2 : 4 < c) (hq3 : RS E B N v c n t f pl 1 R0) : gM yX8_readVillages wsX8_readVillages ({ frames := 5, cells := 0, slots := 0, locals := 112 }) E B N v [.ref (B + 2), .ref (B + c)] (fun ρ N' v' => ∃ (res : Int), (N ≤ N') ∧ (FRM v v' c) ∧ ((res = 1 ∧ RS E B N' v' c n t f pl 2 R0) ∨ (res = 0 ∧ RE E B N' v' n R0)) ∧ ρ = some (.int (zI res))) := by
  refine x_met (nm := "readVillages") (by decide +kernel) rfl (Nat.le_of_ble_eq_true rfl) rfl (fun Γ K KR hnL hnm => ?_)
  show XW Γ N v [(0, .ref (B + 2)), (1, .ref (B + c))] 0 0 0 []
  obtain ⟨a0, r0, g0, fu0, tl0, vv0, hR0, h40, hg0, h30⟩ := hq3
  specialize hg0 (by decide)
  subst hg0
  specialize h30 (by decide)
  specialize h40 (by decide)
  refine x_iconst (pc := 0) K dX8_readVillages_0 ?_
  refine x_istore_n (pc := 1) K (L' := [(2, .int (zI 0)), (0, .ref (B + 2)), (1, .ref (B + c))]) hnL rfl (by decide) rfl dX8_readVillages_1 ?_
  have LOOP2 : ∀ (n_2 : Nat) (v3 : Nat → va_E) (a3 : Nat) (r3 : Nat → Int) (fu3 : Nat) (tl3 : Nat → Int) (vv3 : Int) (m3 : Nat), (RSx E B N v3 c n t f pl 1 R0 a3 r3 0 fu3 tl3 vv3) → (FRM v v3 c) → ((m3 : Int) = r3 3) → (r3 4 = 0) → (n - a3) < n_2 → XW Γ N v3 [(0, .ref (B + 2)), (1, .ref (B + c)), (2, .int (zI (m3 : Int)))] 0 0 2 [] := by
    intro n_2
    induction n_2 with
    | zero =>
      intro v3 a3 r3 fu3 tl3 vv3 m3 hR3 hF3 hm3 hr40 hm_2
      exfalso; omega
    | succ n_2 ih2 =>
      intro v3 a3 r3 fu3 tl3 vv3 m3 hR3 hF3 hm3 hr40 hm_2
      have hR4 := hR3
      obtain ⟨k2, k3, k4, ka, -, kG, kr, kR, kf, kg8, kN⟩ := hR3
      have kG9 := kG
      obtain ⟨G0, G1, G2, G3, G4, G5, G6, G7, G8⟩ := kG9
      have her := (tokE_rng (t := t) ka).2.1
      have hr3 := kr.1.2.2.2.1
      have hr4 := kr.1.2.2.2.2.1
      refine x_iload_n (pc := 2) 2 K rfl rfl dX8_readVillages_2 ?_
      refine x_bipush (pc := 3) K (by decide) dX8_readVillages_3 ?_
      refine x_icmp_gt (pc := 5) (tgt := 102) K (by omega) (by decide) dX8_readVillages_5 (by decide) (fun h_5 => ?_) (fun h_5 => ?_)
      · skip
        exfalso; omega
      · skip
        refine x_aload_n (pc := 8) 0 K rfl rfl dX8_readVillages_8 ?_
        refine x_ldcS (pc := 9) 1 K (by decide) rfl rfl dX8_readVillages_9 ?_
        refine x_callV (pc := 11) (C := RX8) (T := TX8) (n := 9) (ci := 7) (As := [.ref (E.2.2.1 1)]) K (c_X8_isWord (E := E) (B := B) (N := N) (i := 1) (a := a3) (n := n) (t := t)  k2 k3 (by omega) hq1 (by decide)) gX8_readVillages_X8_isWord rfl (na := 1) (by decide +kernel) rfl ⟨(Nat.le_of_ble_eq_true rfl), (Nat.le_of_ble_eq_true rfl)⟩ k2 rfl (st := []) rfl (Nat.le_of_ble_eq_true rfl) ⟨(Nat.le_of_ble_eq_true rfl), (Nat.le_of_ble_eq_true rfl)⟩ dX8_readVillages_11 (fun r11 N11 w11 hpo11 hN11 => ?_)
        obtain ⟨rfl, res_11, hp11_0, rfl, rfl⟩ := hpo11
        refine x_st (st' := [.int (zI res_11)]) rfl ?_
        refine x_if_eq (pc := 14) (tgt := 102) K (by omega) dX8_readVillages_14 (by decide) (fun h_14 => ?_) (fun h_14 => ?_)
        · skip
          have hnw := (hp11_0.resolve_left (fun q => by omega)).2
          clear hp11_0
          refine x_iconst (pc := 102) K dX8_readVillages_102 ?_
          refine x_zret (pc := 103) K KR (by omega) (Nat.le_of_ble_eq_true rfl) (Nat.le_of_ble_eq_true rfl) rfl dX8_readVillages_103 ?_
          exact ⟨1, by omega, hF3, Or.inl ⟨rfl, RS_mk (RSx_mk k2 k3 k4 ka (RSx_kv hR4) kG kr (by rw [kR]; exact pLoop_up (fun q => hnw ((isW_bg ka).1.mpr q))) kf (by omega) kN) (fun _ => hr40) (fun _ => rfl) (fun q => absurd q (by decide))⟩, rfl⟩
        · skip
          have hw := (hp11_0.resolve_right (fun q => by omega)).2
          clear hp11_0
          have hb := (isW_bg ka).1.mp hw
          have hK1 := hw.1
          have hea := (tokE_rng (t := t) ka).2.2 (by omega)
          refine x_iload_n (pc := 17) 2 K rfl rfl dX8_readVillages_17 ?_
          refine x_bipush (pc := 18) K (by decide) dX8_readVillages_18 ?_
          refine x_icmp_ne (pc := 20) (tgt := 29) K (by omega) (by decide) dX8_readVillages_20 (by decide) (fun h_20 => ?_) (fun h_20 => ?_)
          · skip
            refine x_aload_n (pc := 29) 0 K rfl rfl dX8_readVillages_29 ?_
            refine x_callV (pc := 30) (C := RX8) (T := TX8) (n := 9) (ci := 7) (As := []) K (c_X8_step (E := E) (B := B) (N := N) (a := (tokE t n a3)) (n := n)  k2 k3 (by omega) hq1) gX8_readVillages_X8_step rfl (na := 0) (by decide +kernel) rfl ⟨(Nat.le_of_ble_eq_true rfl), (Nat.le_of_ble_eq_true rfl)⟩ k2 rfl (st := []) rfl (Nat.le_of_ble_eq_true rfl) ⟨(Nat.le_of_ble_eq_true rfl), (Nat.le_of_ble_eq_true rfl)⟩ dX8_readVillages_30 (fun r30 N30 w30 hpo30 hN30 => ?_)
            obtain ⟨rfl, v2_30, hp30_0, rfl, rfl⟩ := hpo30
            refine x_v (w := (va_up v3 2 (.inr (7, [.ref (B + 3), .ref (B + 4), .int (zI (n : Int)), .int (zI f), .int (zI pl), .int (zI (tokK t n (tokE t n a3))), .int (zI (((skT t n (tokE t n a3)) : Nat) : Int)), .int (zI (((tokE t n (tokE t n a3)) : Nat) : Int)), .int (zI v2_30)])))) rfl ?_
            refine x_st (st' := []) rfl ?_
            refine x_aload_n (pc := 33) 0 K rfl rfl dX8_readVillages_33 ?_
            refine x_iconst (pc := 34) K dX8_readVillages_34 ?_
            refine x_iconst (pc := 35) K dX8_readVillages_35 ?_
            refine x_bipush (pc := 36) K (by decide) dX8_readVillages_36 ?_
            refine x_callV (pc := 38) (C := RX8) (T := TX8) (n := 9) (ci := 7) (As := [.int (zI 0), .int (zI 0), .int (zI 7)]) K (c_X8_number (E := E) (B := B) (N := N) (a := (tokE t n a3)) (n := n) (t := t) (i := 0) rfl (cel_self k2.1) (cel_ne k3 (by decide)) (cel_ne k4 (by decide)) (by omega) hq1 (by decide) (by omega) (by omega) hp30_0) gX8_readVillages_X8_number rfl (na := 3) (by decide +kernel) rfl ⟨(Nat.le_of_ble_eq_true rfl), (Nat.le_of_ble_eq_true rfl)⟩ (cel_self k2.1) rfl (st := []) rfl (Nat.le_of_ble_eq_true rfl) ⟨(Nat.le_of_ble_eq_true rfl), (Nat.le_of_ble_eq_true rfl)⟩ dX8_readVillages_38 (fun r38 N38 w38 hpo38 hN38 => ?_)
            obtain ⟨rfl, res_38, f2_38, pl2_38, so2_38, s2_38, e2_38, v2_38, tl2_38, hp38_0, rfl, rfl⟩ := hpo38
            refine x_v (congrArg (fun w => (va_up w 4 (iarr E 4 tl2_38))) (show (va_up v3 2 (.inr (7, [.ref (B + 3), .ref (B + 4), .int (zI (n : Int)), .int (zI f2_38), .int (zI pl2_38), .int (zI so2_38), .int (zI s2_38), .int (zI e2_38), .int (zI v2_38)]))) = _ from (up_at0).symm)) ?_
            refine x_v (w := (va_up (va_up v3 2 (.inr (7, [.ref (B + 3), .ref (B + 4), .int (zI (n : Int)), .int (zI f2_38), .int (zI pl2_38), .int (zI so2_38), .int (zI s2_38), .int (zI e2_38), .int (zI v2_38)]))) 4 (iarr E 4 tl2_38))) rfl ?_
            refine x_st (st' := [.int (zI res_38)]) rfl ?_
            refine x_if_eq (pc := 41) (tgt := 72) K (by omega) dX8_readVillages_41 (by decide) (fun h_41 => ?_) (fun h_41 => ?_)
            · skip
              obtain ⟨g_38, p_38, hP_38, -, hf_38, hl_38⟩ := hp38_0.resolve_left (fun ⟨_, _, _, q, _⟩ => by omega)
              clear hp38_0
              clear hp30_0
              have hE9 : R0 = .error (g_38, p_38) := kR.trans (vil_e (by omega) hb (by omega) (pVil_1 hP_38))
              refine x_iconst (pc := 72) K dX8_readVillages_72 ?_
              refine x_zret (pc := 73) K KR (by omega) (Nat.le_of_ble_eq_true rfl) (Nat.le_of_ble_eq_true rfl) rfl dX8_readVillages_73 ?_
              exact ⟨0, by omega, (fun q h1 h2 h3 => by rw [va_up_ne _ _ (by omega), va_up_ne _ _ (by omega)] <;> exact hF3 q h1 h2 h3), Or.inr ⟨rfl, RE_mk (p := p_38) (cel_ne (cel_self k2.1) (by decide)) (cel_self k4.1) (by rw [hE9, hf_38]) hl_38⟩, rfl⟩
            · skip
              obtain ⟨x_38, e_38, hP_38, -, ⟨hf_38, hg_38⟩, ⟨hk_38, hs_38, hE_38, hv_38⟩, ht_38⟩ := hp38_0.resolve_right (fun ⟨_, _, _, q, _⟩ => by omega)
              clear hp38_0
              subst f2_38
              subst pl2_38
              subst so2_38
              subst s2_38
              subst e2_38
              subst tl2_38
              have ho_38 := pNum_ok hP_38 (by omega)
              obtain ⟨y_38, rfl⟩ : ∃ j : Nat, x_38 = (j : Int) := ⟨x_38.toNat, by omega⟩
              have her_38 := (tokE_rng (t := t) ho_38.2.2).2.1
              clear hp30_0
              refine x_aload_n (pc := 44) 0 K rfl rfl dX8_readVillages_44 ?_
              refine x_iconst (pc := 45) K dX8_readVillages_45 ?_
              refine x_iconst (pc := 46) K dX8_readVillages_46 ?_
              refine x_iconst (pc := 47) K dX8_readVillages_47 ?_
              refine x_callV (pc := 48) (C := RX8) (T := TX8) (n := 9) (ci := 7) (As := [.int (zI 1), .int (zI 0), .int (zI 5)]) K (c_X8_number (E := E) (B := B) (N := N) (a := e_38) (n := n) (t := t) (i := 1) rfl (cel_ne (cel_self k2.1) (by decide)) (cel_ne (cel_ne k3 (by decide)) (by decide)) (cel_self k4.1) (by omega) hq1 (by decide) (by omega) (by omega) hv_38) gX8_readVillages_X8_number rfl (na := 3) (by decide +kernel) rfl ⟨(Nat.le_of_ble_eq_true rfl), (Nat.le_of_ble_eq_true rfl)⟩ (cel_ne (cel_self k2.1) (by decide)) rfl (st := []) rfl (Nat.le_of_ble_eq_true rfl) ⟨(Nat.le_of_ble_eq_true rfl), (Nat.le_of_ble_eq_true rfl)⟩ dX8_readVillages_48 (fun r48 N48 w48 hpo48 hN48 => ?_)
              obtain ⟨rfl, res_48, f2_48, pl2_48, so2_48, s2_48, e2_48, v2_48, tl2_48, hp48_0, rfl, rfl⟩ := hpo48
              refine x_v (congrArg (fun w => (va_up w 4 (iarr E 4 tl2_48))) (show (va_up (va_up v3 2 (.inr (7, [.ref (B + 3), .ref (B + 4), .int (zI (n : Int)), .int (zI f2_48), .int (zI pl2_48), .int (zI so2_48), .int (zI s2_48), .int (zI e2_48), .int (zI v2_48)]))) 4 (iarr E 4 (va_up tl3 0 (y_38 : Int)))) = _ from (up_at1 (by decide)).symm)) ?_
              refine x_v (w := (va_up (va_up v3 2 (.inr (7, [.ref (B + 3), .ref (B + 4), .int (zI (n : Int)), .int (zI f2_48), .int (zI pl2_48), .int (zI so2_48), .int (zI s2_48), .int (zI e2_48), .int (zI v2_48)]))) 4 (iarr E 4 tl2_48))) (up_at0).symm ?_
              refine x_st (st' := [.int (zI res_48)]) rfl ?_
              refine x_if_eq (pc := 51) (tgt := 72) K (by omega) dX8_readVillages_51 (by decide) (fun h_51 => ?_) (fun h_51 => ?_)
              · skip
                obtain ⟨g_48, p_48, hP_48, -, hf_48, hl_48⟩ := hp48_0.resolve_left (fun ⟨_, _, _, q, _⟩ => by omega)
                clear hp48_0
                clear hv_38
                have hE9 : R0 = .error (g_48, p_48) := kR.trans (vil_e (by omega) hb (by omega) (pVil_2 hP_38 hP_48))
                refine x_iconst (pc := 72) K dX8_readVillages_72 ?_
                refine x_zret (pc := 73) K KR (by omega) (Nat.le_of_ble_eq_true rfl) (Nat.le_of_ble_eq_true rfl) rfl dX8_readVillages_73 ?_
                exact ⟨0, by omega, (fun q h1 h2 h3 => by rw [va_up_ne _ _ (by omega), va_up_ne _ _ (by omega)] <;> exact hF3 q h1 h2 h3), Or.inr ⟨rfl, RE_mk (p := p_48) (cel_ne (cel_self k2.1) (by decide)) (cel_self k4.1) (by rw [hE9, hf_48]) hl_48⟩, rfl⟩
              · skip
                obtain ⟨x_48, e_48, hP_48, -, ⟨hf_48, hg_48⟩, ⟨hk_48, hs_48, hE_48, hv_48⟩, ht_48⟩ := hp48_0.resolve_right (fun ⟨_, _, _, q, _⟩ => by omega)
                clear hp48_0
                subst f2_48
                subst pl2_48
                subst so2_48
                subst s2_48
                subst e2_48
                subst tl2_48
                have ho_48 := pNum_ok hP_48 (by omega)
                obtain ⟨y_48, rfl⟩ : ∃ j : Nat, x_48 = (j : Int) := ⟨x_48.toNat, by omega⟩
                have her_48 := (tokE_rng (t := t) ho_48.2.2).2.1
                clear hv_38
                refine x_aload_n (pc := 54) 0 K rfl rfl dX8_readVillages_54 ?_
                refine x_iconst (pc := 55) K dX8_readVillages_55 ?_
                refine x_iconst (pc := 56) K dX8_readVillages_56 ?_
                refine x_bipush (pc := 57) K (by decide) dX8_readVillages_57 ?_
                refine x_callV (pc := 59) (C := RX8) (T := TX8) (n := 9) (ci := 7) (As := [.int (zI 2), .int (zI 1), .int (zI 99)]) K (c_X8_number (E := E) (B := B) (N := N) (a := e_48) (n := n) (t := t) (i := 2) rfl (cel_ne (cel_self k2.1) (by decide)) (cel_ne (cel_ne k3 (by decide)) (by decide)) (cel_self k4.1) (by omega) hq1 (by decide) (by omega) (by omega) hv_48) gX8_readVillages_X8_number rfl (na := 3) (by decide +kernel) rfl ⟨(Nat.le_of_ble_eq_true rfl), (Nat.le_of_ble_eq_true rfl)⟩ (cel_ne (cel_self k2.1) (by decide)) rfl (st := []) rfl (Nat.le_of_ble_eq_true rfl) ⟨(Nat.le_of_ble_eq_true rfl), (Nat.le_of_ble_eq_true rfl)⟩ dX8_readVillages_59 (fun r59 N59 w59 hpo59 hN59 => ?_)
                obtain ⟨rfl, res_59, f2_59, pl2_59, so2_59, s2_59, e2_59, v2_59, tl2_59, hp59_0, rfl, rfl⟩ := hpo59
                refine x_v (congrArg (fun w => (va_up w 4 (iarr E 4 tl2_59))) (show (va_up (va_up v3 2 (.inr (7, [.ref (B + 3), .ref (B + 4), .int (zI (n : Int)), .int (zI f2_59), .int (zI pl2_59), .int (zI so2_59), .int (zI s2_59), .int (zI e2_59), .int (zI v2_59)]))) 4 (iarr E 4 (va_up (va_up tl3 0 (y_38 : Int)) 1 (y_48 : Int)))) = _ from (up_at1 (by decide)).symm)) ?_
                refine x_v (w := (va_up (va_up v3 2 (.inr (7, [.ref (B + 3), .ref (B + 4), .int (zI (n : Int)), .int (zI f2_59), .int (zI pl2_59), .int (zI so2_59), .int (zI s2_59), .int (zI e2_59), .int (zI v2_59)]))) 4 (iarr E 4 tl2_59))) (up_at0).symm ?_
                refine x_st (st' := [.int (zI res_59)]) rfl ?_
                refine x_if_eq (pc := 62) (tgt := 72) K (by omega) dX8_readVillages_62 (by decide) (fun h_62 => ?_) (fun h_62 => ?_)
                · skip
                  obtain ⟨g_59, p_59, hP_59, -, hf_59, hl_59⟩ := hp59_0.resolve_left (fun ⟨_, _, _, q, _⟩ => by omega)
                  clear hp59_0
                  clear hv_48
                  have hE9 : R0 = .error (g_59, p_59) := kR.trans (vil_e (by omega) hb (by omega) (pVil_3 hP_38 hP_48 hP_59))
                  refine x_iconst (pc := 72) K dX8_readVillages_72 ?_
                  refine x_zret (pc := 73) K KR (by omega) (Nat.le_of_ble_eq_true rfl) (Nat.le_of_ble_eq_true rfl) rfl dX8_readVillages_73 ?_
                  exact ⟨0, by omega, (fun q h1 h2 h3 => by rw [va_up_ne _ _ (by omega), va_up_ne _ _ (by omega)] <;> exact hF3 q h1 h2 h3), Or.inr ⟨rfl, RE_mk (p := p_59) (cel_ne (cel_self k2.1) (by decide)) (cel_self k4.1) (by rw [hE9, hf_59]) hl_59⟩, rfl⟩
                · skip
                  obtain ⟨x_59, e_59, hP_59, -, ⟨hf_59, hg_59⟩, ⟨hk_59, hs_59, hE_59, hv_59⟩, ht_59⟩ := hp59_0.resolve_right (fun ⟨_, _, _, q, _⟩ => by omega)
                  clear hp59_0
                  subst f2_59
                  subst pl2_59
                  subst so2_59
                  subst s2_59
                  subst e2_59
                  subst tl2_59
                  have ho_59 := pNum_ok hP_59 (by omega)
                  obtain ⟨y_59, rfl⟩ : ∃ j : Nat, x_59 = (j : Int) := ⟨x_59.toNat, by omega⟩
                  have her_59 := (tokE_rng (t := t) ho_59.2.2).2.1
                  clear hv_48
                  refine x_aload_n (pc := 65) 0 K rfl rfl dX8_readVillages_65 ?_
                  refine x_callV (pc := 66) (C := RX8) (T := TX8) (n := 9) (ci := 7) (As := []) K (c_X8_sign (E := E) (B := B) (N := N) (a := e_59) (n := n) (t := t)  (cel_ne (cel_self k2.1) (by decide)) (cel_ne (cel_ne k3 (by decide)) (by decide)) (by omega) hq1) gX8_readVillages_X8_sign rfl (na := 0) (by decide +kernel) rfl ⟨(Nat.le_of_ble_eq_true rfl), (Nat.le_of_ble_eq_true rfl)⟩ (cel_ne (cel_self k2.1) (by decide)) rfl (st := []) rfl (Nat.le_of_ble_eq_true rfl) ⟨(Nat.le_of_ble_eq_true rfl), (Nat.le_of_ble_eq_true rfl)⟩ dX8_readVillages_66 (fun r66 N66 w66 hpo66 hN66 => ?_)
                  obtain ⟨rfl, res_66, f2_66, pl2_66, so2_66, s2_66, e2_66, v2_66, hp66_0, rfl, rfl⟩ := hpo66
                  refine x_v (w := (va_up (va_up v3 2 (.inr (7, [.ref (B + 3), .ref (B + 4), .int (zI (n : Int)), .int (zI f2_66), .int (zI pl2_66), .int (zI so2_66), .int (zI s2_66), .int (zI e2_66), .int (zI v2_66)]))) 4 (iarr E 4 (va_up (va_up (va_up tl3 0 (y_38 : Int)) 1 (y_48 : Int)) 2 (y_59 : Int))))) (up_at1 (by decide)).symm ?_
                  refine x_st (st' := [.int (zI res_66)]) rfl ?_
                  refine x_if_ne (pc := 69) (tgt := 74) K (by omega) dX8_readVillages_69 (by decide) (fun h_69 => ?_) (fun h_69 => ?_)
                  · skip
                    obtain ⟨x_66, e_66, hP_66, -, ⟨hf_66, hg_66⟩, ⟨hk_66, hs_66, hE_66, hv_66⟩⟩ := hp66_0.resolve_right (fun ⟨_, _, _, q, _⟩ => by omega)
                    clear hp66_0
                    subst f2_66
                    subst pl2_66
                    subst so2_66
                    subst s2_66
                    subst e2_66
                    have ho_66 := pSig_ok hP_66 (by omega)
                    have her_66 := (tokE_rng (t := t) ho_66.2).2.1
                    clear hv_59
                    obtain ⟨o, ho9⟩ : ∃ o : Nat, o = c + 5 + y_38 := ⟨_, rfl⟩
                    have hco : Cel N v3 o (iarr E 7 (wbS r3 y_38)) := by rw [ho9]; exact G5 y_38 (by omega)
                    refine x_aload_n (pc := 74) 1 K rfl rfl dX8_readVillages_74 ?_
                    refine x_aload_n (pc := 75) 0 K rfl rfl dX8_readVillages_75 ?_
                    refine x_get (pc := 76) (C := RX8) (T := TX8) (n := 9) (ci := 7) (idx := 15) (ref := "BorderBeds$Tape") (x := .ref (B + 4))  K (cel_ne (cel_self k2.1) (by decide)) rfl (by decide +kernel) 1 (by decide) (by decide +kernel) rfl rfl dX8_readVillages_76 ?_
                    refine x_iconst (pc := 79) K dX8_readVillages_79 ?_
                    refine x_iald (pc := 80) 0 K (cel_self k4.1) rfl (by omega) (by decide) dX8_readVillages_80 ?_
                    refine x_st (st' := [.int (zI (y_38 : Int)), .ref (B + c)]) (rfl) ?_
                    refine x_aload_n (pc := 81) 0 K rfl rfl dX8_readVillages_81 ?_
                    refine x_get (pc := 82) (C := RX8) (T := TX8) (n := 9) (ci := 7) (idx := 15) (ref := "BorderBeds$Tape") (x := .ref (B + 4))  K (cel_ne (cel_self k2.1) (by decide)) rfl (by decide +kernel) 1 (by decide) (by decide +kernel) rfl rfl dX8_readVillages_82 ?_
                    refine x_iconst (pc := 85) K dX8_readVillages_85 ?_
                    refine x_iald (pc := 86) 1 K (cel_self k4.1) rfl (by omega) (by decide) dX8_readVillages_86 ?_
                    refine x_st (st' := [.int (zI (y_48 : Int)), .int (zI (y_38 : Int)), .ref (B + c)]) (rfl) ?_
                    refine x_aload_n (pc := 87) 0 K rfl rfl dX8_readVillages_87 ?_
                    refine x_get (pc := 88) (C := RX8) (T := TX8) (n := 9) (ci := 7) (idx := 15) (ref := "BorderBeds$Tape") (x := .ref (B + 4))  K (cel_ne (cel_self k2.1) (by decide)) rfl (by decide +kernel) 1 (by decide) (by decide +kernel) rfl rfl dX8_readVillages_88 ?_
                    refine x_iconst (pc := 91) K dX8_readVillages_91 ?_
                    refine x_iald (pc := 92) 2 K (cel_self k4.1) rfl (by omega) (by decide) dX8_readVillages_92 ?_
                    refine x_st (st' := [.int (zI (y_59 : Int)), .int (zI (y_48 : Int)), .int (zI (y_38 : Int)), .ref (B + c)]) (rfl) ?_
                    refine x_callV (pc := 93) (C := RX3) (T := TX3) (n := 11) (ci := 3) (As := [.int (zI (y_38 : Int)), .int (zI (y_48 : Int)), .int (zI (y_59 : Int))]) K (c_X3_addVillage (E := E) (B := B) (N := N) (o := o) (r := r3) (x := y_38) (y := y_48) rfl rfl (cel_ne (cel_ne G0 (by omega)) (by omega)) (cel_ne (cel_ne G1 (by omega)) (by omega)) (cel_ne (cel_ne G4 (by omega)) (by omega)) (cel_ne (cel_ne hco (by omega)) (by omega)) ho9 (by omega) (by omega) kr) gX8_readVillages_X3_addVillage rfl (na := 3) (by decide +kernel) rfl ⟨(Nat.le_of_ble_eq_true rfl), (Nat.le_of_ble_eq_true rfl)⟩ (cel_ne (cel_ne G0 (by omega)) (by omega)) rfl (st := []) rfl (Nat.le_of_ble_eq_true rfl) ⟨(Nat.le_of_ble_eq_true rfl), (Nat.le_of_ble_eq_true rfl)⟩ dX8_readVillages_93 (fun r93 N93 w93 hpo93 hN93 => ?_)
                    obtain ⟨rfl, rfl, rfl⟩ := hpo93
                    refine x_v (congrArg (fun w => (va_up (va_up w (c + 1) (iarr E 48 (wA (vilR r3 ((8 * y_48 + y_38 : Nat) : Int) (y_59 : Int))))) o (iarr E 7 (wbS (vilR r3 ((8 * y_48 + y_38 : Nat) : Int) (y_59 : Int)) y_38)))) (show (va_up (va_up (va_up v3 2 (.inr (7, [.ref (B + 3), .ref (B + 4), .int (zI (n : Int)), .int (zI f), .int (zI pl), .int (zI (tokK t n e_66)), .int (zI (((skT t n e_66) : Nat) : Int)), .int (zI (((tokE t n e_66) : Nat) : Int)), .int (zI v2_66)]))) 4 (iarr E 4 (va_up (va_up (va_up tl3 0 (y_38 : Int)) 1 (y_48 : Int)) 2 (y_59 : Int)))) c (.inr (3, [.int (zI ((vilR r3 ((8 * y_48 + y_38 : Nat) : Int) (y_59 : Int)) 0)), .int (zI ((vilR r3 ((8 * y_48 + y_38 : Nat) : Int) (y_59 : Int)) 1)), .int (zI ((vilR r3 ((8 * y_48 + y_38 : Nat) : Int) (y_59 : Int)) 2)), .ref (B + (c + 1)), .ref (B + (c + 2)), .int (zI ((vilR r3 ((8 * y_48 + y_38 : Nat) : Int) (y_59 : Int)) 3)), .ref (B + (c + 3)), .int (zI ((vilR r3 ((8 * y_48 + y_38 : Nat) : Int) (y_59 : Int)) 4)), .ref (B + (c + 4)), .ref (B + (c + 13)), .ref (B + (c + 18))]))) = _ from rfl)) ?_
                    refine x_v (congrArg (fun w => (va_up w o (iarr E 7 (wbS (vilR r3 ((8 * y_48 + y_38 : Nat) : Int) (y_59 : Int)) y_38)))) (show (va_up (va_up (va_up (va_up v3 2 (.inr (7, [.ref (B + 3), .ref (B + 4), .int (zI (n : Int)), .int (zI f), .int (zI pl), .int (zI (tokK t n e_66)), .int (zI (((skT t n e_66) : Nat) : Int)), .int (zI (((tokE t n e_66) : Nat) : Int)), .int (zI v2_66)]))) 4 (iarr E 4 (va_up (va_up (va_up tl3 0 (y_38 : Int)) 1 (y_48 : Int)) 2 (y_59 : Int)))) c (.inr (3, [.int (zI ((vilR r3 ((8 * y_48 + y_38 : Nat) : Int) (y_59 : Int)) 0)), .int (zI ((vilR r3 ((8 * y_48 + y_38 : Nat) : Int) (y_59 : Int)) 1)), .int (zI ((vilR r3 ((8 * y_48 + y_38 : Nat) : Int) (y_59 : Int)) 2)), .ref (B + (c + 1)), .ref (B + (c + 2)), .int (zI ((vilR r3 ((8 * y_48 + y_38 : Nat) : Int) (y_59 : Int)) 3)), .ref (B + (c + 3)), .int (zI ((vilR r3 ((8 * y_48 + y_38 : Nat) : Int) (y_59 : Int)) 4)), .ref (B + (c + 4)), .ref (B + (c + 13)), .ref (B + (c + 18))]))) (c + 1) (iarr E 48 (wA (vilR r3 ((8 * y_48 + y_38 : Nat) : Int) (y_59 : Int))))) = _ from rfl)) ?_
                    refine x_v (w := (va_up (va_up (va_up (va_up (va_up v3 2 (.inr (7, [.ref (B + 3), .ref (B + 4), .int (zI (n : Int)), .int (zI f), .int (zI pl), .int (zI (tokK t n e_66)), .int (zI (((skT t n e_66) : Nat) : Int)), .int (zI (((tokE t n e_66) : Nat) : Int)), .int (zI v2_66)]))) 4 (iarr E 4 (va_up (va_up (va_up tl3 0 (y_38 : Int)) 1 (y_48 : Int)) 2 (y_59 : Int)))) c (.inr (3, [.int (zI ((vilR r3 ((8 * y_48 + y_38 : Nat) : Int) (y_59 : Int)) 0)), .int (zI ((vilR r3 ((8 * y_48 + y_38 : Nat) : Int) (y_59 : Int)) 1)), .int (zI ((vilR r3 ((8 * y_48 + y_38 : Nat) : Int) (y_59 : Int)) 2)), .ref (B + (c + 1)), .ref (B + (c + 2)), .int (zI ((vilR r3 ((8 * y_48 + y_38 : Nat) : Int) (y_59 : Int)) 3)), .ref (B + (c + 3)), .int (zI ((vilR r3 ((8 * y_48 + y_38 : Nat) : Int) (y_59 : Int)) 4)), .ref (B + (c + 4)), .ref (B + (c + 13)), .ref (B + (c + 18))]))) (c + 1) (iarr E 48 (wA (vilR r3 ((8 * y_48 + y_38 : Nat) : Int) (y_59 : Int))))) o (iarr E 7 (wbS (vilR r3 ((8 * y_48 + y_38 : Nat) : Int) (y_59 : Int)) y_38)))) rfl ?_
                    refine x_st (st' := []) rfl ?_
                    refine x_iinc (pc := 96) (L' := [(2, .int (zI ((m3 : Int) + 1))), (0, .ref (B + 2)), (1, .ref (B + c))]) 2 K hnL rfl (by decide) rfl dX8_readVillages_96 ?_
                    refine x_goto (pc := 99) (tgt := 2) K dX8_readVillages_99 (by decide) ?_
                    refine x_sub (L' := [(0, .ref (B + 2)), (1, .ref (B + c)), (2, .int (zI ((m3 : Int) + 1)))]) [1, 2, 0] rfl ?_
                    exact ih2 (va_up (va_up (va_up (va_up (va_up v3 2 (.inr (7, [.ref (B + 3), .ref (B + 4), .int (zI (n : Int)), .int (zI f), .int (zI pl), .int (zI (tokK t n e_66)), .int (zI (((skT t n e_66) : Nat) : Int)), .int (zI (((tokE t n e_66) : Nat) : Int)), .int (zI v2_66)]))) 4 (iarr E 4 (va_up (va_up (va_up tl3 0 (y_38 : Int)) 1 (y_48 : Int)) 2 (y_59 : Int)))) c (.inr (3, [.int (zI ((vilR r3 ((8 * y_48 + y_38 : Nat) : Int) (y_59 : Int)) 0)), .int (zI ((vilR r3 ((8 * y_48 + y_38 : Nat) : Int) (y_59 : Int)) 1)), .int (zI ((vilR r3 ((8 * y_48 + y_38 : Nat) : Int) (y_59 : Int)) 2)), .ref (B + (c + 1)), .ref (B + (c + 2)), .int (zI ((vilR r3 ((8 * y_48 + y_38 : Nat) : Int) (y_59 : Int)) 3)), .ref (B + (c + 3)), .int (zI ((vilR r3 ((8 * y_48 + y_38 : Nat) : Int) (y_59 : Int)) 4)), .ref (B + (c + 4)), .ref (B + (c + 13)), .ref (B + (c + 18))]))) (c + 1) (iarr E 48 (wA (vilR r3 ((8 * y_48 + y_38 : Nat) : Int) (y_59 : Int))))) o (iarr E 7 (wbS (vilR r3 ((8 * y_48 + y_38 : Nat) : Int) (y_59 : Int)) y_38))) e_66 (vilR r3 ((8 * y_48 + y_38 : Nat) : Int) (y_59 : Int)) (fu3 - 1) (va_up (va_up (va_up tl3 0 (y_38 : Int)) 1 (y_48 : Int)) 2 (y_59 : Int)) v2_66 (m3 + 1) (RSx_mk (cel_ne (cel_ne (cel_ne (cel_ne (cel_self k2.1) (by decide)) (by omega)) (by omega)) (by omega)) (cel_ne (cel_ne (cel_ne (cel_ne (cel_ne k3 (by decide)) (by decide)) (by omega)) (by omega)) (by omega)) (cel_ne (cel_ne (cel_ne (cel_self k4.1) (by omega)) (by omega)) (by omega)) ho_66.2 hv_66 (GS_vil (GS_fr kG (by omega) (Nat.le_refl _) (fun k h1 h2 h3 => by rw [va_up_ne _ _ (by omega), va_up_ne _ _ (by omega)])) (by omega) ho9 (by omega) (by omega)) (rOk_vil kr (by omega) (by omega) (by omega)) (by rw [show fu3 - 1 + 1 = fu3 by omega, kR]; exact vil_o (by omega) hb (by omega) (pVil_5 hP_38 hP_48 hP_59 hP_66)) (by omega) (by omega) (by rw [vilR_4]; exact kN)) (fun q h1 h2 h3 => by rw [va_up_ne _ _ (by omega), va_up_ne _ _ (by omega), va_up_ne _ _ (by omega), va_up_ne _ _ (by omega), va_up_ne _ _ (by omega)] <;> exact hF3 q h1 h2 h3) (by rw [vilR_3]; omega) (by rw [vilR_4]; exact hr40) (by omega)
                  · skip
                    obtain ⟨g_66, p_66, hP_66, -, hf_66, hl_66⟩ := hp66_0.resolve_left (fun ⟨_, _, _, q, _⟩ => by omega)
                    clear hp66_0
                    clear hv_59
                    have hE9 : R0 = .error (g_66, p_66) := kR.trans (vil_e (by omega) hb (by omega) (pVil_4 hP_38 hP_48 hP_59 hP_66))
                    refine x_iconst (pc := 72) K dX8_readVillages_72 ?_
                    refine x_zret (pc := 73) K KR (by omega) (Nat.le_of_ble_eq_true rfl) (Nat.le_of_ble_eq_true rfl) rfl dX8_readVillages_73 ?_
                    exact ⟨0, by omega, (fun q h1 h2 h3 => by rw [va_up_ne _ _ (by omega), va_up_ne _ _ (by omega)] <;> exact hF3 q h1 h2 h3), Or.inr ⟨rfl, RE_mk (p := p_66) (cel_ne (cel_self k2.1) (by decide)) (cel_self k4.1) (by rw [hE9, hf_66]) hl_66⟩, rfl⟩
          · skip
            have hE9 : R0 = .error (3, skT t n a3) := kR.trans (vil_f (by omega) hb (by omega))
            refine x_aload_n (pc := 23) 0 K rfl rfl dX8_readVillages_23 ?_
            refine x_iconst (pc := 24) K dX8_readVillages_24 ?_
            refine x_callV (pc := 25) (C := RX8) (T := TX8) (n := 9) (ci := 7) (As := [.int (zI 3)]) K (c_X8_fails (E := E) (B := B) (N := N)   k2 ) gX8_readVillages_X8_fails rfl (na := 1) (by decide +kernel) rfl ⟨(Nat.le_of_ble_eq_true rfl), (Nat.le_of_ble_eq_true rfl)⟩ k2 rfl (st := []) rfl (Nat.le_of_ble_eq_true rfl) ⟨(Nat.le_of_ble_eq_true rfl), (Nat.le_of_ble_eq_true rfl)⟩ dX8_readVillages_25 (fun r25 N25 w25 hpo25 hN25 => ?_)
            obtain ⟨rfl, rfl, rfl⟩ := hpo25
            refine x_v (w := (va_up v3 2 (.inr (7, [.ref (B + 3), .ref (B + 4), .int (zI (n : Int)), .int (zI 3), .int (zI (((skT t n a3) : Nat) : Int)), .int (zI (tokK t n a3)), .int (zI (((skT t n a3) : Nat) : Int)), .int (zI (((tokE t n a3) : Nat) : Int)), .int (zI vv3)])))) rfl ?_
            refine x_st (st' := [.int (zI 0)]) rfl ?_
            refine x_zret (pc := 28) K KR (by omega) (Nat.le_of_ble_eq_true rfl) (Nat.le_of_ble_eq_true rfl) (nb_ok (by omega)) dX8_readVillages_28 ?_
            exact ⟨0, by omega, (fun q h1 h2 h3 => by rw [va_up_ne _ _ (by omega)] <;> exact hF3 q h1 h2 h3), Or.inr ⟨rfl, RE_mk (p := skT t n a3) (cel_self k2.1) (cel_ne k4 (by decide)) hE9 rfl⟩, rfl⟩
  refine x_sub (L' := [(0, .ref (B + 2)), (1, .ref (B + c)), (2, .int (zI 0))]) [1, 2, 0] rfl ?_
  exact LOOP2 (_) v a0 r0 fu0 tl0 vv0 0 hR0 (FRM_r v c) (by omega) (by omega) (Nat.lt_succ_self _)
