theorem dX8_readPeople_0 : decode cX8_readPeople 0 = .ok (.iconst 0, 1) := by decide +kernel
theorem dX8_readPeople_1 : decode cX8_readPeople 1 = .ok (.istore_n 2, 1) := by decide +kernel
theorem dX8_readPeople_2 : decode cX8_readPeople 2 = .ok (.iload_n 2, 1) := by decide +kernel
theorem dX8_readPeople_3 : decode cX8_readPeople 3 = .ok (.iconst 5, 1) := by decide +kernel
theorem dX8_readPeople_4 : decode cX8_readPeople 4 = .ok (.if_icmp .gt 136, 3) := by decide +kernel
theorem dX8_readPeople_7 : decode cX8_readPeople 7 = .ok (.aload_n 0, 1) := by decide +kernel
theorem dX8_readPeople_8 : decode cX8_readPeople 8 = .ok (.ldc 101, 2) := by decide +kernel
set_option maxRecDepth 20000 in
theorem ggX8_readPeople_X8_isWord : GoodIn wsX8_readPeople wsX8_isWord := goodIn_r _ [6, 7, 8, 9, 10, 11, 12, 13, 14, 15, 16, 17, 18, 19, 20, 21, 22, 23, 24, 25, 26, 27, 28, 29, 30, 31, 32, 33, 34, 35, 36, 37, 38, 39, 40, 41, 42, 43, 44, 45, 46, 47, 48, 49, 50, 51, 52, 53, 54, 55, 56, 57, 58, 59, 153, 154, 155, 156, 157, 158, 159, 160, 161] (by decide +kernel) (by decide +kernel)
set_option maxRecDepth 20000 in
theorem gX8_readPeople_X8_isWord : GoodIn wsX8_readPeople (wsV RX8 88 RX8 yX8_isWord wsX8_isWord) := goodIn_app (goodIn_of _ (by decide +kernel)) ggX8_readPeople_X8_isWord
theorem dX8_readPeople_10 : decode cX8_readPeople 10 = .ok (.invokevirtual 88, 3) := by decide +kernel
theorem dX8_readPeople_13 : decode cX8_readPeople 13 = .ok (.ifCond .eq 127, 3) := by decide +kernel
theorem dX8_readPeople_140 : decode cX8_readPeople 140 = .ok (.iconst 1, 1) := by decide +kernel
theorem dX8_readPeople_141 : decode cX8_readPeople 141 = .ok (.ireturn, 1) := by decide +kernel
theorem dX8_readPeople_16 : decode cX8_readPeople 16 = .ok (.iload_n 2, 1) := by decide +kernel
theorem dX8_readPeople_17 : decode cX8_readPeople 17 = .ok (.iconst 5, 1) := by decide +kernel
theorem dX8_readPeople_18 : decode cX8_readPeople 18 = .ok (.if_icmp .ne 9, 3) := by decide +kernel
theorem dX8_readPeople_27 : decode cX8_readPeople 27 = .ok (.aload_n 0, 1) := by decide +kernel
set_option maxRecDepth 20000 in
theorem ggX8_readPeople_X8_step : GoodIn wsX8_readPeople wsX8_step := goodIn_r _ [69, 8, 9, 70, 10, 7, 71, 72, 5, 73, 74, 75, 76, 77, 78, 79, 80, 81, 82, 83, 84, 85, 86, 87, 88, 153, 154, 155, 156, 157, 158, 159, 160, 161] (by decide +kernel) (by decide +kernel)
set_option maxRecDepth 20000 in
theorem gX8_readPeople_X8_step : GoodIn wsX8_readPeople (wsV RX8 43 RX8 yX8_step wsX8_step) := goodIn_app (goodIn_of _ (by decide +kernel)) ggX8_readPeople_X8_step
theorem dX8_readPeople_28 : decode cX8_readPeople 28 = .ok (.invokevirtual 43, 3) := by decide +kernel
theorem dX8_readPeople_31 : decode cX8_readPeople 31 = .ok (.aload_n 0, 1) := by decide +kernel
set_option maxRecDepth 20000 in
theorem ggX8_readPeople_X8_kindTold : GoodIn wsX8_readPeople wsX8_kindTold := goodIn_r _ [92, 2, 3, 4, 5, 6, 7, 8, 9, 10, 11, 12, 13, 14, 15, 16, 17, 18, 19, 20, 21, 22, 23, 24, 25, 26, 27, 28, 29, 30, 31, 32, 33, 34, 35, 36, 37, 38, 39, 40, 41, 42, 43, 44, 45, 46, 47, 48, 49, 50, 51, 52, 53, 54, 55, 56, 57, 58, 59, 153, 154, 155, 156, 157, 158, 159, 160, 161] (by decide +kernel) (by decide +kernel)
set_option maxRecDepth 20000 in
theorem gX8_readPeople_X8_kindTold : GoodIn wsX8_readPeople (wsV RX8 103 RX8 yX8_kindTold wsX8_kindTold) := goodIn_app (goodIn_of _ (by decide +kernel)) ggX8_readPeople_X8_kindTold
theorem dX8_readPeople_32 : decode cX8_readPeople 32 = .ok (.invokevirtual 103, 3) := by decide +kernel
theorem dX8_readPeople_35 : decode cX8_readPeople 35 = .ok (.istore_n 3, 1) := by decide +kernel
theorem dX8_readPeople_36 : decode cX8_readPeople 36 = .ok (.iload_n 3, 1) := by decide +kernel
theorem dX8_readPeople_37 : decode cX8_readPeople 37 = .ok (.ifCond .ne 9, 3) := by decide +kernel
theorem dX8_readPeople_46 : decode cX8_readPeople 46 = .ok (.aload_n 0, 1) := by decide +kernel
theorem dX8_readPeople_47 : decode cX8_readPeople 47 = .ok (.invokevirtual 43, 3) := by decide +kernel
theorem dX8_readPeople_50 : decode cX8_readPeople 50 = .ok (.aload_n 0, 1) := by decide +kernel
theorem dX8_readPeople_51 : decode cX8_readPeople 51 = .ok (.iconst 3, 1) := by decide +kernel
theorem dX8_readPeople_52 : decode cX8_readPeople 52 = .ok (.iconst 0, 1) := by decide +kernel
theorem dX8_readPeople_53 : decode cX8_readPeople 53 = .ok (.iconst 1, 1) := by decide +kernel
set_option maxRecDepth 20000 in
theorem ggX8_readPeople_X8_number : GoodIn wsX8_readPeople wsX8_number := goodIn_r _ [96, 7, 88, 1, 60, 61, 62, 5, 63, 64, 9, 65, 66, 67, 68, 69, 8, 70, 10, 71, 72, 73, 74, 75, 76, 77, 78, 79, 80, 81, 82, 83, 84, 85, 86, 87, 153, 154, 155, 156, 157, 158, 159, 160, 161] (by decide +kernel) (by decide +kernel)
set_option maxRecDepth 20000 in
theorem gX8_readPeople_X8_number : GoodIn wsX8_readPeople (wsV RX8 69 RX8 yX8_number wsX8_number) := goodIn_app (goodIn_of _ (by decide +kernel)) ggX8_readPeople_X8_number
theorem dX8_readPeople_54 : decode cX8_readPeople 54 = .ok (.invokevirtual 69, 3) := by decide +kernel
theorem dX8_readPeople_57 : decode cX8_readPeople 57 = .ok (.ifCond .eq 42, 3) := by decide +kernel
theorem dX8_readPeople_99 : decode cX8_readPeople 99 = .ok (.iconst 0, 1) := by decide +kernel
theorem dX8_readPeople_100 : decode cX8_readPeople 100 = .ok (.ireturn, 1) := by decide +kernel
theorem dX8_readPeople_60 : decode cX8_readPeople 60 = .ok (.aload_n 0, 1) := by decide +kernel
theorem dX8_readPeople_61 : decode cX8_readPeople 61 = .ok (.iconst 0, 1) := by decide +kernel
theorem dX8_readPeople_62 : decode cX8_readPeople 62 = .ok (.iconst 0, 1) := by decide +kernel
theorem dX8_readPeople_63 : decode cX8_readPeople 63 = .ok (.bipush 7, 2) := by decide +kernel
theorem dX8_readPeople_65 : decode cX8_readPeople 65 = .ok (.invokevirtual 69, 3) := by decide +kernel
theorem dX8_readPeople_68 : decode cX8_readPeople 68 = .ok (.ifCond .eq 31, 3) := by decide +kernel
theorem dX8_readPeople_71 : decode cX8_readPeople 71 = .ok (.aload_n 0, 1) := by decide +kernel
theorem dX8_readPeople_72 : decode cX8_readPeople 72 = .ok (.iconst 1, 1) := by decide +kernel
theorem dX8_readPeople_73 : decode cX8_readPeople 73 = .ok (.iconst 0, 1) := by decide +kernel
theorem dX8_readPeople_74 : decode cX8_readPeople 74 = .ok (.iconst 5, 1) := by decide +kernel
theorem dX8_readPeople_75 : decode cX8_readPeople 75 = .ok (.invokevirtual 69, 3) := by decide +kernel
theorem dX8_readPeople_78 : decode cX8_readPeople 78 = .ok (.ifCond .eq 21, 3) := by decide +kernel
theorem dX8_readPeople_81 : decode cX8_readPeople 81 = .ok (.aload_n 0, 1) := by decide +kernel
theorem dX8_readPeople_82 : decode cX8_readPeople 82 = .ok (.iconst 2, 1) := by decide +kernel
theorem dX8_readPeople_83 : decode cX8_readPeople 83 = .ok (.iconst 0, 1) := by decide +kernel
theorem dX8_readPeople_84 : decode cX8_readPeople 84 = .ok (.bipush 13, 2) := by decide +kernel
theorem dX8_readPeople_86 : decode cX8_readPeople 86 = .ok (.invokevirtual 69, 3) := by decide +kernel
theorem dX8_readPeople_89 : decode cX8_readPeople 89 = .ok (.ifCond .eq 10, 3) := by decide +kernel
theorem dX8_readPeople_92 : decode cX8_readPeople 92 = .ok (.aload_n 0, 1) := by decide +kernel
set_option maxRecDepth 20000 in
theorem ggX8_readPeople_X8_sign : GoodIn wsX8_readPeople wsX8_sign := goodIn_r _ [100, 7, 60, 61, 62, 5, 63, 64, 9, 65, 66, 67, 68, 69, 8, 70, 10, 71, 72, 73, 74, 75, 76, 77, 78, 79, 80, 81, 82, 83, 84, 85, 86, 87, 88, 153, 154, 155, 156, 157, 158, 159, 160, 161] (by decide +kernel) (by decide +kernel)
set_option maxRecDepth 20000 in
theorem gX8_readPeople_X8_sign : GoodIn wsX8_readPeople (wsV RX8 73 RX8 yX8_sign wsX8_sign) := goodIn_app (goodIn_of _ (by decide +kernel)) ggX8_readPeople_X8_sign
theorem dX8_readPeople_93 : decode cX8_readPeople 93 = .ok (.invokevirtual 73, 3) := by decide +kernel
theorem dX8_readPeople_96 : decode cX8_readPeople 96 = .ok (.ifCond .ne 5, 3) := by decide +kernel
theorem dX8_readPeople_101 : decode cX8_readPeople 101 = .ok (.aload_n 1, 1) := by decide +kernel
theorem dX8_readPeople_102 : decode cX8_readPeople 102 = .ok (.iload_n 3, 1) := by decide +kernel
theorem dX8_readPeople_103 : decode cX8_readPeople 103 = .ok (.aload_n 0, 1) := by decide +kernel
theorem dX8_readPeople_104 : decode cX8_readPeople 104 = .ok (.getfield 15, 3) := by decide +kernel
theorem dX8_readPeople_107 : decode cX8_readPeople 107 = .ok (.iconst 3, 1) := by decide +kernel
theorem dX8_readPeople_108 : decode cX8_readPeople 108 = .ok (.iaload, 1) := by decide +kernel
theorem dX8_readPeople_109 : decode cX8_readPeople 109 = .ok (.bipush 8, 2) := by decide +kernel
theorem dX8_readPeople_111 : decode cX8_readPeople 111 = .ok (.aload_n 0, 1) := by decide +kernel
theorem dX8_readPeople_112 : decode cX8_readPeople 112 = .ok (.getfield 15, 3) := by decide +kernel
theorem dX8_readPeople_115 : decode cX8_readPeople 115 = .ok (.iconst 1, 1) := by decide +kernel
theorem dX8_readPeople_116 : decode cX8_readPeople 116 = .ok (.iaload, 1) := by decide +kernel
theorem dX8_readPeople_117 : decode cX8_readPeople 117 = .ok (.imul, 1) := by decide +kernel
theorem dX8_readPeople_118 : decode cX8_readPeople 118 = .ok (.aload_n 0, 1) := by decide +kernel
theorem dX8_readPeople_119 : decode cX8_readPeople 119 = .ok (.getfield 15, 3) := by decide +kernel
theorem dX8_readPeople_122 : decode cX8_readPeople 122 = .ok (.iconst 0, 1) := by decide +kernel
theorem dX8_readPeople_123 : decode cX8_readPeople 123 = .ok (.iaload, 1) := by decide +kernel
theorem dX8_readPeople_124 : decode cX8_readPeople 124 = .ok (.iadd, 1) := by decide +kernel
theorem dX8_readPeople_125 : decode cX8_readPeople 125 = .ok (.aload_n 0, 1) := by decide +kernel
theorem dX8_readPeople_126 : decode cX8_readPeople 126 = .ok (.getfield 15, 3) := by decide +kernel
theorem dX8_readPeople_129 : decode cX8_readPeople 129 = .ok (.iconst 2, 1) := by decide +kernel
theorem dX8_readPeople_130 : decode cX8_readPeople 130 = .ok (.iaload, 1) := by decide +kernel
set_option maxRecDepth 20000 in
theorem ggX8_readPeople_X3_addPerson : GoodIn wsX8_readPeople wsX3_addPerson := goodIn_r _ [105, 106, 107, 108, 109, 110, 111, 112, 113, 114, 115, 116, 117, 118, 119, 120, 121, 122, 123, 124, 125, 126, 127, 128, 129, 130, 131, 132, 133, 134, 135, 136, 137, 138, 139, 140, 141, 142, 143, 144, 145, 146, 147, 148, 149, 150, 151, 152, 162, 163, 164, 165, 166, 167, 168, 169, 170, 171, 172, 173, 174, 175, 176, 177, 178, 179, 180, 181, 182, 183, 184, 185, 186, 187, 188, 189, 190, 191, 192] (by decide +kernel) (by decide +kernel)
set_option maxRecDepth 20000 in
theorem gX8_readPeople_X3_addPerson : GoodIn wsX8_readPeople (wsV RX8 107 RX3 yX3_addPerson wsX3_addPerson) := goodIn_app (goodIn_of _ (by decide +kernel)) ggX8_readPeople_X3_addPerson
theorem dX8_readPeople_131 : decode cX8_readPeople 131 = .ok (.invokevirtual 107, 3) := by decide +kernel
theorem dX8_readPeople_134 : decode cX8_readPeople 134 = .ok (.iinc 2 1, 3) := by decide +kernel
theorem dX8_readPeople_137 : decode cX8_readPeople 137 = .ok (.goto (-135), 3) := by decide +kernel
theorem dX8_readPeople_40 : decode cX8_readPeople 40 = .ok (.aload_n 0, 1) := by decide +kernel
theorem dX8_readPeople_41 : decode cX8_readPeople 41 = .ok (.iconst 1, 1) := by decide +kernel
set_option maxRecDepth 20000 in
theorem ggX8_readPeople_X8_fails : GoodIn wsX8_readPeople wsX8_fails := goodIn_r _ [63, 64, 9, 65, 153, 154, 155, 156, 157, 158, 159, 160, 161] (by decide +kernel) (by decide +kernel)
set_option maxRecDepth 20000 in
theorem gX8_readPeople_X8_fails : GoodIn wsX8_readPeople (wsV RX8 59 RX8 yX8_fails wsX8_fails) := goodIn_app (goodIn_of _ (by decide +kernel)) ggX8_readPeople_X8_fails
theorem dX8_readPeople_42 : decode cX8_readPeople 42 = .ok (.invokevirtual 59, 3) := by decide +kernel
theorem dX8_readPeople_45 : decode cX8_readPeople 45 = .ok (.ireturn, 1) := by decide +kernel
theorem dX8_readPeople_21 : decode cX8_readPeople 21 = .ok (.aload_n 0, 1) := by decide +kernel
theorem dX8_readPeople_22 : decode cX8_readPeople 22 = .ok (.iconst 3, 1) := by decide +kernel
theorem dX8_readPeople_23 : decode cX8_readPeople 23 = .ok (.invokevirtual 59, 3) := by decide +kernel
theorem dX8_readPeople_26 : decode cX8_readPeople 26 = .ok (.ireturn, 1) := by decide +kernel
set_option maxRecDepth 100000 in
set_option maxHeartbeats 4000000 in
theorem c_X8_readPeople {E : XE} {B N : Nat} {v : Nat → va_E} {c n : Nat} {f pl : Int} {t : Nat → Int} {R0 : Except (Int × Nat) (Nat → Int)} (hq0 : n ≤ 400) (hq1 : ∀ i : Nat, 0 ≤ t i ∧ t i ≤ 255) (hq2 : 4 < c) (hq3 : RS E B N v c n t f pl 3 R0) : gM yX8_readPeople wsX8_readPeople ({ frames := 6, cells := 5, slots := 20, locals := 132 }) E B N v [.ref (B + 2), .ref (B + c)] (fun ρ N' v' => ∃ (res : Int), (N ≤ N') ∧ (FRM v v' c) ∧ ((res = 1 ∧ RS E B N' v' c n t f pl 4 R0) ∨ (res = 0 ∧ RE E B N' v' n R0)) ∧ ρ = some (.int (zI res))) := by
  refine x_met (nm := "readPeople") (by decide +kernel) rfl (Nat.le_of_ble_eq_true rfl) rfl (fun Γ K KR hnL hnm => ?_)
  show XW Γ N v [(0, .ref (B + 2)), (1, .ref (B + c))] 0 0 0 []
  obtain ⟨a0, r0, g0, fu0, tl0, vv0, hR0, h40, hg0, h30⟩ := hq3
  specialize h40 (by decide)
  clear hg0 h30
  have hN0 := RSx_N hR0
  refine x_iconst (pc := 0) K dX8_readPeople_0 ?_
  refine x_istore_n (pc := 1) K (L' := [(2, .int (zI 0)), (0, .ref (B + 2)), (1, .ref (B + c))]) hnL rfl (by decide) rfl dX8_readPeople_1 ?_
  have LOOP2 : ∀ (n_2 : Nat) (N3 : Nat) (v3 : Nat → va_E) (a3 : Nat) (r3 : Nat → Int) (g3 : Int) (fu3 : Nat) (tl3 : Nat → Int) (vv3 : Int) (m3 : Nat), (RSx E B N3 v3 c n t f pl 3 R0 a3 r3 g3 fu3 tl3 vv3) → (FRM v v3 c) → ((m3 : Int) = r3 4) → (n - a3) < n_2 → XW Γ N3 v3 [(0, .ref (B + 2)), (1, .ref (B + c)), (2, .int (zI (m3 : Int)))] m3 (4 * m3) 2 [] := by
    intro n_2
    induction n_2 with
    | zero =>
      intro N3 v3 a3 r3 g3 fu3 tl3 vv3 m3 hR3 hF3 hm3 hm_2
      exfalso; omega
    | succ n_2 ih2 =>
      intro N3 v3 a3 r3 g3 fu3 tl3 vv3 m3 hR3 hF3 hm3 hm_2
      have hR4 := hR3
      obtain ⟨k2, k3, k4, ka, -, kG, kr, kR, kf, kg8, kN⟩ := hR3
      have kG9 := kG
      obtain ⟨G0, G1, G2, G3, G4, G5, G6, G7, G8⟩ := kG9
      have her := (tokE_rng (t := t) ka).2.1
      have hr3 := kr.1.2.2.2.1
      have hr4 := kr.1.2.2.2.2.1
      refine x_iload_n (pc := 2) 2 K rfl rfl dX8_readPeople_2 ?_
      refine x_iconst (pc := 3) K dX8_readPeople_3 ?_
      refine x_icmp_gt (pc := 4) (tgt := 140) K (by omega) (by decide) dX8_readPeople_4 (by decide) (fun h_4 => ?_) (fun h_4 => ?_)
      · skip
        exfalso; omega
      · skip
        refine x_aload_n (pc := 7) 0 K rfl rfl dX8_readPeople_7 ?_
        refine x_ldcS (pc := 8) 3 K (by decide) rfl rfl dX8_readPeople_8 ?_
        refine x_callV (pc := 10) (C := RX8) (T := TX8) (n := 9) (ci := 7) (As := [.ref (E.2.2.1 3)]) K (c_X8_isWord (E := E) (B := B) (N := N3) (i := 3) (a := a3) (n := n) (t := t)  k2 k3 (by omega) hq1 (by decide)) gX8_readPeople_X8_isWord rfl (na := 1) (by decide +kernel) rfl ⟨(Nat.le_of_ble_eq_true rfl), (Nat.le_of_ble_eq_true rfl)⟩ k2 rfl (st := []) rfl (Nat.le_of_ble_eq_true rfl) ⟨(by show m3 + 0 ≤ 5; omega), (by show (4 * m3) + 0 ≤ 20; omega)⟩ dX8_readPeople_10 (fun r10 N10 w10 hpo10 hN10 => ?_)
        obtain ⟨rfl, res_10, hp10_0, rfl, rfl⟩ := hpo10
        refine x_st (st' := [.int (zI res_10)]) rfl ?_
        refine x_if_eq (pc := 13) (tgt := 140) K (by omega) dX8_readPeople_13 (by decide) (fun h_13 => ?_) (fun h_13 => ?_)
        · skip
          have hnw := (hp10_0.resolve_left (fun q => by omega)).2
          clear hp10_0
          refine x_iconst (pc := 140) K dX8_readPeople_140 ?_
          refine x_zret (pc := 141) K KR (by omega) (by show m3 ≤ 5; omega) (by show (4 * m3) ≤ 20; omega) rfl dX8_readPeople_141 ?_
          exact ⟨1, by omega, hF3, Or.inl ⟨rfl, RS_mk (RSx_mk k2 k3 k4 ka (RSx_kv hR4) kG kr (by rw [kR]; exact pLoop_up (fun q => hnw ((isW_bg ka).2.2.mpr q))) kf (by omega) kN) (fun q => absurd q (by decide)) (fun q => absurd q (by decide)) (fun q => absurd q (by decide))⟩, rfl⟩
        · skip
          have hw := (hp10_0.resolve_right (fun q => by omega)).2
          clear hp10_0
          have hb := (isW_bg ka).2.2.mp hw
          have hK1 := hw.1
          have hea := (tokE_rng (t := t) ka).2.2 (by omega)
          have her1 := (tokE_rng (t := t) her).2.1
          have her2 := (tokE_rng (t := t) her).1
          refine x_iload_n (pc := 16) 2 K rfl rfl dX8_readPeople_16 ?_
          refine x_iconst (pc := 17) K dX8_readPeople_17 ?_
          refine x_icmp_ne (pc := 18) (tgt := 27) K (by omega) (by decide) dX8_readPeople_18 (by decide) (fun h_18 => ?_) (fun h_18 => ?_)
          · skip
            refine x_aload_n (pc := 27) 0 K rfl rfl dX8_readPeople_27 ?_
            refine x_callV (pc := 28) (C := RX8) (T := TX8) (n := 9) (ci := 7) (As := []) K (c_X8_step (E := E) (B := B) (N := N3) (a := (tokE t n a3)) (n := n)  k2 k3 (by omega) hq1) gX8_readPeople_X8_step rfl (na := 0) (by decide +kernel) rfl ⟨(Nat.le_of_ble_eq_true rfl), (Nat.le_of_ble_eq_true rfl)⟩ k2 rfl (st := []) rfl (Nat.le_of_ble_eq_true rfl) ⟨(by show m3 + 0 ≤ 5; omega), (by show (4 * m3) + 0 ≤ 20; omega)⟩ dX8_readPeople_28 (fun r28 N28 w28 hpo28 hN28 => ?_)
            obtain ⟨rfl, v2_28, hp28_0, rfl, rfl⟩ := hpo28
            refine x_v (w := (va_up v3 2 (.inr (7, [.ref (B + 3), .ref (B + 4), .int (zI (n : Int)), .int (zI f), .int (zI pl), .int (zI (tokK t n (tokE t n a3))), .int (zI (((skT t n (tokE t n a3)) : Nat) : Int)), .int (zI (((tokE t n (tokE t n a3)) : Nat) : Int)), .int (zI v2_28)])))) rfl ?_
            refine x_st (st' := []) rfl ?_
            refine x_aload_n (pc := 31) 0 K rfl rfl dX8_readPeople_31 ?_
            refine x_callV (pc := 32) (C := RX8) (T := TX8) (n := 9) (ci := 7) (As := []) K (c_X8_kindTold (E := E) (B := B) (N := N3) (a := (tokE t n a3)) (n := n) (t := t)  (cel_self k2.1) (cel_ne k3 (by decide)) (by omega) hq1) gX8_readPeople_X8_kindTold rfl (na := 0) (by decide +kernel) rfl ⟨(Nat.le_of_ble_eq_true rfl), (Nat.le_of_ble_eq_true rfl)⟩ (cel_self k2.1) rfl (st := []) rfl (Nat.le_of_ble_eq_true rfl) ⟨(by show m3 + 0 ≤ 5; omega), (by show (4 * m3) + 0 ≤ 20; omega)⟩ dX8_readPeople_32 (fun r32 N32 w32 hpo32 hN32 => ?_)
            obtain ⟨rfl, rfl, rfl⟩ := hpo32
            refine x_st (st' := [.int (zI (kdT t n (tokE t n a3)))]) rfl ?_
            have hrg32 := kdT_rng t n (tokE t n a3)
            refine x_nm (fun z1 hz1 => ?_)
            refine x_istore_n (pc := 35) K (L' := [(3, .int (zI z1)), (0, .ref (B + 2)), (1, .ref (B + c)), (2, .int (zI (m3 : Int)))]) hnL rfl (by decide) rfl dX8_readPeople_35 ?_
            refine x_iload_n (pc := 36) 0 K rfl rfl dX8_readPeople_36 ?_
            refine x_if_ne (pc := 37) (tgt := 46) K (by omega) dX8_readPeople_37 (by decide) (fun h_37 => ?_) (fun h_37 => ?_)
            · skip
              have hkK := kdT_1 (t := t) (n := n) (a := tokE t n a3) (by omega)
              have hkr1 := kdT_rng t n (tokE t n a3)
              refine x_aload_n (pc := 46) 1 K rfl rfl dX8_readPeople_46 ?_
              refine x_callV (pc := 47) (C := RX8) (T := TX8) (n := 9) (ci := 7) (As := []) K (c_X8_step (E := E) (B := B) (N := N3) (a := (tokE t n (tokE t n a3))) (n := n)  (cel_self k2.1) (cel_ne k3 (by decide)) (by omega) hq1) gX8_readPeople_X8_step rfl (na := 0) (by decide +kernel) rfl ⟨(Nat.le_of_ble_eq_true rfl), (Nat.le_of_ble_eq_true rfl)⟩ (cel_self k2.1) rfl (st := []) rfl (Nat.le_of_ble_eq_true rfl) ⟨(by show m3 + 0 ≤ 5; omega), (by show (4 * m3) + 0 ≤ 20; omega)⟩ dX8_readPeople_47 (fun r47 N47 w47 hpo47 hN47 => ?_)
              obtain ⟨rfl, v2_47, hp47_0, rfl, rfl⟩ := hpo47
              refine x_v (w := (va_up v3 2 (.inr (7, [.ref (B + 3), .ref (B + 4), .int (zI (n : Int)), .int (zI f), .int (zI pl), .int (zI (tokK t n (tokE t n (tokE t n a3)))), .int (zI (((skT t n (tokE t n (tokE t n a3))) : Nat) : Int)), .int (zI (((tokE t n (tokE t n (tokE t n a3))) : Nat) : Int)), .int (zI v2_47)])))) (up_at0).symm ?_
              refine x_st (st' := []) rfl ?_
              refine x_aload_n (pc := 50) 1 K rfl rfl dX8_readPeople_50 ?_
              refine x_iconst (pc := 51) K dX8_readPeople_51 ?_
              refine x_iconst (pc := 52) K dX8_readPeople_52 ?_
              refine x_iconst (pc := 53) K dX8_readPeople_53 ?_
              refine x_callV (pc := 54) (C := RX8) (T := TX8) (n := 9) (ci := 7) (As := [.int (zI 3), .int (zI 0), .int (zI 1)]) K (c_X8_number (E := E) (B := B) (N := N3) (a := (tokE t n (tokE t n a3))) (n := n) (t := t) (i := 3) rfl (cel_self k2.1) (cel_ne k3 (by decide)) (cel_ne k4 (by decide)) (by omega) hq1 (by decide) (by omega) (by omega) hp47_0) gX8_readPeople_X8_number rfl (na := 3) (by decide +kernel) rfl ⟨(Nat.le_of_ble_eq_true rfl), (Nat.le_of_ble_eq_true rfl)⟩ (cel_self k2.1) rfl (st := []) rfl (Nat.le_of_ble_eq_true rfl) ⟨(by show m3 + 0 ≤ 5; omega), (by show (4 * m3) + 0 ≤ 20; omega)⟩ dX8_readPeople_54 (fun r54 N54 w54 hpo54 hN54 => ?_)
              obtain ⟨rfl, res_54, f2_54, pl2_54, so2_54, s2_54, e2_54, v2_54, tl2_54, hp54_0, rfl, rfl⟩ := hpo54
              refine x_v (congrArg (fun w => (va_up w 4 (iarr E 4 tl2_54))) (show (va_up v3 2 (.inr (7, [.ref (B + 3), .ref (B + 4), .int (zI (n : Int)), .int (zI f2_54), .int (zI pl2_54), .int (zI so2_54), .int (zI s2_54), .int (zI e2_54), .int (zI v2_54)]))) = _ from (up_at0).symm)) ?_
              refine x_v (w := (va_up (va_up v3 2 (.inr (7, [.ref (B + 3), .ref (B + 4), .int (zI (n : Int)), .int (zI f2_54), .int (zI pl2_54), .int (zI so2_54), .int (zI s2_54), .int (zI e2_54), .int (zI v2_54)]))) 4 (iarr E 4 tl2_54))) rfl ?_
              refine x_st (st' := [.int (zI res_54)]) rfl ?_
              refine x_if_eq (pc := 57) (tgt := 99) K (by omega) dX8_readPeople_57 (by decide) (fun h_57 => ?_) (fun h_57 => ?_)
              · skip
                obtain ⟨g_54, p_54, hP_54, -, hf_54, hl_54⟩ := hp54_0.resolve_left (fun ⟨_, _, _, q, _⟩ => by omega)
                clear hp54_0
                clear hp28_0 hp47_0
                have hE9 : R0 = .error (g_54, p_54) := kR.trans (per_e (by omega) hb (by omega) (pPer_1 (by omega) hP_54))
                refine x_iconst (pc := 99) K dX8_readPeople_99 ?_
                refine x_zret (pc := 100) K KR (by omega) (by show m3 ≤ 5; omega) (by show (4 * m3) ≤ 20; omega) rfl dX8_readPeople_100 ?_
                exact ⟨0, by omega, (fun q h1 h2 h3 => by rw [va_up_ne _ _ (by omega), va_up_ne _ _ (by omega)] <;> exact hF3 q h1 h2 h3), Or.inr ⟨rfl, RE_mk (p := p_54) (cel_ne (cel_self k2.1) (by decide)) (cel_self k4.1) (by rw [hE9, hf_54]) hl_54⟩, rfl⟩
              · skip
                obtain ⟨x_54, e_54, hP_54, -, ⟨hf_54, hg_54⟩, ⟨hk_54, hs_54, hE_54, hv_54⟩, ht_54⟩ := hp54_0.resolve_right (fun ⟨_, _, _, q, _⟩ => by omega)
                clear hp54_0
                subst f2_54
                subst pl2_54
                subst so2_54
                subst s2_54
                subst e2_54
                subst tl2_54
                have ho_54 := pNum_ok hP_54 (by omega)
                obtain ⟨y_54, rfl⟩ : ∃ j : Nat, x_54 = (j : Int) := ⟨x_54.toNat, by omega⟩
                have her_54 := (tokE_rng (t := t) ho_54.2.2).2.1
                clear hp28_0 hp47_0
                refine x_aload_n (pc := 60) 1 K rfl rfl dX8_readPeople_60 ?_
                refine x_iconst (pc := 61) K dX8_readPeople_61 ?_
                refine x_iconst (pc := 62) K dX8_readPeople_62 ?_
                refine x_bipush (pc := 63) K (by decide) dX8_readPeople_63 ?_
                refine x_callV (pc := 65) (C := RX8) (T := TX8) (n := 9) (ci := 7) (As := [.int (zI 0), .int (zI 0), .int (zI 7)]) K (c_X8_number (E := E) (B := B) (N := N3) (a := e_54) (n := n) (t := t) (i := 0) rfl (cel_ne (cel_self k2.1) (by decide)) (cel_ne (cel_ne k3 (by decide)) (by decide)) (cel_self k4.1) (by omega) hq1 (by decide) (by omega) (by omega) hv_54) gX8_readPeople_X8_number rfl (na := 3) (by decide +kernel) rfl ⟨(Nat.le_of_ble_eq_true rfl), (Nat.le_of_ble_eq_true rfl)⟩ (cel_ne (cel_self k2.1) (by decide)) rfl (st := []) rfl (Nat.le_of_ble_eq_true rfl) ⟨(by show m3 + 0 ≤ 5; omega), (by show (4 * m3) + 0 ≤ 20; omega)⟩ dX8_readPeople_65 (fun r65 N65 w65 hpo65 hN65 => ?_)
                obtain ⟨rfl, res_65, f2_65, pl2_65, so2_65, s2_65, e2_65, v2_65, tl2_65, hp65_0, rfl, rfl⟩ := hpo65
                refine x_v (congrArg (fun w => (va_up w 4 (iarr E 4 tl2_65))) (show (va_up (va_up v3 2 (.inr (7, [.ref (B + 3), .ref (B + 4), .int (zI (n : Int)), .int (zI f2_65), .int (zI pl2_65), .int (zI so2_65), .int (zI s2_65), .int (zI e2_65), .int (zI v2_65)]))) 4 (iarr E 4 (va_up tl3 3 (y_54 : Int)))) = _ from (up_at1 (by decide)).symm)) ?_
                refine x_v (w := (va_up (va_up v3 2 (.inr (7, [.ref (B + 3), .ref (B + 4), .int (zI (n : Int)), .int (zI f2_65), .int (zI pl2_65), .int (zI so2_65), .int (zI s2_65), .int (zI e2_65), .int (zI v2_65)]))) 4 (iarr E 4 tl2_65))) (up_at0).symm ?_
                refine x_st (st' := [.int (zI res_65)]) rfl ?_
                refine x_if_eq (pc := 68) (tgt := 99) K (by omega) dX8_readPeople_68 (by decide) (fun h_68 => ?_) (fun h_68 => ?_)
                · skip
                  obtain ⟨g_65, p_65, hP_65, -, hf_65, hl_65⟩ := hp65_0.resolve_left (fun ⟨_, _, _, q, _⟩ => by omega)
                  clear hp65_0
                  clear hv_54
                  have hE9 : R0 = .error (g_65, p_65) := kR.trans (per_e (by omega) hb (by omega) (pPer_2 (by omega) hP_54 hP_65))
                  refine x_iconst (pc := 99) K dX8_readPeople_99 ?_
                  refine x_zret (pc := 100) K KR (by omega) (by show m3 ≤ 5; omega) (by show (4 * m3) ≤ 20; omega) rfl dX8_readPeople_100 ?_
                  exact ⟨0, by omega, (fun q h1 h2 h3 => by rw [va_up_ne _ _ (by omega), va_up_ne _ _ (by omega)] <;> exact hF3 q h1 h2 h3), Or.inr ⟨rfl, RE_mk (p := p_65) (cel_ne (cel_self k2.1) (by decide)) (cel_self k4.1) (by rw [hE9, hf_65]) hl_65⟩, rfl⟩
                · skip
                  obtain ⟨x_65, e_65, hP_65, -, ⟨hf_65, hg_65⟩, ⟨hk_65, hs_65, hE_65, hv_65⟩, ht_65⟩ := hp65_0.resolve_right (fun ⟨_, _, _, q, _⟩ => by omega)
                  clear hp65_0
                  subst f2_65
                  subst pl2_65
                  subst so2_65
                  subst s2_65
                  subst e2_65
                  subst tl2_65
                  have ho_65 := pNum_ok hP_65 (by omega)
                  obtain ⟨y_65, rfl⟩ : ∃ j : Nat, x_65 = (j : Int) := ⟨x_65.toNat, by omega⟩
                  have her_65 := (tokE_rng (t := t) ho_65.2.2).2.1
                  clear hv_54
                  refine x_aload_n (pc := 71) 1 K rfl rfl dX8_readPeople_71 ?_
                  refine x_iconst (pc := 72) K dX8_readPeople_72 ?_
                  refine x_iconst (pc := 73) K dX8_readPeople_73 ?_
                  refine x_iconst (pc := 74) K dX8_readPeople_74 ?_
                  refine x_callV (pc := 75) (C := RX8) (T := TX8) (n := 9) (ci := 7) (As := [.int (zI 1), .int (zI 0), .int (zI 5)]) K (c_X8_number (E := E) (B := B) (N := N3) (a := e_65) (n := n) (t := t) (i := 1) rfl (cel_ne (cel_self k2.1) (by decide)) (cel_ne (cel_ne k3 (by decide)) (by decide)) (cel_self k4.1) (by omega) hq1 (by decide) (by omega) (by omega) hv_65) gX8_readPeople_X8_number rfl (na := 3) (by decide +kernel) rfl ⟨(Nat.le_of_ble_eq_true rfl), (Nat.le_of_ble_eq_true rfl)⟩ (cel_ne (cel_self k2.1) (by decide)) rfl (st := []) rfl (Nat.le_of_ble_eq_true rfl) ⟨(by show m3 + 0 ≤ 5; omega), (by show (4 * m3) + 0 ≤ 20; omega)⟩ dX8_readPeople_75 (fun r75 N75 w75 hpo75 hN75 => ?_)
                  obtain ⟨rfl, res_75, f2_75, pl2_75, so2_75, s2_75, e2_75, v2_75, tl2_75, hp75_0, rfl, rfl⟩ := hpo75
                  refine x_v (congrArg (fun w => (va_up w 4 (iarr E 4 tl2_75))) (show (va_up (va_up v3 2 (.inr (7, [.ref (B + 3), .ref (B + 4), .int (zI (n : Int)), .int (zI f2_75), .int (zI pl2_75), .int (zI so2_75), .int (zI s2_75), .int (zI e2_75), .int (zI v2_75)]))) 4 (iarr E 4 (va_up (va_up tl3 3 (y_54 : Int)) 0 (y_65 : Int)))) = _ from (up_at1 (by decide)).symm)) ?_
                  refine x_v (w := (va_up (va_up v3 2 (.inr (7, [.ref (B + 3), .ref (B + 4), .int (zI (n : Int)), .int (zI f2_75), .int (zI pl2_75), .int (zI so2_75), .int (zI s2_75), .int (zI e2_75), .int (zI v2_75)]))) 4 (iarr E 4 tl2_75))) (up_at0).symm ?_
                  refine x_st (st' := [.int (zI res_75)]) rfl ?_
                  refine x_if_eq (pc := 78) (tgt := 99) K (by omega) dX8_readPeople_78 (by decide) (fun h_78 => ?_) (fun h_78 => ?_)
                  · skip
                    obtain ⟨g_75, p_75, hP_75, -, hf_75, hl_75⟩ := hp75_0.resolve_left (fun ⟨_, _, _, q, _⟩ => by omega)
                    clear hp75_0
                    clear hv_65
                    have hE9 : R0 = .error (g_75, p_75) := kR.trans (per_e (by omega) hb (by omega) (pPer_3 (by omega) hP_54 hP_65 hP_75))
                    refine x_iconst (pc := 99) K dX8_readPeople_99 ?_
                    refine x_zret (pc := 100) K KR (by omega) (by show m3 ≤ 5; omega) (by show (4 * m3) ≤ 20; omega) rfl dX8_readPeople_100 ?_
                    exact ⟨0, by omega, (fun q h1 h2 h3 => by rw [va_up_ne _ _ (by omega), va_up_ne _ _ (by omega)] <;> exact hF3 q h1 h2 h3), Or.inr ⟨rfl, RE_mk (p := p_75) (cel_ne (cel_self k2.1) (by decide)) (cel_self k4.1) (by rw [hE9, hf_75]) hl_75⟩, rfl⟩
                  · skip
                    obtain ⟨x_75, e_75, hP_75, -, ⟨hf_75, hg_75⟩, ⟨hk_75, hs_75, hE_75, hv_75⟩, ht_75⟩ := hp75_0.resolve_right (fun ⟨_, _, _, q, _⟩ => by omega)
                    clear hp75_0
                    subst f2_75
                    subst pl2_75
                    subst so2_75
                    subst s2_75
                    subst e2_75
                    subst tl2_75
                    have ho_75 := pNum_ok hP_75 (by omega)
                    obtain ⟨y_75, rfl⟩ : ∃ j : Nat, x_75 = (j : Int) := ⟨x_75.toNat, by omega⟩
                    have her_75 := (tokE_rng (t := t) ho_75.2.2).2.1
                    clear hv_65
                    refine x_aload_n (pc := 81) 1 K rfl rfl dX8_readPeople_81 ?_
                    refine x_iconst (pc := 82) K dX8_readPeople_82 ?_
                    refine x_iconst (pc := 83) K dX8_readPeople_83 ?_
                    refine x_bipush (pc := 84) K (by decide) dX8_readPeople_84 ?_
                    refine x_callV (pc := 86) (C := RX8) (T := TX8) (n := 9) (ci := 7) (As := [.int (zI 2), .int (zI 0), .int (zI 13)]) K (c_X8_number (E := E) (B := B) (N := N3) (a := e_75) (n := n) (t := t) (i := 2) rfl (cel_ne (cel_self k2.1) (by decide)) (cel_ne (cel_ne k3 (by decide)) (by decide)) (cel_self k4.1) (by omega) hq1 (by decide) (by omega) (by omega) hv_75) gX8_readPeople_X8_number rfl (na := 3) (by decide +kernel) rfl ⟨(Nat.le_of_ble_eq_true rfl), (Nat.le_of_ble_eq_true rfl)⟩ (cel_ne (cel_self k2.1) (by decide)) rfl (st := []) rfl (Nat.le_of_ble_eq_true rfl) ⟨(by show m3 + 0 ≤ 5; omega), (by show (4 * m3) + 0 ≤ 20; omega)⟩ dX8_readPeople_86 (fun r86 N86 w86 hpo86 hN86 => ?_)
                    obtain ⟨rfl, res_86, f2_86, pl2_86, so2_86, s2_86, e2_86, v2_86, tl2_86, hp86_0, rfl, rfl⟩ := hpo86
                    refine x_v (congrArg (fun w => (va_up w 4 (iarr E 4 tl2_86))) (show (va_up (va_up v3 2 (.inr (7, [.ref (B + 3), .ref (B + 4), .int (zI (n : Int)), .int (zI f2_86), .int (zI pl2_86), .int (zI so2_86), .int (zI s2_86), .int (zI e2_86), .int (zI v2_86)]))) 4 (iarr E 4 (va_up (va_up (va_up tl3 3 (y_54 : Int)) 0 (y_65 : Int)) 1 (y_75 : Int)))) = _ from (up_at1 (by decide)).symm)) ?_
                    refine x_v (w := (va_up (va_up v3 2 (.inr (7, [.ref (B + 3), .ref (B + 4), .int (zI (n : Int)), .int (zI f2_86), .int (zI pl2_86), .int (zI so2_86), .int (zI s2_86), .int (zI e2_86), .int (zI v2_86)]))) 4 (iarr E 4 tl2_86))) (up_at0).symm ?_
                    refine x_st (st' := [.int (zI res_86)]) rfl ?_
                    refine x_if_eq (pc := 89) (tgt := 99) K (by omega) dX8_readPeople_89 (by decide) (fun h_89 => ?_) (fun h_89 => ?_)
                    · skip
                      obtain ⟨g_86, p_86, hP_86, -, hf_86, hl_86⟩ := hp86_0.resolve_left (fun ⟨_, _, _, q, _⟩ => by omega)
                      clear hp86_0
                      clear hv_75
                      have hE9 : R0 = .error (g_86, p_86) := kR.trans (per_e (by omega) hb (by omega) (pPer_4 (by omega) hP_54 hP_65 hP_75 hP_86))
                      refine x_iconst (pc := 99) K dX8_readPeople_99 ?_
                      refine x_zret (pc := 100) K KR (by omega) (by show m3 ≤ 5; omega) (by show (4 * m3) ≤ 20; omega) rfl dX8_readPeople_100 ?_
                      exact ⟨0, by omega, (fun q h1 h2 h3 => by rw [va_up_ne _ _ (by omega), va_up_ne _ _ (by omega)] <;> exact hF3 q h1 h2 h3), Or.inr ⟨rfl, RE_mk (p := p_86) (cel_ne (cel_self k2.1) (by decide)) (cel_self k4.1) (by rw [hE9, hf_86]) hl_86⟩, rfl⟩
                    · skip
                      obtain ⟨x_86, e_86, hP_86, -, ⟨hf_86, hg_86⟩, ⟨hk_86, hs_86, hE_86, hv_86⟩, ht_86⟩ := hp86_0.resolve_right (fun ⟨_, _, _, q, _⟩ => by omega)
                      clear hp86_0
                      subst f2_86
                      subst pl2_86
                      subst so2_86
                      subst s2_86
                      subst e2_86
                      subst tl2_86
                      have ho_86 := pNum_ok hP_86 (by omega)
                      obtain ⟨y_86, rfl⟩ : ∃ j : Nat, x_86 = (j : Int) := ⟨x_86.toNat, by omega⟩
                      have her_86 := (tokE_rng (t := t) ho_86.2.2).2.1
                      clear hv_75
                      refine x_aload_n (pc := 92) 1 K rfl rfl dX8_readPeople_92 ?_
                      refine x_callV (pc := 93) (C := RX8) (T := TX8) (n := 9) (ci := 7) (As := []) K (c_X8_sign (E := E) (B := B) (N := N3) (a := e_86) (n := n) (t := t)  (cel_ne (cel_self k2.1) (by decide)) (cel_ne (cel_ne k3 (by decide)) (by decide)) (by omega) hq1) gX8_readPeople_X8_sign rfl (na := 0) (by decide +kernel) rfl ⟨(Nat.le_of_ble_eq_true rfl), (Nat.le_of_ble_eq_true rfl)⟩ (cel_ne (cel_self k2.1) (by decide)) rfl (st := []) rfl (Nat.le_of_ble_eq_true rfl) ⟨(by show m3 + 0 ≤ 5; omega), (by show (4 * m3) + 0 ≤ 20; omega)⟩ dX8_readPeople_93 (fun r93 N93 w93 hpo93 hN93 => ?_)
                      obtain ⟨rfl, res_93, f2_93, pl2_93, so2_93, s2_93, e2_93, v2_93, hp93_0, rfl, rfl⟩ := hpo93
                      refine x_v (w := (va_up (va_up v3 2 (.inr (7, [.ref (B + 3), .ref (B + 4), .int (zI (n : Int)), .int (zI f2_93), .int (zI pl2_93), .int (zI so2_93), .int (zI s2_93), .int (zI e2_93), .int (zI v2_93)]))) 4 (iarr E 4 (va_up (va_up (va_up (va_up tl3 3 (y_54 : Int)) 0 (y_65 : Int)) 1 (y_75 : Int)) 2 (y_86 : Int))))) (up_at1 (by decide)).symm ?_
                      refine x_st (st' := [.int (zI res_93)]) rfl ?_
                      refine x_if_ne (pc := 96) (tgt := 101) K (by omega) dX8_readPeople_96 (by decide) (fun h_96 => ?_) (fun h_96 => ?_)
                      · skip
                        obtain ⟨x_93, e_93, hP_93, -, ⟨hf_93, hg_93⟩, ⟨hk_93, hs_93, hE_93, hv_93⟩⟩ := hp93_0.resolve_right (fun ⟨_, _, _, q, _⟩ => by omega)
                        clear hp93_0
                        subst f2_93
                        subst pl2_93
                        subst so2_93
                        subst s2_93
                        subst e2_93
                        have ho_93 := pSig_ok hP_93 (by omega)
                        have her_93 := (tokE_rng (t := t) ho_93.2).2.1
                        clear hv_86
                        refine x_aload_n (pc := 101) 2 K rfl rfl dX8_readPeople_101 ?_
                        refine x_iload_n (pc := 102) 0 K rfl rfl dX8_readPeople_102 ?_
                        refine x_aload_n (pc := 103) 1 K rfl rfl dX8_readPeople_103 ?_
                        refine x_get (pc := 104) (C := RX8) (T := TX8) (n := 9) (ci := 7) (idx := 15) (ref := "BorderBeds$Tape") (x := .ref (B + 4))  K (cel_ne (cel_self k2.1) (by decide)) rfl (by decide +kernel) 1 (by decide) (by decide +kernel) rfl rfl dX8_readPeople_104 ?_
                        refine x_iconst (pc := 107) K dX8_readPeople_107 ?_
                        refine x_iald (pc := 108) 3 K (cel_self k4.1) rfl (by omega) (by decide) dX8_readPeople_108 ?_
                        refine x_st (st' := [.int (zI (y_54 : Int)), .int (zI z1), .ref (B + c)]) (rfl) ?_
                        refine x_bipush (pc := 109) K (by decide) dX8_readPeople_109 ?_
                        refine x_aload_n (pc := 111) 1 K rfl rfl dX8_readPeople_111 ?_
                        refine x_get (pc := 112) (C := RX8) (T := TX8) (n := 9) (ci := 7) (idx := 15) (ref := "BorderBeds$Tape") (x := .ref (B + 4))  K (cel_ne (cel_self k2.1) (by decide)) rfl (by decide +kernel) 1 (by decide) (by decide +kernel) rfl rfl dX8_readPeople_112 ?_
                        refine x_iconst (pc := 115) K dX8_readPeople_115 ?_
                        refine x_iald (pc := 116) 1 K (cel_self k4.1) rfl (by omega) (by decide) dX8_readPeople_116 ?_
                        refine x_st (st' := [.int (zI (y_75 : Int)), .int (zI 8), .int (zI (y_54 : Int)), .int (zI z1), .ref (B + c)]) (rfl) ?_
                        refine x_imul (pc := 117) K dX8_readPeople_117 ?_
                        refine x_aload_n (pc := 118) 1 K rfl rfl dX8_readPeople_118 ?_
                        refine x_get (pc := 119) (C := RX8) (T := TX8) (n := 9) (ci := 7) (idx := 15) (ref := "BorderBeds$Tape") (x := .ref (B + 4))  K (cel_ne (cel_self k2.1) (by decide)) rfl (by decide +kernel) 1 (by decide) (by decide +kernel) rfl rfl dX8_readPeople_119 ?_
                        refine x_iconst (pc := 122) K dX8_readPeople_122 ?_
                        refine x_iald (pc := 123) 0 K (cel_self k4.1) rfl (by omega) (by decide) dX8_readPeople_123 ?_
                        refine x_st (st' := [.int (zI (y_65 : Int)), .int (zI (8 * (y_75 : Int))), .int (zI (y_54 : Int)), .int (zI z1), .ref (B + c)]) (rfl) ?_
                        refine x_iadd (pc := 124) K dX8_readPeople_124 ?_
                        refine x_aload_n (pc := 125) 1 K rfl rfl dX8_readPeople_125 ?_
                        refine x_get (pc := 126) (C := RX8) (T := TX8) (n := 9) (ci := 7) (idx := 15) (ref := "BorderBeds$Tape") (x := .ref (B + 4))  K (cel_ne (cel_self k2.1) (by decide)) rfl (by decide +kernel) 1 (by decide) (by decide +kernel) rfl rfl dX8_readPeople_126 ?_
                        refine x_iconst (pc := 129) K dX8_readPeople_129 ?_
                        refine x_iald (pc := 130) 2 K (cel_self k4.1) rfl (by omega) (by decide) dX8_readPeople_130 ?_
                        refine x_st (st' := [.int (zI (y_86 : Int)), .int (zI ((8 * (y_75 : Int)) + (y_65 : Int))), .int (zI (y_54 : Int)), .int (zI z1), .ref (B + c)]) (rfl) ?_
                        refine x_callV (pc := 131) (C := RX3) (T := TX3) (n := 11) (ci := 3) (As := [.int (zI z1), .int (zI (y_54 : Int)), .int (zI ((8 * (y_75 : Int)) + (y_65 : Int))), .int (zI (y_86 : Int))]) K (c_X3_addPerson (E := E) (B := B) (N := N3) (r := r3)  (cel_ne (cel_ne G0 (by omega)) (by omega)) (cel_ne (cel_ne G3 (by omega)) (by omega)) (by omega) (by omega) (by omega) kr) gX8_readPeople_X3_addPerson rfl (na := 4) (by decide +kernel) rfl ⟨(Nat.le_of_ble_eq_true rfl), (Nat.le_of_ble_eq_true rfl)⟩ (cel_ne (cel_ne G0 (by omega)) (by omega)) rfl (st := []) rfl (Nat.le_of_ble_eq_true rfl) ⟨(by show m3 + 1 ≤ 5; omega), (by show (4 * m3) + 4 ≤ 20; omega)⟩ dX8_readPeople_131 (fun r131 N131 w131 hpo131 hN131 => ?_)
                        obtain ⟨rfl, rfl, rfl⟩ := hpo131
                        refine x_N (M := (N3 + 1)) rfl ?_
                        refine x_v (congrArg (fun w => (va_up (va_up w (c + 3) (rarr E 5 5 B (psA c (perR r3 (z1, (y_54 : Int), ((8 * (y_75 : Int)) + (y_65 : Int)), (y_86 : Int)))))) N3 (.inr ((kci z1), [.int (zI (((r3 4).toNat : Nat) : Int)), .int (zI (y_54 : Int)), .int (zI ((8 * (y_75 : Int)) + (y_65 : Int))), .int (zI (y_86 : Int))])))) (show (va_up (va_up (va_up v3 2 (.inr (7, [.ref (B + 3), .ref (B + 4), .int (zI (n : Int)), .int (zI f), .int (zI pl), .int (zI (tokK t n e_93)), .int (zI (((skT t n e_93) : Nat) : Int)), .int (zI (((tokE t n e_93) : Nat) : Int)), .int (zI v2_93)]))) 4 (iarr E 4 (va_up (va_up (va_up (va_up tl3 3 (y_54 : Int)) 0 (y_65 : Int)) 1 (y_75 : Int)) 2 (y_86 : Int)))) c (.inr (3, [.int (zI ((perR r3 (z1, (y_54 : Int), ((8 * (y_75 : Int)) + (y_65 : Int)), (y_86 : Int))) 0)), .int (zI ((perR r3 (z1, (y_54 : Int), ((8 * (y_75 : Int)) + (y_65 : Int)), (y_86 : Int))) 1)), .int (zI ((perR r3 (z1, (y_54 : Int), ((8 * (y_75 : Int)) + (y_65 : Int)), (y_86 : Int))) 2)), .ref (B + (c + 1)), .ref (B + (c + 2)), .int (zI ((perR r3 (z1, (y_54 : Int), ((8 * (y_75 : Int)) + (y_65 : Int)), (y_86 : Int))) 3)), .ref (B + (c + 3)), .int (zI ((perR r3 (z1, (y_54 : Int), ((8 * (y_75 : Int)) + (y_65 : Int)), (y_86 : Int))) 4)), .ref (B + (c + 4)), .ref (B + (c + 13)), .ref (B + (c + 18))]))) = _ from rfl)) ?_
                        refine x_v (congrArg (fun w => (va_up w N3 (.inr ((kci z1), [.int (zI (((r3 4).toNat : Nat) : Int)), .int (zI (y_54 : Int)), .int (zI ((8 * (y_75 : Int)) + (y_65 : Int))), .int (zI (y_86 : Int))])))) (show (va_up (va_up (va_up (va_up v3 2 (.inr (7, [.ref (B + 3), .ref (B + 4), .int (zI (n : Int)), .int (zI f), .int (zI pl), .int (zI (tokK t n e_93)), .int (zI (((skT t n e_93) : Nat) : Int)), .int (zI (((tokE t n e_93) : Nat) : Int)), .int (zI v2_93)]))) 4 (iarr E 4 (va_up (va_up (va_up (va_up tl3 3 (y_54 : Int)) 0 (y_65 : Int)) 1 (y_75 : Int)) 2 (y_86 : Int)))) c (.inr (3, [.int (zI ((perR r3 (z1, (y_54 : Int), ((8 * (y_75 : Int)) + (y_65 : Int)), (y_86 : Int))) 0)), .int (zI ((perR r3 (z1, (y_54 : Int), ((8 * (y_75 : Int)) + (y_65 : Int)), (y_86 : Int))) 1)), .int (zI ((perR r3 (z1, (y_54 : Int), ((8 * (y_75 : Int)) + (y_65 : Int)), (y_86 : Int))) 2)), .ref (B + (c + 1)), .ref (B + (c + 2)), .int (zI ((perR r3 (z1, (y_54 : Int), ((8 * (y_75 : Int)) + (y_65 : Int)), (y_86 : Int))) 3)), .ref (B + (c + 3)), .int (zI ((perR r3 (z1, (y_54 : Int), ((8 * (y_75 : Int)) + (y_65 : Int)), (y_86 : Int))) 4)), .ref (B + (c + 4)), .ref (B + (c + 13)), .ref (B + (c + 18))]))) (c + 3) (rarr E 5 5 B (psA c (perR r3 (z1, (y_54 : Int), ((8 * (y_75 : Int)) + (y_65 : Int)), (y_86 : Int)))))) = _ from rfl)) ?_
                        refine x_v (w := (va_up (va_up (va_up (va_up (va_up v3 2 (.inr (7, [.ref (B + 3), .ref (B + 4), .int (zI (n : Int)), .int (zI f), .int (zI pl), .int (zI (tokK t n e_93)), .int (zI (((skT t n e_93) : Nat) : Int)), .int (zI (((tokE t n e_93) : Nat) : Int)), .int (zI v2_93)]))) 4 (iarr E 4 (va_up (va_up (va_up (va_up tl3 3 (y_54 : Int)) 0 (y_65 : Int)) 1 (y_75 : Int)) 2 (y_86 : Int)))) c (.inr (3, [.int (zI ((perR r3 (z1, (y_54 : Int), ((8 * (y_75 : Int)) + (y_65 : Int)), (y_86 : Int))) 0)), .int (zI ((perR r3 (z1, (y_54 : Int), ((8 * (y_75 : Int)) + (y_65 : Int)), (y_86 : Int))) 1)), .int (zI ((perR r3 (z1, (y_54 : Int), ((8 * (y_75 : Int)) + (y_65 : Int)), (y_86 : Int))) 2)), .ref (B + (c + 1)), .ref (B + (c + 2)), .int (zI ((perR r3 (z1, (y_54 : Int), ((8 * (y_75 : Int)) + (y_65 : Int)), (y_86 : Int))) 3)), .ref (B + (c + 3)), .int (zI ((perR r3 (z1, (y_54 : Int), ((8 * (y_75 : Int)) + (y_65 : Int)), (y_86 : Int))) 4)), .ref (B + (c + 4)), .ref (B + (c + 13)), .ref (B + (c + 18))]))) (c + 3) (rarr E 5 5 B (psA c (perR r3 (z1, (y_54 : Int), ((8 * (y_75 : Int)) + (y_65 : Int)), (y_86 : Int)))))) N3 (.inr ((kci z1), [.int (zI (((r3 4).toNat : Nat) : Int)), .int (zI (y_54 : Int)), .int (zI ((8 * (y_75 : Int)) + (y_65 : Int))), .int (zI (y_86 : Int))])))) rfl ?_
                        refine x_st (st' := []) rfl ?_
                        have hp4 := perR_at (q := (z1, (y_54 : Int), ((8 * (y_75 : Int)) + (y_65 : Int)), (y_86 : Int))) (show 0 ≤ r3 4 ∧ r3 4 < 5 by omega) (show 0 < 5 by omega)
                        have hQ9 : pLoop t n fu3 3 (perR r3 (kdT t n (tokE t n a3), (y_54 : Int), ((8 * y_75 + y_65 : Nat) : Int), (y_86 : Int))) g3 e_93 = pLoop t n fu3 3 (perR r3 (z1, (y_54 : Int), ((8 * (y_75 : Int)) + (y_65 : Int)), (y_86 : Int))) g3 e_93 := by rw [← hz1, show ((8 * y_75 + y_65 : Nat) : Int) = ((8 * (y_75 : Int)) + (y_65 : Int)) by omega]
                        refine x_iinc (pc := 134) (L' := [(2, .int (zI ((m3 : Int) + 1))), (3, .int (zI z1)), (0, .ref (B + 2)), (1, .ref (B + c))]) 3 K hnL rfl (by decide) rfl dX8_readPeople_134 ?_
                        refine x_goto (pc := 137) (tgt := 2) K dX8_readPeople_137 (by decide) ?_
                        refine x_sub (L' := [(0, .ref (B + 2)), (1, .ref (B + c)), (2, .int (zI ((m3 : Int) + 1)))]) [2, 3, 0] rfl ?_
                        exact ih2 (N3 + 1) (va_up (va_up (va_up (va_up (va_up v3 2 (.inr (7, [.ref (B + 3), .ref (B + 4), .int (zI (n : Int)), .int (zI f), .int (zI pl), .int (zI (tokK t n e_93)), .int (zI (((skT t n e_93) : Nat) : Int)), .int (zI (((tokE t n e_93) : Nat) : Int)), .int (zI v2_93)]))) 4 (iarr E 4 (va_up (va_up (va_up (va_up tl3 3 (y_54 : Int)) 0 (y_65 : Int)) 1 (y_75 : Int)) 2 (y_86 : Int)))) c (.inr (3, [.int (zI ((perR r3 (z1, (y_54 : Int), ((8 * (y_75 : Int)) + (y_65 : Int)), (y_86 : Int))) 0)), .int (zI ((perR r3 (z1, (y_54 : Int), ((8 * (y_75 : Int)) + (y_65 : Int)), (y_86 : Int))) 1)), .int (zI ((perR r3 (z1, (y_54 : Int), ((8 * (y_75 : Int)) + (y_65 : Int)), (y_86 : Int))) 2)), .ref (B + (c + 1)), .ref (B + (c + 2)), .int (zI ((perR r3 (z1, (y_54 : Int), ((8 * (y_75 : Int)) + (y_65 : Int)), (y_86 : Int))) 3)), .ref (B + (c + 3)), .int (zI ((perR r3 (z1, (y_54 : Int), ((8 * (y_75 : Int)) + (y_65 : Int)), (y_86 : Int))) 4)), .ref (B + (c + 4)), .ref (B + (c + 13)), .ref (B + (c + 18))]))) (c + 3) (rarr E 5 5 B (psA c (perR r3 (z1, (y_54 : Int), ((8 * (y_75 : Int)) + (y_65 : Int)), (y_86 : Int)))))) N3 (.inr ((kci z1), [.int (zI (((r3 4).toNat : Nat) : Int)), .int (zI (y_54 : Int)), .int (zI ((8 * (y_75 : Int)) + (y_65 : Int))), .int (zI (y_86 : Int))]))) e_93 (perR r3 (z1, (y_54 : Int), ((8 * (y_75 : Int)) + (y_65 : Int)), (y_86 : Int))) g3 (fu3 - 1) (va_up (va_up (va_up (va_up tl3 3 (y_54 : Int)) 0 (y_65 : Int)) 1 (y_75 : Int)) 2 (y_86 : Int)) v2_93 (m3 + 1) (RSx_mk (cel_ne (cel_ne (cel_ne (cel_ne (cel_self (Nat.lt_of_lt_of_le k2.1 (by omega))) (by decide)) (by omega)) (by omega)) (by omega)) (cel_ne (cel_ne (cel_ne (cel_ne (cel_ne (cel_gr k3 (by omega)) (by decide)) (by decide)) (by omega)) (by omega)) (by omega)) (cel_ne (cel_ne (cel_ne (cel_self (Nat.lt_of_lt_of_le k4.1 (by omega))) (by omega)) (by omega)) (by omega)) ho_93.2 hv_93 (GS_per (GS_fr kG (by omega) (Nat.le_refl _) (fun k h1 h2 h3 => by rw [va_up_ne _ _ (by omega), va_up_ne _ _ (by omega)])) (by omega) (by omega)) (rOk_per kr (by omega) (by show 1 ≤ z1 ∧ z1 ≤ 5; omega) (by show 0 ≤ (y_54 : Int) ∧ (y_54 : Int) ≤ 1; omega) (by show 0 ≤ ((8 * (y_75 : Int)) + (y_65 : Int)) ∧ ((8 * (y_75 : Int)) + (y_65 : Int)) ≤ 47; omega) (by show 0 ≤ (y_86 : Int) ∧ (y_86 : Int) ≤ 13; omega)) (by rw [show fu3 - 1 + 1 = fu3 by omega, kR]; exact (per_o (by omega) hb (by omega) (pPer_6 (by omega) hP_54 hP_65 hP_75 hP_86 hP_93)).trans hQ9) (by omega) (by omega) (by rw [hp4.2.2.2.2]; omega)) (fun q h1 h2 h3 => by rw [va_up_ne _ _ (by omega), va_up_ne _ _ (by omega), va_up_ne _ _ (by omega), va_up_ne _ _ (by omega), va_up_ne _ _ (by omega)] <;> exact hF3 q h1 h2 h3) (by rw [hp4.2.2.2.2]; omega) (by omega)
                      · skip
                        obtain ⟨g_93, p_93, hP_93, -, hf_93, hl_93⟩ := hp93_0.resolve_left (fun ⟨_, _, _, q, _⟩ => by omega)
                        clear hp93_0
                        clear hv_86
                        have hE9 : R0 = .error (g_93, p_93) := kR.trans (per_e (by omega) hb (by omega) (pPer_5 (by omega) hP_54 hP_65 hP_75 hP_86 hP_93))
                        refine x_iconst (pc := 99) K dX8_readPeople_99 ?_
                        refine x_zret (pc := 100) K KR (by omega) (by show m3 ≤ 5; omega) (by show (4 * m3) ≤ 20; omega) rfl dX8_readPeople_100 ?_
                        exact ⟨0, by omega, (fun q h1 h2 h3 => by rw [va_up_ne _ _ (by omega), va_up_ne _ _ (by omega)] <;> exact hF3 q h1 h2 h3), Or.inr ⟨rfl, RE_mk (p := p_93) (cel_ne (cel_self k2.1) (by decide)) (cel_self k4.1) (by rw [hE9, hf_93]) hl_93⟩, rfl⟩
            · skip
              have hE9 : R0 = .error (1, skT t n (tokE t n a3)) := kR.trans (per_e (by omega) hb (by omega) (pPer_0 (by omega)))
              refine x_aload_n (pc := 40) 1 K rfl rfl dX8_readPeople_40 ?_
              refine x_iconst (pc := 41) K dX8_readPeople_41 ?_
              refine x_callV (pc := 42) (C := RX8) (T := TX8) (n := 9) (ci := 7) (As := [.int (zI 1)]) K (c_X8_fails (E := E) (B := B) (N := N3)   (cel_self k2.1) ) gX8_readPeople_X8_fails rfl (na := 1) (by decide +kernel) rfl ⟨(Nat.le_of_ble_eq_true rfl), (Nat.le_of_ble_eq_true rfl)⟩ (cel_self k2.1) rfl (st := []) rfl (Nat.le_of_ble_eq_true rfl) ⟨(by show m3 + 0 ≤ 5; omega), (by show (4 * m3) + 0 ≤ 20; omega)⟩ dX8_readPeople_42 (fun r42 N42 w42 hpo42 hN42 => ?_)
              obtain ⟨rfl, rfl, rfl⟩ := hpo42
              refine x_v (w := (va_up v3 2 (.inr (7, [.ref (B + 3), .ref (B + 4), .int (zI ((((n : Int)).toNat) : Int)), .int (zI 1), .int (zI (((skT t n (tokE t n a3)) : Nat) : Int)), .int (zI (tokK t n (tokE t n a3))), .int (zI (((skT t n (tokE t n a3)) : Nat) : Int)), .int (zI (((tokE t n (tokE t n a3)) : Nat) : Int)), .int (zI v2_28)])))) (up_at0).symm ?_
              refine x_st (st' := [.int (zI 0)]) rfl ?_
              refine x_zret (pc := 45) K KR (by omega) (by show m3 ≤ 5; omega) (by show (4 * m3) ≤ 20; omega) (nb_ok (by omega)) dX8_readPeople_45 ?_
              exact ⟨0, by omega, (fun q h1 h2 h3 => by rw [va_up_ne _ _ (by omega)] <;> exact hF3 q h1 h2 h3), Or.inr ⟨rfl, RE_mk (p := skT t n (tokE t n a3)) (cel_self k2.1) (cel_ne k4 (by decide)) hE9 rfl⟩, rfl⟩
          · skip
            have hE9 : R0 = .error (3, skT t n a3) := kR.trans (per_f (by omega) hb (by omega))
            refine x_aload_n (pc := 21) 0 K rfl rfl dX8_readPeople_21 ?_
            refine x_iconst (pc := 22) K dX8_readPeople_22 ?_
            refine x_callV (pc := 23) (C := RX8) (T := TX8) (n := 9) (ci := 7) (As := [.int (zI 3)]) K (c_X8_fails (E := E) (B := B) (N := N3)   k2 ) gX8_readPeople_X8_fails rfl (na := 1) (by decide +kernel) rfl ⟨(Nat.le_of_ble_eq_true rfl), (Nat.le_of_ble_eq_true rfl)⟩ k2 rfl (st := []) rfl (Nat.le_of_ble_eq_true rfl) ⟨(by show m3 + 0 ≤ 5; omega), (by show (4 * m3) + 0 ≤ 20; omega)⟩ dX8_readPeople_23 (fun r23 N23 w23 hpo23 hN23 => ?_)
            obtain ⟨rfl, rfl, rfl⟩ := hpo23
            refine x_v (w := (va_up v3 2 (.inr (7, [.ref (B + 3), .ref (B + 4), .int (zI (n : Int)), .int (zI 3), .int (zI (((skT t n a3) : Nat) : Int)), .int (zI (tokK t n a3)), .int (zI (((skT t n a3) : Nat) : Int)), .int (zI (((tokE t n a3) : Nat) : Int)), .int (zI vv3)])))) rfl ?_
            refine x_st (st' := [.int (zI 0)]) rfl ?_
            refine x_zret (pc := 26) K KR (by omega) (by show m3 ≤ 5; omega) (by show (4 * m3) ≤ 20; omega) (nb_ok (by omega)) dX8_readPeople_26 ?_
            exact ⟨0, by omega, (fun q h1 h2 h3 => by rw [va_up_ne _ _ (by omega)] <;> exact hF3 q h1 h2 h3), Or.inr ⟨rfl, RE_mk (p := skT t n a3) (cel_self k2.1) (cel_ne k4 (by decide)) hE9 rfl⟩, rfl⟩
  refine x_sub (L' := [(0, .ref (B + 2)), (1, .ref (B + c)), (2, .int (zI 0))]) [1, 2, 0] rfl ?_
  exact LOOP2 (_) N v a0 r0 g0 fu0 tl0 vv0 0 hR0 (FRM_r v c) (by omega) (Nat.lt_succ_self _)
