theorem dX8_readPosts_0 : decode cX8_readPosts 0 = .ok (.aload_n 0, 1) := by decide +kernel
theorem dX8_readPosts_1 : decode cX8_readPosts 1 = .ok (.ldc 63, 2) := by decide +kernel
set_option maxRecDepth 20000 in
theorem ggX8_readPosts_X8_word : GoodIn wsX8_readPosts wsX8_word := goodIn_r _ [9, 10, 11, 12, 8, 13, 14, 15, 16, 17, 18, 19, 20, 21, 22, 23, 24, 25, 26, 27, 28, 29, 30, 31, 32, 33, 34, 35, 36, 37, 38, 39, 40, 41, 42, 43, 44, 45, 46, 47, 48, 49, 50, 51, 52, 53, 54, 55, 56, 57, 58, 59, 60, 61, 62, 63, 64, 65, 66, 67, 68, 69, 70, 71, 72, 73, 74, 75, 76, 77, 78, 79, 80, 81, 82, 83, 84, 85, 86, 87, 88, 89, 90, 91, 92, 93, 94, 95, 104, 105, 106, 107, 108, 109, 110, 111, 112] (by decide +kernel) (by decide +kernel)
set_option maxRecDepth 20000 in
theorem gX8_readPosts_X8_word : GoodIn wsX8_readPosts (wsV RX8 65 RX8 yX8_word wsX8_word) := goodIn_app (goodIn_of _ (by decide +kernel)) ggX8_readPosts_X8_word
theorem dX8_readPosts_3 : decode cX8_readPosts 3 = .ok (.invokevirtual 65, 3) := by decide +kernel
theorem dX8_readPosts_6 : decode cX8_readPosts 6 = .ok (.ifCond .eq 41, 3) := by decide +kernel
theorem dX8_readPosts_47 : decode cX8_readPosts 47 = .ok (.iconst 0, 1) := by decide +kernel
theorem dX8_readPosts_48 : decode cX8_readPosts 48 = .ok (.ireturn, 1) := by decide +kernel
theorem dX8_readPosts_9 : decode cX8_readPosts 9 = .ok (.aload_n 0, 1) := by decide +kernel
theorem dX8_readPosts_10 : decode cX8_readPosts 10 = .ok (.iconst 0, 1) := by decide +kernel
theorem dX8_readPosts_11 : decode cX8_readPosts 11 = .ok (.iconst 0, 1) := by decide +kernel
theorem dX8_readPosts_12 : decode cX8_readPosts 12 = .ok (.iconst 5, 1) := by decide +kernel
set_option maxRecDepth 20000 in
theorem ggX8_readPosts_X8_number : GoodIn wsX8_readPosts wsX8_number := goodIn_r _ [99, 14, 95, 1, 67, 68, 69, 8, 70, 71, 16, 72, 73, 74, 75, 76, 15, 77, 17, 78, 79, 80, 81, 82, 83, 84, 85, 86, 87, 88, 89, 90, 91, 92, 93, 94, 104, 105, 106, 107, 108, 109, 110, 111, 112] (by decide +kernel) (by decide +kernel)
set_option maxRecDepth 20000 in
theorem gX8_readPosts_X8_number : GoodIn wsX8_readPosts (wsV RX8 69 RX8 yX8_number wsX8_number) := goodIn_app (goodIn_of _ (by decide +kernel)) ggX8_readPosts_X8_number
theorem dX8_readPosts_13 : decode cX8_readPosts 13 = .ok (.invokevirtual 69, 3) := by decide +kernel
theorem dX8_readPosts_16 : decode cX8_readPosts 16 = .ok (.ifCond .eq 31, 3) := by decide +kernel
theorem dX8_readPosts_19 : decode cX8_readPosts 19 = .ok (.aload_n 0, 1) := by decide +kernel
theorem dX8_readPosts_20 : decode cX8_readPosts 20 = .ok (.iconst 1, 1) := by decide +kernel
theorem dX8_readPosts_21 : decode cX8_readPosts 21 = .ok (.iconst 0, 1) := by decide +kernel
theorem dX8_readPosts_22 : decode cX8_readPosts 22 = .ok (.iconst 5, 1) := by decide +kernel
theorem dX8_readPosts_23 : decode cX8_readPosts 23 = .ok (.invokevirtual 69, 3) := by decide +kernel
theorem dX8_readPosts_26 : decode cX8_readPosts 26 = .ok (.ifCond .eq 21, 3) := by decide +kernel
theorem dX8_readPosts_29 : decode cX8_readPosts 29 = .ok (.aload_n 0, 1) := by decide +kernel
theorem dX8_readPosts_30 : decode cX8_readPosts 30 = .ok (.iconst 2, 1) := by decide +kernel
theorem dX8_readPosts_31 : decode cX8_readPosts 31 = .ok (.iconst 1, 1) := by decide +kernel
theorem dX8_readPosts_32 : decode cX8_readPosts 32 = .ok (.bipush 6, 2) := by decide +kernel
theorem dX8_readPosts_34 : decode cX8_readPosts 34 = .ok (.invokevirtual 69, 3) := by decide +kernel
theorem dX8_readPosts_37 : decode cX8_readPosts 37 = .ok (.ifCond .eq 10, 3) := by decide +kernel
theorem dX8_readPosts_40 : decode cX8_readPosts 40 = .ok (.aload_n 0, 1) := by decide +kernel
set_option maxRecDepth 20000 in
theorem ggX8_readPosts_X8_sign : GoodIn wsX8_readPosts wsX8_sign := goodIn_r _ [103, 14, 67, 68, 69, 8, 70, 71, 16, 72, 73, 74, 75, 76, 15, 77, 17, 78, 79, 80, 81, 82, 83, 84, 85, 86, 87, 88, 89, 90, 91, 92, 93, 94, 95, 104, 105, 106, 107, 108, 109, 110, 111, 112] (by decide +kernel) (by decide +kernel)
set_option maxRecDepth 20000 in
theorem gX8_readPosts_X8_sign : GoodIn wsX8_readPosts (wsV RX8 73 RX8 yX8_sign wsX8_sign) := goodIn_app (goodIn_of _ (by decide +kernel)) ggX8_readPosts_X8_sign
theorem dX8_readPosts_41 : decode cX8_readPosts 41 = .ok (.invokevirtual 73, 3) := by decide +kernel
theorem dX8_readPosts_44 : decode cX8_readPosts 44 = .ok (.ifCond .ne 5, 3) := by decide +kernel
theorem dX8_readPosts_49 : decode cX8_readPosts 49 = .ok (.aload_n 1, 1) := by decide +kernel
theorem dX8_readPosts_50 : decode cX8_readPosts 50 = .ok (.aload_n 0, 1) := by decide +kernel
theorem dX8_readPosts_51 : decode cX8_readPosts 51 = .ok (.getfield 15, 3) := by decide +kernel
theorem dX8_readPosts_54 : decode cX8_readPosts 54 = .ok (.iconst 0, 1) := by decide +kernel
theorem dX8_readPosts_55 : decode cX8_readPosts 55 = .ok (.iaload, 1) := by decide +kernel
theorem dX8_readPosts_56 : decode cX8_readPosts 56 = .ok (.putfield 77, 3) := by decide +kernel
theorem dX8_readPosts_59 : decode cX8_readPosts 59 = .ok (.aload_n 1, 1) := by decide +kernel
theorem dX8_readPosts_60 : decode cX8_readPosts 60 = .ok (.aload_n 0, 1) := by decide +kernel
theorem dX8_readPosts_61 : decode cX8_readPosts 61 = .ok (.getfield 15, 3) := by decide +kernel
theorem dX8_readPosts_64 : decode cX8_readPosts 64 = .ok (.iconst 1, 1) := by decide +kernel
theorem dX8_readPosts_65 : decode cX8_readPosts 65 = .ok (.iaload, 1) := by decide +kernel
theorem dX8_readPosts_66 : decode cX8_readPosts 66 = .ok (.putfield 80, 3) := by decide +kernel
theorem dX8_readPosts_69 : decode cX8_readPosts 69 = .ok (.aload_n 1, 1) := by decide +kernel
theorem dX8_readPosts_70 : decode cX8_readPosts 70 = .ok (.aload_n 0, 1) := by decide +kernel
theorem dX8_readPosts_71 : decode cX8_readPosts 71 = .ok (.getfield 15, 3) := by decide +kernel
theorem dX8_readPosts_74 : decode cX8_readPosts 74 = .ok (.iconst 2, 1) := by decide +kernel
theorem dX8_readPosts_75 : decode cX8_readPosts 75 = .ok (.iaload, 1) := by decide +kernel
theorem dX8_readPosts_76 : decode cX8_readPosts 76 = .ok (.putfield 83, 3) := by decide +kernel
theorem dX8_readPosts_79 : decode cX8_readPosts 79 = .ok (.iconst 1, 1) := by decide +kernel
theorem dX8_readPosts_80 : decode cX8_readPosts 80 = .ok (.ireturn, 1) := by decide +kernel
set_option maxRecDepth 100000 in
set_option maxHeartbeats 4000000 in
theorem c_X8_readPosts {E : XE} {B N : Nat} {v : Nat → va_E} {c n : Nat} {f pl : Int} {t : Nat → Int} {R0 : Except (Int × Nat) (Nat → Int)} {vv : Int} {tl3 : Nat → Int} (hc0 : Cel N v 2 (.inr (7, [.ref (B + 3), .ref (B + 4), .int (zI (n : Int)), .int (zI f), .int (zI pl), .int (zI (tokK t n 0)), .int (zI (((skT t n 0) : Nat) : Int)), .int (zI (((tokE t n 0) : Nat) : Int)), .int (zI vv)]))) (hc1 : Cel N v 3 (iarr E 400 t)) (hc2 : Cel N v 4 (iarr E 4 tl3)) (hq0 : n ≤ 400) (hq1 : ∀ i : Nat, 0 ≤ t i ∧ t i ≤ 255) (hq2 : 4 < c) (hq3 : R0 = pAll t n) (hq4 : tokK t n 0 = 2 → vv = tokV t n 0) (hq5 : GSx E B N v c 0 0 1 (fun _ => 0)) (hq6 : N = c + 23) : gM yX8_readPosts wsX8_readPosts ({ frames := 6, cells := 0, slots := 0, locals := 133 }) E B N v [.ref (B + 2), .ref (B + c)] (fun ρ N' v' => ∃ (res : Int), (N ≤ N') ∧ (FRM v v' c) ∧ ((res = 1 ∧ RS E B N' v' c n t f pl 1 R0) ∨ (res = 0 ∧ RE E B N' v' n R0)) ∧ ρ = some (.int (zI res))) := by
  refine x_met (nm := "readPosts") (by decide +kernel) rfl (Nat.le_of_ble_eq_true rfl) rfl (fun Γ K KR hnL hnm => ?_)
  show XW Γ N v [(0, .ref (B + 2)), (1, .ref (B + c))] 0 0 0 []
  have hF3 := FRM_r v c
  have kG9 := hq5
  obtain ⟨G0, G1, G2, G3, G4, G5, G6, G7, G8⟩ := kG9
  refine x_aload_n (pc := 0) 0 K rfl rfl dX8_readPosts_0 ?_
  refine x_ldcS (pc := 1) 0 K (by decide) rfl rfl dX8_readPosts_1 ?_
  refine x_callV (pc := 3) (C := RX8) (T := TX8) (n := 9) (ci := 7) (As := [.ref (E.2.2.1 0)]) K (c_X8_word (E := E) (B := B) (N := N) (i := 0) (a := 0) (n := n) (t := t)  hc0 hc1 (by omega) hq1 (by decide)) gX8_readPosts_X8_word rfl (na := 1) (by decide +kernel) rfl ⟨(Nat.le_of_ble_eq_true rfl), (Nat.le_of_ble_eq_true rfl)⟩ hc0 rfl (st := []) rfl (Nat.le_of_ble_eq_true rfl) ⟨(Nat.le_of_ble_eq_true rfl), (Nat.le_of_ble_eq_true rfl)⟩ dX8_readPosts_3 (fun r3 N3 w3 hpo3 hN3 => ?_)
  obtain ⟨rfl, res_3, f2_3, pl2_3, so2_3, s2_3, e2_3, v2_3, hp3_0, rfl, rfl⟩ := hpo3
  refine x_v (w := (va_up v 2 (.inr (7, [.ref (B + 3), .ref (B + 4), .int (zI (n : Int)), .int (zI f2_3), .int (zI pl2_3), .int (zI so2_3), .int (zI s2_3), .int (zI e2_3), .int (zI v2_3)])))) rfl ?_
  refine x_st (st' := [.int (zI res_3)]) rfl ?_
  refine x_if_eq (pc := 6) (tgt := 47) K (by omega) dX8_readPosts_6 (by decide) (fun h_6 => ?_) (fun h_6 => ?_)
  · skip
    obtain ⟨hw, -, hf_3, hl_3⟩ := hp3_0.resolve_left (fun ⟨_, q, _⟩ => by omega)
    clear hp3_0
    obtain ⟨p_3, hp_3⟩ : ∃ p : Nat, p = skT t n 0 := ⟨_, rfl⟩
    rw [← hp_3] at hl_3
    have hE9 : R0 = .error (1, p_3) := by rw [hp_3]; exact hq3.trans (pPost_e0 (fun q => hw ((isW_0 (t := t) (Nat.zero_le n)).mpr q)))
    refine x_iconst (pc := 47) K dX8_readPosts_47 ?_
    refine x_zret (pc := 48) K KR (by omega) (Nat.le_of_ble_eq_true rfl) (Nat.le_of_ble_eq_true rfl) rfl dX8_readPosts_48 ?_
    exact ⟨0, by omega, (fun q h1 h2 h3 => by rw [va_up_ne _ _ (by omega)] <;> exact hF3 q h1 h2 h3), Or.inr ⟨rfl, RE_mk (p := p_3) (cel_self hc0.1) (cel_ne hc2 (by decide)) (by rw [hE9, hf_3]) hl_3⟩, rfl⟩
  · skip
    obtain ⟨hw, -, ⟨hf_3, hg_3⟩, ⟨hk_3, hs_3, hE_3, hv_3⟩⟩ := hp3_0.resolve_right (fun ⟨_, q, _⟩ => by omega)
    clear hp3_0
    subst f2_3
    subst pl2_3
    subst so2_3
    subst s2_3
    subst e2_3
    have hW := (isW_0 (t := t) (Nat.zero_le n)).mp hw
    have her0 := (tokE_rng (t := t) (Nat.zero_le n)).2.1
    have her1 := (tokE_rng (t := t) her0).2.1
    clear hq4
    refine x_aload_n (pc := 9) 0 K rfl rfl dX8_readPosts_9 ?_
    refine x_iconst (pc := 10) K dX8_readPosts_10 ?_
    refine x_iconst (pc := 11) K dX8_readPosts_11 ?_
    refine x_iconst (pc := 12) K dX8_readPosts_12 ?_
    refine x_callV (pc := 13) (C := RX8) (T := TX8) (n := 9) (ci := 7) (As := [.int (zI 0), .int (zI 0), .int (zI 5)]) K (c_X8_number (E := E) (B := B) (N := N) (a := (tokE t n 0)) (n := n) (t := t) (i := 0) rfl (cel_self hc0.1) (cel_ne hc1 (by decide)) (cel_ne hc2 (by decide)) (by omega) hq1 (by decide) (by omega) (by omega) hv_3) gX8_readPosts_X8_number rfl (na := 3) (by decide +kernel) rfl ⟨(Nat.le_of_ble_eq_true rfl), (Nat.le_of_ble_eq_true rfl)⟩ (cel_self hc0.1) rfl (st := []) rfl (Nat.le_of_ble_eq_true rfl) ⟨(Nat.le_of_ble_eq_true rfl), (Nat.le_of_ble_eq_true rfl)⟩ dX8_readPosts_13 (fun r13 N13 w13 hpo13 hN13 => ?_)
    obtain ⟨rfl, res_13, f2_13, pl2_13, so2_13, s2_13, e2_13, v2_13, tl2_13, hp13_0, rfl, rfl⟩ := hpo13
    refine x_v (congrArg (fun w => (va_up w 4 (iarr E 4 tl2_13))) (show (va_up v 2 (.inr (7, [.ref (B + 3), .ref (B + 4), .int (zI (n : Int)), .int (zI f2_13), .int (zI pl2_13), .int (zI so2_13), .int (zI s2_13), .int (zI e2_13), .int (zI v2_13)]))) = _ from (up_at0).symm)) ?_
    refine x_v (w := (va_up (va_up v 2 (.inr (7, [.ref (B + 3), .ref (B + 4), .int (zI (n : Int)), .int (zI f2_13), .int (zI pl2_13), .int (zI so2_13), .int (zI s2_13), .int (zI e2_13), .int (zI v2_13)]))) 4 (iarr E 4 tl2_13))) rfl ?_
    refine x_st (st' := [.int (zI res_13)]) rfl ?_
    refine x_if_eq (pc := 16) (tgt := 47) K (by omega) dX8_readPosts_16 (by decide) (fun h_16 => ?_) (fun h_16 => ?_)
    · skip
      obtain ⟨g_13, p_13, hP_13, -, hf_13, hl_13⟩ := hp13_0.resolve_left (fun ⟨_, _, _, q, _⟩ => by omega)
      clear hp13_0
      clear hv_3
      have hE9 : R0 = .error (g_13, p_13) := hq3.trans (pPost_e1 hW hP_13)
      refine x_iconst (pc := 47) K dX8_readPosts_47 ?_
      refine x_zret (pc := 48) K KR (by omega) (Nat.le_of_ble_eq_true rfl) (Nat.le_of_ble_eq_true rfl) rfl dX8_readPosts_48 ?_
      exact ⟨0, by omega, (fun q h1 h2 h3 => by rw [va_up_ne _ _ (by omega), va_up_ne _ _ (by omega)] <;> exact hF3 q h1 h2 h3), Or.inr ⟨rfl, RE_mk (p := p_13) (cel_ne (cel_self hc0.1) (by decide)) (cel_self hc2.1) (by rw [hE9, hf_13]) hl_13⟩, rfl⟩
    · skip
      obtain ⟨x_13, e_13, hP_13, -, ⟨hf_13, hg_13⟩, ⟨hk_13, hs_13, hE_13, hv_13⟩, ht_13⟩ := hp13_0.resolve_right (fun ⟨_, _, _, q, _⟩ => by omega)
      clear hp13_0
      subst f2_13
      subst pl2_13
      subst so2_13
      subst s2_13
      subst e2_13
      subst tl2_13
      have ho_13 := pNum_ok hP_13 (by omega)
      obtain ⟨y_13, rfl⟩ : ∃ j : Nat, x_13 = (j : Int) := ⟨x_13.toNat, by omega⟩
      have her_13 := (tokE_rng (t := t) ho_13.2.2).2.1
      clear hv_3
      refine x_aload_n (pc := 19) 0 K rfl rfl dX8_readPosts_19 ?_
      refine x_iconst (pc := 20) K dX8_readPosts_20 ?_
      refine x_iconst (pc := 21) K dX8_readPosts_21 ?_
      refine x_iconst (pc := 22) K dX8_readPosts_22 ?_
      refine x_callV (pc := 23) (C := RX8) (T := TX8) (n := 9) (ci := 7) (As := [.int (zI 1), .int (zI 0), .int (zI 5)]) K (c_X8_number (E := E) (B := B) (N := N) (a := e_13) (n := n) (t := t) (i := 1) rfl (cel_ne (cel_self hc0.1) (by decide)) (cel_ne (cel_ne hc1 (by decide)) (by decide)) (cel_self hc2.1) (by omega) hq1 (by decide) (by omega) (by omega) hv_13) gX8_readPosts_X8_number rfl (na := 3) (by decide +kernel) rfl ⟨(Nat.le_of_ble_eq_true rfl), (Nat.le_of_ble_eq_true rfl)⟩ (cel_ne (cel_self hc0.1) (by decide)) rfl (st := []) rfl (Nat.le_of_ble_eq_true rfl) ⟨(Nat.le_of_ble_eq_true rfl), (Nat.le_of_ble_eq_true rfl)⟩ dX8_readPosts_23 (fun r23 N23 w23 hpo23 hN23 => ?_)
      obtain ⟨rfl, res_23, f2_23, pl2_23, so2_23, s2_23, e2_23, v2_23, tl2_23, hp23_0, rfl, rfl⟩ := hpo23
      refine x_v (congrArg (fun w => (va_up w 4 (iarr E 4 tl2_23))) (show (va_up (va_up v 2 (.inr (7, [.ref (B + 3), .ref (B + 4), .int (zI (n : Int)), .int (zI f2_23), .int (zI pl2_23), .int (zI so2_23), .int (zI s2_23), .int (zI e2_23), .int (zI v2_23)]))) 4 (iarr E 4 (va_up tl3 0 (y_13 : Int)))) = _ from (up_at1 (by decide)).symm)) ?_
      refine x_v (w := (va_up (va_up v 2 (.inr (7, [.ref (B + 3), .ref (B + 4), .int (zI (n : Int)), .int (zI f2_23), .int (zI pl2_23), .int (zI so2_23), .int (zI s2_23), .int (zI e2_23), .int (zI v2_23)]))) 4 (iarr E 4 tl2_23))) (up_at0).symm ?_
      refine x_st (st' := [.int (zI res_23)]) rfl ?_
      refine x_if_eq (pc := 26) (tgt := 47) K (by omega) dX8_readPosts_26 (by decide) (fun h_26 => ?_) (fun h_26 => ?_)
      · skip
        obtain ⟨g_23, p_23, hP_23, -, hf_23, hl_23⟩ := hp23_0.resolve_left (fun ⟨_, _, _, q, _⟩ => by omega)
        clear hp23_0
        clear hv_13
        have hE9 : R0 = .error (g_23, p_23) := hq3.trans (pPost_e2 hW hP_13 hP_23)
        refine x_iconst (pc := 47) K dX8_readPosts_47 ?_
        refine x_zret (pc := 48) K KR (by omega) (Nat.le_of_ble_eq_true rfl) (Nat.le_of_ble_eq_true rfl) rfl dX8_readPosts_48 ?_
        exact ⟨0, by omega, (fun q h1 h2 h3 => by rw [va_up_ne _ _ (by omega), va_up_ne _ _ (by omega)] <;> exact hF3 q h1 h2 h3), Or.inr ⟨rfl, RE_mk (p := p_23) (cel_ne (cel_self hc0.1) (by decide)) (cel_self hc2.1) (by rw [hE9, hf_23]) hl_23⟩, rfl⟩
      · skip
        obtain ⟨x_23, e_23, hP_23, -, ⟨hf_23, hg_23⟩, ⟨hk_23, hs_23, hE_23, hv_23⟩, ht_23⟩ := hp23_0.resolve_right (fun ⟨_, _, _, q, _⟩ => by omega)
        clear hp23_0
        subst f2_23
        subst pl2_23
        subst so2_23
        subst s2_23
        subst e2_23
        subst tl2_23
        have ho_23 := pNum_ok hP_23 (by omega)
        obtain ⟨y_23, rfl⟩ : ∃ j : Nat, x_23 = (j : Int) := ⟨x_23.toNat, by omega⟩
        have her_23 := (tokE_rng (t := t) ho_23.2.2).2.1
        clear hv_13
        refine x_aload_n (pc := 29) 0 K rfl rfl dX8_readPosts_29 ?_
        refine x_iconst (pc := 30) K dX8_readPosts_30 ?_
        refine x_iconst (pc := 31) K dX8_readPosts_31 ?_
        refine x_bipush (pc := 32) K (by decide) dX8_readPosts_32 ?_
        refine x_callV (pc := 34) (C := RX8) (T := TX8) (n := 9) (ci := 7) (As := [.int (zI 2), .int (zI 1), .int (zI 6)]) K (c_X8_number (E := E) (B := B) (N := N) (a := e_23) (n := n) (t := t) (i := 2) rfl (cel_ne (cel_self hc0.1) (by decide)) (cel_ne (cel_ne hc1 (by decide)) (by decide)) (cel_self hc2.1) (by omega) hq1 (by decide) (by omega) (by omega) hv_23) gX8_readPosts_X8_number rfl (na := 3) (by decide +kernel) rfl ⟨(Nat.le_of_ble_eq_true rfl), (Nat.le_of_ble_eq_true rfl)⟩ (cel_ne (cel_self hc0.1) (by decide)) rfl (st := []) rfl (Nat.le_of_ble_eq_true rfl) ⟨(Nat.le_of_ble_eq_true rfl), (Nat.le_of_ble_eq_true rfl)⟩ dX8_readPosts_34 (fun r34 N34 w34 hpo34 hN34 => ?_)
        obtain ⟨rfl, res_34, f2_34, pl2_34, so2_34, s2_34, e2_34, v2_34, tl2_34, hp34_0, rfl, rfl⟩ := hpo34
        refine x_v (congrArg (fun w => (va_up w 4 (iarr E 4 tl2_34))) (show (va_up (va_up v 2 (.inr (7, [.ref (B + 3), .ref (B + 4), .int (zI (n : Int)), .int (zI f2_34), .int (zI pl2_34), .int (zI so2_34), .int (zI s2_34), .int (zI e2_34), .int (zI v2_34)]))) 4 (iarr E 4 (va_up (va_up tl3 0 (y_13 : Int)) 1 (y_23 : Int)))) = _ from (up_at1 (by decide)).symm)) ?_
        refine x_v (w := (va_up (va_up v 2 (.inr (7, [.ref (B + 3), .ref (B + 4), .int (zI (n : Int)), .int (zI f2_34), .int (zI pl2_34), .int (zI so2_34), .int (zI s2_34), .int (zI e2_34), .int (zI v2_34)]))) 4 (iarr E 4 tl2_34))) (up_at0).symm ?_
        refine x_st (st' := [.int (zI res_34)]) rfl ?_
        refine x_if_eq (pc := 37) (tgt := 47) K (by omega) dX8_readPosts_37 (by decide) (fun h_37 => ?_) (fun h_37 => ?_)
        · skip
          obtain ⟨g_34, p_34, hP_34, -, hf_34, hl_34⟩ := hp34_0.resolve_left (fun ⟨_, _, _, q, _⟩ => by omega)
          clear hp34_0
          clear hv_23
          have hE9 : R0 = .error (g_34, p_34) := hq3.trans (pPost_e3 hW hP_13 hP_23 hP_34)
          refine x_iconst (pc := 47) K dX8_readPosts_47 ?_
          refine x_zret (pc := 48) K KR (by omega) (Nat.le_of_ble_eq_true rfl) (Nat.le_of_ble_eq_true rfl) rfl dX8_readPosts_48 ?_
          exact ⟨0, by omega, (fun q h1 h2 h3 => by rw [va_up_ne _ _ (by omega), va_up_ne _ _ (by omega)] <;> exact hF3 q h1 h2 h3), Or.inr ⟨rfl, RE_mk (p := p_34) (cel_ne (cel_self hc0.1) (by decide)) (cel_self hc2.1) (by rw [hE9, hf_34]) hl_34⟩, rfl⟩
        · skip
          obtain ⟨x_34, e_34, hP_34, -, ⟨hf_34, hg_34⟩, ⟨hk_34, hs_34, hE_34, hv_34⟩, ht_34⟩ := hp34_0.resolve_right (fun ⟨_, _, _, q, _⟩ => by omega)
          clear hp34_0
          subst f2_34
          subst pl2_34
          subst so2_34
          subst s2_34
          subst e2_34
          subst tl2_34
          have ho_34 := pNum_ok hP_34 (by omega)
          obtain ⟨y_34, rfl⟩ : ∃ j : Nat, x_34 = (j : Int) := ⟨x_34.toNat, by omega⟩
          have her_34 := (tokE_rng (t := t) ho_34.2.2).2.1
          clear hv_23
          refine x_aload_n (pc := 40) 0 K rfl rfl dX8_readPosts_40 ?_
          refine x_callV (pc := 41) (C := RX8) (T := TX8) (n := 9) (ci := 7) (As := []) K (c_X8_sign (E := E) (B := B) (N := N) (a := e_34) (n := n) (t := t)  (cel_ne (cel_self hc0.1) (by decide)) (cel_ne (cel_ne hc1 (by decide)) (by decide)) (by omega) hq1) gX8_readPosts_X8_sign rfl (na := 0) (by decide +kernel) rfl ⟨(Nat.le_of_ble_eq_true rfl), (Nat.le_of_ble_eq_true rfl)⟩ (cel_ne (cel_self hc0.1) (by decide)) rfl (st := []) rfl (Nat.le_of_ble_eq_true rfl) ⟨(Nat.le_of_ble_eq_true rfl), (Nat.le_of_ble_eq_true rfl)⟩ dX8_readPosts_41 (fun r41 N41 w41 hpo41 hN41 => ?_)
          obtain ⟨rfl, res_41, f2_41, pl2_41, so2_41, s2_41, e2_41, v2_41, hp41_0, rfl, rfl⟩ := hpo41
          refine x_v (w := (va_up (va_up v 2 (.inr (7, [.ref (B + 3), .ref (B + 4), .int (zI (n : Int)), .int (zI f2_41), .int (zI pl2_41), .int (zI so2_41), .int (zI s2_41), .int (zI e2_41), .int (zI v2_41)]))) 4 (iarr E 4 (va_up (va_up (va_up tl3 0 (y_13 : Int)) 1 (y_23 : Int)) 2 (y_34 : Int))))) (up_at1 (by decide)).symm ?_
          refine x_st (st' := [.int (zI res_41)]) rfl ?_
          refine x_if_ne (pc := 44) (tgt := 49) K (by omega) dX8_readPosts_44 (by decide) (fun h_44 => ?_) (fun h_44 => ?_)
          · skip
            obtain ⟨x_41, e_41, hP_41, -, ⟨hf_41, hg_41⟩, ⟨hk_41, hs_41, hE_41, hv_41⟩⟩ := hp41_0.resolve_right (fun ⟨_, _, _, q, _⟩ => by omega)
            clear hp41_0
            subst f2_41
            subst pl2_41
            subst so2_41
            subst s2_41
            subst e2_41
            have ho_41 := pSig_ok hP_41 (by omega)
            have her_41 := (tokE_rng (t := t) ho_41.2).2.1
            clear hv_34
            refine x_aload_n (pc := 49) 1 K rfl rfl dX8_readPosts_49 ?_
            refine x_aload_n (pc := 50) 0 K rfl rfl dX8_readPosts_50 ?_
            refine x_get (pc := 51) (C := RX8) (T := TX8) (n := 9) (ci := 7) (idx := 15) (ref := "BorderBeds$Tape") (x := .ref (B + 4))  K (cel_ne (cel_self hc0.1) (by decide)) rfl (by decide +kernel) 1 (by decide) (by decide +kernel) rfl rfl dX8_readPosts_51 ?_
            refine x_iconst (pc := 54) K dX8_readPosts_54 ?_
            refine x_iald (pc := 55) 0 K (cel_self hc2.1) rfl (by omega) (by decide) dX8_readPosts_55 ?_
            refine x_st (st' := [.int (zI (y_13 : Int)), .ref (B + c)]) (rfl) ?_
            refine x_put (pc := 56) (C := RX3) (T := TX3) (n := 11) (ci := 3) (idx := 77) (ref := "BorderBeds$Ground") (ty := .int)  K (cel_ne (cel_ne G0 (by omega)) (by omega)) rfl (by decide +kernel) tyX3 tyX3_ok nmX3 0 (by decide) (by decide +kernel) rfl rfl (by decide +kernel) rfl rfl (Nat.le_of_ble_eq_true rfl) dX8_readPosts_56 ?_
            refine x_v (w := (va_up (va_up (va_up v 2 (.inr (7, [.ref (B + 3), .ref (B + 4), .int (zI (n : Int)), .int (zI f), .int (zI pl), .int (zI (tokK t n e_41)), .int (zI (((skT t n e_41) : Nat) : Int)), .int (zI (((tokE t n e_41) : Nat) : Int)), .int (zI v2_41)]))) 4 (iarr E 4 (va_up (va_up (va_up tl3 0 (y_13 : Int)) 1 (y_23 : Int)) 2 (y_34 : Int)))) c (.inr (3, [.int (zI (y_13 : Int)), .int (zI 0), .int (zI 1), .ref (B + (c + 1)), .ref (B + (c + 2)), .int (zI 0), .ref (B + (c + 3)), .int (zI 0), .ref (B + (c + 4)), .ref (B + (c + 13)), .ref (B + (c + 18))])))) rfl ?_
            refine x_aload_n (pc := 59) 1 K rfl rfl dX8_readPosts_59 ?_
            refine x_aload_n (pc := 60) 0 K rfl rfl dX8_readPosts_60 ?_
            refine x_get (pc := 61) (C := RX8) (T := TX8) (n := 9) (ci := 7) (idx := 15) (ref := "BorderBeds$Tape") (x := .ref (B + 4))  K (cel_ne (cel_ne (cel_self hc0.1) (by decide)) (by omega)) rfl (by decide +kernel) 1 (by decide) (by decide +kernel) rfl rfl dX8_readPosts_61 ?_
            refine x_iconst (pc := 64) K dX8_readPosts_64 ?_
            refine x_iald (pc := 65) 1 K (cel_ne (cel_self hc2.1) (by omega)) rfl (by omega) (by decide) dX8_readPosts_65 ?_
            refine x_st (st' := [.int (zI (y_23 : Int)), .ref (B + c)]) (rfl) ?_
            refine x_put (pc := 66) (C := RX3) (T := TX3) (n := 11) (ci := 3) (idx := 80) (ref := "BorderBeds$Ground") (ty := .int)  K (cel_self G0.1) rfl (by decide +kernel) tyX3 tyX3_ok nmX3 1 (by decide) (by decide +kernel) rfl rfl (by decide +kernel) rfl rfl (Nat.le_of_ble_eq_true rfl) dX8_readPosts_66 ?_
            refine x_v (w := (va_up (va_up (va_up v 2 (.inr (7, [.ref (B + 3), .ref (B + 4), .int (zI (n : Int)), .int (zI f), .int (zI pl), .int (zI (tokK t n e_41)), .int (zI (((skT t n e_41) : Nat) : Int)), .int (zI (((tokE t n e_41) : Nat) : Int)), .int (zI v2_41)]))) 4 (iarr E 4 (va_up (va_up (va_up tl3 0 (y_13 : Int)) 1 (y_23 : Int)) 2 (y_34 : Int)))) c (.inr (3, [.int (zI (y_13 : Int)), .int (zI (y_23 : Int)), .int (zI 1), .ref (B + (c + 1)), .ref (B + (c + 2)), .int (zI 0), .ref (B + (c + 3)), .int (zI 0), .ref (B + (c + 4)), .ref (B + (c + 13)), .ref (B + (c + 18))])))) (up_at0).symm ?_
            refine x_aload_n (pc := 69) 1 K rfl rfl dX8_readPosts_69 ?_
            refine x_aload_n (pc := 70) 0 K rfl rfl dX8_readPosts_70 ?_
            refine x_get (pc := 71) (C := RX8) (T := TX8) (n := 9) (ci := 7) (idx := 15) (ref := "BorderBeds$Tape") (x := .ref (B + 4))  K (cel_ne (cel_ne (cel_self hc0.1) (by decide)) (by omega)) rfl (by decide +kernel) 1 (by decide) (by decide +kernel) rfl rfl dX8_readPosts_71 ?_
            refine x_iconst (pc := 74) K dX8_readPosts_74 ?_
            refine x_iald (pc := 75) 2 K (cel_ne (cel_self hc2.1) (by omega)) rfl (by omega) (by decide) dX8_readPosts_75 ?_
            refine x_st (st' := [.int (zI (y_34 : Int)), .ref (B + c)]) (rfl) ?_
            refine x_put (pc := 76) (C := RX3) (T := TX3) (n := 11) (ci := 3) (idx := 83) (ref := "BorderBeds$Ground") (ty := .int)  K (cel_self G0.1) rfl (by decide +kernel) tyX3 tyX3_ok nmX3 2 (by decide) (by decide +kernel) rfl rfl (by decide +kernel) rfl rfl (Nat.le_of_ble_eq_true rfl) dX8_readPosts_76 ?_
            refine x_v (w := (va_up (va_up (va_up v 2 (.inr (7, [.ref (B + 3), .ref (B + 4), .int (zI (n : Int)), .int (zI f), .int (zI pl), .int (zI (tokK t n e_41)), .int (zI (((skT t n e_41) : Nat) : Int)), .int (zI (((tokE t n e_41) : Nat) : Int)), .int (zI v2_41)]))) 4 (iarr E 4 (va_up (va_up (va_up tl3 0 (y_13 : Int)) 1 (y_23 : Int)) 2 (y_34 : Int)))) c (.inr (3, [.int (zI (y_13 : Int)), .int (zI (y_23 : Int)), .int (zI (y_34 : Int)), .ref (B + (c + 1)), .ref (B + (c + 2)), .int (zI 0), .ref (B + (c + 3)), .int (zI 0), .ref (B + (c + 4)), .ref (B + (c + 13)), .ref (B + (c + 18))])))) (up_at0).symm ?_
            refine x_iconst (pc := 79) K dX8_readPosts_79 ?_
            refine x_zret (pc := 80) K KR (by omega) (Nat.le_of_ble_eq_true rfl) (Nat.le_of_ble_eq_true rfl) rfl dX8_readPosts_80 ?_
            exact ⟨1, by omega, (fun q h1 h2 h3 => by rw [va_up_ne _ _ (by omega), va_up_ne _ _ (by omega), va_up_ne _ _ (by omega)] <;> exact FRM_r v c q h1 h2 h3), Or.inl ⟨rfl, RS_mk (r := (postR (y_13 : Int) (y_23 : Int) (y_34 : Int))) (RSx_mk (tl := (va_up (va_up (va_up tl3 0 (y_13 : Int)) 1 (y_23 : Int)) 2 (y_34 : Int))) (cel_ne (cel_ne (cel_self hc0.1) (by decide)) (by omega)) (cel_ne (cel_ne (cel_ne hc1 (by decide)) (by decide)) (by omega)) (cel_ne (cel_self hc2.1) (by omega)) ho_41.2 hv_41 (GS_post (GSx_fr hq5 (by show (0 : Int) ≤ 5; omega) (Nat.le_refl _) (fun k h1 h2 h3 => by rw [va_up_ne _ _ (by omega), va_up_ne _ _ (by omega)]))) (rOk_post (by omega) (by omega) (by omega)) (hq3.trans (pPost_o hW hP_13 hP_23 hP_34 hP_41)) (by omega) (by omega) (by rw [(postR_34 _ _ _).2]; omega)) (fun _ => (postR_34 _ _ _).2) (fun _ => rfl) (fun _ => (postR_34 _ _ _).1)⟩, rfl⟩
          · skip
            obtain ⟨g_41, p_41, hP_41, -, hf_41, hl_41⟩ := hp41_0.resolve_left (fun ⟨_, _, _, q, _⟩ => by omega)
            clear hp41_0
            clear hv_34
            have hE9 : R0 = .error (g_41, p_41) := hq3.trans (pPost_e4 hW hP_13 hP_23 hP_34 hP_41)
            refine x_iconst (pc := 47) K dX8_readPosts_47 ?_
            refine x_zret (pc := 48) K KR (by omega) (Nat.le_of_ble_eq_true rfl) (Nat.le_of_ble_eq_true rfl) rfl dX8_readPosts_48 ?_
            exact ⟨0, by omega, (fun q h1 h2 h3 => by rw [va_up_ne _ _ (by omega), va_up_ne _ _ (by omega)] <;> exact hF3 q h1 h2 h3), Or.inr ⟨rfl, RE_mk (p := p_41) (cel_ne (cel_self hc0.1) (by decide)) (cel_self hc2.1) (by rw [hE9, hf_41]) hl_41⟩, rfl⟩
