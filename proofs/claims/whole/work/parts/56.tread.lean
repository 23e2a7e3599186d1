theorem dX8_word_0 : decode cX8_word 0 = .ok (.aload_n 0, 1) := by decide +kernel
theorem dX8_word_1 : decode cX8_word 1 = .ok (.aload_n 1, 1) := by decide +kernel
set_option maxRecDepth 20000 in
theorem ggX8_word_X8_isWord : GoodIn wsX8_word wsX8_isWord := goodIn_r _ [5, 6, 7, 8, 9, 10, 11, 12, 13, 14, 15, 16, 17, 18, 19, 20, 21, 22, 23, 24, 25, 26, 27, 28, 29, 30, 31, 32, 33, 34, 35, 36, 37, 38, 39, 40, 41, 42, 43, 44, 45, 46, 47, 48, 49, 50, 51, 52, 53, 54, 55, 56, 57, 58, 88, 89, 90, 91, 92, 93, 94, 95, 96] (by decide +kernel) (by decide +kernel)
set_option maxRecDepth 20000 in
theorem gX8_word_X8_isWord : GoodIn wsX8_word (wsV RX8 88 RX8 yX8_isWord wsX8_isWord) := goodIn_app (goodIn_of _ (by decide +kernel)) ggX8_word_X8_isWord
theorem dX8_word_2 : decode cX8_word 2 = .ok (.invokevirtual 88, 3) := by decide +kernel
theorem dX8_word_5 : decode cX8_word 5 = .ok (.ifCond .ne 9, 3) := by decide +kernel
theorem dX8_word_14 : decode cX8_word 14 = .ok (.aload_n 0, 1) := by decide +kernel
set_option maxRecDepth 20000 in
theorem ggX8_word_X8_step : GoodIn wsX8_word wsX8_step := goodIn_r _ [68, 7, 8, 69, 9, 6, 70, 71, 4, 72, 73, 74, 75, 76, 77, 78, 79, 80, 81, 82, 83, 84, 85, 86, 87, 88, 89, 90, 91, 92, 93, 94, 95, 96] (by decide +kernel) (by decide +kernel)
set_option maxRecDepth 20000 in
theorem gX8_word_X8_step : GoodIn wsX8_word (wsV RX8 43 RX8 yX8_step wsX8_step) := goodIn_app (goodIn_of _ (by decide +kernel)) ggX8_word_X8_step
theorem dX8_word_15 : decode cX8_word 15 = .ok (.invokevirtual 43, 3) := by decide +kernel
theorem dX8_word_18 : decode cX8_word 18 = .ok (.iconst 1, 1) := by decide +kernel
theorem dX8_word_19 : decode cX8_word 19 = .ok (.ireturn, 1) := by decide +kernel
theorem dX8_word_8 : decode cX8_word 8 = .ok (.aload_n 0, 1) := by decide +kernel
theorem dX8_word_9 : decode cX8_word 9 = .ok (.iconst 1, 1) := by decide +kernel
set_option maxRecDepth 20000 in
theorem ggX8_word_X8_fails : GoodIn wsX8_word wsX8_fails := goodIn_r _ [62, 63, 8, 64, 88, 89, 90, 91, 92, 93, 94, 95, 96] (by decide +kernel) (by decide +kernel)
set_option maxRecDepth 20000 in
theorem gX8_word_X8_fails : GoodIn wsX8_word (wsV RX8 59 RX8 yX8_fails wsX8_fails) := goodIn_app (goodIn_of _ (by decide +kernel)) ggX8_word_X8_fails
theorem dX8_word_10 : decode cX8_word 10 = .ok (.invokevirtual 59, 3) := by decide +kernel
theorem dX8_word_13 : decode cX8_word 13 = .ok (.ireturn, 1) := by decide +kernel
theorem dX8_kindTold_0 : decode cX8_kindTold 0 = .ok (.aload_n 0, 1) := by decide +kernel
theorem dX8_kindTold_1 : decode cX8_kindTold 1 = .ok (.ldc 111, 2) := by decide +kernel
set_option maxRecDepth 20000 in
theorem ggX8_kindTold_X8_isWord : GoodIn wsX8_kindTold wsX8_isWord := goodIn_r _ [5, 6, 7, 8, 9, 10, 11, 12, 13, 14, 15, 16, 17, 18, 19, 20, 21, 22, 23, 24, 25, 26, 27, 28, 29, 30, 31, 32, 33, 34, 35, 36, 37, 38, 39, 40, 41, 42, 43, 44, 45, 46, 47, 48, 49, 50, 51, 52, 53, 54, 55, 56, 57, 58, 59, 60, 61, 62, 63, 64, 65, 66, 67] (by decide +kernel) (by decide +kernel)
set_option maxRecDepth 20000 in
theorem gX8_kindTold_X8_isWord : GoodIn wsX8_kindTold (wsV RX8 88 RX8 yX8_isWord wsX8_isWord) := goodIn_app (goodIn_of _ (by decide +kernel)) ggX8_kindTold_X8_isWord
theorem dX8_kindTold_3 : decode cX8_kindTold 3 = .ok (.invokevirtual 88, 3) := by decide +kernel
theorem dX8_kindTold_6 : decode cX8_kindTold 6 = .ok (.ifCond .eq 7, 3) := by decide +kernel
theorem dX8_kindTold_13 : decode cX8_kindTold 13 = .ok (.aload_n 0, 1) := by decide +kernel
theorem dX8_kindTold_14 : decode cX8_kindTold 14 = .ok (.ldc 115, 2) := by decide +kernel
theorem dX8_kindTold_16 : decode cX8_kindTold 16 = .ok (.invokevirtual 88, 3) := by decide +kernel
theorem dX8_kindTold_19 : decode cX8_kindTold 19 = .ok (.ifCond .eq 7, 3) := by decide +kernel
theorem dX8_kindTold_26 : decode cX8_kindTold 26 = .ok (.aload_n 0, 1) := by decide +kernel
theorem dX8_kindTold_27 : decode cX8_kindTold 27 = .ok (.ldc 119, 2) := by decide +kernel
theorem dX8_kindTold_29 : decode cX8_kindTold 29 = .ok (.invokevirtual 88, 3) := by decide +kernel
theorem dX8_kindTold_32 : decode cX8_kindTold 32 = .ok (.ifCond .eq 7, 3) := by decide +kernel
theorem dX8_kindTold_39 : decode cX8_kindTold 39 = .ok (.aload_n 0, 1) := by decide +kernel
theorem dX8_kindTold_40 : decode cX8_kindTold 40 = .ok (.ldc 123, 2) := by decide +kernel
theorem dX8_kindTold_42 : decode cX8_kindTold 42 = .ok (.invokevirtual 88, 3) := by decide +kernel
theorem dX8_kindTold_45 : decode cX8_kindTold 45 = .ok (.ifCond .eq 7, 3) := by decide +kernel
theorem dX8_kindTold_52 : decode cX8_kindTold 52 = .ok (.aload_n 0, 1) := by decide +kernel
theorem dX8_kindTold_53 : decode cX8_kindTold 53 = .ok (.ldc 127, 2) := by decide +kernel
theorem dX8_kindTold_55 : decode cX8_kindTold 55 = .ok (.invokevirtual 88, 3) := by decide +kernel
theorem dX8_kindTold_58 : decode cX8_kindTold 58 = .ok (.ifCond .eq 7, 3) := by decide +kernel
theorem dX8_kindTold_65 : decode cX8_kindTold 65 = .ok (.iconst 0, 1) := by decide +kernel
theorem dX8_kindTold_66 : decode cX8_kindTold 66 = .ok (.ireturn, 1) := by decide +kernel
theorem dX8_kindTold_61 : decode cX8_kindTold 61 = .ok (.iconst 5, 1) := by decide +kernel
theorem dX8_kindTold_62 : decode cX8_kindTold 62 = .ok (.goto 4, 3) := by decide +kernel
theorem dX8_kindTold_48 : decode cX8_kindTold 48 = .ok (.iconst 4, 1) := by decide +kernel
theorem dX8_kindTold_49 : decode cX8_kindTold 49 = .ok (.goto 17, 3) := by decide +kernel
theorem dX8_kindTold_35 : decode cX8_kindTold 35 = .ok (.iconst 3, 1) := by decide +kernel
theorem dX8_kindTold_36 : decode cX8_kindTold 36 = .ok (.goto 30, 3) := by decide +kernel
theorem dX8_kindTold_22 : decode cX8_kindTold 22 = .ok (.iconst 2, 1) := by decide +kernel
theorem dX8_kindTold_23 : decode cX8_kindTold 23 = .ok (.goto 43, 3) := by decide +kernel
theorem dX8_kindTold_9 : decode cX8_kindTold 9 = .ok (.iconst 1, 1) := by decide +kernel
theorem dX8_kindTold_10 : decode cX8_kindTold 10 = .ok (.goto 56, 3) := by decide +kernel
set_option maxRecDepth 100000 in
set_option maxHeartbeats 4000000 in
theorem c_X8_word {E : XE} {B N : Nat} {v : Nat → va_E} {f pl vv : Int} {t : Nat → Int} {a n i : Nat} (hc0 : Cel N v 2 (.inr (7, [.ref (B + 3), .ref (B + 4), .int (zI (n : Int)), .int (zI f), .int (zI pl), .int (zI (tokK t n a)), .int (zI (((skT t n a) : Nat) : Int)), .int (zI (((tokE t n a) : Nat) : Int)), .int (zI vv)]))) (hc1 : Cel N v 3 (iarr E 400 t)) (hq0 : a ≤ n ∧ n ≤ 400) (hq1 : ∀ i : Nat, 0 ≤ t i ∧ t i ≤ 255) (hq2 : i < 9) : gM yX8_word wsX8_word ({ frames := 5, cells := 0, slots := 0, locals := 112 }) E B N v [.ref (B + 2), .ref (E.2.2.1 i)] (po0 N (fun ρ v' => ∃ (res : Int), ∃ (f2 : Int), ∃ (pl2 : Int), ∃ (so2 : Int), ∃ (s2 : Int), ∃ (e2 : Int), ∃ (v2 : Int), ((isW t n a i ∧ res = 1 ∧ (f2 = f ∧ pl2 = pl) ∧ TK t n (tokE t n a) so2 s2 e2 v2) ∨ (¬ isW t n a i ∧ res = 0 ∧ f2 = 1 ∧ pl2 = (skT t n a : Int))) ∧ ρ = some (.int (zI res)) ∧ (va_up v 2 (.inr (7, [.ref (B + 3), .ref (B + 4), .int (zI (n : Int)), .int (zI f2), .int (zI pl2), .int (zI so2), .int (zI s2), .int (zI e2), .int (zI v2)]))) = v')) := by
  refine x_met (nm := "word") (by decide +kernel) rfl (Nat.le_of_ble_eq_true rfl) rfl (fun Γ K KR hnL hnm => ?_)
  show XW Γ N v [(0, .ref (B + 2)), (1, .ref (E.2.2.1 i))] 0 0 0 []
  have hkr := tokK_rng t n a
  have her := tokE_rng (t := t) hq0.1
  refine x_v (cel_pad hc0) ?_
  refine x_aload_n (pc := 0) 0 K rfl rfl dX8_word_0 ?_
  refine x_aload_n (pc := 1) 1 K rfl rfl dX8_word_1 ?_
  refine x_callV (pc := 2) (C := RX8) (T := TX8) (n := 9) (ci := 7) (As := [.ref (E.2.2.1 i)]) K (c_X8_isWord (E := E) (B := B) (N := N) (i := i) (a := a) (n := n) (t := t)  (cel_self hc0.1) (cel_ne hc1 (by decide)) (by omega) hq1 hq2) gX8_word_X8_isWord rfl (na := 1) (by decide +kernel) rfl ⟨(Nat.le_of_ble_eq_true rfl), (Nat.le_of_ble_eq_true rfl)⟩ (cel_self hc0.1) rfl (st := []) rfl (Nat.le_of_ble_eq_true rfl) ⟨(Nat.le_of_ble_eq_true rfl), (Nat.le_of_ble_eq_true rfl)⟩ dX8_word_2 (fun r2 N2 w2 hpo2 hN2 => ?_)
  obtain ⟨rfl, res_2, hp2_0, rfl, rfl⟩ := hpo2
  refine x_st (st' := [.int (zI res_2)]) rfl ?_
  refine x_if_ne (pc := 5) (tgt := 14) K (by omega) dX8_word_5 (by decide) (fun h_5 => ?_) (fun h_5 => ?_)
  · skip
    refine x_aload_n (pc := 14) 0 K rfl rfl dX8_word_14 ?_
    refine x_callV (pc := 15) (C := RX8) (T := TX8) (n := 9) (ci := 7) (As := []) K (c_X8_step (E := E) (B := B) (N := N) (a := (tokE t n a)) (n := n)  (cel_self hc0.1) (cel_ne hc1 (by decide)) (by omega) hq1) gX8_word_X8_step rfl (na := 0) (by decide +kernel) rfl ⟨(Nat.le_of_ble_eq_true rfl), (Nat.le_of_ble_eq_true rfl)⟩ (cel_self hc0.1) rfl (st := []) rfl (Nat.le_of_ble_eq_true rfl) ⟨(Nat.le_of_ble_eq_true rfl), (Nat.le_of_ble_eq_true rfl)⟩ dX8_word_15 (fun r15 N15 w15 hpo15 hN15 => ?_)
    obtain ⟨rfl, v2_15, hp15_0, rfl, rfl⟩ := hpo15
    refine x_v (w := (va_up v 2 (.inr (7, [.ref (B + 3), .ref (B + 4), .int (zI (n : Int)), .int (zI f), .int (zI pl), .int (zI (tokK t n (tokE t n a))), .int (zI (((skT t n (tokE t n a)) : Nat) : Int)), .int (zI (((tokE t n (tokE t n a)) : Nat) : Int)), .int (zI v2_15)])))) (up_at0).symm ?_
    refine x_st (st' := []) rfl ?_
    refine x_iconst (pc := 18) K dX8_word_18 ?_
    refine x_zret (pc := 19) K KR (by omega) (Nat.le_of_ble_eq_true rfl) (Nat.le_of_ble_eq_true rfl) rfl dX8_word_19 ?_
    exact ⟨rfl, 1, f, pl, (tokK t n (tokE t n a)), (((skT t n (tokE t n a)) : Nat) : Int), (((tokE t n (tokE t n a)) : Nat) : Int), v2_15, (Or.inl ⟨(hp2_0.resolve_right (fun q => by omega)).2, rfl, ⟨rfl, rfl⟩, rfl, rfl, rfl, hp15_0⟩), rfl, rfl⟩
  · skip
    refine x_aload_n (pc := 8) 0 K rfl rfl dX8_word_8 ?_
    refine x_iconst (pc := 9) K dX8_word_9 ?_
    refine x_callV (pc := 10) (C := RX8) (T := TX8) (n := 9) (ci := 7) (As := [.int (zI 1)]) K (c_X8_fails (E := E) (B := B) (N := N)   (cel_self hc0.1) ) gX8_word_X8_fails rfl (na := 1) (by decide +kernel) rfl ⟨(Nat.le_of_ble_eq_true rfl), (Nat.le_of_ble_eq_true rfl)⟩ (cel_self hc0.1) rfl (st := []) rfl (Nat.le_of_ble_eq_true rfl) ⟨(Nat.le_of_ble_eq_true rfl), (Nat.le_of_ble_eq_true rfl)⟩ dX8_word_10 (fun r10 N10 w10 hpo10 hN10 => ?_)
    obtain ⟨rfl, rfl, rfl⟩ := hpo10
    refine x_v (w := (va_up v 2 (.inr (7, [.ref (B + 3), .ref (B + 4), .int (zI (n : Int)), .int (zI 1), .int (zI (((skT t n a) : Nat) : Int)), .int (zI (tokK t n a)), .int (zI (((skT t n a) : Nat) : Int)), .int (zI (((tokE t n a) : Nat) : Int)), .int (zI vv)])))) (up_at0).symm ?_
    refine x_st (st' := [.int (zI 0)]) rfl ?_
    refine x_zret (pc := 13) K KR (by omega) (Nat.le_of_ble_eq_true rfl) (Nat.le_of_ble_eq_true rfl) (nb_ok (by omega)) dX8_word_13 ?_
    exact ⟨rfl, 0, 1, (((skT t n a) : Nat) : Int), (tokK t n a), (((skT t n a) : Nat) : Int), (((tokE t n a) : Nat) : Int), vv, (Or.inr ⟨(hp2_0.resolve_left (fun q => by omega)).2, rfl, rfl, rfl⟩), rfl, rfl⟩

set_option maxRecDepth 100000 in
set_option maxHeartbeats 4000000 in
theorem c_X8_kindTold {E : XE} {B N : Nat} {v : Nat → va_E} {f pl vv : Int} {t : Nat → Int} {a n : Nat} (hc0 : Cel N v 2 (.inr (7, [.ref (B + 3), .ref (B + 4), .int (zI (n : Int)), .int (zI f), .int (zI pl), .int (zI (tokK t n a)), .int (zI (((skT t n a) : Nat) : Int)), .int (zI (((tokE t n a) : Nat) : Int)), .int (zI vv)]))) (hc1 : Cel N v 3 (iarr E 400 t)) (hq0 : a ≤ n ∧ n ≤ 400) (hq1 : ∀ i : Nat, 0 ≤ t i ∧ t i ≤ 255) : gM yX8_kindTold wsX8_kindTold ({ frames := 5, cells := 0, slots := 0, locals := 112 }) E B N v [.ref (B + 2)] (po0 N (fun ρ v' => ρ = some (.int (zI (kdT t n a))) ∧ v = v')) := by
  refine x_met (nm := "kindTold") (by decide +kernel) rfl (Nat.le_of_ble_eq_true rfl) rfl (fun Γ K KR hnL hnm => ?_)
  show XW Γ N v [(0, .ref (B + 2))] 0 0 0 []
  have hkr := tokK_rng t n a
  have her := tokE_rng (t := t) hq0.1
  refine x_aload_n (pc := 0) 0 K rfl rfl dX8_kindTold_0 ?_
  refine x_ldcS (pc := 1) 4 K (by decide) rfl rfl dX8_kindTold_1 ?_
  refine x_callV (pc := 3) (C := RX8) (T := TX8) (n := 9) (ci := 7) (As := [.ref (E.2.2.1 4)]) K (c_X8_isWord (E := E) (B := B) (N := N) (i := 4) (a := a) (n := n) (t := t)  hc0 hc1 (by omega) hq1 (by decide)) gX8_kindTold_X8_isWord rfl (na := 1) (by decide +kernel) rfl ⟨(Nat.le_of_ble_eq_true rfl), (Nat.le_of_ble_eq_true rfl)⟩ hc0 rfl (st := []) rfl (Nat.le_of_ble_eq_true rfl) ⟨(Nat.le_of_ble_eq_true rfl), (Nat.le_of_ble_eq_true rfl)⟩ dX8_kindTold_3 (fun r3 N3 w3 hpo3 hN3 => ?_)
  obtain ⟨rfl, res_3, hp3_0, rfl, rfl⟩ := hpo3
  refine x_st (st' := [.int (zI res_3)]) rfl ?_
  refine x_if_eq (pc := 6) (tgt := 13) K (by omega) dX8_kindTold_6 (by decide) (fun h_6 => ?_) (fun h_6 => ?_)
  · skip
    refine x_aload_n (pc := 13) 0 K rfl rfl dX8_kindTold_13 ?_
    refine x_ldcS (pc := 14) 5 K (by decide) rfl rfl dX8_kindTold_14 ?_
    refine x_callV (pc := 16) (C := RX8) (T := TX8) (n := 9) (ci := 7) (As := [.ref (E.2.2.1 5)]) K (c_X8_isWord (E := E) (B := B) (N := N) (i := 5) (a := a) (n := n) (t := t)  hc0 hc1 (by omega) hq1 (by decide)) gX8_kindTold_X8_isWord rfl (na := 1) (by decide +kernel) rfl ⟨(Nat.le_of_ble_eq_true rfl), (Nat.le_of_ble_eq_true rfl)⟩ hc0 rfl (st := []) rfl (Nat.le_of_ble_eq_true rfl) ⟨(Nat.le_of_ble_eq_true rfl), (Nat.le_of_ble_eq_true rfl)⟩ dX8_kindTold_16 (fun r16 N16 w16 hpo16 hN16 => ?_)
    obtain ⟨rfl, res_16, hp16_0, rfl, rfl⟩ := hpo16
    refine x_st (st' := [.int (zI res_16)]) rfl ?_
    refine x_if_eq (pc := 19) (tgt := 26) K (by omega) dX8_kindTold_19 (by decide) (fun h_19 => ?_) (fun h_19 => ?_)
    · skip
      refine x_aload_n (pc := 26) 0 K rfl rfl dX8_kindTold_26 ?_
      refine x_ldcS (pc := 27) 6 K (by decide) rfl rfl dX8_kindTold_27 ?_
      refine x_callV (pc := 29) (C := RX8) (T := TX8) (n := 9) (ci := 7) (As := [.ref (E.2.2.1 6)]) K (c_X8_isWord (E := E) (B := B) (N := N) (i := 6) (a := a) (n := n) (t := t)  hc0 hc1 (by omega) hq1 (by decide)) gX8_kindTold_X8_isWord rfl (na := 1) (by decide +kernel) rfl ⟨(Nat.le_of_ble_eq_true rfl), (Nat.le_of_ble_eq_true rfl)⟩ hc0 rfl (st := []) rfl (Nat.le_of_ble_eq_true rfl) ⟨(Nat.le_of_ble_eq_true rfl), (Nat.le_of_ble_eq_true rfl)⟩ dX8_kindTold_29 (fun r29 N29 w29 hpo29 hN29 => ?_)
      obtain ⟨rfl, res_29, hp29_0, rfl, rfl⟩ := hpo29
      refine x_st (st' := [.int (zI res_29)]) rfl ?_
      refine x_if_eq (pc := 32) (tgt := 39) K (by omega) dX8_kindTold_32 (by decide) (fun h_32 => ?_) (fun h_32 => ?_)
      · skip
        refine x_aload_n (pc := 39) 0 K rfl rfl dX8_kindTold_39 ?_
        refine x_ldcS (pc := 40) 7 K (by decide) rfl rfl dX8_kindTold_40 ?_
        refine x_callV (pc := 42) (C := RX8) (T := TX8) (n := 9) (ci := 7) (As := [.ref (E.2.2.1 7)]) K (c_X8_isWord (E := E) (B := B) (N := N) (i := 7) (a := a) (n := n) (t := t)  hc0 hc1 (by omega) hq1 (by decide)) gX8_kindTold_X8_isWord rfl (na := 1) (by decide +kernel) rfl ⟨(Nat.le_of_ble_eq_true rfl), (Nat.le_of_ble_eq_true rfl)⟩ hc0 rfl (st := []) rfl (Nat.le_of_ble_eq_true rfl) ⟨(Nat.le_of_ble_eq_true rfl), (Nat.le_of_ble_eq_true rfl)⟩ dX8_kindTold_42 (fun r42 N42 w42 hpo42 hN42 => ?_)
        obtain ⟨rfl, res_42, hp42_0, rfl, rfl⟩ := hpo42
        refine x_st (st' := [.int (zI res_42)]) rfl ?_
        refine x_if_eq (pc := 45) (tgt := 52) K (by omega) dX8_kindTold_45 (by decide) (fun h_45 => ?_) (fun h_45 => ?_)
        · skip
          refine x_aload_n (pc := 52) 0 K rfl rfl dX8_kindTold_52 ?_
          refine x_ldcS (pc := 53) 8 K (by decide) rfl rfl dX8_kindTold_53 ?_
          refine x_callV (pc := 55) (C := RX8) (T := TX8) (n := 9) (ci := 7) (As := [.ref (E.2.2.1 8)]) K (c_X8_isWord (E := E) (B := B) (N := N) (i := 8) (a := a) (n := n) (t := t)  hc0 hc1 (by omega) hq1 (by decide)) gX8_kindTold_X8_isWord rfl (na := 1) (by decide +kernel) rfl ⟨(Nat.le_of_ble_eq_true rfl), (Nat.le_of_ble_eq_true rfl)⟩ hc0 rfl (st := []) rfl (Nat.le_of_ble_eq_true rfl) ⟨(Nat.le_of_ble_eq_true rfl), (Nat.le_of_ble_eq_true rfl)⟩ dX8_kindTold_55 (fun r55 N55 w55 hpo55 hN55 => ?_)
          obtain ⟨rfl, res_55, hp55_0, rfl, rfl⟩ := hpo55
          refine x_st (st' := [.int (zI res_55)]) rfl ?_
          refine x_if_eq (pc := 58) (tgt := 65) K (by omega) dX8_kindTold_58 (by decide) (fun h_58 => ?_) (fun h_58 => ?_)
          · skip
            refine x_iconst (pc := 65) K dX8_kindTold_65 ?_
            refine x_iret (pc := 66) K KR (by omega) (Nat.le_of_ble_eq_true rfl) (Nat.le_of_ble_eq_true rfl) dX8_kindTold_66 ?_
            have hkw := isW_kds (t := t) hq0.1
            have hw0 := (hp3_0.resolve_left (fun q => by omega)).2
            have hw1 := (hp16_0.resolve_left (fun q => by omega)).2
            have hw2 := (hp29_0.resolve_left (fun q => by omega)).2
            have hw3 := (hp42_0.resolve_left (fun q => by omega)).2
            have hw4 := (hp55_0.resolve_left (fun q => by omega)).2
            exact ⟨rfl, ri (hkw.2.2.2.2.2 hw0 hw1 hw2 hw3 hw4).symm, rfl⟩
          · skip
            refine x_iconst (pc := 61) K dX8_kindTold_61 ?_
            refine x_goto (pc := 62) (tgt := 66) K dX8_kindTold_62 (by decide) ?_
            refine x_iret (pc := 66) K KR (by omega) (Nat.le_of_ble_eq_true rfl) (Nat.le_of_ble_eq_true rfl) dX8_kindTold_66 ?_
            have hkw := isW_kds (t := t) hq0.1
            have hw := (hp55_0.resolve_right (fun q => by omega)).2
            exact ⟨rfl, ri (hkw.2.2.2.2.1 hw).symm, rfl⟩
        · skip
          refine x_iconst (pc := 48) K dX8_kindTold_48 ?_
          refine x_goto (pc := 49) (tgt := 66) K dX8_kindTold_49 (by decide) ?_
          refine x_iret (pc := 66) K KR (by omega) (Nat.le_of_ble_eq_true rfl) (Nat.le_of_ble_eq_true rfl) dX8_kindTold_66 ?_
          have hkw := isW_kds (t := t) hq0.1
          have hw := (hp42_0.resolve_right (fun q => by omega)).2
          exact ⟨rfl, ri (hkw.2.2.2.1 hw).symm, rfl⟩
      · skip
        refine x_iconst (pc := 35) K dX8_kindTold_35 ?_
        refine x_goto (pc := 36) (tgt := 66) K dX8_kindTold_36 (by decide) ?_
        refine x_iret (pc := 66) K KR (by omega) (Nat.le_of_ble_eq_true rfl) (Nat.le_of_ble_eq_true rfl) dX8_kindTold_66 ?_
        have hkw := isW_kds (t := t) hq0.1
        have hw := (hp29_0.resolve_right (fun q => by omega)).2
        exact ⟨rfl, ri (hkw.2.2.1 hw).symm, rfl⟩
    · skip
      refine x_iconst (pc := 22) K dX8_kindTold_22 ?_
      refine x_goto (pc := 23) (tgt := 66) K dX8_kindTold_23 (by decide) ?_
      refine x_iret (pc := 66) K KR (by omega) (Nat.le_of_ble_eq_true rfl) (Nat.le_of_ble_eq_true rfl) dX8_kindTold_66 ?_
      have hkw := isW_kds (t := t) hq0.1
      have hw := (hp16_0.resolve_right (fun q => by omega)).2
      exact ⟨rfl, ri (hkw.2.1 hw).symm, rfl⟩
  · skip
    refine x_iconst (pc := 9) K dX8_kindTold_9 ?_
    refine x_goto (pc := 10) (tgt := 66) K dX8_kindTold_10 (by decide) ?_
    refine x_iret (pc := 66) K KR (by omega) (Nat.le_of_ble_eq_true rfl) (Nat.le_of_ble_eq_true rfl) dX8_kindTold_66 ?_
    have hkw := isW_kds (t := t) hq0.1
    have hw := (hp3_0.resolve_right (fun q => by omega)).2
    exact ⟨rfl, ri (hkw.1 hw).symm, rfl⟩
