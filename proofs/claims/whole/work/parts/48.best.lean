theorem dX3_bestOf_0 : decode cX3_bestOf 0 = .ok (.ldc 121, 2) := by decide +kernel
theorem dX3_bestOf_2 : decode cX3_bestOf 2 = .ok (.istore_n 3, 1) := by decide +kernel
theorem dX3_bestOf_3 : decode cX3_bestOf 3 = .ok (.iconst 0, 1) := by decide +kernel
theorem dX3_bestOf_4 : decode cX3_bestOf 4 = .ok (.istore 4, 2) := by decide +kernel
theorem dX3_bestOf_6 : decode cX3_bestOf 6 = .ok (.iconst 0, 1) := by decide +kernel
theorem dX3_bestOf_7 : decode cX3_bestOf 7 = .ok (.istore 5, 2) := by decide +kernel
theorem dX3_bestOf_9 : decode cX3_bestOf 9 = .ok (.iconst 0, 1) := by decide +kernel
theorem dX3_bestOf_10 : decode cX3_bestOf 10 = .ok (.istore 6, 2) := by decide +kernel
theorem dX3_bestOf_12 : decode cX3_bestOf 12 = .ok (.iload 6, 2) := by decide +kernel
theorem dX3_bestOf_14 : decode cX3_bestOf 14 = .ok (.bipush 48, 2) := by decide +kernel
theorem dX3_bestOf_16 : decode cX3_bestOf 16 = .ok (.if_icmp .ge 92, 3) := by decide +kernel
theorem dX3_bestOf_108 : decode cX3_bestOf 108 = .ok (.iload_n 3, 1) := by decide +kernel
theorem dX3_bestOf_109 : decode cX3_bestOf 109 = .ok (.ireturn, 1) := by decide +kernel
theorem dX3_bestOf_19 : decode cX3_bestOf 19 = .ok (.aload_n 0, 1) := by decide +kernel
theorem dX3_bestOf_20 : decode cX3_bestOf 20 = .ok (.aload_n 1, 1) := by decide +kernel
theorem dX3_bestOf_21 : decode cX3_bestOf 21 = .ok (.iload 6, 2) := by decide +kernel
theorem dX3_bestOf_23 : decode cX3_bestOf 23 = .ok (.aload_n 2, 1) := by decide +kernel
set_option maxRecDepth 20000 in
theorem ggX3_bestOf_X3_mayCross : GoodIn wsX3_bestOf wsX3_mayCross := goodIn_r _ [7, 8, 9, 10, 11, 12, 13, 2, 14, 15, 16, 17, 18, 19, 20, 21, 22, 23, 24, 25, 26, 27, 28, 29, 30, 31, 32, 33, 34, 35, 36, 37, 106, 107, 108, 109, 110, 111, 112, 113, 114, 115, 116, 117, 118, 119, 120, 121, 122, 123, 124, 125, 126, 127, 128, 129, 130, 131, 132, 133, 134, 135, 136, 137, 138, 139, 140, 141] (by decide +kernel) (by decide +kernel)
set_option maxRecDepth 20000 in
theorem gX3_bestOf_X3_mayCross : GoodIn wsX3_bestOf (wsV RX3 102 RX3 yX3_mayCross wsX3_mayCross) := goodIn_app (goodIn_of _ (by decide +kernel)) ggX3_bestOf_X3_mayCross
theorem dX3_bestOf_24 : decode cX3_bestOf 24 = .ok (.invokevirtual 102, 3) := by decide +kernel
theorem dX3_bestOf_27 : decode cX3_bestOf 27 = .ok (.ifCond .eq 75, 3) := by decide +kernel
theorem dX3_bestOf_102 : decode cX3_bestOf 102 = .ok (.iinc 6 1, 3) := by decide +kernel
theorem dX3_bestOf_105 : decode cX3_bestOf 105 = .ok (.goto (-93), 3) := by decide +kernel
theorem dX3_bestOf_30 : decode cX3_bestOf 30 = .ok (.aload_n 0, 1) := by decide +kernel
theorem dX3_bestOf_31 : decode cX3_bestOf 31 = .ok (.aload_n 1, 1) := by decide +kernel
theorem dX3_bestOf_32 : decode cX3_bestOf 32 = .ok (.iload 6, 2) := by decide +kernel
theorem dX3_bestOf_34 : decode cX3_bestOf 34 = .ok (.aload_n 2, 1) := by decide +kernel
set_option maxRecDepth 20000 in
theorem ggX3_bestOf_X3_guessed : GoodIn wsX3_bestOf wsX3_guessed := goodIn_r _ [41, 42, 43, 44, 45, 34, 46, 47, 48, 49, 50, 51, 52, 53, 36, 37, 54, 55, 56, 57, 58, 59, 60, 61, 62, 63, 64, 65, 66, 67, 68, 69, 70, 71, 72, 73, 74, 75, 76, 77, 78, 79, 80, 81, 82, 83, 84, 85, 86, 87, 88, 89, 90, 126, 127, 128, 129, 130, 131, 132, 133, 134, 135, 136, 137, 138, 139, 140, 141] (by decide +kernel) (by decide +kernel)
set_option maxRecDepth 20000 in
theorem gX3_bestOf_X3_guessed : GoodIn wsX3_bestOf (wsV RX3 114 RX3 yX3_guessed wsX3_guessed) := goodIn_app (goodIn_of _ (by decide +kernel)) ggX3_bestOf_X3_guessed
theorem dX3_bestOf_35 : decode cX3_bestOf 35 = .ok (.invokevirtual 114, 3) := by decide +kernel
theorem dX3_bestOf_38 : decode cX3_bestOf 38 = .ok (.astore 7, 2) := by decide +kernel
theorem dX3_bestOf_40 : decode cX3_bestOf 40 = .ok (.aload_n 0, 1) := by decide +kernel
theorem dX3_bestOf_41 : decode cX3_bestOf 41 = .ok (.aload_n 1, 1) := by decide +kernel
theorem dX3_bestOf_42 : decode cX3_bestOf 42 = .ok (.getfield 99, 3) := by decide +kernel
theorem dX3_bestOf_45 : decode cX3_bestOf 45 = .ok (.aload 7, 2) := by decide +kernel
set_option maxRecDepth 20000 in
theorem ggX3_bestOf_X3_leadOf : GoodIn wsX3_bestOf wsX3_leadOf := goodIn_r _ [94, 95, 96, 97, 6, 98, 99, 100, 101, 126, 127, 128, 129, 130, 131, 132, 133, 134, 135, 136, 137, 138, 139, 140, 141] (by decide +kernel) (by decide +kernel)
set_option maxRecDepth 20000 in
theorem gX3_bestOf_X3_leadOf : GoodIn wsX3_bestOf (wsV RX3 118 RX3 yX3_leadOf wsX3_leadOf) := goodIn_app (goodIn_of _ (by decide +kernel)) ggX3_bestOf_X3_leadOf
theorem dX3_bestOf_47 : decode cX3_bestOf 47 = .ok (.invokevirtual 118, 3) := by decide +kernel
theorem dX3_bestOf_50 : decode cX3_bestOf 50 = .ok (.istore 8, 2) := by decide +kernel
theorem dX3_bestOf_52 : decode cX3_bestOf 52 = .ok (.aload_n 0, 1) := by decide +kernel
theorem dX3_bestOf_53 : decode cX3_bestOf 53 = .ok (.aload_n 1, 1) := by decide +kernel
theorem dX3_bestOf_54 : decode cX3_bestOf 54 = .ok (.getfield 99, 3) := by decide +kernel
theorem dX3_bestOf_57 : decode cX3_bestOf 57 = .ok (.aload 7, 2) := by decide +kernel
set_option maxRecDepth 20000 in
theorem ggX3_bestOf_X3_cellsOf : GoodIn wsX3_bestOf wsX3_cellsOf := goodIn_r _ [105, 100, 101, 137, 138, 139, 140, 141] (by decide +kernel) (by decide +kernel)
set_option maxRecDepth 20000 in
theorem gX3_bestOf_X3_cellsOf : GoodIn wsX3_bestOf (wsV RX3 122 RX3 yX3_cellsOf wsX3_cellsOf) := goodIn_app (goodIn_of _ (by decide +kernel)) ggX3_bestOf_X3_cellsOf
theorem dX3_bestOf_59 : decode cX3_bestOf 59 = .ok (.invokevirtual 122, 3) := by decide +kernel
theorem dX3_bestOf_62 : decode cX3_bestOf 62 = .ok (.istore 9, 2) := by decide +kernel
theorem dX3_bestOf_64 : decode cX3_bestOf 64 = .ok (.iload_n 3, 1) := by decide +kernel
theorem dX3_bestOf_65 : decode cX3_bestOf 65 = .ok (.ldc 121, 2) := by decide +kernel
theorem dX3_bestOf_67 : decode cX3_bestOf 67 = .ok (.if_icmp .eq 24, 3) := by decide +kernel
theorem dX3_bestOf_91 : decode cX3_bestOf 91 = .ok (.iload 6, 2) := by decide +kernel
theorem dX3_bestOf_93 : decode cX3_bestOf 93 = .ok (.istore_n 3, 1) := by decide +kernel
theorem dX3_bestOf_94 : decode cX3_bestOf 94 = .ok (.iload 8, 2) := by decide +kernel
theorem dX3_bestOf_96 : decode cX3_bestOf 96 = .ok (.istore 4, 2) := by decide +kernel
theorem dX3_bestOf_98 : decode cX3_bestOf 98 = .ok (.iload 9, 2) := by decide +kernel
theorem dX3_bestOf_100 : decode cX3_bestOf 100 = .ok (.istore 5, 2) := by decide +kernel
theorem dX3_bestOf_70 : decode cX3_bestOf 70 = .ok (.iload 8, 2) := by decide +kernel
theorem dX3_bestOf_72 : decode cX3_bestOf 72 = .ok (.iload 4, 2) := by decide +kernel
theorem dX3_bestOf_74 : decode cX3_bestOf 74 = .ok (.if_icmp .gt 17, 3) := by decide +kernel
theorem dX3_bestOf_77 : decode cX3_bestOf 77 = .ok (.iload 8, 2) := by decide +kernel
theorem dX3_bestOf_79 : decode cX3_bestOf 79 = .ok (.iload 4, 2) := by decide +kernel
theorem dX3_bestOf_81 : decode cX3_bestOf 81 = .ok (.if_icmp .ne 21, 3) := by decide +kernel
theorem dX3_bestOf_84 : decode cX3_bestOf 84 = .ok (.iload 9, 2) := by decide +kernel
theorem dX3_bestOf_86 : decode cX3_bestOf 86 = .ok (.iload 5, 2) := by decide +kernel
theorem dX3_bestOf_88 : decode cX3_bestOf 88 = .ok (.if_icmp .le 14, 3) := by decide +kernel
set_option maxRecDepth 100000 in
set_option maxHeartbeats 4000000 in
theorem c_X3_bestOf {E : XE} {B N : Nat} {v : Nat → va_E} {c d n o who : Nat} {p g h s t : Nat → Int} {l : Cor} {g1 h1 s1 t1 : Nat → Int} {n1 : Nat} (hc0 : Cel N v c (.inr (3, [.int (zI (p 0)), .int (zI (p 1)), .int (zI (p 2)), .ref (B + (c + 1)), .ref (B + (c + 2)), .int (zI (p 3)), .ref (B + (c + 3)), .int (zI (p 4)), .ref (B + (c + 4)), .ref (B + (c + 13)), .ref (B + (c + 18))]))) (hc1 : Cel N v (c + 13) (.inr (4, [.ref (B + (c + 14)), .ref (B + (c + 15)), .int (zI (n1 : Int)), .ref (B + (c + 16)), .ref (B + (c + 17))]))) (hc2 : Cel N v (c + 14) (iarr E 8 g1)) (hc3 : Cel N v (c + 15) (barr E 8 h1)) (hc4 : Cel N v (c + 16) (iarr E 8 s1)) (hc5 : Cel N v (c + 17) (iarr E 8 t1)) (hc6 : Cel N v d (.inr (4, [.ref (B + (d + 1)), .ref (B + (d + 2)), .int (zI (n : Int)), .ref (B + (d + 3)), .ref (B + (d + 4))]))) (hc7 : Cel N v (d + 1) (iarr E 8 g)) (hc8 : Cel N v (d + 2) (barr E 8 h)) (hc9 : Cel N v (d + 3) (iarr E 8 s)) (hc10 : Cel N v (d + 4) (iarr E 8 t)) (hc11 : Cel N v o (.inr ((kci (p (5 + who))), [.int (zI (who : Int)), .int (zI (p (10 + who))), .int (zI (p (15 + who))), .int (zI (p (20 + who)))]))) (hc12 : Cel N v (c + 4) (rarr E 6 8 B (ouA c))) (hc13 : Cel N v (c + 2) (barr E 48 (gA p))) (hF0 : ∀ x : Nat, x < 8 → Cel N v (c + 5 + x) (iarr E 7 (wbS p x))) (hq0 : LR g h l) (hq1 : n = l.length ∧ (l.length : Int) ≤ p 2) (hq2 : CorOk l) (hq3 : SR (p 0) (p 1) l s t) (hq4 : POk p) (hq5 : who < 5) (hq6 : 1 ≤ p (5 + who) ∧ p (5 + who) ≤ 5) (hq7 : d + 5 ≤ c ∨ d = c + 18) (hq8 : c + 23 ≤ o) : gM yX3_bestOf wsX3_bestOf ({ frames := 4, cells := 0, slots := 0, locals := 101 }) E B N v [.ref (B + c), .ref (B + o), .ref (B + d)] (po0 N (fun ρ v' => ∃ (res : Int), ∃ (n9 : Nat), ∃ (g9 : Nat → Int), ∃ (h9 : Nat → Int), ∃ (s9 : Nat → Int), ∃ (t9 : Nat → Int), (∃ bl m : Int, bestR (bestF p l who 48) res bl m) ∧ (-1000000 ≤ res ∧ res ≤ 47 ∧ (res = -1000000 ∨ 0 ≤ res)) ∧ ρ = some (.int (zI res)) ∧ (va_up (va_up (va_up (va_up (va_up v (c + 13) (.inr (4, [.ref (B + (c + 14)), .ref (B + (c + 15)), .int (zI (n9 : Int)), .ref (B + (c + 16)), .ref (B + (c + 17))]))) (c + 14) (iarr E 8 g9)) (c + 15) (barr E 8 h9)) (c + 16) (iarr E 8 s9)) (c + 17) (iarr E 8 t9)) = v')) := by
  refine x_met (nm := "bestOf") (by decide +kernel) rfl (Nat.le_of_ble_eq_true rfl) rfl (fun Γ K KR hnL hnm => ?_)
  show XW Γ N v [(0, .ref (B + c)), (1, .ref (B + o)), (2, .ref (B + d))] 0 0 0 []
  have hP0 := hq4.1
  have hP1 := hq4.2.1
  have hP2 := hq4.2.2.1
  have hld := (hq4.2.2.2.2.2.1 who hq5).2.1
  refine x_v (cel_pad hc1) ?_
  refine x_v (cel_pad (cel_ne hc2 (by omega))) ?_
  refine x_v (cel_pad (cel_ne (cel_ne hc3 (by omega)) (by omega))) ?_
  refine x_v (cel_pad (cel_ne (cel_ne (cel_ne hc4 (by omega)) (by omega)) (by omega))) ?_
  refine x_v (cel_pad (cel_ne (cel_ne (cel_ne (cel_ne hc5 (by omega)) (by omega)) (by omega)) (by omega))) ?_
  refine x_ldc (pc := 0) (x := (-1000000)) (-1000000) K (by decide) (by decide +kernel) dX3_bestOf_0 ?_
  refine x_istore_n (pc := 2) K (L' := [(3, .int (zI (-1000000))), (0, .ref (B + c)), (1, .ref (B + o)), (2, .ref (B + d))]) hnL rfl (by decide) rfl dX3_bestOf_2 ?_
  refine x_iconst (pc := 3) K dX3_bestOf_3 ?_
  refine x_istore (pc := 4) K (L' := [(4, .int (zI 0)), (3, .int (zI (-1000000))), (0, .ref (B + c)), (1, .ref (B + o)), (2, .ref (B + d))]) hnL (by decide) rfl dX3_bestOf_4 ?_
  refine x_iconst (pc := 6) K dX3_bestOf_6 ?_
  refine x_istore (pc := 7) K (L' := [(5, .int (zI 0)), (4, .int (zI 0)), (3, .int (zI (-1000000))), (0, .ref (B + c)), (1, .ref (B + o)), (2, .ref (B + d))]) hnL (by decide) rfl dX3_bestOf_7 ?_
  refine x_iconst (pc := 9) K dX3_bestOf_9 ?_
  refine x_istore (pc := 10) K (L' := [(6, .int (zI 0)), (5, .int (zI 0)), (4, .int (zI 0)), (3, .int (zI (-1000000))), (0, .ref (B + c)), (1, .ref (B + o)), (2, .ref (B + d))]) hnL (by decide) rfl dX3_bestOf_10 ?_
  have LOOP12 : ∀ (n_12 : Nat) (b : Int) (ld : Int) (m : Int) (k : Nat) (n3 : Nat) (g3 : Nat → Int) (h3 : Nat → Int) (s3 : Nat → Int) (t3 : Nat → Int), (k ≤ 48) → (bestR (bestF p l who k) b ld m) → (-1000000 ≤ b ∧ b ≤ 47 ∧ (b = -1000000 ∨ 0 ≤ b) ∧ -1000000 ≤ ld ∧ ld ≤ 1000000 ∧ 0 ≤ m ∧ m ≤ 1000000) → (48 - k) < n_12 → XW Γ N (va_up (va_up (va_up (va_up (va_up v (c + 13) (.inr (4, [.ref (B + (c + 14)), .ref (B + (c + 15)), .int (zI (n3 : Int)), .ref (B + (c + 16)), .ref (B + (c + 17))]))) (c + 14) (iarr E 8 g3)) (c + 15) (barr E 8 h3)) (c + 16) (iarr E 8 s3)) (c + 17) (iarr E 8 t3)) [(0, .ref (B + c)), (1, .ref (B + o)), (2, .ref (B + d)), (3, .int (zI b)), (4, .int (zI ld)), (5, .int (zI m)), (6, .int (zI (k : Int)))] 0 0 12 [] := by
    intro n_12
    induction n_12 with
    | zero =>
      intro b ld m k n3 g3 h3 s3 t3 hi12_0 hi12_1 hi12_2 hm_12
      exfalso; omega
    | succ n_12 ih12 =>
      intro b ld m k n3 g3 h3 s3 t3 hi12_0 hi12_1 hi12_2 hm_12
      refine x_iload (pc := 12) 6 K rfl dX3_bestOf_12 ?_
      refine x_bipush (pc := 14) K (by decide) dX3_bestOf_14 ?_
      refine x_icmp_ge (pc := 16) (tgt := 108) K (by omega) (by decide) dX3_bestOf_16 (by decide) (fun h_16 => ?_) (fun h_16 => ?_)
      · skip
        refine x_iload_n (pc := 108) 3 K rfl rfl dX3_bestOf_108 ?_
        refine x_iret (pc := 109) K KR (by omega) (Nat.le_of_ble_eq_true rfl) (Nat.le_of_ble_eq_true rfl) dX3_bestOf_109 ?_
        have hk : k = 48 := by omega
        rw [hk] at hi12_1
        exact ⟨rfl, b, n3, g3, h3, s3, t3, ⟨ld, m, hi12_1⟩, (by omega), rfl, rfl⟩
      · skip
        refine x_aload_n (pc := 19) 0 K rfl rfl dX3_bestOf_19 ?_
        refine x_aload_n (pc := 20) 1 K rfl rfl dX3_bestOf_20 ?_
        refine x_iload (pc := 21) 6 K rfl dX3_bestOf_21 ?_
        refine x_aload_n (pc := 23) 2 K rfl rfl dX3_bestOf_23 ?_
        refine x_callV (pc := 24) (C := RX3) (T := TX3) (n := 11) (ci := 3) (As := [.ref (B + o), .int (zI (k : Int)), .ref (B + d)]) K (c_X3_mayCross (E := E) (B := B) (N := N) (l := l) (who := who) (cell := k) rfl (cel_ne (cel_ne (cel_ne (cel_ne (cel_ne hc0 (by omega)) (by omega)) (by omega)) (by omega)) (by omega)) (cel_ne (cel_ne (cel_ne (cel_ne (cel_ne hc6 (by omega)) (by omega)) (by omega)) (by omega)) (by omega)) (cel_ne (cel_ne (cel_ne (cel_ne (cel_ne hc9 (by omega)) (by omega)) (by omega)) (by omega)) (by omega)) (cel_ne (cel_ne (cel_ne (cel_ne (cel_ne hc10 (by omega)) (by omega)) (by omega)) (by omega)) (by omega)) (cel_ne (cel_ne (cel_ne (cel_ne (cel_ne hc13 (by omega)) (by omega)) (by omega)) (by omega)) (by omega)) (cel_ne (cel_ne (cel_ne (cel_ne (cel_ne hc11 (by omega)) (by omega)) (by omega)) (by omega)) (by omega)) hq3 hq4 (by omega) (by omega) (by omega)) gX3_bestOf_X3_mayCross rfl (na := 3) (by decide +kernel) rfl ⟨(Nat.le_of_ble_eq_true rfl), (Nat.le_of_ble_eq_true rfl)⟩ (cel_ne (cel_ne (cel_ne (cel_ne (cel_ne hc0 (by omega)) (by omega)) (by omega)) (by omega)) (by omega)) rfl (st := []) rfl (Nat.le_of_ble_eq_true rfl) ⟨(Nat.le_of_ble_eq_true rfl), (Nat.le_of_ble_eq_true rfl)⟩ dX3_bestOf_24 (fun r24 N24 w24 hpo24 hN24 => ?_)
        obtain ⟨rfl, rfl, rfl⟩ := hpo24
        refine x_st (st' := [.int (zI (mayI p l who k))]) rfl ?_
        have hrg24 := mayI_rng p l who k
        refine x_if_eq (pc := 27) (tgt := 102) K (by omega) dX3_bestOf_27 (by decide) (fun h_27 => ?_) (fun h_27 => ?_)
        · skip
          have h_27 := mayI_f h_27
          have hmay := mayI_0 h_27
          refine x_iinc (pc := 102) (L' := [(6, .int (zI ((k : Int) + 1))), (0, .ref (B + c)), (1, .ref (B + o)), (2, .ref (B + d)), (3, .int (zI b)), (4, .int (zI ld)), (5, .int (zI m))]) 6 K hnL rfl (by decide) rfl dX3_bestOf_102 ?_
          refine x_goto (pc := 105) (tgt := 12) K dX3_bestOf_105 (by decide) ?_
          refine x_sub (L' := [(0, .ref (B + c)), (1, .ref (B + o)), (2, .ref (B + d)), (3, .int (zI b)), (4, .int (zI ld)), (5, .int (zI m)), (6, .int (zI ((k : Int) + 1)))]) [1, 2, 3, 4, 5, 6, 0] rfl ?_
          exact ih12 b ld m (k + 1) n3 g3 h3 s3 t3 (by omega) (by exact bestR_no hi12_1 hmay) (by omega) (by omega)
        · skip
          have h_27 := mayI_t h_27
          have hmay := mayI_1 h_27
          refine x_aload_n (pc := 30) 0 K rfl rfl dX3_bestOf_30 ?_
          refine x_aload_n (pc := 31) 1 K rfl rfl dX3_bestOf_31 ?_
          refine x_iload (pc := 32) 6 K rfl dX3_bestOf_32 ?_
          refine x_aload_n (pc := 34) 2 K rfl rfl dX3_bestOf_34 ?_
          refine x_callV (pc := 35) (C := RX3) (T := TX3) (n := 11) (ci := 3) (As := [.ref (B + o), .int (zI (k : Int)), .ref (B + d)]) K (c_X3_guessed (E := E) (B := B) (N := N) (l := l) (who := who) (cell := k) rfl (cel_ne (cel_ne (cel_ne (cel_ne (cel_ne hc0 (by omega)) (by omega)) (by omega)) (by omega)) (by omega)) (cel_ne (cel_ne (cel_ne (cel_ne (cel_self hc1.1) (by omega)) (by omega)) (by omega)) (by omega)) (cel_ne (cel_ne (cel_ne (cel_self hc2.1) (by omega)) (by omega)) (by omega)) (cel_ne (cel_ne (cel_self hc3.1) (by omega)) (by omega)) (cel_ne (cel_self hc4.1) (by omega)) (cel_self hc5.1) (cel_ne (cel_ne (cel_ne (cel_ne (cel_ne hc6 (by omega)) (by omega)) (by omega)) (by omega)) (by omega)) (cel_ne (cel_ne (cel_ne (cel_ne (cel_ne hc7 (by omega)) (by omega)) (by omega)) (by omega)) (by omega)) (cel_ne (cel_ne (cel_ne (cel_ne (cel_ne hc8 (by omega)) (by omega)) (by omega)) (by omega)) (by omega)) (cel_ne (cel_ne (cel_ne (cel_ne (cel_ne hc9 (by omega)) (by omega)) (by omega)) (by omega)) (by omega)) (cel_ne (cel_ne (cel_ne (cel_ne (cel_ne hc10 (by omega)) (by omega)) (by omega)) (by omega)) (by omega)) (cel_ne (cel_ne (cel_ne (cel_ne (cel_ne hc11 (by omega)) (by omega)) (by omega)) (by omega)) (by omega)) hq0 hq1 hq2 hq3 hq4 (by omega) (by omega) (by omega) (by omega) (by omega)) gX3_bestOf_X3_guessed rfl (na := 3) (by decide +kernel) rfl ⟨(Nat.le_of_ble_eq_true rfl), (Nat.le_of_ble_eq_true rfl)⟩ (cel_ne (cel_ne (cel_ne (cel_ne (cel_ne hc0 (by omega)) (by omega)) (by omega)) (by omega)) (by omega)) rfl (st := []) rfl (Nat.le_of_ble_eq_true rfl) ⟨(Nat.le_of_ble_eq_true rfl), (Nat.le_of_ble_eq_true rfl)⟩ dX3_bestOf_35 (fun r35 N35 w35 hpo35 hN35 => ?_)
          obtain ⟨rfl, g2_35, h2_35, s2_35, t2_35, hp35_0, hp35_1, rfl, rfl⟩ := hpo35
          refine x_v (congrArg (fun w => (va_up (va_up (va_up (va_up w (c + 14) (iarr E 8 g2_35)) (c + 15) (barr E 8 h2_35)) (c + 16) (iarr E 8 s2_35)) (c + 17) (iarr E 8 t2_35))) (show (va_up (va_up (va_up (va_up (va_up v (c + 13) (.inr (4, [.ref (B + (c + 14)), .ref (B + (c + 15)), .int (zI (((crossA (p (5 + who)) (p 2) k l).length : Nat) : Int)), .ref (B + (c + 16)), .ref (B + (c + 17))]))) (c + 14) (iarr E 8 g3)) (c + 15) (barr E 8 h3)) (c + 16) (iarr E 8 s3)) (c + 17) (iarr E 8 t3)) = _ from (up_at4 (by omega) (by omega) (by omega) (by omega)).symm)) ?_
          refine x_v (congrArg (fun w => (va_up (va_up (va_up w (c + 15) (barr E 8 h2_35)) (c + 16) (iarr E 8 s2_35)) (c + 17) (iarr E 8 t2_35))) (show (va_up (va_up (va_up (va_up (va_up v (c + 13) (.inr (4, [.ref (B + (c + 14)), .ref (B + (c + 15)), .int (zI (((crossA (p (5 + who)) (p 2) k l).length : Nat) : Int)), .ref (B + (c + 16)), .ref (B + (c + 17))]))) (c + 14) (iarr E 8 g2_35)) (c + 15) (barr E 8 h3)) (c + 16) (iarr E 8 s3)) (c + 17) (iarr E 8 t3)) = _ from (up_at3 (by omega) (by omega) (by omega)).symm)) ?_
          refine x_v (congrArg (fun w => (va_up (va_up w (c + 16) (iarr E 8 s2_35)) (c + 17) (iarr E 8 t2_35))) (show (va_up (va_up (va_up (va_up (va_up v (c + 13) (.inr (4, [.ref (B + (c + 14)), .ref (B + (c + 15)), .int (zI (((crossA (p (5 + who)) (p 2) k l).length : Nat) : Int)), .ref (B + (c + 16)), .ref (B + (c + 17))]))) (c + 14) (iarr E 8 g2_35)) (c + 15) (barr E 8 h2_35)) (c + 16) (iarr E 8 s3)) (c + 17) (iarr E 8 t3)) = _ from (up_at2 (by omega) (by omega)).symm)) ?_
          refine x_v (congrArg (fun w => (va_up w (c + 17) (iarr E 8 t2_35))) (show (va_up (va_up (va_up (va_up (va_up v (c + 13) (.inr (4, [.ref (B + (c + 14)), .ref (B + (c + 15)), .int (zI (((crossA (p (5 + who)) (p 2) k l).length : Nat) : Int)), .ref (B + (c + 16)), .ref (B + (c + 17))]))) (c + 14) (iarr E 8 g2_35)) (c + 15) (barr E 8 h2_35)) (c + 16) (iarr E 8 s2_35)) (c + 17) (iarr E 8 t3)) = _ from (up_at1 (by omega)).symm)) ?_
          refine x_v (w := (va_up (va_up (va_up (va_up (va_up v (c + 13) (.inr (4, [.ref (B + (c + 14)), .ref (B + (c + 15)), .int (zI (((crossA (p (5 + who)) (p 2) k l).length : Nat) : Int)), .ref (B + (c + 16)), .ref (B + (c + 17))]))) (c + 14) (iarr E 8 g2_35)) (c + 15) (barr E 8 h2_35)) (c + 16) (iarr E 8 s2_35)) (c + 17) (iarr E 8 t2_35))) (up_at0).symm ?_
          refine x_st (st' := [.ref (B + (c + 13))]) rfl ?_
          refine x_astore (pc := 38) K (L' := [(7, .ref (B + (c + 13))), (0, .ref (B + c)), (1, .ref (B + o)), (2, .ref (B + d)), (3, .int (zI b)), (4, .int (zI ld)), (5, .int (zI m)), (6, .int (zI (k : Int)))]) hnL (by decide) rfl dX3_bestOf_38 ?_
          refine x_aload_n (pc := 40) 1 K rfl rfl dX3_bestOf_40 ?_
          refine x_aload_n (pc := 41) 2 K rfl rfl dX3_bestOf_41 ?_
          refine x_getP (pc := 42) (idx := 99) (x := .int (zI (p (10 + who)))) K (by omega) (cel_ne (cel_ne (cel_ne (cel_ne (cel_ne hc11 (by omega)) (by omega)) (by omega)) (by omega)) (by omega)) (by decide +kernel) (by decide +kernel) (by decide +kernel) (by decide +kernel) (by decide +kernel) 1 (by decide) (by decide +kernel) rfl dX3_bestOf_42 ?_
          refine x_aload (pc := 45) 0 K rfl dX3_bestOf_45 ?_
          refine x_callV (pc := 47) (C := RX3) (T := TX3) (n := 11) (ci := 3) (As := [.int (zI (p (10 + who))), .ref (B + (c + 13))]) K (c_X3_leadOf (E := E) (B := B) (N := N) (l := (crossA (p (5 + who)) (p 2) k l))  (cel_ne (cel_ne (cel_ne (cel_ne (cel_ne hc0 (by omega)) (by omega)) (by omega)) (by omega)) (by omega)) (cel_ne (cel_ne (cel_ne (cel_ne (cel_self hc1.1) (by omega)) (by omega)) (by omega)) (by omega)) (cel_ne (cel_self hc4.1) (by omega)) (cel_self hc5.1) (cel_ne (cel_ne (cel_ne (cel_ne (cel_ne hc12 (by omega)) (by omega)) (by omega)) (by omega)) (by omega)) (fun x hx => (cel_ne (cel_ne (cel_ne (cel_ne (cel_ne (hF0 x hx) (by omega)) (by omega)) (by omega)) (by omega)) (by omega))) hp35_1 (by omega) hq4) gX3_bestOf_X3_leadOf rfl (na := 2) (by decide +kernel) rfl ⟨(Nat.le_of_ble_eq_true rfl), (Nat.le_of_ble_eq_true rfl)⟩ (cel_ne (cel_ne (cel_ne (cel_ne (cel_ne hc0 (by omega)) (by omega)) (by omega)) (by omega)) (by omega)) rfl (st := []) rfl (Nat.le_of_ble_eq_true rfl) ⟨(Nat.le_of_ble_eq_true rfl), (Nat.le_of_ble_eq_true rfl)⟩ dX3_bestOf_47 (fun r47 N47 w47 hpo47 hN47 => ?_)
          obtain ⟨rfl, rfl, rfl⟩ := hpo47
          refine x_st (st' := [.int (zI (leadA p (crossA (p (5 + who)) (p 2) k l) (p (10 + who))))]) rfl ?_
          have hr47 := leadA_rng (l := (crossA (p (5 + who)) (p 2) k l)) (land := p (10 + who)) hq4
          refine x_nm (fun z1 hz1 => ?_)
          refine x_istore (pc := 50) K (L' := [(8, .int (zI z1)), (7, .ref (B + (c + 13))), (0, .ref (B + c)), (1, .ref (B + o)), (2, .ref (B + d)), (3, .int (zI b)), (4, .int (zI ld)), (5, .int (zI m)), (6, .int (zI (k : Int)))]) hnL (by decide) rfl dX3_bestOf_50 ?_
          refine x_aload_n (pc := 52) 2 K rfl rfl dX3_bestOf_52 ?_
          refine x_aload_n (pc := 53) 3 K rfl rfl dX3_bestOf_53 ?_
          refine x_getP (pc := 54) (idx := 99) (x := .int (zI (p (10 + who)))) K (by omega) (cel_ne (cel_ne (cel_ne (cel_ne (cel_ne hc11 (by omega)) (by omega)) (by omega)) (by omega)) (by omega)) (by decide +kernel) (by decide +kernel) (by decide +kernel) (by decide +kernel) (by decide +kernel) 1 (by decide) (by decide +kernel) rfl dX3_bestOf_54 ?_
          refine x_aload (pc := 57) 1 K rfl dX3_bestOf_57 ?_
          refine x_callV (pc := 59) (C := RX3) (T := TX3) (n := 11) (ci := 3) (As := [.int (zI (p (10 + who))), .ref (B + (c + 13))]) K (c_X3_cellsOf (E := E) (B := B) (N := N) (l := (crossA (p (5 + who)) (p 2) k l))  (cel_ne (cel_ne (cel_ne (cel_ne (cel_ne hc0 (by omega)) (by omega)) (by omega)) (by omega)) (by omega)) (cel_ne (cel_ne (cel_ne (cel_ne (cel_self hc1.1) (by omega)) (by omega)) (by omega)) (by omega)) (cel_ne (cel_self hc4.1) (by omega)) (cel_self hc5.1) hp35_1 (by omega)) gX3_bestOf_X3_cellsOf rfl (na := 2) (by decide +kernel) rfl ⟨(Nat.le_of_ble_eq_true rfl), (Nat.le_of_ble_eq_true rfl)⟩ (cel_ne (cel_ne (cel_ne (cel_ne (cel_ne hc0 (by omega)) (by omega)) (by omega)) (by omega)) (by omega)) rfl (st := []) rfl (Nat.le_of_ble_eq_true rfl) ⟨(Nat.le_of_ble_eq_true rfl), (Nat.le_of_ble_eq_true rfl)⟩ dX3_bestOf_59 (fun r59 N59 w59 hpo59 hN59 => ?_)
          obtain ⟨rfl, rfl, rfl⟩ := hpo59
          refine x_st (st' := [.int (zI (sumA p (crossA (p (5 + who)) (p 2) k l) (p (10 + who)) 0 48))]) rfl ?_
          have hr59 := sumA_rng (l := (crossA (p (5 + who)) (p 2) k l)) (land := p (10 + who)) (what := 0) hq4 (Nat.le_refl 48)
          refine x_nm (fun z2 hz2 => ?_)
          refine x_istore (pc := 62) K (L' := [(9, .int (zI z2)), (8, .int (zI z1)), (7, .ref (B + (c + 13))), (0, .ref (B + c)), (1, .ref (B + o)), (2, .ref (B + d)), (3, .int (zI b)), (4, .int (zI ld)), (5, .int (zI m)), (6, .int (zI (k : Int)))]) hnL (by decide) rfl dX3_bestOf_62 ?_
          refine x_iload_n (pc := 64) 6 K rfl rfl dX3_bestOf_64 ?_
          refine x_ldc (pc := 65) (x := (-1000000)) (-1000000) K (by decide) (by decide +kernel) dX3_bestOf_65 ?_
          refine x_icmp_eq (pc := 67) (tgt := 91) K (by omega) (by decide) dX3_bestOf_67 (by decide) (fun h_67 => ?_) (fun h_67 => ?_)
          · skip
            refine x_iload (pc := 91) 9 K rfl dX3_bestOf_91 ?_
            refine x_istore_n (pc := 93) K (L' := [(3, .int (zI (k : Int))), (9, .int (zI z2)), (8, .int (zI z1)), (7, .ref (B + (c + 13))), (0, .ref (B + c)), (1, .ref (B + o)), (2, .ref (B + d)), (4, .int (zI ld)), (5, .int (zI m)), (6, .int (zI (k : Int)))]) hnL rfl (by decide) rfl dX3_bestOf_93 ?_
            refine x_iload (pc := 94) 2 K rfl dX3_bestOf_94 ?_
            refine x_istore (pc := 96) K (L' := [(4, .int (zI z1)), (3, .int (zI (k : Int))), (9, .int (zI z2)), (8, .int (zI z1)), (7, .ref (B + (c + 13))), (0, .ref (B + c)), (1, .ref (B + o)), (2, .ref (B + d)), (5, .int (zI m)), (6, .int (zI (k : Int)))]) hnL (by decide) rfl dX3_bestOf_96 ?_
            refine x_iload (pc := 98) 2 K rfl dX3_bestOf_98 ?_
            refine x_istore (pc := 100) K (L' := [(5, .int (zI z2)), (4, .int (zI z1)), (3, .int (zI (k : Int))), (9, .int (zI z2)), (8, .int (zI z1)), (7, .ref (B + (c + 13))), (0, .ref (B + c)), (1, .ref (B + o)), (2, .ref (B + d)), (6, .int (zI (k : Int)))]) hnL (by decide) rfl dX3_bestOf_100 ?_
            refine x_iinc (pc := 102) (L' := [(6, .int (zI ((k : Int) + 1))), (5, .int (zI z2)), (4, .int (zI z1)), (3, .int (zI (k : Int))), (9, .int (zI z2)), (8, .int (zI z1)), (7, .ref (B + (c + 13))), (0, .ref (B + c)), (1, .ref (B + o)), (2, .ref (B + d))]) 9 K hnL rfl (by decide) rfl dX3_bestOf_102 ?_
            refine x_goto (pc := 105) (tgt := 12) K dX3_bestOf_105 (by decide) ?_
            refine x_sub (L' := [(0, .ref (B + c)), (1, .ref (B + o)), (2, .ref (B + d)), (3, .int (zI (k : Int))), (4, .int (zI z1)), (5, .int (zI z2)), (6, .int (zI ((k : Int) + 1)))]) [7, 8, 9, 3, 2, 1, 0] rfl ?_
            exact ih12 (k : Int) z1 z2 (k + 1) ((crossA (p (5 + who)) (p 2) k l).length) g2_35 h2_35 s2_35 t2_35 (by omega) (by first | (rw [hz1, hz2]; exact bestR_new hi12_1 hmay (by rw [← hz1, ← hz2]; omega)) | exact bestR_old hi12_1 (by rw [← hz1, ← hz2]; omega)) (by omega) (by omega)
          · skip
            refine x_iload (pc := 70) 1 K rfl dX3_bestOf_70 ?_
            refine x_iload (pc := 72) 7 K rfl dX3_bestOf_72 ?_
            refine x_icmp_gt (pc := 74) (tgt := 91) K (by omega) (by omega) dX3_bestOf_74 (by decide) (fun h_74 => ?_) (fun h_74 => ?_)
            · skip
              refine x_iload (pc := 91) 9 K rfl dX3_bestOf_91 ?_
              refine x_istore_n (pc := 93) K (L' := [(3, .int (zI (k : Int))), (9, .int (zI z2)), (8, .int (zI z1)), (7, .ref (B + (c + 13))), (0, .ref (B + c)), (1, .ref (B + o)), (2, .ref (B + d)), (4, .int (zI ld)), (5, .int (zI m)), (6, .int (zI (k : Int)))]) hnL rfl (by decide) rfl dX3_bestOf_93 ?_
              refine x_iload (pc := 94) 2 K rfl dX3_bestOf_94 ?_
              refine x_istore (pc := 96) K (L' := [(4, .int (zI z1)), (3, .int (zI (k : Int))), (9, .int (zI z2)), (8, .int (zI z1)), (7, .ref (B + (c + 13))), (0, .ref (B + c)), (1, .ref (B + o)), (2, .ref (B + d)), (5, .int (zI m)), (6, .int (zI (k : Int)))]) hnL (by decide) rfl dX3_bestOf_96 ?_
              refine x_iload (pc := 98) 2 K rfl dX3_bestOf_98 ?_
              refine x_istore (pc := 100) K (L' := [(5, .int (zI z2)), (4, .int (zI z1)), (3, .int (zI (k : Int))), (9, .int (zI z2)), (8, .int (zI z1)), (7, .ref (B + (c + 13))), (0, .ref (B + c)), (1, .ref (B + o)), (2, .ref (B + d)), (6, .int (zI (k : Int)))]) hnL (by decide) rfl dX3_bestOf_100 ?_
              refine x_iinc (pc := 102) (L' := [(6, .int (zI ((k : Int) + 1))), (5, .int (zI z2)), (4, .int (zI z1)), (3, .int (zI (k : Int))), (9, .int (zI z2)), (8, .int (zI z1)), (7, .ref (B + (c + 13))), (0, .ref (B + c)), (1, .ref (B + o)), (2, .ref (B + d))]) 9 K hnL rfl (by decide) rfl dX3_bestOf_102 ?_
              refine x_goto (pc := 105) (tgt := 12) K dX3_bestOf_105 (by decide) ?_
              refine x_sub (L' := [(0, .ref (B + c)), (1, .ref (B + o)), (2, .ref (B + d)), (3, .int (zI (k : Int))), (4, .int (zI z1)), (5, .int (zI z2)), (6, .int (zI ((k : Int) + 1)))]) [7, 8, 9, 3, 2, 1, 0] rfl ?_
              exact ih12 (k : Int) z1 z2 (k + 1) ((crossA (p (5 + who)) (p 2) k l).length) g2_35 h2_35 s2_35 t2_35 (by omega) (by first | (rw [hz1, hz2]; exact bestR_new hi12_1 hmay (by rw [← hz1, ← hz2]; omega)) | exact bestR_old hi12_1 (by rw [← hz1, ← hz2]; omega)) (by omega) (by omega)
            · skip
              refine x_iload (pc := 77) 1 K rfl dX3_bestOf_77 ?_
              refine x_iload (pc := 79) 7 K rfl dX3_bestOf_79 ?_
              refine x_icmp_ne (pc := 81) (tgt := 102) K (by omega) (by omega) dX3_bestOf_81 (by decide) (fun h_81 => ?_) (fun h_81 => ?_)
              · skip
                refine x_iinc (pc := 102) (L' := [(6, .int (zI ((k : Int) + 1))), (9, .int (zI z2)), (8, .int (zI z1)), (7, .ref (B + (c + 13))), (0, .ref (B + c)), (1, .ref (B + o)), (2, .ref (B + d)), (3, .int (zI b)), (4, .int (zI ld)), (5, .int (zI m))]) 9 K hnL rfl (by decide) rfl dX3_bestOf_102 ?_
                refine x_goto (pc := 105) (tgt := 12) K dX3_bestOf_105 (by decide) ?_
                refine x_sub (L' := [(0, .ref (B + c)), (1, .ref (B + o)), (2, .ref (B + d)), (3, .int (zI b)), (4, .int (zI ld)), (5, .int (zI m)), (6, .int (zI ((k : Int) + 1)))]) [4, 5, 6, 7, 8, 9, 0] rfl ?_
                exact ih12 b ld m (k + 1) ((crossA (p (5 + who)) (p 2) k l).length) g2_35 h2_35 s2_35 t2_35 (by omega) (by first | (rw [hz1, hz2]; exact bestR_new hi12_1 hmay (by rw [← hz1, ← hz2]; omega)) | exact bestR_old hi12_1 (by rw [← hz1, ← hz2]; omega)) (by omega) (by omega)
              · skip
                refine x_iload (pc := 84) 0 K rfl dX3_bestOf_84 ?_
                refine x_iload (pc := 86) 8 K rfl dX3_bestOf_86 ?_
                refine x_icmp_le (pc := 88) (tgt := 102) K (by omega) (by omega) dX3_bestOf_88 (by decide) (fun h_88 => ?_) (fun h_88 => ?_)
                · skip
                  refine x_iinc (pc := 102) (L' := [(6, .int (zI ((k : Int) + 1))), (9, .int (zI z2)), (8, .int (zI z1)), (7, .ref (B + (c + 13))), (0, .ref (B + c)), (1, .ref (B + o)), (2, .ref (B + d)), (3, .int (zI b)), (4, .int (zI ld)), (5, .int (zI m))]) 9 K hnL rfl (by decide) rfl dX3_bestOf_102 ?_
                  refine x_goto (pc := 105) (tgt := 12) K dX3_bestOf_105 (by decide) ?_
                  refine x_sub (L' := [(0, .ref (B + c)), (1, .ref (B + o)), (2, .ref (B + d)), (3, .int (zI b)), (4, .int (zI ld)), (5, .int (zI m)), (6, .int (zI ((k : Int) + 1)))]) [4, 5, 6, 7, 8, 9, 0] rfl ?_
                  exact ih12 b ld m (k + 1) ((crossA (p (5 + who)) (p 2) k l).length) g2_35 h2_35 s2_35 t2_35 (by omega) (by first | (rw [hz1, hz2]; exact bestR_new hi12_1 hmay (by rw [← hz1, ← hz2]; omega)) | exact bestR_old hi12_1 (by rw [← hz1, ← hz2]; omega)) (by omega) (by omega)
                · skip
                  refine x_iload (pc := 91) 9 K rfl dX3_bestOf_91 ?_
                  refine x_istore_n (pc := 93) K (L' := [(3, .int (zI (k : Int))), (9, .int (zI z2)), (8, .int (zI z1)), (7, .ref (B + (c + 13))), (0, .ref (B + c)), (1, .ref (B + o)), (2, .ref (B + d)), (4, .int (zI ld)), (5, .int (zI m)), (6, .int (zI (k : Int)))]) hnL rfl (by decide) rfl dX3_bestOf_93 ?_
                  refine x_iload (pc := 94) 2 K rfl dX3_bestOf_94 ?_
                  refine x_istore (pc := 96) K (L' := [(4, .int (zI z1)), (3, .int (zI (k : Int))), (9, .int (zI z2)), (8, .int (zI z1)), (7, .ref (B + (c + 13))), (0, .ref (B + c)), (1, .ref (B + o)), (2, .ref (B + d)), (5, .int (zI m)), (6, .int (zI (k : Int)))]) hnL (by decide) rfl dX3_bestOf_96 ?_
                  refine x_iload (pc := 98) 2 K rfl dX3_bestOf_98 ?_
                  refine x_istore (pc := 100) K (L' := [(5, .int (zI z2)), (4, .int (zI z1)), (3, .int (zI (k : Int))), (9, .int (zI z2)), (8, .int (zI z1)), (7, .ref (B + (c + 13))), (0, .ref (B + c)), (1, .ref (B + o)), (2, .ref (B + d)), (6, .int (zI (k : Int)))]) hnL (by decide) rfl dX3_bestOf_100 ?_
                  refine x_iinc (pc := 102) (L' := [(6, .int (zI ((k : Int) + 1))), (5, .int (zI z2)), (4, .int (zI z1)), (3, .int (zI (k : Int))), (9, .int (zI z2)), (8, .int (zI z1)), (7, .ref (B + (c + 13))), (0, .ref (B + c)), (1, .ref (B + o)), (2, .ref (B + d))]) 9 K hnL rfl (by decide) rfl dX3_bestOf_102 ?_
                  refine x_goto (pc := 105) (tgt := 12) K dX3_bestOf_105 (by decide) ?_
                  refine x_sub (L' := [(0, .ref (B + c)), (1, .ref (B + o)), (2, .ref (B + d)), (3, .int (zI (k : Int))), (4, .int (zI z1)), (5, .int (zI z2)), (6, .int (zI ((k : Int) + 1)))]) [7, 8, 9, 3, 2, 1, 0] rfl ?_
                  exact ih12 (k : Int) z1 z2 (k + 1) ((crossA (p (5 + who)) (p 2) k l).length) g2_35 h2_35 s2_35 t2_35 (by omega) (by first | (rw [hz1, hz2]; exact bestR_new hi12_1 hmay (by rw [← hz1, ← hz2]; omega)) | exact bestR_old hi12_1 (by rw [← hz1, ← hz2]; omega)) (by omega) (by omega)
  refine x_sub (L' := [(0, .ref (B + c)), (1, .ref (B + o)), (2, .ref (B + d)), (3, .int (zI (-1000000))), (4, .int (zI 0)), (5, .int (zI 0)), (6, .int (zI 0))]) [4, 5, 6, 3, 2, 1, 0] rfl ?_
  exact LOOP12 (_) (-1000000) 0 0 0 n1 g1 h1 s1 t1 (by omega) (by exact Or.inl ⟨rfl, rfl⟩) (by omega) (Nat.lt_succ_self _)
