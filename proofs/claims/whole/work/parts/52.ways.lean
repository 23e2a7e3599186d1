theorem dX3_waysTo_0 : decode cX3_waysTo 0 = .ok (.iconst 0, 1) := by decide +kernel
theorem dX3_waysTo_1 : decode cX3_waysTo 1 = .ok (.istore 5, 2) := by decide +kernel
theorem dX3_waysTo_3 : decode cX3_waysTo 3 = .ok (.iconst 0, 1) := by decide +kernel
theorem dX3_waysTo_4 : decode cX3_waysTo 4 = .ok (.istore 6, 2) := by decide +kernel
theorem dX3_waysTo_6 : decode cX3_waysTo 6 = .ok (.iload 6, 2) := by decide +kernel
theorem dX3_waysTo_8 : decode cX3_waysTo 8 = .ok (.aload_n 0, 1) := by decide +kernel
theorem dX3_waysTo_9 : decode cX3_waysTo 9 = .ok (.getfield 38, 3) := by decide +kernel
theorem dX3_waysTo_12 : decode cX3_waysTo 12 = .ok (.if_icmp .ge 82, 3) := by decide +kernel
theorem dX3_waysTo_94 : decode cX3_waysTo 94 = .ok (.iload_n 3, 1) := by decide +kernel
theorem dX3_waysTo_95 : decode cX3_waysTo 95 = .ok (.ifCond .eq 8, 3) := by decide +kernel
theorem dX3_waysTo_103 : decode cX3_waysTo 103 = .ok (.iload 5, 2) := by decide +kernel
theorem dX3_waysTo_105 : decode cX3_waysTo 105 = .ok (.ireturn, 1) := by decide +kernel
theorem dX3_waysTo_98 : decode cX3_waysTo 98 = .ok (.ldc 121, 2) := by decide +kernel
theorem dX3_waysTo_100 : decode cX3_waysTo 100 = .ok (.goto 5, 3) := by decide +kernel
theorem dX3_waysTo_15 : decode cX3_waysTo 15 = .ok (.iconst 0, 1) := by decide +kernel
theorem dX3_waysTo_16 : decode cX3_waysTo 16 = .ok (.istore 7, 2) := by decide +kernel
theorem dX3_waysTo_18 : decode cX3_waysTo 18 = .ok (.iload 7, 2) := by decide +kernel
theorem dX3_waysTo_20 : decode cX3_waysTo 20 = .ok (.bipush 48, 2) := by decide +kernel
theorem dX3_waysTo_22 : decode cX3_waysTo 22 = .ok (.if_icmp .ge 66, 3) := by decide +kernel
theorem dX3_waysTo_88 : decode cX3_waysTo 88 = .ok (.iinc 6 1, 3) := by decide +kernel
theorem dX3_waysTo_91 : decode cX3_waysTo 91 = .ok (.goto (-85), 3) := by decide +kernel
theorem dX3_waysTo_25 : decode cX3_waysTo 25 = .ok (.aload_n 0, 1) := by decide +kernel
theorem dX3_waysTo_26 : decode cX3_waysTo 26 = .ok (.aload_n 0, 1) := by decide +kernel
theorem dX3_waysTo_27 : decode cX3_waysTo 27 = .ok (.getfield 34, 3) := by decide +kernel
theorem dX3_waysTo_30 : decode cX3_waysTo 30 = .ok (.iload 6, 2) := by decide +kernel
theorem dX3_waysTo_32 : decode cX3_waysTo 32 = .ok (.aaload, 1) := by decide +kernel
theorem dX3_waysTo_33 : decode cX3_waysTo 33 = .ok (.iload 7, 2) := by decide +kernel
theorem dX3_waysTo_35 : decode cX3_waysTo 35 = .ok (.aload 4, 2) := by decide +kernel
set_option maxRecDepth 20000 in
theorem ggX3_waysTo_X3_mayCross : GoodIn wsX3_waysTo wsX3_mayCross := goodIn_r _ [8, 9, 10, 11, 12, 13, 14, 15, 16, 17, 18, 19, 20, 21, 22, 23, 24, 25, 26, 27, 28, 29, 30, 31, 32, 33, 34, 35, 36, 37, 38, 39, 109, 110, 111, 112, 113, 114, 115, 116, 117, 118, 119, 120, 121, 122, 123, 124, 125, 126, 127, 128, 98, 99, 100, 101, 102, 103, 104, 105, 106, 107, 108, 129, 130, 131, 132, 133] (by decide +kernel) (by decide +kernel)
set_option maxRecDepth 20000 in
theorem gX3_waysTo_X3_mayCross : GoodIn wsX3_waysTo (wsV RX3 102 RX3 yX3_mayCross wsX3_mayCross) := goodIn_app (goodIn_of _ (by decide +kernel)) ggX3_waysTo_X3_mayCross
theorem dX3_waysTo_37 : decode cX3_waysTo 37 = .ok (.invokevirtual 102, 3) := by decide +kernel
theorem dX3_waysTo_40 : decode cX3_waysTo 40 = .ok (.ifCond .eq 42, 3) := by decide +kernel
theorem dX3_waysTo_82 : decode cX3_waysTo 82 = .ok (.iinc 7 1, 3) := by decide +kernel
theorem dX3_waysTo_85 : decode cX3_waysTo 85 = .ok (.goto (-67), 3) := by decide +kernel
theorem dX3_waysTo_43 : decode cX3_waysTo 43 = .ok (.aload_n 0, 1) := by decide +kernel
theorem dX3_waysTo_44 : decode cX3_waysTo 44 = .ok (.aload_n 0, 1) := by decide +kernel
theorem dX3_waysTo_45 : decode cX3_waysTo 45 = .ok (.getfield 34, 3) := by decide +kernel
theorem dX3_waysTo_48 : decode cX3_waysTo 48 = .ok (.iload 6, 2) := by decide +kernel
theorem dX3_waysTo_50 : decode cX3_waysTo 50 = .ok (.aaload, 1) := by decide +kernel
theorem dX3_waysTo_51 : decode cX3_waysTo 51 = .ok (.iload 7, 2) := by decide +kernel
theorem dX3_waysTo_53 : decode cX3_waysTo 53 = .ok (.aload 4, 2) := by decide +kernel
set_option maxRecDepth 20000 in
theorem ggX3_waysTo_X3_guessed : GoodIn wsX3_waysTo wsX3_guessed := goodIn_r _ [43, 44, 45, 46, 47, 36, 48, 49, 50, 51, 52, 53, 54, 55, 38, 39, 56, 57, 58, 59, 60, 61, 62, 63, 64, 65, 66, 67, 68, 69, 70, 71, 72, 73, 74, 75, 76, 77, 78, 79, 80, 81, 82, 83, 84, 85, 86, 87, 88, 89, 90, 91, 92, 98, 99, 100, 101, 102, 103, 104, 105, 106, 107, 108, 129, 130, 131, 132, 133] (by decide +kernel) (by decide +kernel)
set_option maxRecDepth 20000 in
theorem gX3_waysTo_X3_guessed : GoodIn wsX3_waysTo (wsV RX3 114 RX3 yX3_guessed wsX3_guessed) := goodIn_app (goodIn_of _ (by decide +kernel)) ggX3_waysTo_X3_guessed
theorem dX3_waysTo_55 : decode cX3_waysTo 55 = .ok (.invokevirtual 114, 3) := by decide +kernel
theorem dX3_waysTo_58 : decode cX3_waysTo 58 = .ok (.aload_n 1, 1) := by decide +kernel
theorem dX3_waysTo_59 : decode cX3_waysTo 59 = .ok (.iload_n 2, 1) := by decide +kernel
set_option maxRecDepth 20000 in
theorem ggX3_waysTo_X4_liesAs : GoodIn wsX3_waysTo wsX4_liesAs := goodIn_r _ [96, 38, 97, 129, 130, 131, 132, 133, 134, 135, 136] (by decide +kernel) (by decide +kernel)
set_option maxRecDepth 20000 in
theorem gX3_waysTo_X4_liesAs : GoodIn wsX3_waysTo (wsV RX3 144 RX4 yX4_liesAs wsX4_liesAs) := goodIn_app (goodIn_of _ (by decide +kernel)) ggX3_waysTo_X4_liesAs
theorem dX3_waysTo_60 : decode cX3_waysTo 60 = .ok (.invokevirtual 144, 3) := by decide +kernel
theorem dX3_waysTo_63 : decode cX3_waysTo 63 = .ok (.ifCond .eq 19, 3) := by decide +kernel
theorem dX3_waysTo_66 : decode cX3_waysTo 66 = .ok (.iload_n 3, 1) := by decide +kernel
theorem dX3_waysTo_67 : decode cX3_waysTo 67 = .ok (.ifCond .eq 12, 3) := by decide +kernel
theorem dX3_waysTo_79 : decode cX3_waysTo 79 = .ok (.iinc 5 1, 3) := by decide +kernel
theorem dX3_waysTo_70 : decode cX3_waysTo 70 = .ok (.bipush 48, 2) := by decide +kernel
theorem dX3_waysTo_72 : decode cX3_waysTo 72 = .ok (.iload 6, 2) := by decide +kernel
theorem dX3_waysTo_74 : decode cX3_waysTo 74 = .ok (.imul, 1) := by decide +kernel
theorem dX3_waysTo_75 : decode cX3_waysTo 75 = .ok (.iload 7, 2) := by decide +kernel
theorem dX3_waysTo_77 : decode cX3_waysTo 77 = .ok (.iadd, 1) := by decide +kernel
theorem dX3_waysTo_78 : decode cX3_waysTo 78 = .ok (.ireturn, 1) := by decide +kernel
set_option maxRecDepth 100000 in
set_option maxHeartbeats 4000000 in
theorem c_X3_waysTo {E : XE} {B N : Nat} {v : Nat → va_E} {c d n r off : Nat} {p g h s t it : Nat → Int} {l : Cor} {lane size b : Int} {g1 h1 s1 t1 : Nat → Int} {n1 : Nat} {off_i : Int} (ha_off : off_i = (off : Int)) (hc0 : Cel N v c (.inr (3, [.int (zI (p 0)), .int (zI (p 1)), .int (zI (p 2)), .ref (B + (c + 1)), .ref (B + (c + 2)), .int (zI (p 3)), .ref (B + (c + 3)), .int (zI (p 4)), .ref (B + (c + 4)), .ref (B + (c + 13)), .ref (B + (c + 18))]))) (hc1 : Cel N v (c + 13) (.inr (4, [.ref (B + (c + 14)), .ref (B + (c + 15)), .int (zI (n1 : Int)), .ref (B + (c + 16)), .ref (B + (c + 17))]))) (hc2 : Cel N v (c + 14) (iarr E 8 g1)) (hc3 : Cel N v (c + 15) (barr E 8 h1)) (hc4 : Cel N v (c + 16) (iarr E 8 s1)) (hc5 : Cel N v (c + 17) (iarr E 8 t1)) (hc6 : Cel N v d (.inr (4, [.ref (B + (d + 1)), .ref (B + (d + 2)), .int (zI (n : Int)), .ref (B + (d + 3)), .ref (B + (d + 4))]))) (hc7 : Cel N v (d + 1) (iarr E 8 g)) (hc8 : Cel N v (d + 2) (barr E 8 h)) (hc9 : Cel N v (d + 3) (iarr E 8 s)) (hc10 : Cel N v (d + 4) (iarr E 8 t)) (hc11 : Cel N v (c + 4) (rarr E 6 8 B (ouA c))) (hc12 : Cel N v (c + 2) (barr E 48 (gA p))) (hc13 : Cel N v (c + 3) (rarr E 5 5 B (psA c p))) (hc14 : Cel N v r (.inr (6, [.ref (B + (r + 1)), .int (zI lane), .int (zI size)]))) (hc15 : Cel N v (r + 1) (iarr E 40 it)) (hF0 : ∀ x : Nat, x < 8 → Cel N v (c + 5 + x) (iarr E 7 (wbS p x))) (hF1 : ∀ x : Nat, (x : Int) < p 4 → Cel N v (c + 23 + x) (perE p x)) (hq0 : LR g h l) (hq1 : n = l.length ∧ (l.length : Int) ≤ p 2) (hq2 : CorOk l) (hq3 : SR (p 0) (p 1) l s t) (hq4 : POk p) (hq5 : 0 ≤ b ∧ b ≤ 1) (hq6 : off ≤ 32) (hq7 : ∀ k, k < 40 → -2147483648 ≤ it k ∧ it k ≤ 2147483647) (hq8 : d + 5 ≤ c) (hq9 : r + 2 ≤ c) (hq10 : ∀ i : Nat, i < 5 → (i : Int) < p 4 → 1 ≤ p (5 + i)) : gM yX3_waysTo wsX3_waysTo ({ frames := 4, cells := 0, slots := 0, locals := 101 }) E B N v [.ref (B + c), .ref (B + r), .int (zI off_i), .int (zI b), .ref (B + d)] (po0 N (fun ρ v' => ∃ (n9 : Nat), ∃ (g9 : Nat → Int), ∃ (h9 : Nat → Int), ∃ (s9 : Nat → Int), ∃ (t9 : Nat → Int), ρ = some (.int (zI (if b = 1 then wentB p l it off (48 * (p 4).toNat) else wentC p l it off (48 * (p 4).toNat)))) ∧ (va_up (va_up (va_up (va_up (va_up v (c + 13) (.inr (4, [.ref (B + (c + 14)), .ref (B + (c + 15)), .int (zI (n9 : Int)), .ref (B + (c + 16)), .ref (B + (c + 17))]))) (c + 14) (iarr E 8 g9)) (c + 15) (barr E 8 h9)) (c + 16) (iarr E 8 s9)) (c + 17) (iarr E 8 t9)) = v')) := by
  subst ha_off
  refine x_met (nm := "waysTo") (by decide +kernel) rfl (Nat.le_of_ble_eq_true rfl) rfl (fun Γ K KR hnL hnm => ?_)
  show XW Γ N v [(0, .ref (B + c)), (1, .ref (B + r)), (2, .int (zI (off : Int))), (3, .int (zI b)), (4, .ref (B + d))] 0 0 0 []
  have hP0 := hq4.1
  have hP1 := hq4.2.1
  have hP2 := hq4.2.2.1
  have hp4 := hq4.2.2.2.2.1
  refine x_v (cel_pad hc1) ?_
  refine x_v (cel_pad (cel_ne hc2 (by omega))) ?_
  refine x_v (cel_pad (cel_ne (cel_ne hc3 (by omega)) (by omega))) ?_
  refine x_v (cel_pad (cel_ne (cel_ne (cel_ne hc4 (by omega)) (by omega)) (by omega))) ?_
  refine x_v (cel_pad (cel_ne (cel_ne (cel_ne (cel_ne hc5 (by omega)) (by omega)) (by omega)) (by omega))) ?_
  refine x_iconst (pc := 0) K dX3_waysTo_0 ?_
  refine x_istore (pc := 1) K (L' := [(5, .int (zI 0)), (0, .ref (B + c)), (1, .ref (B + r)), (2, .int (zI (off : Int))), (3, .int (zI b)), (4, .ref (B + d))]) hnL (by decide) rfl dX3_waysTo_1 ?_
  refine x_iconst (pc := 3) K dX3_waysTo_3 ?_
  refine x_istore (pc := 4) K (L' := [(6, .int (zI 0)), (5, .int (zI 0)), (0, .ref (B + c)), (1, .ref (B + r)), (2, .int (zI (off : Int))), (3, .int (zI b)), (4, .ref (B + d))]) hnL (by decide) rfl dX3_waysTo_4 ?_
  have LOOP6 : ∀ (n_6 : Nat) (w : Int) (j : Nat) (n3 : Nat) (g3 : Nat → Int) (h3 : Nat → Int) (s3 : Nat → Int) (t3 : Nat → Int), (j ≤ (p 4).toNat) → (w = wentC p l it off (48 * j)) → (b = 1 → wentC p l it off (48 * j) = 0) → ((p 4).toNat - j) < n_6 → XW Γ N (va_up (va_up (va_up (va_up (va_up v (c + 13) (.inr (4, [.ref (B + (c + 14)), .ref (B + (c + 15)), .int (zI (n3 : Int)), .ref (B + (c + 16)), .ref (B + (c + 17))]))) (c + 14) (iarr E 8 g3)) (c + 15) (barr E 8 h3)) (c + 16) (iarr E 8 s3)) (c + 17) (iarr E 8 t3)) [(0, .ref (B + c)), (1, .ref (B + r)), (2, .int (zI (off : Int))), (3, .int (zI b)), (4, .ref (B + d)), (5, .int (zI w)), (6, .int (zI (j : Int)))] 0 0 6 [] := by
    intro n_6
    induction n_6 with
    | zero =>
      intro w j n3 g3 h3 s3 t3 hi6_0 hi6_1 hi6_2 hm_6
      exfalso; omega
    | succ n_6 ih6 =>
      intro w j n3 g3 h3 s3 t3 hi6_0 hi6_1 hi6_2 hm_6
      refine x_iload (pc := 6) 6 K rfl dX3_waysTo_6 ?_
      refine x_aload_n (pc := 8) 0 K rfl rfl dX3_waysTo_8 ?_
      refine x_get (pc := 9) (C := RX3) (T := TX3) (n := 11) (ci := 3) (idx := 38) (ref := "BorderBeds$Ground") (x := .int (zI (p 4)))  K (cel_ne (cel_ne (cel_ne (cel_ne (cel_ne hc0 (by omega)) (by omega)) (by omega)) (by omega)) (by omega)) rfl (by decide +kernel) 7 (by decide) (by decide +kernel) rfl rfl dX3_waysTo_9 ?_
      refine x_icmp_ge (pc := 12) (tgt := 94) K (by omega) (by omega) dX3_waysTo_12 (by decide) (fun h_12 => ?_) (fun h_12 => ?_)
      · skip
        have hjm : j = (p 4).toNat := by omega
        rw [hjm] at hi6_1 hi6_2
        refine x_iload_n (pc := 94) 3 K rfl rfl dX3_waysTo_94 ?_
        refine x_if_eq (pc := 95) (tgt := 103) K (by omega) dX3_waysTo_95 (by decide) (fun h_95 => ?_) (fun h_95 => ?_)
        · skip
          refine x_iload (pc := 103) 5 K rfl dX3_waysTo_103 ?_
          refine x_iret (pc := 105) K KR (by omega) (Nat.le_of_ble_eq_true rfl) (Nat.le_of_ble_eq_true rfl) dX3_waysTo_105 ?_
          have hV : (if b = 1 then wentB p l it off (48 * (p 4).toNat) else wentC p l it off (48 * (p 4).toNat)) = w := by rw [if_neg (by omega)]; exact hi6_1.symm
          exact ⟨rfl, n3, g3, h3, s3, t3, ri hV.symm, rfl⟩
        · skip
          refine x_ldc (pc := 98) (x := (-1000000)) (-1000000) K (by decide) (by decide +kernel) dX3_waysTo_98 ?_
          refine x_goto (pc := 100) (tgt := 105) K dX3_waysTo_100 (by decide) ?_
          refine x_iret (pc := 105) K KR (by omega) (Nat.le_of_ble_eq_true rfl) (Nat.le_of_ble_eq_true rfl) dX3_waysTo_105 ?_
          have hV : (if b = 1 then wentB p l it off (48 * (p 4).toNat) else wentC p l it off (48 * (p 4).toNat)) = (-1000000) := by rw [if_pos (by omega)]; exact wentB_none (hi6_2 (by omega))
          exact ⟨rfl, n3, g3, h3, s3, t3, ri hV.symm, rfl⟩
      · skip
        have hj5 : j < 5 := by omega
        refine x_iconst (pc := 15) K dX3_waysTo_15 ?_
        refine x_istore (pc := 16) K (L' := [(7, .int (zI 0)), (0, .ref (B + c)), (1, .ref (B + r)), (2, .int (zI (off : Int))), (3, .int (zI b)), (4, .ref (B + d)), (5, .int (zI w)), (6, .int (zI (j : Int)))]) hnL (by decide) rfl dX3_waysTo_16 ?_
        have LOOP18 : ∀ (n_18 : Nat) (w2 : Int) (k : Nat) (n4 : Nat) (g4 : Nat → Int) (h4 : Nat → Int) (s4 : Nat → Int) (t4 : Nat → Int), (k ≤ 48) → (w2 = wentC p l it off (48 * j + k)) → (b = 1 → wentC p l it off (48 * j + k) = 0) → (48 - k) < n_18 → XW Γ N (va_up (va_up (va_up (va_up (va_up v (c + 13) (.inr (4, [.ref (B + (c + 14)), .ref (B + (c + 15)), .int (zI (n4 : Int)), .ref (B + (c + 16)), .ref (B + (c + 17))]))) (c + 14) (iarr E 8 g4)) (c + 15) (barr E 8 h4)) (c + 16) (iarr E 8 s4)) (c + 17) (iarr E 8 t4)) [(0, .ref (B + c)), (1, .ref (B + r)), (2, .int (zI (off : Int))), (3, .int (zI b)), (4, .ref (B + d)), (5, .int (zI w2)), (6, .int (zI (j : Int))), (7, .int (zI (k : Int)))] 0 0 18 [] := by
          intro n_18
          induction n_18 with
          | zero =>
            intro w2 k n4 g4 h4 s4 t4 hi18_0 hi18_1 hi18_2 hm_18
            exfalso; omega
          | succ n_18 ih18 =>
            intro w2 k n4 g4 h4 s4 t4 hi18_0 hi18_1 hi18_2 hm_18
            have hw := hq4.2.2.2.2.2.1 j (by omega)
            have hkk := hq10 j (by omega) (by omega)
            have hcr := wentC_rng p l it off (48 * j + k)
            rw [← hi18_1] at hcr
            refine x_iload (pc := 18) 7 K rfl dX3_waysTo_18 ?_
            refine x_bipush (pc := 20) K (by decide) dX3_waysTo_20 ?_
            refine x_icmp_ge (pc := 22) (tgt := 88) K (by omega) (by decide) dX3_waysTo_22 (by decide) (fun h_22 => ?_) (fun h_22 => ?_)
            · skip
              have hk48 : k = 48 := by omega
              rw [hk48] at hi18_1 hi18_2
              refine x_iinc (pc := 88) (L' := [(6, .int (zI ((j : Int) + 1))), (0, .ref (B + c)), (1, .ref (B + r)), (2, .int (zI (off : Int))), (3, .int (zI b)), (4, .ref (B + d)), (5, .int (zI w2)), (7, .int (zI (k : Int)))]) 6 K hnL rfl (by decide) rfl dX3_waysTo_88 ?_
              refine x_goto (pc := 91) (tgt := 6) K dX3_waysTo_91 (by decide) ?_
              refine x_sub (L' := [(0, .ref (B + c)), (1, .ref (B + r)), (2, .int (zI (off : Int))), (3, .int (zI b)), (4, .ref (B + d)), (5, .int (zI w2)), (6, .int (zI ((j : Int) + 1)))]) [1, 2, 3, 4, 5, 6, 0] rfl ?_
              exact ih6 w2 (j + 1) n4 g4 h4 s4 t4 (by omega) (by rw [show 48 * (j + 1) = 48 * j + 48 by omega]; exact hi18_1) (by rw [show 48 * (j + 1) = 48 * j + 48 by omega]; exact hi18_2) (by omega)
            · skip
              refine x_aload_n (pc := 25) 0 K rfl rfl dX3_waysTo_25 ?_
              refine x_aload_n (pc := 26) 0 K rfl rfl dX3_waysTo_26 ?_
              refine x_get (pc := 27) (C := RX3) (T := TX3) (n := 11) (ci := 3) (idx := 34) (ref := "BorderBeds$Ground") (x := .ref (B + (c + 3)))  K (cel_ne (cel_ne (cel_ne (cel_ne (cel_ne hc0 (by omega)) (by omega)) (by omega)) (by omega)) (by omega)) rfl (by decide +kernel) 6 (by decide) (by decide +kernel) rfl rfl dX3_waysTo_27 ?_
              refine x_iload (pc := 30) 6 K rfl dX3_waysTo_30 ?_
              refine x_aald (pc := 32) j K (cel_ne (cel_ne (cel_ne (cel_ne (cel_ne hc13 (by omega)) (by omega)) (by omega)) (by omega)) (by omega)) rfl rfl rfl (by omega) (by decide) dX3_waysTo_32 ?_
              obtain ⟨o, ho⟩ : ∃ o : Nat, o = c + 23 + j := ⟨_, rfl⟩
              have hco : Cel N v o (perE p j) := by rw [ho]; exact hF1 j (by omega)
              refine x_st (st' := [.ref (B + o), .ref (B + c)]) (by rw [rf_some (h := (psA c p)) (j := j) (o := o) (by rw [psA_at (by omega), ho])]) ?_
              refine x_iload (pc := 33) 7 K rfl dX3_waysTo_33 ?_
              refine x_aload (pc := 35) 4 K rfl dX3_waysTo_35 ?_
              refine x_callV (pc := 37) (C := RX3) (T := TX3) (n := 11) (ci := 3) (As := [.ref (B + o), .int (zI (k : Int)), .ref (B + d)]) K (c_X3_mayCross (E := E) (B := B) (N := N) (l := l) (who := j) (cell := k) rfl (cel_ne (cel_ne (cel_ne (cel_ne (cel_ne hc0 (by omega)) (by omega)) (by omega)) (by omega)) (by omega)) (cel_ne (cel_ne (cel_ne (cel_ne (cel_ne hc6 (by omega)) (by omega)) (by omega)) (by omega)) (by omega)) (cel_ne (cel_ne (cel_ne (cel_ne (cel_ne hc9 (by omega)) (by omega)) (by omega)) (by omega)) (by omega)) (cel_ne (cel_ne (cel_ne (cel_ne (cel_ne hc10 (by omega)) (by omega)) (by omega)) (by omega)) (by omega)) (cel_ne (cel_ne (cel_ne (cel_ne (cel_ne hc12 (by omega)) (by omega)) (by omega)) (by omega)) (by omega)) (cel_ne (cel_ne (cel_ne (cel_ne (cel_ne hco (by omega)) (by omega)) (by omega)) (by omega)) (by omega)) hq3 hq4 (by omega) (by omega) (by omega)) gX3_waysTo_X3_mayCross rfl (na := 3) (by decide +kernel) rfl ⟨(Nat.le_of_ble_eq_true rfl), (Nat.le_of_ble_eq_true rfl)⟩ (cel_ne (cel_ne (cel_ne (cel_ne (cel_ne hc0 (by omega)) (by omega)) (by omega)) (by omega)) (by omega)) rfl (st := []) rfl (Nat.le_of_ble_eq_true rfl) ⟨(Nat.le_of_ble_eq_true rfl), (Nat.le_of_ble_eq_true rfl)⟩ dX3_waysTo_37 (fun r37 N37 w37 hpo37 hN37 => ?_)
              obtain ⟨rfl, rfl, rfl⟩ := hpo37
              refine x_st (st' := [.int (zI (mayI p l j k))]) rfl ?_
              have hrg37 := mayI_rng p l j k
              refine x_if_eq (pc := 40) (tgt := 82) K (by omega) dX3_waysTo_40 (by decide) (fun h_40 => ?_) (fun h_40 => ?_)
              · skip
                have h_40 := mayI_f h_40
                have hmay := mayI_0 h_40
                have hI : wentI p l it off (48 * j + k) = 0 := by rw [wentI_at (by omega)]; exact if_neg (by omega)
                refine x_iinc (pc := 82) (L' := [(7, .int (zI ((k : Int) + 1))), (0, .ref (B + c)), (1, .ref (B + r)), (2, .int (zI (off : Int))), (3, .int (zI b)), (4, .ref (B + d)), (5, .int (zI w2)), (6, .int (zI (j : Int)))]) 7 K hnL rfl (by decide) rfl dX3_waysTo_82 ?_
                refine x_goto (pc := 85) (tgt := 18) K dX3_waysTo_85 (by decide) ?_
                refine x_sub (L' := [(0, .ref (B + c)), (1, .ref (B + r)), (2, .int (zI (off : Int))), (3, .int (zI b)), (4, .ref (B + d)), (5, .int (zI w2)), (6, .int (zI (j : Int))), (7, .int (zI ((k : Int) + 1)))]) [1, 2, 3, 4, 5, 6, 7, 0] rfl ?_
                exact ih18 w2 (k + 1) n4 g4 h4 s4 t4 (by omega) (by show _ = wentC p l it off (48 * j + k) + wentI p l it off (48 * j + k); rw [← hi18_1]; omega) (by exact fun q => by have := hi18_2 q; show wentC p l it off (48 * j + k) + wentI p l it off (48 * j + k) = 0; omega) (by omega)
              · skip
                have h_40 := mayI_t h_40
                have hmay := mayI_1 h_40
                refine x_aload_n (pc := 43) 0 K rfl rfl dX3_waysTo_43 ?_
                refine x_aload_n (pc := 44) 0 K rfl rfl dX3_waysTo_44 ?_
                refine x_get (pc := 45) (C := RX3) (T := TX3) (n := 11) (ci := 3) (idx := 34) (ref := "BorderBeds$Ground") (x := .ref (B + (c + 3)))  K (cel_ne (cel_ne (cel_ne (cel_ne (cel_ne hc0 (by omega)) (by omega)) (by omega)) (by omega)) (by omega)) rfl (by decide +kernel) 6 (by decide) (by decide +kernel) rfl rfl dX3_waysTo_45 ?_
                refine x_iload (pc := 48) 6 K rfl dX3_waysTo_48 ?_
                refine x_aald (pc := 50) j K (cel_ne (cel_ne (cel_ne (cel_ne (cel_ne hc13 (by omega)) (by omega)) (by omega)) (by omega)) (by omega)) rfl rfl rfl (by omega) (by decide) dX3_waysTo_50 ?_
                obtain ⟨o, ho⟩ : ∃ o : Nat, o = c + 23 + j := ⟨_, rfl⟩
                have hco : Cel N v o (perE p j) := by rw [ho]; exact hF1 j (by omega)
                refine x_st (st' := [.ref (B + o), .ref (B + c)]) (by rw [rf_some (h := (psA c p)) (j := j) (o := o) (by rw [psA_at (by omega), ho])]) ?_
                refine x_iload (pc := 51) 7 K rfl dX3_waysTo_51 ?_
                refine x_aload (pc := 53) 4 K rfl dX3_waysTo_53 ?_
                refine x_callV (pc := 55) (C := RX3) (T := TX3) (n := 11) (ci := 3) (As := [.ref (B + o), .int (zI (k : Int)), .ref (B + d)]) K (c_X3_guessed (E := E) (B := B) (N := N) (l := l) (who := j) (cell := k) rfl (cel_ne (cel_ne (cel_ne (cel_ne (cel_ne hc0 (by omega)) (by omega)) (by omega)) (by omega)) (by omega)) (cel_ne (cel_ne (cel_ne (cel_ne (cel_self hc1.1) (by omega)) (by omega)) (by omega)) (by omega)) (cel_ne (cel_ne (cel_ne (cel_self hc2.1) (by omega)) (by omega)) (by omega)) (cel_ne (cel_ne (cel_self hc3.1) (by omega)) (by omega)) (cel_ne (cel_self hc4.1) (by omega)) (cel_self hc5.1) (cel_ne (cel_ne (cel_ne (cel_ne (cel_ne hc6 (by omega)) (by omega)) (by omega)) (by omega)) (by omega)) (cel_ne (cel_ne (cel_ne (cel_ne (cel_ne hc7 (by omega)) (by omega)) (by omega)) (by omega)) (by omega)) (cel_ne (cel_ne (cel_ne (cel_ne (cel_ne hc8 (by omega)) (by omega)) (by omega)) (by omega)) (by omega)) (cel_ne (cel_ne (cel_ne (cel_ne (cel_ne hc9 (by omega)) (by omega)) (by omega)) (by omega)) (by omega)) (cel_ne (cel_ne (cel_ne (cel_ne (cel_ne hc10 (by omega)) (by omega)) (by omega)) (by omega)) (by omega)) (cel_ne (cel_ne (cel_ne (cel_ne (cel_ne hco (by omega)) (by omega)) (by omega)) (by omega)) (by omega)) hq0 hq1 hq2 hq3 hq4 (by omega) (by omega) (by omega) (by omega) (by omega)) gX3_waysTo_X3_guessed rfl (na := 3) (by decide +kernel) rfl ⟨(Nat.le_of_ble_eq_true rfl), (Nat.le_of_ble_eq_true rfl)⟩ (cel_ne (cel_ne (cel_ne (cel_ne (cel_ne hc0 (by omega)) (by omega)) (by omega)) (by omega)) (by omega)) rfl (st := []) rfl (Nat.le_of_ble_eq_true rfl) ⟨(Nat.le_of_ble_eq_true rfl), (Nat.le_of_ble_eq_true rfl)⟩ dX3_waysTo_55 (fun r55 N55 w55 hpo55 hN55 => ?_)
                obtain ⟨rfl, g2_55, h2_55, s2_55, t2_55, hp55_0, hp55_1, rfl, rfl⟩ := hpo55
                refine x_v (congrArg (fun w => (va_up (va_up (va_up (va_up w (c + 14) (iarr E 8 g2_55)) (c + 15) (barr E 8 h2_55)) (c + 16) (iarr E 8 s2_55)) (c + 17) (iarr E 8 t2_55))) (show (va_up (va_up (va_up (va_up (va_up v (c + 13) (.inr (4, [.ref (B + (c + 14)), .ref (B + (c + 15)), .int (zI (((crossA (p (5 + j)) (p 2) k l).length : Nat) : Int)), .ref (B + (c + 16)), .ref (B + (c + 17))]))) (c + 14) (iarr E 8 g4)) (c + 15) (barr E 8 h4)) (c + 16) (iarr E 8 s4)) (c + 17) (iarr E 8 t4)) = _ from (up_at4 (by omega) (by omega) (by omega) (by omega)).symm)) ?_
                refine x_v (congrArg (fun w => (va_up (va_up (va_up w (c + 15) (barr E 8 h2_55)) (c + 16) (iarr E 8 s2_55)) (c + 17) (iarr E 8 t2_55))) (show (va_up (va_up (va_up (va_up (va_up v (c + 13) (.inr (4, [.ref (B + (c + 14)), .ref (B + (c + 15)), .int (zI (((crossA (p (5 + j)) (p 2) k l).length : Nat) : Int)), .ref (B + (c + 16)), .ref (B + (c + 17))]))) (c + 14) (iarr E 8 g2_55)) (c + 15) (barr E 8 h4)) (c + 16) (iarr E 8 s4)) (c + 17) (iarr E 8 t4)) = _ from (up_at3 (by omega) (by omega) (by omega)).symm)) ?_
                refine x_v (congrArg (fun w => (va_up (va_up w (c + 16) (iarr E 8 s2_55)) (c + 17) (iarr E 8 t2_55))) (show (va_up (va_up (va_up (va_up (va_up v (c + 13) (.inr (4, [.ref (B + (c + 14)), .ref (B + (c + 15)), .int (zI (((crossA (p (5 + j)) (p 2) k l).length : Nat) : Int)), .ref (B + (c + 16)), .ref (B + (c + 17))]))) (c + 14) (iarr E 8 g2_55)) (c + 15) (barr E 8 h2_55)) (c + 16) (iarr E 8 s4)) (c + 17) (iarr E 8 t4)) = _ from (up_at2 (by omega) (by omega)).symm)) ?_
                refine x_v (congrArg (fun w => (va_up w (c + 17) (iarr E 8 t2_55))) (show (va_up (va_up (va_up (va_up (va_up v (c + 13) (.inr (4, [.ref (B + (c + 14)), .ref (B + (c + 15)), .int (zI (((crossA (p (5 + j)) (p 2) k l).length : Nat) : Int)), .ref (B + (c + 16)), .ref (B + (c + 17))]))) (c + 14) (iarr E 8 g2_55)) (c + 15) (barr E 8 h2_55)) (c + 16) (iarr E 8 s2_55)) (c + 17) (iarr E 8 t4)) = _ from (up_at1 (by omega)).symm)) ?_
                refine x_v (w := (va_up (va_up (va_up (va_up (va_up v (c + 13) (.inr (4, [.ref (B + (c + 14)), .ref (B + (c + 15)), .int (zI (((crossA (p (5 + j)) (p 2) k l).length : Nat) : Int)), .ref (B + (c + 16)), .ref (B + (c + 17))]))) (c + 14) (iarr E 8 g2_55)) (c + 15) (barr E 8 h2_55)) (c + 16) (iarr E 8 s2_55)) (c + 17) (iarr E 8 t2_55))) (up_at0).symm ?_
                refine x_st (st' := [.ref (B + (c + 13))]) rfl ?_
                refine x_aload_n (pc := 58) 1 K rfl rfl dX3_waysTo_58 ?_
                refine x_iload_n (pc := 59) 2 K rfl rfl dX3_waysTo_59 ?_
                refine x_callV (pc := 60) (C := RX4) (T := TX4) (n := 5) (ci := 4) (As := [.ref (B + r), .int (zI (off : Int))]) K (c_X4_liesAs (E := E) (B := B) (N := N) (l := (crossA (p (5 + j)) (p 2) k l)) (p := p) (o := off) rfl (cel_ne (cel_ne (cel_ne (cel_ne (cel_self hc1.1) (by omega)) (by omega)) (by omega)) (by omega)) (cel_ne (cel_self hc4.1) (by omega)) (cel_ne (cel_ne (cel_ne (cel_ne (cel_ne hc14 (by omega)) (by omega)) (by omega)) (by omega)) (by omega)) (cel_ne (cel_ne (cel_ne (cel_ne (cel_ne hc15 (by omega)) (by omega)) (by omega)) (by omega)) (by omega)) hp55_1 (by omega) hq7) gX3_waysTo_X4_liesAs rfl (na := 2) (by decide +kernel) rfl ⟨(Nat.le_of_ble_eq_true rfl), (Nat.le_of_ble_eq_true rfl)⟩ (cel_ne (cel_ne (cel_ne (cel_ne (cel_self hc1.1) (by omega)) (by omega)) (by omega)) (by omega)) rfl (st := []) rfl (Nat.le_of_ble_eq_true rfl) ⟨(Nat.le_of_ble_eq_true rfl), (Nat.le_of_ble_eq_true rfl)⟩ dX3_waysTo_60 (fun r60 N60 w60 hpo60 hN60 => ?_)
                obtain ⟨rfl, rfl, rfl⟩ := hpo60
                refine x_st (st' := [.int (zI (isSoF p (crossA (p (5 + j)) (p 2) k l) it off 8))]) rfl ?_
                have hir := isSoF_rng p (crossA (p (5 + j)) (p 2) k l) it off 8
                refine x_if_eq (pc := 63) (tgt := 82) K (by omega) dX3_waysTo_63 (by decide) (fun h_63 => ?_) (fun h_63 => ?_)
                · skip
                  have hI : wentI p l it off (48 * j + k) = 0 := by rw [wentI_at (by omega)]; exact if_neg (by omega)
                  refine x_iinc (pc := 82) (L' := [(7, .int (zI ((k : Int) + 1))), (0, .ref (B + c)), (1, .ref (B + r)), (2, .int (zI (off : Int))), (3, .int (zI b)), (4, .ref (B + d)), (5, .int (zI w2)), (6, .int (zI (j : Int)))]) 7 K hnL rfl (by decide) rfl dX3_waysTo_82 ?_
                  refine x_goto (pc := 85) (tgt := 18) K dX3_waysTo_85 (by decide) ?_
                  refine x_sub (L' := [(0, .ref (B + c)), (1, .ref (B + r)), (2, .int (zI (off : Int))), (3, .int (zI b)), (4, .ref (B + d)), (5, .int (zI w2)), (6, .int (zI (j : Int))), (7, .int (zI ((k : Int) + 1)))]) [1, 2, 3, 4, 5, 6, 7, 0] rfl ?_
                  exact ih18 w2 (k + 1) ((crossA (p (5 + j)) (p 2) k l).length) g2_55 h2_55 s2_55 t2_55 (by omega) (by show _ = wentC p l it off (48 * j + k) + wentI p l it off (48 * j + k); rw [← hi18_1]; omega) (by exact fun q => by have := hi18_2 q; show wentC p l it off (48 * j + k) + wentI p l it off (48 * j + k) = 0; omega) (by omega)
                · skip
                  have hI : wentI p l it off (48 * j + k) = 1 := by rw [wentI_at (by omega)]; exact if_pos ⟨hmay, by omega⟩
                  refine x_iload_n (pc := 66) 3 K rfl rfl dX3_waysTo_66 ?_
                  refine x_if_eq (pc := 67) (tgt := 79) K (by omega) dX3_waysTo_67 (by decide) (fun h_67 => ?_) (fun h_67 => ?_)
                  · skip
                    have hb0 : b = 0 := by omega
                    refine x_iinc (pc := 79) (L' := [(5, .int (zI (w2 + 1))), (0, .ref (B + c)), (1, .ref (B + r)), (2, .int (zI (off : Int))), (3, .int (zI b)), (4, .ref (B + d)), (6, .int (zI (j : Int))), (7, .int (zI (k : Int)))]) 5 K hnL rfl (by decide) rfl dX3_waysTo_79 ?_
                    refine x_iinc (pc := 82) (L' := [(7, .int (zI ((k : Int) + 1))), (5, .int (zI (w2 + 1))), (0, .ref (B + c)), (1, .ref (B + r)), (2, .int (zI (off : Int))), (3, .int (zI b)), (4, .ref (B + d)), (6, .int (zI (j : Int)))]) 7 K hnL rfl (by decide) rfl dX3_waysTo_82 ?_
                    refine x_goto (pc := 85) (tgt := 18) K dX3_waysTo_85 (by decide) ?_
                    refine x_sub (L' := [(0, .ref (B + c)), (1, .ref (B + r)), (2, .int (zI (off : Int))), (3, .int (zI b)), (4, .ref (B + d)), (5, .int (zI (w2 + 1))), (6, .int (zI (j : Int))), (7, .int (zI ((k : Int) + 1)))]) [2, 3, 4, 5, 6, 1, 7, 0] rfl ?_
                    exact ih18 (w2 + 1) (k + 1) ((crossA (p (5 + j)) (p 2) k l).length) g2_55 h2_55 s2_55 t2_55 (by omega) (by show _ = wentC p l it off (48 * j + k) + wentI p l it off (48 * j + k); rw [← hi18_1]; omega) (by exact fun q => by have := hi18_2 q; show wentC p l it off (48 * j + k) + wentI p l it off (48 * j + k) = 0; omega) (by omega)
                  · skip
                    have hb1 : b = 1 := by omega
                    refine x_bipush (pc := 70) K (by decide) dX3_waysTo_70 ?_
                    refine x_iload (pc := 72) 6 K rfl dX3_waysTo_72 ?_
                    refine x_imul (pc := 74) K dX3_waysTo_74 ?_
                    refine x_iload (pc := 75) 7 K rfl dX3_waysTo_75 ?_
                    refine x_iadd (pc := 77) K dX3_waysTo_77 ?_
                    refine x_iret (pc := 78) K KR (by omega) (Nat.le_of_ble_eq_true rfl) (Nat.le_of_ble_eq_true rfl) dX3_waysTo_78 ?_
                    have hV : (if b = 1 then wentB p l it off (48 * (p 4).toNat) else wentC p l it off (48 * (p 4).toNat)) = ((48 * (j : Int)) + (k : Int)) := by rw [if_pos hb1, wentB_found (hi18_2 hb1) hI (by omega)]; omega
                    exact ⟨rfl, ((crossA (p (5 + j)) (p 2) k l).length), g2_55, h2_55, s2_55, t2_55, ri hV.symm, rfl⟩
        refine x_sub (L' := [(0, .ref (B + c)), (1, .ref (B + r)), (2, .int (zI (off : Int))), (3, .int (zI b)), (4, .ref (B + d)), (5, .int (zI w)), (6, .int (zI (j : Int))), (7, .int (zI 0))]) [1, 2, 3, 4, 5, 6, 7, 0] rfl ?_
        exact LOOP18 (_) w 0 n3 g3 h3 s3 t3 (by omega) (by exact hi6_1) (by exact hi6_2) (Nat.lt_succ_self _)
  refine x_sub (L' := [(0, .ref (B + c)), (1, .ref (B + r)), (2, .int (zI (off : Int))), (3, .int (zI b)), (4, .ref (B + d)), (5, .int (zI 0)), (6, .int (zI 0))]) [2, 3, 4, 5, 6, 1, 0] rfl ?_
  exact LOOP6 (_) 0 0 n1 g1 h1 s1 t1 (by omega) (by rfl) (by exact fun _ => rfl) (Nat.lt_succ_self _)
