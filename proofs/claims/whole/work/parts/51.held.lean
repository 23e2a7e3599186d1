theorem dX3_isHeld_0 : decode cX3_isHeld 0 = .ok (.iconst 0, 1) := by decide +kernel
theorem dX3_isHeld_1 : decode cX3_isHeld 1 = .ok (.istore 5, 2) := by decide +kernel
theorem dX3_isHeld_3 : decode cX3_isHeld 3 = .ok (.iload 5, 2) := by decide +kernel
theorem dX3_isHeld_5 : decode cX3_isHeld 5 = .ok (.aload_n 0, 1) := by decide +kernel
theorem dX3_isHeld_6 : decode cX3_isHeld 6 = .ok (.getfield 38, 3) := by decide +kernel
theorem dX3_isHeld_9 : decode cX3_isHeld 9 = .ok (.if_icmp .ge 59, 3) := by decide +kernel
theorem dX3_isHeld_68 : decode cX3_isHeld 68 = .ok (.iconst 0, 1) := by decide +kernel
theorem dX3_isHeld_69 : decode cX3_isHeld 69 = .ok (.ireturn, 1) := by decide +kernel
theorem dX3_isHeld_12 : decode cX3_isHeld 12 = .ok (.aload_n 0, 1) := by decide +kernel
theorem dX3_isHeld_13 : decode cX3_isHeld 13 = .ok (.getfield 34, 3) := by decide +kernel
theorem dX3_isHeld_16 : decode cX3_isHeld 16 = .ok (.iload 5, 2) := by decide +kernel
theorem dX3_isHeld_18 : decode cX3_isHeld 18 = .ok (.aaload, 1) := by decide +kernel
theorem dX3_isHeld_19 : decode cX3_isHeld 19 = .ok (.astore 6, 2) := by decide +kernel
theorem dX3_isHeld_21 : decode cX3_isHeld 21 = .ok (.aload 6, 2) := by decide +kernel
theorem dX3_isHeld_23 : decode cX3_isHeld 23 = .ok (.getfield 99, 3) := by decide +kernel
theorem dX3_isHeld_26 : decode cX3_isHeld 26 = .ok (.iload_n 1, 1) := by decide +kernel
theorem dX3_isHeld_27 : decode cX3_isHeld 27 = .ok (.if_icmp .eq 35, 3) := by decide +kernel
theorem dX3_isHeld_62 : decode cX3_isHeld 62 = .ok (.iinc 5 1, 3) := by decide +kernel
theorem dX3_isHeld_65 : decode cX3_isHeld 65 = .ok (.goto (-62), 3) := by decide +kernel
theorem dX3_isHeld_30 : decode cX3_isHeld 30 = .ok (.aload_n 0, 1) := by decide +kernel
theorem dX3_isHeld_31 : decode cX3_isHeld 31 = .ok (.aload 6, 2) := by decide +kernel
theorem dX3_isHeld_33 : decode cX3_isHeld 33 = .ok (.iload_n 3, 1) := by decide +kernel
theorem dX3_isHeld_34 : decode cX3_isHeld 34 = .ok (.aload 4, 2) := by decide +kernel
set_option maxRecDepth 20000 in
theorem ggX3_isHeld_X3_mayCross : GoodIn wsX3_isHeld wsX3_mayCross := goodIn_r _ [8, 9, 10, 11, 12, 13, 14, 3, 15, 16, 17, 18, 19, 20, 21, 22, 23, 24, 25, 26, 27, 28, 29, 30, 31, 32, 33, 34, 35, 36, 37, 38, 110, 111, 112, 113, 114, 115, 116, 117, 118, 119, 120, 121, 122, 123, 124, 125, 126, 127, 128, 129, 99, 100, 101, 102, 103, 104, 105, 106, 107, 108, 109, 130, 131, 132, 133, 134] (by decide +kernel) (by decide +kernel)
set_option maxRecDepth 20000 in
theorem gX3_isHeld_X3_mayCross : GoodIn wsX3_isHeld (wsV RX3 102 RX3 yX3_mayCross wsX3_mayCross) := goodIn_app (goodIn_of _ (by decide +kernel)) ggX3_isHeld_X3_mayCross
theorem dX3_isHeld_36 : decode cX3_isHeld 36 = .ok (.invokevirtual 102, 3) := by decide +kernel
theorem dX3_isHeld_39 : decode cX3_isHeld 39 = .ok (.ifCond .eq 23, 3) := by decide +kernel
theorem dX3_isHeld_42 : decode cX3_isHeld 42 = .ok (.aload_n 0, 1) := by decide +kernel
theorem dX3_isHeld_43 : decode cX3_isHeld 43 = .ok (.iload_n 1, 1) := by decide +kernel
theorem dX3_isHeld_44 : decode cX3_isHeld 44 = .ok (.aload_n 0, 1) := by decide +kernel
theorem dX3_isHeld_45 : decode cX3_isHeld 45 = .ok (.aload 6, 2) := by decide +kernel
theorem dX3_isHeld_47 : decode cX3_isHeld 47 = .ok (.iload_n 3, 1) := by decide +kernel
theorem dX3_isHeld_48 : decode cX3_isHeld 48 = .ok (.aload 4, 2) := by decide +kernel
set_option maxRecDepth 20000 in
theorem ggX3_isHeld_X3_guessed : GoodIn wsX3_isHeld wsX3_guessed := goodIn_r _ [42, 43, 44, 45, 46, 35, 47, 48, 49, 50, 51, 52, 53, 54, 37, 38, 55, 56, 57, 58, 59, 60, 61, 62, 63, 64, 65, 66, 67, 68, 69, 70, 71, 72, 73, 74, 75, 76, 77, 78, 79, 80, 81, 82, 83, 84, 85, 86, 87, 88, 89, 90, 91, 99, 100, 101, 102, 103, 104, 105, 106, 107, 108, 109, 130, 131, 132, 133, 134] (by decide +kernel) (by decide +kernel)
set_option maxRecDepth 20000 in
theorem gX3_isHeld_X3_guessed : GoodIn wsX3_isHeld (wsV RX3 114 RX3 yX3_guessed wsX3_guessed) := goodIn_app (goodIn_of _ (by decide +kernel)) ggX3_isHeld_X3_guessed
theorem dX3_isHeld_50 : decode cX3_isHeld 50 = .ok (.invokevirtual 114, 3) := by decide +kernel
set_option maxRecDepth 20000 in
theorem ggX3_isHeld_X3_worthOf : GoodIn wsX3_isHeld wsX3_worthOf := goodIn_r _ [95, 96, 97, 98, 99, 100, 101, 102, 103, 104, 105, 106, 107, 108, 109, 130, 131, 132, 133, 134] (by decide +kernel) (by decide +kernel)
set_option maxRecDepth 20000 in
theorem gX3_isHeld_X3_worthOf : GoodIn wsX3_isHeld (wsV RX3 79 RX3 yX3_worthOf wsX3_worthOf) := goodIn_app (goodIn_of _ (by decide +kernel)) ggX3_isHeld_X3_worthOf
theorem dX3_isHeld_53 : decode cX3_isHeld 53 = .ok (.invokevirtual 79, 3) := by decide +kernel
theorem dX3_isHeld_56 : decode cX3_isHeld 56 = .ok (.iload_n 2, 1) := by decide +kernel
theorem dX3_isHeld_57 : decode cX3_isHeld 57 = .ok (.if_icmp .ge 5, 3) := by decide +kernel
theorem dX3_isHeld_60 : decode cX3_isHeld 60 = .ok (.iconst 1, 1) := by decide +kernel
theorem dX3_isHeld_61 : decode cX3_isHeld 61 = .ok (.ireturn, 1) := by decide +kernel
theorem dX3_heldCells_0 : decode cX3_heldCells 0 = .ok (.iconst 0, 1) := by decide +kernel
theorem dX3_heldCells_1 : decode cX3_heldCells 1 = .ok (.istore 5, 2) := by decide +kernel
theorem dX3_heldCells_3 : decode cX3_heldCells 3 = .ok (.iconst 0, 1) := by decide +kernel
theorem dX3_heldCells_4 : decode cX3_heldCells 4 = .ok (.istore 6, 2) := by decide +kernel
theorem dX3_heldCells_6 : decode cX3_heldCells 6 = .ok (.iload 6, 2) := by decide +kernel
theorem dX3_heldCells_8 : decode cX3_heldCells 8 = .ok (.bipush 48, 2) := by decide +kernel
theorem dX3_heldCells_10 : decode cX3_heldCells 10 = .ok (.if_icmp .ge 34, 3) := by decide +kernel
theorem dX3_heldCells_44 : decode cX3_heldCells 44 = .ok (.iload_n 3, 1) := by decide +kernel
theorem dX3_heldCells_45 : decode cX3_heldCells 45 = .ok (.iconst (-1), 1) := by decide +kernel
theorem dX3_heldCells_46 : decode cX3_heldCells 46 = .ok (.if_icmp .ne 8, 3) := by decide +kernel
theorem dX3_heldCells_54 : decode cX3_heldCells 54 = .ok (.ldc 121, 2) := by decide +kernel
theorem dX3_heldCells_56 : decode cX3_heldCells 56 = .ok (.ireturn, 1) := by decide +kernel
theorem dX3_heldCells_49 : decode cX3_heldCells 49 = .ok (.iload 5, 2) := by decide +kernel
theorem dX3_heldCells_51 : decode cX3_heldCells 51 = .ok (.goto 5, 3) := by decide +kernel
theorem dX3_heldCells_13 : decode cX3_heldCells 13 = .ok (.aload_n 0, 1) := by decide +kernel
theorem dX3_heldCells_14 : decode cX3_heldCells 14 = .ok (.iload_n 1, 1) := by decide +kernel
theorem dX3_heldCells_15 : decode cX3_heldCells 15 = .ok (.iload_n 2, 1) := by decide +kernel
theorem dX3_heldCells_16 : decode cX3_heldCells 16 = .ok (.iload 6, 2) := by decide +kernel
theorem dX3_heldCells_18 : decode cX3_heldCells 18 = .ok (.aload 4, 2) := by decide +kernel
set_option maxRecDepth 20000 in
theorem ggX3_heldCells_X3_isHeld : GoodIn wsX3_heldCells wsX3_isHeld := goodIn_r _ [6, 7, 8, 9, 10, 11, 12, 5, 13, 14, 15, 16, 17, 18, 19, 20, 21, 22, 23, 24, 25, 26, 27, 28, 29, 30, 31, 32, 33, 34, 35, 36, 37, 38, 39, 40, 41, 42, 43, 44, 45, 46, 47, 48, 49, 50, 51, 52, 53, 54, 55, 56, 57, 58, 59, 60, 61, 62, 63, 64, 65, 66, 67, 68, 69, 70, 71, 72, 73, 74, 75, 76, 77, 78, 79, 80, 81, 82, 83, 84, 85, 86, 87, 88, 89, 90, 91, 92, 93, 94, 95, 96, 97, 98, 99, 100, 101, 102, 103, 104, 105, 106, 107, 108, 109, 110, 111, 112, 113, 114, 115, 116, 117, 118, 119, 120, 121, 122, 123, 124, 125, 126, 127, 128, 129, 130, 131, 132, 133, 134, 135, 136, 137, 138, 139] (by decide +kernel) (by decide +kernel)
set_option maxRecDepth 20000 in
theorem gX3_heldCells_X3_isHeld : GoodIn wsX3_heldCells (wsV RX3 140 RX3 yX3_isHeld wsX3_isHeld) := goodIn_app (goodIn_of _ (by decide +kernel)) ggX3_heldCells_X3_isHeld
theorem dX3_heldCells_20 : decode cX3_heldCells 20 = .ok (.invokevirtual 140, 3) := by decide +kernel
theorem dX3_heldCells_23 : decode cX3_heldCells 23 = .ok (.ifCond .eq 15, 3) := by decide +kernel
theorem dX3_heldCells_38 : decode cX3_heldCells 38 = .ok (.iinc 6 1, 3) := by decide +kernel
theorem dX3_heldCells_41 : decode cX3_heldCells 41 = .ok (.goto (-35), 3) := by decide +kernel
theorem dX3_heldCells_26 : decode cX3_heldCells 26 = .ok (.iload 5, 2) := by decide +kernel
theorem dX3_heldCells_28 : decode cX3_heldCells 28 = .ok (.iload_n 3, 1) := by decide +kernel
theorem dX3_heldCells_29 : decode cX3_heldCells 29 = .ok (.if_icmp .ne 6, 3) := by decide +kernel
theorem dX3_heldCells_35 : decode cX3_heldCells 35 = .ok (.iinc 5 1, 3) := by decide +kernel
theorem dX3_heldCells_32 : decode cX3_heldCells 32 = .ok (.iload 6, 2) := by decide +kernel
theorem dX3_heldCells_34 : decode cX3_heldCells 34 = .ok (.ireturn, 1) := by decide +kernel
set_option maxRecDepth 100000 in
set_option maxHeartbeats 4000000 in
theorem c_X3_isHeld {E : XE} {B N : Nat} {v : Nat → va_E} {c d n cell : Nat} {p g h s t : Nat → Int} {l : Cor} {ld wn : Int} {g1 h1 s1 t1 : Nat → Int} {n1 : Nat} {cell_i : Int} (ha_cell : cell_i = (cell : Int)) (hc0 : Cel N v c (.inr (3, [.int (zI (p 0)), .int (zI (p 1)), .int (zI (p 2)), .ref (B + (c + 1)), .ref (B + (c + 2)), .int (zI (p 3)), .ref (B + (c + 3)), .int (zI (p 4)), .ref (B + (c + 4)), .ref (B + (c + 13)), .ref (B + (c + 18))]))) (hc1 : Cel N v (c + 13) (.inr (4, [.ref (B + (c + 14)), .ref (B + (c + 15)), .int (zI (n1 : Int)), .ref (B + (c + 16)), .ref (B + (c + 17))]))) (hc2 : Cel N v (c + 14) (iarr E 8 g1)) (hc3 : Cel N v (c + 15) (barr E 8 h1)) (hc4 : Cel N v (c + 16) (iarr E 8 s1)) (hc5 : Cel N v (c + 17) (iarr E 8 t1)) (hc6 : Cel N v d (.inr (4, [.ref (B + (d + 1)), .ref (B + (d + 2)), .int (zI (n : Int)), .ref (B + (d + 3)), .ref (B + (d + 4))]))) (hc7 : Cel N v (d + 1) (iarr E 8 g)) (hc8 : Cel N v (d + 2) (barr E 8 h)) (hc9 : Cel N v (d + 3) (iarr E 8 s)) (hc10 : Cel N v (d + 4) (iarr E 8 t)) (hc11 : Cel N v (c + 4) (rarr E 6 8 B (ouA c))) (hc12 : Cel N v (c + 2) (barr E 48 (gA p))) (hc13 : Cel N v (c + 3) (rarr E 5 5 B (psA c p))) (hF0 : ∀ x : Nat, x < 8 → Cel N v (c + 5 + x) (iarr E 7 (wbS p x))) (hF1 : ∀ x : Nat, (x : Int) < p 4 → Cel N v (c + 23 + x) (perE p x)) (hq0 : LR g h l) (hq1 : n = l.length ∧ (l.length : Int) ≤ p 2) (hq2 : CorOk l) (hq3 : SR (p 0) (p 1) l s t) (hq4 : POk p) (hq5 : 0 ≤ ld ∧ ld ≤ 1) (hq6 : (-2147483648 ≤ wn ∧ wn ≤ 2147483647)) (hq7 : cell ≤ 47) (hq8 : d + 5 ≤ c) (hq9 : ∀ i : Nat, i < 5 → (i : Int) < p 4 → 1 ≤ p (5 + i)) : gM yX3_isHeld wsX3_isHeld ({ frames := 4, cells := 0, slots := 0, locals := 101 }) E B N v [.ref (B + c), .int (zI ld), .int (zI wn), .int (zI cell_i), .ref (B + d)] (po0 N (fun ρ v' => ∃ (res : Int), ∃ (n9 : Nat), ∃ (g9 : Nat → Int), ∃ (h9 : Nat → Int), ∃ (s9 : Nat → Int), ∃ (t9 : Nat → Int), (res = heldI p l ld wn (p 4).toNat cell) ∧ ρ = some (.int (zI res)) ∧ (va_up (va_up (va_up (va_up (va_up v (c + 13) (.inr (4, [.ref (B + (c + 14)), .ref (B + (c + 15)), .int (zI (n9 : Int)), .ref (B + (c + 16)), .ref (B + (c + 17))]))) (c + 14) (iarr E 8 g9)) (c + 15) (barr E 8 h9)) (c + 16) (iarr E 8 s9)) (c + 17) (iarr E 8 t9)) = v')) := by
  subst ha_cell
  refine x_met (nm := "isHeld") (by decide +kernel) rfl (Nat.le_of_ble_eq_true rfl) rfl (fun Γ K KR hnL hnm => ?_)
  show XW Γ N v [(0, .ref (B + c)), (1, .int (zI ld)), (2, .int (zI wn)), (3, .int (zI (cell : Int))), (4, .ref (B + d))] 0 0 0 []
  have hP0 := hq4.1
  have hP1 := hq4.2.1
  have hP2 := hq4.2.2.1
  have hp4 := hq4.2.2.2.2.1
  refine x_v (cel_pad hc1) ?_
  refine x_v (cel_pad (cel_ne hc2 (by omega))) ?_
  refine x_v (cel_pad (cel_ne (cel_ne hc3 (by omega)) (by omega))) ?_
  refine x_v (cel_pad (cel_ne (cel_ne (cel_ne hc4 (by omega)) (by omega)) (by omega))) ?_
  refine x_v (cel_pad (cel_ne (cel_ne (cel_ne (cel_ne hc5 (by omega)) (by omega)) (by omega)) (by omega))) ?_
  refine x_iconst (pc := 0) K dX3_isHeld_0 ?_
  refine x_istore (pc := 1) K (L' := [(5, .int (zI 0)), (0, .ref (B + c)), (1, .int (zI ld)), (2, .int (zI wn)), (3, .int (zI (cell : Int))), (4, .ref (B + d))]) hnL (by decide) rfl dX3_isHeld_1 ?_
  have LOOP3 : ∀ (n_3 : Nat) (j : Nat) (n3 : Nat) (g3 : Nat → Int) (h3 : Nat → Int) (s3 : Nat → Int) (t3 : Nat → Int), (j ≤ (p 4).toNat) → (heldI p l ld wn j cell = 0) → ((p 4).toNat - j) < n_3 → XW Γ N (va_up (va_up (va_up (va_up (va_up v (c + 13) (.inr (4, [.ref (B + (c + 14)), .ref (B + (c + 15)), .int (zI (n3 : Int)), .ref (B + (c + 16)), .ref (B + (c + 17))]))) (c + 14) (iarr E 8 g3)) (c + 15) (barr E 8 h3)) (c + 16) (iarr E 8 s3)) (c + 17) (iarr E 8 t3)) [(0, .ref (B + c)), (1, .int (zI ld)), (2, .int (zI wn)), (3, .int (zI (cell : Int))), (4, .ref (B + d)), (5, .int (zI (j : Int)))] 0 0 3 [] := by
    intro n_3
    induction n_3 with
    | zero =>
      intro j n3 g3 h3 s3 t3 hi3_0 hi3_1 hm_3
      exfalso; omega
    | succ n_3 ih3 =>
      intro j n3 g3 h3 s3 t3 hi3_0 hi3_1 hm_3
      refine x_iload (pc := 3) 5 K rfl dX3_isHeld_3 ?_
      refine x_aload_n (pc := 5) 0 K rfl rfl dX3_isHeld_5 ?_
      refine x_get (pc := 6) (C := RX3) (T := TX3) (n := 11) (ci := 3) (idx := 38) (ref := "BorderBeds$Ground") (x := .int (zI (p 4)))  K (cel_ne (cel_ne (cel_ne (cel_ne (cel_ne hc0 (by omega)) (by omega)) (by omega)) (by omega)) (by omega)) rfl (by decide +kernel) 7 (by decide) (by decide +kernel) rfl rfl dX3_isHeld_6 ?_
      refine x_icmp_ge (pc := 9) (tgt := 68) K (by omega) (by omega) dX3_isHeld_9 (by decide) (fun h_9 => ?_) (fun h_9 => ?_)
      · skip
        refine x_iconst (pc := 68) K dX3_isHeld_68 ?_
        refine x_zret (pc := 69) K KR (by omega) (Nat.le_of_ble_eq_true rfl) (Nat.le_of_ble_eq_true rfl) rfl dX3_isHeld_69 ?_
        exact ⟨rfl, 0, n3, g3, h3, s3, t3, (by rw [show (p 4).toNat = j by omega]; exact hi3_1.symm), rfl, rfl⟩
      · skip
        have hw := hq4.2.2.2.2.2.1 j (by omega)
        have hkk := hq9 j (by omega) (by omega)
        refine x_aload_n (pc := 12) 0 K rfl rfl dX3_isHeld_12 ?_
        refine x_get (pc := 13) (C := RX3) (T := TX3) (n := 11) (ci := 3) (idx := 34) (ref := "BorderBeds$Ground") (x := .ref (B + (c + 3)))  K (cel_ne (cel_ne (cel_ne (cel_ne (cel_ne hc0 (by omega)) (by omega)) (by omega)) (by omega)) (by omega)) rfl (by decide +kernel) 6 (by decide) (by decide +kernel) rfl rfl dX3_isHeld_13 ?_
        refine x_iload (pc := 16) 5 K rfl dX3_isHeld_16 ?_
        refine x_aald (pc := 18) j K (cel_ne (cel_ne (cel_ne (cel_ne (cel_ne hc13 (by omega)) (by omega)) (by omega)) (by omega)) (by omega)) rfl rfl rfl (by omega) (by decide) dX3_isHeld_18 ?_
        obtain ⟨o, ho⟩ : ∃ o : Nat, o = c + 23 + j := ⟨_, rfl⟩
        have hco : Cel N v o (perE p j) := by rw [ho]; exact hF1 j (by omega)
        refine x_st (st' := [.ref (B + o)]) (by rw [rf_some (h := (psA c p)) (j := j) (o := o) (by rw [psA_at (by omega), ho])]) ?_
        refine x_astore (pc := 19) K (L' := [(6, .ref (B + o)), (0, .ref (B + c)), (1, .int (zI ld)), (2, .int (zI wn)), (3, .int (zI (cell : Int))), (4, .ref (B + d)), (5, .int (zI (j : Int)))]) hnL (by decide) rfl dX3_isHeld_19 ?_
        refine x_aload (pc := 21) 0 K rfl dX3_isHeld_21 ?_
        refine x_getP (pc := 23) (idx := 99) (x := .int (zI (p (10 + j)))) K (by omega) (cel_ne (cel_ne (cel_ne (cel_ne (cel_ne hco (by omega)) (by omega)) (by omega)) (by omega)) (by omega)) (by decide +kernel) (by decide +kernel) (by decide +kernel) (by decide +kernel) (by decide +kernel) 1 (by decide) (by decide +kernel) rfl dX3_isHeld_23 ?_
        refine x_iload_n (pc := 26) 2 K rfl rfl dX3_isHeld_26 ?_
        refine x_icmp_eq (pc := 27) (tgt := 62) K (by omega) (by omega) dX3_isHeld_27 (by decide) (fun h_27 => ?_) (fun h_27 => ?_)
        · skip
          refine x_iinc (pc := 62) (L' := [(5, .int (zI ((j : Int) + 1))), (6, .ref (B + o)), (0, .ref (B + c)), (1, .int (zI ld)), (2, .int (zI wn)), (3, .int (zI (cell : Int))), (4, .ref (B + d))]) 6 K hnL rfl (by decide) rfl dX3_isHeld_62 ?_
          refine x_goto (pc := 65) (tgt := 3) K dX3_isHeld_65 (by decide) ?_
          refine x_sub (L' := [(0, .ref (B + c)), (1, .int (zI ld)), (2, .int (zI wn)), (3, .int (zI (cell : Int))), (4, .ref (B + d)), (5, .int (zI ((j : Int) + 1)))]) [2, 3, 4, 5, 6, 0] rfl ?_
          exact ih3 (j + 1) n3 g3 h3 s3 t3 (by omega) (by exact heldI_no hi3_1 (by first | exact Or.inl (by omega) | exact Or.inr (Or.inl hmay) | exact Or.inr (Or.inr (by omega)))) (by omega)
        · skip
          refine x_aload_n (pc := 30) 1 K rfl rfl dX3_isHeld_30 ?_
          refine x_aload (pc := 31) 0 K rfl dX3_isHeld_31 ?_
          refine x_iload_n (pc := 33) 4 K rfl rfl dX3_isHeld_33 ?_
          refine x_aload (pc := 34) 5 K rfl dX3_isHeld_34 ?_
          refine x_callV (pc := 36) (C := RX3) (T := TX3) (n := 11) (ci := 3) (As := [.ref (B + o), .int (zI (cell : Int)), .ref (B + d)]) K (c_X3_mayCross (E := E) (B := B) (N := N) (l := l) (who := j) (cell := cell) rfl (cel_ne (cel_ne (cel_ne (cel_ne (cel_ne hc0 (by omega)) (by omega)) (by omega)) (by omega)) (by omega)) (cel_ne (cel_ne (cel_ne (cel_ne (cel_ne hc6 (by omega)) (by omega)) (by omega)) (by omega)) (by omega)) (cel_ne (cel_ne (cel_ne (cel_ne (cel_ne hc9 (by omega)) (by omega)) (by omega)) (by omega)) (by omega)) (cel_ne (cel_ne (cel_ne (cel_ne (cel_ne hc10 (by omega)) (by omega)) (by omega)) (by omega)) (by omega)) (cel_ne (cel_ne (cel_ne (cel_ne (cel_ne hc12 (by omega)) (by omega)) (by omega)) (by omega)) (by omega)) (cel_ne (cel_ne (cel_ne (cel_ne (cel_ne hco (by omega)) (by omega)) (by omega)) (by omega)) (by omega)) hq3 hq4 (by omega) (by omega) (by omega)) gX3_isHeld_X3_mayCross rfl (na := 3) (by decide +kernel) rfl ⟨(Nat.le_of_ble_eq_true rfl), (Nat.le_of_ble_eq_true rfl)⟩ (cel_ne (cel_ne (cel_ne (cel_ne (cel_ne hc0 (by omega)) (by omega)) (by omega)) (by omega)) (by omega)) rfl (st := []) rfl (Nat.le_of_ble_eq_true rfl) ⟨(Nat.le_of_ble_eq_true rfl), (Nat.le_of_ble_eq_true rfl)⟩ dX3_isHeld_36 (fun r36 N36 w36 hpo36 hN36 => ?_)
          obtain ⟨rfl, rfl, rfl⟩ := hpo36
          refine x_st (st' := [.int (zI (mayI p l j cell))]) rfl ?_
          have hrg36 := mayI_rng p l j cell
          refine x_if_eq (pc := 39) (tgt := 62) K (by omega) dX3_isHeld_39 (by decide) (fun h_39 => ?_) (fun h_39 => ?_)
          · skip
            have h_39 := mayI_f h_39
            have hmay := mayI_0 h_39
            refine x_iinc (pc := 62) (L' := [(5, .int (zI ((j : Int) + 1))), (6, .ref (B + o)), (0, .ref (B + c)), (1, .int (zI ld)), (2, .int (zI wn)), (3, .int (zI (cell : Int))), (4, .ref (B + d))]) 6 K hnL rfl (by decide) rfl dX3_isHeld_62 ?_
            refine x_goto (pc := 65) (tgt := 3) K dX3_isHeld_65 (by decide) ?_
            refine x_sub (L' := [(0, .ref (B + c)), (1, .int (zI ld)), (2, .int (zI wn)), (3, .int (zI (cell : Int))), (4, .ref (B + d)), (5, .int (zI ((j : Int) + 1)))]) [2, 3, 4, 5, 6, 0] rfl ?_
            exact ih3 (j + 1) n3 g3 h3 s3 t3 (by omega) (by exact heldI_no hi3_1 (by first | exact Or.inl (by omega) | exact Or.inr (Or.inl hmay) | exact Or.inr (Or.inr (by omega)))) (by omega)
          · skip
            have h_39 := mayI_t h_39
            have hmay := mayI_1 h_39
            refine x_aload_n (pc := 42) 1 K rfl rfl dX3_isHeld_42 ?_
            refine x_iload_n (pc := 43) 2 K rfl rfl dX3_isHeld_43 ?_
            refine x_aload_n (pc := 44) 1 K rfl rfl dX3_isHeld_44 ?_
            refine x_aload (pc := 45) 0 K rfl dX3_isHeld_45 ?_
            refine x_iload_n (pc := 47) 4 K rfl rfl dX3_isHeld_47 ?_
            refine x_aload (pc := 48) 5 K rfl dX3_isHeld_48 ?_
            refine x_callV (pc := 50) (C := RX3) (T := TX3) (n := 11) (ci := 3) (As := [.ref (B + o), .int (zI (cell : Int)), .ref (B + d)]) K (c_X3_guessed (E := E) (B := B) (N := N) (l := l) (who := j) (cell := cell) rfl (cel_ne (cel_ne (cel_ne (cel_ne (cel_ne hc0 (by omega)) (by omega)) (by omega)) (by omega)) (by omega)) (cel_ne (cel_ne (cel_ne (cel_ne (cel_self hc1.1) (by omega)) (by omega)) (by omega)) (by omega)) (cel_ne (cel_ne (cel_ne (cel_self hc2.1) (by omega)) (by omega)) (by omega)) (cel_ne (cel_ne (cel_self hc3.1) (by omega)) (by omega)) (cel_ne (cel_self hc4.1) (by omega)) (cel_self hc5.1) (cel_ne (cel_ne (cel_ne (cel_ne (cel_ne hc6 (by omega)) (by omega)) (by omega)) (by omega)) (by omega)) (cel_ne (cel_ne (cel_ne (cel_ne (cel_ne hc7 (by omega)) (by omega)) (by omega)) (by omega)) (by omega)) (cel_ne (cel_ne (cel_ne (cel_ne (cel_ne hc8 (by omega)) (by omega)) (by omega)) (by omega)) (by omega)) (cel_ne (cel_ne (cel_ne (cel_ne (cel_ne hc9 (by omega)) (by omega)) (by omega)) (by omega)) (by omega)) (cel_ne (cel_ne (cel_ne (cel_ne (cel_ne hc10 (by omega)) (by omega)) (by omega)) (by omega)) (by omega)) (cel_ne (cel_ne (cel_ne (cel_ne (cel_ne hco (by omega)) (by omega)) (by omega)) (by omega)) (by omega)) hq0 hq1 hq2 hq3 hq4 (by omega) (by omega) (by omega) (by omega) (by omega)) gX3_isHeld_X3_guessed rfl (na := 3) (by decide +kernel) rfl ⟨(Nat.le_of_ble_eq_true rfl), (Nat.le_of_ble_eq_true rfl)⟩ (cel_ne (cel_ne (cel_ne (cel_ne (cel_ne hc0 (by omega)) (by omega)) (by omega)) (by omega)) (by omega)) rfl (st := [.int (zI ld), .ref (B + c)]) rfl (Nat.le_of_ble_eq_true rfl) ⟨(Nat.le_of_ble_eq_true rfl), (Nat.le_of_ble_eq_true rfl)⟩ dX3_isHeld_50 (fun r50 N50 w50 hpo50 hN50 => ?_)
            obtain ⟨rfl, g2_50, h2_50, s2_50, t2_50, hp50_0, hp50_1, rfl, rfl⟩ := hpo50
            refine x_v (congrArg (fun w => (va_up (va_up (va_up (va_up w (c + 14) (iarr E 8 g2_50)) (c + 15) (barr E 8 h2_50)) (c + 16) (iarr E 8 s2_50)) (c + 17) (iarr E 8 t2_50))) (show (va_up (va_up (va_up (va_up (va_up v (c + 13) (.inr (4, [.ref (B + (c + 14)), .ref (B + (c + 15)), .int (zI (((crossA (p (5 + j)) (p 2) cell l).length : Nat) : Int)), .ref (B + (c + 16)), .ref (B + (c + 17))]))) (c + 14) (iarr E 8 g3)) (c + 15) (barr E 8 h3)) (c + 16) (iarr E 8 s3)) (c + 17) (iarr E 8 t3)) = _ from (up_at4 (by omega) (by omega) (by omega) (by omega)).symm)) ?_
            refine x_v (congrArg (fun w => (va_up (va_up (va_up w (c + 15) (barr E 8 h2_50)) (c + 16) (iarr E 8 s2_50)) (c + 17) (iarr E 8 t2_50))) (show (va_up (va_up (va_up (va_up (va_up v (c + 13) (.inr (4, [.ref (B + (c + 14)), .ref (B + (c + 15)), .int (zI (((crossA (p (5 + j)) (p 2) cell l).length : Nat) : Int)), .ref (B + (c + 16)), .ref (B + (c + 17))]))) (c + 14) (iarr E 8 g2_50)) (c + 15) (barr E 8 h3)) (c + 16) (iarr E 8 s3)) (c + 17) (iarr E 8 t3)) = _ from (up_at3 (by omega) (by omega) (by omega)).symm)) ?_
            refine x_v (congrArg (fun w => (va_up (va_up w (c + 16) (iarr E 8 s2_50)) (c + 17) (iarr E 8 t2_50))) (show (va_up (va_up (va_up (va_up (va_up v (c + 13) (.inr (4, [.ref (B + (c + 14)), .ref (B + (c + 15)), .int (zI (((crossA (p (5 + j)) (p 2) cell l).length : Nat) : Int)), .ref (B + (c + 16)), .ref (B + (c + 17))]))) (c + 14) (iarr E 8 g2_50)) (c + 15) (barr E 8 h2_50)) (c + 16) (iarr E 8 s3)) (c + 17) (iarr E 8 t3)) = _ from (up_at2 (by omega) (by omega)).symm)) ?_
            refine x_v (congrArg (fun w => (va_up w (c + 17) (iarr E 8 t2_50))) (show (va_up (va_up (va_up (va_up (va_up v (c + 13) (.inr (4, [.ref (B + (c + 14)), .ref (B + (c + 15)), .int (zI (((crossA (p (5 + j)) (p 2) cell l).length : Nat) : Int)), .ref (B + (c + 16)), .ref (B + (c + 17))]))) (c + 14) (iarr E 8 g2_50)) (c + 15) (barr E 8 h2_50)) (c + 16) (iarr E 8 s2_50)) (c + 17) (iarr E 8 t3)) = _ from (up_at1 (by omega)).symm)) ?_
            refine x_v (w := (va_up (va_up (va_up (va_up (va_up v (c + 13) (.inr (4, [.ref (B + (c + 14)), .ref (B + (c + 15)), .int (zI (((crossA (p (5 + j)) (p 2) cell l).length : Nat) : Int)), .ref (B + (c + 16)), .ref (B + (c + 17))]))) (c + 14) (iarr E 8 g2_50)) (c + 15) (barr E 8 h2_50)) (c + 16) (iarr E 8 s2_50)) (c + 17) (iarr E 8 t2_50))) (up_at0).symm ?_
            refine x_st (st' := [.ref (B + (c + 13)), .int (zI ld), .ref (B + c)]) rfl ?_
            refine x_callV (pc := 53) (C := RX3) (T := TX3) (n := 11) (ci := 3) (As := [.int (zI ld), .ref (B + (c + 13))]) K (c_X3_worthOf (E := E) (B := B) (N := N) (l := (crossA (p (5 + j)) (p 2) cell l))  (cel_ne (cel_ne (cel_ne (cel_ne (cel_ne hc0 (by omega)) (by omega)) (by omega)) (by omega)) (by omega)) (cel_ne (cel_ne (cel_ne (cel_ne (cel_self hc1.1) (by omega)) (by omega)) (by omega)) (by omega)) (cel_ne (cel_self hc4.1) (by omega)) (cel_self hc5.1) (cel_ne (cel_ne (cel_ne (cel_ne (cel_ne hc11 (by omega)) (by omega)) (by omega)) (by omega)) (by omega)) (fun x hx => (cel_ne (cel_ne (cel_ne (cel_ne (cel_ne (hF0 x hx) (by omega)) (by omega)) (by omega)) (by omega)) (by omega))) hp50_1 (by omega) hq4) gX3_isHeld_X3_worthOf rfl (na := 2) (by decide +kernel) rfl ⟨(Nat.le_of_ble_eq_true rfl), (Nat.le_of_ble_eq_true rfl)⟩ (cel_ne (cel_ne (cel_ne (cel_ne (cel_ne hc0 (by omega)) (by omega)) (by omega)) (by omega)) (by omega)) rfl (st := []) rfl (Nat.le_of_ble_eq_true rfl) ⟨(Nat.le_of_ble_eq_true rfl), (Nat.le_of_ble_eq_true rfl)⟩ dX3_isHeld_53 (fun r53 N53 w53 hpo53 hN53 => ?_)
            obtain ⟨rfl, rfl, rfl⟩ := hpo53
            refine x_st (st' := [.int (zI (sumA p (crossA (p (5 + j)) (p 2) cell l) ld 1 48))]) rfl ?_
            have hr53 := sumA_rng (l := (crossA (p (5 + j)) (p 2) cell l)) (land := ld) (what := 1) hq4 (Nat.le_refl 48)
            refine x_iload_n (pc := 56) 3 K rfl rfl dX3_isHeld_56 ?_
            refine x_icmp_ge (pc := 57) (tgt := 62) K (by omega) (by omega) dX3_isHeld_57 (by decide) (fun h_57 => ?_) (fun h_57 => ?_)
            · skip
              refine x_iinc (pc := 62) (L' := [(5, .int (zI ((j : Int) + 1))), (6, .ref (B + o)), (0, .ref (B + c)), (1, .int (zI ld)), (2, .int (zI wn)), (3, .int (zI (cell : Int))), (4, .ref (B + d))]) 6 K hnL rfl (by decide) rfl dX3_isHeld_62 ?_
              refine x_goto (pc := 65) (tgt := 3) K dX3_isHeld_65 (by decide) ?_
              refine x_sub (L' := [(0, .ref (B + c)), (1, .int (zI ld)), (2, .int (zI wn)), (3, .int (zI (cell : Int))), (4, .ref (B + d)), (5, .int (zI ((j : Int) + 1)))]) [2, 3, 4, 5, 6, 0] rfl ?_
              exact ih3 (j + 1) ((crossA (p (5 + j)) (p 2) cell l).length) g2_50 h2_50 s2_50 t2_50 (by omega) (by exact heldI_no hi3_1 (by first | exact Or.inl (by omega) | exact Or.inr (Or.inl hmay) | exact Or.inr (Or.inr (by omega)))) (by omega)
            · skip
              refine x_iconst (pc := 60) K dX3_isHeld_60 ?_
              refine x_zret (pc := 61) K KR (by omega) (Nat.le_of_ble_eq_true rfl) (Nat.le_of_ble_eq_true rfl) rfl dX3_isHeld_61 ?_
              exact ⟨rfl, 1, ((crossA (p (5 + j)) (p 2) cell l).length), g2_50, h2_50, s2_50, t2_50, (by rw [heldI_1]; exact ⟨j, by omega, by omega, hmay, by omega⟩), rfl, rfl⟩
  refine x_sub (L' := [(0, .ref (B + c)), (1, .int (zI ld)), (2, .int (zI wn)), (3, .int (zI (cell : Int))), (4, .ref (B + d)), (5, .int (zI 0))]) [1, 2, 3, 4, 5, 0] rfl ?_
  exact LOOP3 (_) 0 n1 g1 h1 s1 t1 (by omega) (by exact heldI_0 p l ld wn cell) (Nat.lt_succ_self _)

set_option maxRecDepth 100000 in
set_option maxHeartbeats 4000000 in
theorem c_X3_heldCells {E : XE} {B N : Nat} {v : Nat → va_E} {c d n : Nat} {p g h s t : Nat → Int} {l : Cor} {ld wn w : Int} {g1 h1 s1 t1 : Nat → Int} {n1 : Nat} (hc0 : Cel N v c (.inr (3, [.int (zI (p 0)), .int (zI (p 1)), .int (zI (p 2)), .ref (B + (c + 1)), .ref (B + (c + 2)), .int (zI (p 3)), .ref (B + (c + 3)), .int (zI (p 4)), .ref (B + (c + 4)), .ref (B + (c + 13)), .ref (B + (c + 18))]))) (hc1 : Cel N v (c + 13) (.inr (4, [.ref (B + (c + 14)), .ref (B + (c + 15)), .int (zI (n1 : Int)), .ref (B + (c + 16)), .ref (B + (c + 17))]))) (hc2 : Cel N v (c + 14) (iarr E 8 g1)) (hc3 : Cel N v (c + 15) (barr E 8 h1)) (hc4 : Cel N v (c + 16) (iarr E 8 s1)) (hc5 : Cel N v (c + 17) (iarr E 8 t1)) (hc6 : Cel N v d (.inr (4, [.ref (B + (d + 1)), .ref (B + (d + 2)), .int (zI (n : Int)), .ref (B + (d + 3)), .ref (B + (d + 4))]))) (hc7 : Cel N v (d + 1) (iarr E 8 g)) (hc8 : Cel N v (d + 2) (barr E 8 h)) (hc9 : Cel N v (d + 3) (iarr E 8 s)) (hc10 : Cel N v (d + 4) (iarr E 8 t)) (hc11 : Cel N v (c + 4) (rarr E 6 8 B (ouA c))) (hc12 : Cel N v (c + 2) (barr E 48 (gA p))) (hc13 : Cel N v (c + 3) (rarr E 5 5 B (psA c p))) (hF0 : ∀ x : Nat, x < 8 → Cel N v (c + 5 + x) (iarr E 7 (wbS p x))) (hF1 : ∀ x : Nat, (x : Int) < p 4 → Cel N v (c + 23 + x) (perE p x)) (hq0 : LR g h l) (hq1 : n = l.length ∧ (l.length : Int) ≤ p 2) (hq2 : CorOk l) (hq3 : SR (p 0) (p 1) l s t) (hq4 : POk p) (hq5 : 0 ≤ ld ∧ ld ≤ 1) (hq6 : (-2147483648 ≤ wn ∧ wn ≤ 2147483647)) (hq7 : (-2147483648 ≤ w ∧ w ≤ 2147483647)) (hq8 : -1 ≤ w) (hq9 : d + 5 ≤ c) (hq10 : ∀ i : Nat, i < 5 → (i : Int) < p 4 → 1 ≤ p (5 + i)) : gM yX3_heldCells wsX3_heldCells ({ frames := 5, cells := 0, slots := 0, locals := 127 }) E B N v [.ref (B + c), .int (zI ld), .int (zI wn), .int (zI w), .ref (B + d)] (po0 N (fun ρ v' => ∃ (n9 : Nat), ∃ (g9 : Nat → Int), ∃ (h9 : Nat → Int), ∃ (s9 : Nat → Int), ∃ (t9 : Nat → Int), ρ = some (.int (zI (heldA p l ld wn w (p 4).toNat))) ∧ (va_up (va_up (va_up (va_up (va_up v (c + 13) (.inr (4, [.ref (B + (c + 14)), .ref (B + (c + 15)), .int (zI (n9 : Int)), .ref (B + (c + 16)), .ref (B + (c + 17))]))) (c + 14) (iarr E 8 g9)) (c + 15) (barr E 8 h9)) (c + 16) (iarr E 8 s9)) (c + 17) (iarr E 8 t9)) = v')) := by
  refine x_met (nm := "heldCells") (by decide +kernel) rfl (Nat.le_of_ble_eq_true rfl) rfl (fun Γ K KR hnL hnm => ?_)
  show XW Γ N v [(0, .ref (B + c)), (1, .int (zI ld)), (2, .int (zI wn)), (3, .int (zI w)), (4, .ref (B + d))] 0 0 0 []
  have hP0 := hq4.1
  have hP1 := hq4.2.1
  have hP2 := hq4.2.2.1
  refine x_v (cel_pad hc1) ?_
  refine x_v (cel_pad (cel_ne hc2 (by omega))) ?_
  refine x_v (cel_pad (cel_ne (cel_ne hc3 (by omega)) (by omega))) ?_
  refine x_v (cel_pad (cel_ne (cel_ne (cel_ne hc4 (by omega)) (by omega)) (by omega))) ?_
  refine x_v (cel_pad (cel_ne (cel_ne (cel_ne (cel_ne hc5 (by omega)) (by omega)) (by omega)) (by omega))) ?_
  refine x_iconst (pc := 0) K dX3_heldCells_0 ?_
  refine x_istore (pc := 1) K (L' := [(5, .int (zI 0)), (0, .ref (B + c)), (1, .int (zI ld)), (2, .int (zI wn)), (3, .int (zI w)), (4, .ref (B + d))]) hnL (by decide) rfl dX3_heldCells_1 ?_
  refine x_iconst (pc := 3) K dX3_heldCells_3 ?_
  refine x_istore (pc := 4) K (L' := [(6, .int (zI 0)), (5, .int (zI 0)), (0, .ref (B + c)), (1, .int (zI ld)), (2, .int (zI wn)), (3, .int (zI w)), (4, .ref (B + d))]) hnL (by decide) rfl dX3_heldCells_4 ?_
  have LOOP6 : ∀ (n_6 : Nat) (z : Int) (k : Nat) (n3 : Nat) (g3 : Nat → Int) (h3 : Nat → Int) (s3 : Nat → Int) (t3 : Nat → Int), (k ≤ 48) → (z = heldC p l ld wn (p 4).toNat k) → (heldW p l ld wn (p 4).toNat w k = none) → (48 - k) < n_6 → XW Γ N (va_up (va_up (va_up (va_up (va_up v (c + 13) (.inr (4, [.ref (B + (c + 14)), .ref (B + (c + 15)), .int (zI (n3 : Int)), .ref (B + (c + 16)), .ref (B + (c + 17))]))) (c + 14) (iarr E 8 g3)) (c + 15) (barr E 8 h3)) (c + 16) (iarr E 8 s3)) (c + 17) (iarr E 8 t3)) [(0, .ref (B + c)), (1, .int (zI ld)), (2, .int (zI wn)), (3, .int (zI w)), (4, .ref (B + d)), (5, .int (zI z)), (6, .int (zI (k : Int)))] 0 0 6 [] := by
    intro n_6
    induction n_6 with
    | zero =>
      intro z k n3 g3 h3 s3 t3 hi6_0 hi6_1 hi6_2 hm_6
      exfalso; omega
    | succ n_6 ih6 =>
      intro z k n3 g3 h3 s3 t3 hi6_0 hi6_1 hi6_2 hm_6
      have hz6 := heldC_rng p l ld wn (p 4).toNat k
      rw [← hi6_1] at hz6
      refine x_iload (pc := 6) 6 K rfl dX3_heldCells_6 ?_
      refine x_bipush (pc := 8) K (by decide) dX3_heldCells_8 ?_
      refine x_icmp_ge (pc := 10) (tgt := 44) K (by omega) (by decide) dX3_heldCells_10 (by decide) (fun h_10 => ?_) (fun h_10 => ?_)
      · skip
        refine x_iload_n (pc := 44) 3 K rfl rfl dX3_heldCells_44 ?_
        refine x_iconst (pc := 45) K dX3_heldCells_45 ?_
        refine x_icmp_ne (pc := 46) (tgt := 54) K (by omega) (by decide) dX3_heldCells_46 (by decide) (fun h_46 => ?_) (fun h_46 => ?_)
        · skip
          refine x_ldc (pc := 54) (x := (-1000000)) (-1000000) K (by decide) (by decide +kernel) dX3_heldCells_54 ?_
          refine x_iret (pc := 56) K KR (by omega) (Nat.le_of_ble_eq_true rfl) (Nat.le_of_ble_eq_true rfl) dX3_heldCells_56 ?_
          have hk : k = 48 := by omega
          rw [hk] at hi6_1 hi6_2
          have hV : (-1000000) = heldA p l ld wn w (p 4).toNat := by rw [← heldA_no hi6_2]; split <;> omega
          exact ⟨rfl, n3, g3, h3, s3, t3, ri hV, rfl⟩
        · skip
          refine x_iload (pc := 49) 5 K rfl dX3_heldCells_49 ?_
          refine x_goto (pc := 51) (tgt := 56) K dX3_heldCells_51 (by decide) ?_
          refine x_iret (pc := 56) K KR (by omega) (Nat.le_of_ble_eq_true rfl) (Nat.le_of_ble_eq_true rfl) dX3_heldCells_56 ?_
          have hk : k = 48 := by omega
          rw [hk] at hi6_1 hi6_2
          have hV : z = heldA p l ld wn w (p 4).toNat := by rw [← heldA_no hi6_2]; split <;> omega
          exact ⟨rfl, n3, g3, h3, s3, t3, ri hV, rfl⟩
      · skip
        refine x_aload_n (pc := 13) 0 K rfl rfl dX3_heldCells_13 ?_
        refine x_iload_n (pc := 14) 1 K rfl rfl dX3_heldCells_14 ?_
        refine x_iload_n (pc := 15) 2 K rfl rfl dX3_heldCells_15 ?_
        refine x_iload (pc := 16) 6 K rfl dX3_heldCells_16 ?_
        refine x_aload (pc := 18) 4 K rfl dX3_heldCells_18 ?_
        refine x_callV (pc := 20) (C := RX3) (T := TX3) (n := 11) (ci := 3) (As := [.int (zI ld), .int (zI wn), .int (zI (k : Int)), .ref (B + d)]) K (c_X3_isHeld (E := E) (B := B) (N := N) (l := l) (cell := k) rfl (cel_ne (cel_ne (cel_ne (cel_ne (cel_ne hc0 (by omega)) (by omega)) (by omega)) (by omega)) (by omega)) (cel_ne (cel_ne (cel_ne (cel_ne (cel_self hc1.1) (by omega)) (by omega)) (by omega)) (by omega)) (cel_ne (cel_ne (cel_ne (cel_self hc2.1) (by omega)) (by omega)) (by omega)) (cel_ne (cel_ne (cel_self hc3.1) (by omega)) (by omega)) (cel_ne (cel_self hc4.1) (by omega)) (cel_self hc5.1) (cel_ne (cel_ne (cel_ne (cel_ne (cel_ne hc6 (by omega)) (by omega)) (by omega)) (by omega)) (by omega)) (cel_ne (cel_ne (cel_ne (cel_ne (cel_ne hc7 (by omega)) (by omega)) (by omega)) (by omega)) (by omega)) (cel_ne (cel_ne (cel_ne (cel_ne (cel_ne hc8 (by omega)) (by omega)) (by omega)) (by omega)) (by omega)) (cel_ne (cel_ne (cel_ne (cel_ne (cel_ne hc9 (by omega)) (by omega)) (by omega)) (by omega)) (by omega)) (cel_ne (cel_ne (cel_ne (cel_ne (cel_ne hc10 (by omega)) (by omega)) (by omega)) (by omega)) (by omega)) (cel_ne (cel_ne (cel_ne (cel_ne (cel_ne hc11 (by omega)) (by omega)) (by omega)) (by omega)) (by omega)) (cel_ne (cel_ne (cel_ne (cel_ne (cel_ne hc12 (by omega)) (by omega)) (by omega)) (by omega)) (by omega)) (cel_ne (cel_ne (cel_ne (cel_ne (cel_ne hc13 (by omega)) (by omega)) (by omega)) (by omega)) (by omega)) (fun x hx => (cel_ne (cel_ne (cel_ne (cel_ne (cel_ne (hF0 x hx) (by omega)) (by omega)) (by omega)) (by omega)) (by omega))) (fun x hx => (cel_ne (cel_ne (cel_ne (cel_ne (cel_ne (hF1 x hx) (by omega)) (by omega)) (by omega)) (by omega)) (by omega))) hq0 hq1 hq2 hq3 hq4 (by omega) (by omega) (by omega) (by omega) hq10) gX3_heldCells_X3_isHeld rfl (na := 4) (by decide +kernel) rfl ⟨(Nat.le_of_ble_eq_true rfl), (Nat.le_of_ble_eq_true rfl)⟩ (cel_ne (cel_ne (cel_ne (cel_ne (cel_ne hc0 (by omega)) (by omega)) (by omega)) (by omega)) (by omega)) rfl (st := []) rfl (Nat.le_of_ble_eq_true rfl) ⟨(Nat.le_of_ble_eq_true rfl), (Nat.le_of_ble_eq_true rfl)⟩ dX3_heldCells_20 (fun r20 N20 w20 hpo20 hN20 => ?_)
        obtain ⟨rfl, res_20, n9_20, g9_20, h9_20, s9_20, t9_20, hp20_0, rfl, rfl⟩ := hpo20
        refine x_v (congrArg (fun w => (va_up (va_up (va_up (va_up w (c + 14) (iarr E 8 g9_20)) (c + 15) (barr E 8 h9_20)) (c + 16) (iarr E 8 s9_20)) (c + 17) (iarr E 8 t9_20))) (show (va_up (va_up (va_up (va_up (va_up v (c + 13) (.inr (4, [.ref (B + (c + 14)), .ref (B + (c + 15)), .int (zI (n9_20 : Int)), .ref (B + (c + 16)), .ref (B + (c + 17))]))) (c + 14) (iarr E 8 g3)) (c + 15) (barr E 8 h3)) (c + 16) (iarr E 8 s3)) (c + 17) (iarr E 8 t3)) = _ from (up_at4 (by omega) (by omega) (by omega) (by omega)).symm)) ?_
        refine x_v (congrArg (fun w => (va_up (va_up (va_up w (c + 15) (barr E 8 h9_20)) (c + 16) (iarr E 8 s9_20)) (c + 17) (iarr E 8 t9_20))) (show (va_up (va_up (va_up (va_up (va_up v (c + 13) (.inr (4, [.ref (B + (c + 14)), .ref (B + (c + 15)), .int (zI (n9_20 : Int)), .ref (B + (c + 16)), .ref (B + (c + 17))]))) (c + 14) (iarr E 8 g9_20)) (c + 15) (barr E 8 h3)) (c + 16) (iarr E 8 s3)) (c + 17) (iarr E 8 t3)) = _ from (up_at3 (by omega) (by omega) (by omega)).symm)) ?_
        refine x_v (congrArg (fun w => (va_up (va_up w (c + 16) (iarr E 8 s9_20)) (c + 17) (iarr E 8 t9_20))) (show (va_up (va_up (va_up (va_up (va_up v (c + 13) (.inr (4, [.ref (B + (c + 14)), .ref (B + (c + 15)), .int (zI (n9_20 : Int)), .ref (B + (c + 16)), .ref (B + (c + 17))]))) (c + 14) (iarr E 8 g9_20)) (c + 15) (barr E 8 h9_20)) (c + 16) (iarr E 8 s3)) (c + 17) (iarr E 8 t3)) = _ from (up_at2 (by omega) (by omega)).symm)) ?_
        refine x_v (congrArg (fun w => (va_up w (c + 17) (iarr E 8 t9_20))) (show (va_up (va_up (va_up (va_up (va_up v (c + 13) (.inr (4, [.ref (B + (c + 14)), .ref (B + (c + 15)), .int (zI (n9_20 : Int)), .ref (B + (c + 16)), .ref (B + (c + 17))]))) (c + 14) (iarr E 8 g9_20)) (c + 15) (barr E 8 h9_20)) (c + 16) (iarr E 8 s9_20)) (c + 17) (iarr E 8 t3)) = _ from (up_at1 (by omega)).symm)) ?_
        refine x_v (w := (va_up (va_up (va_up (va_up (va_up v (c + 13) (.inr (4, [.ref (B + (c + 14)), .ref (B + (c + 15)), .int (zI (n9_20 : Int)), .ref (B + (c + 16)), .ref (B + (c + 17))]))) (c + 14) (iarr E 8 g9_20)) (c + 15) (barr E 8 h9_20)) (c + 16) (iarr E 8 s9_20)) (c + 17) (iarr E 8 t9_20))) (up_at0).symm ?_
        refine x_st (st' := [.int (zI res_20)]) rfl ?_
        have hir := heldI_rng p l ld wn (p 4).toNat k
        refine x_if_eq (pc := 23) (tgt := 38) K (by omega) dX3_heldCells_23 (by decide) (fun h_23 => ?_) (fun h_23 => ?_)
        · skip
          refine x_iinc (pc := 38) (L' := [(6, .int (zI ((k : Int) + 1))), (0, .ref (B + c)), (1, .int (zI ld)), (2, .int (zI wn)), (3, .int (zI w)), (4, .ref (B + d)), (5, .int (zI z))]) 6 K hnL rfl (by decide) rfl dX3_heldCells_38 ?_
          refine x_goto (pc := 41) (tgt := 6) K dX3_heldCells_41 (by decide) ?_
          refine x_sub (L' := [(0, .ref (B + c)), (1, .int (zI ld)), (2, .int (zI wn)), (3, .int (zI w)), (4, .ref (B + d)), (5, .int (zI z)), (6, .int (zI ((k : Int) + 1)))]) [1, 2, 3, 4, 5, 6, 0] rfl ?_
          exact ih6 z (k + 1) (((n9_20 : Int)).toNat) g9_20 h9_20 s9_20 t9_20 (by omega) (by show _ = heldC p l ld wn (p 4).toNat k + heldI p l ld wn (p 4).toNat k; omega) (by exact heldW_no hi6_2 (by omega)) (by omega)
        · skip
          refine x_iload (pc := 26) 5 K rfl dX3_heldCells_26 ?_
          refine x_iload_n (pc := 28) 3 K rfl rfl dX3_heldCells_28 ?_
          refine x_icmp_ne (pc := 29) (tgt := 35) K (by omega) (by omega) dX3_heldCells_29 (by decide) (fun h_29 => ?_) (fun h_29 => ?_)
          · skip
            refine x_iinc (pc := 35) (L' := [(5, .int (zI (z + 1))), (0, .ref (B + c)), (1, .int (zI ld)), (2, .int (zI wn)), (3, .int (zI w)), (4, .ref (B + d)), (6, .int (zI (k : Int)))]) 5 K hnL rfl (by decide) rfl dX3_heldCells_35 ?_
            refine x_iinc (pc := 38) (L' := [(6, .int (zI ((k : Int) + 1))), (5, .int (zI (z + 1))), (0, .ref (B + c)), (1, .int (zI ld)), (2, .int (zI wn)), (3, .int (zI w)), (4, .ref (B + d))]) 6 K hnL rfl (by decide) rfl dX3_heldCells_38 ?_
            refine x_goto (pc := 41) (tgt := 6) K dX3_heldCells_41 (by decide) ?_
            refine x_sub (L' := [(0, .ref (B + c)), (1, .int (zI ld)), (2, .int (zI wn)), (3, .int (zI w)), (4, .ref (B + d)), (5, .int (zI (z + 1))), (6, .int (zI ((k : Int) + 1)))]) [2, 3, 4, 5, 6, 1, 0] rfl ?_
            exact ih6 (z + 1) (k + 1) (((n9_20 : Int)).toNat) g9_20 h9_20 s9_20 t9_20 (by omega) (by show _ = heldC p l ld wn (p 4).toNat k + heldI p l ld wn (p 4).toNat k; omega) (by exact heldW_no hi6_2 (by omega)) (by omega)
          · skip
            refine x_iload (pc := 32) 6 K rfl dX3_heldCells_32 ?_
            refine x_iret (pc := 34) K KR (by omega) (Nat.le_of_ble_eq_true rfl) (Nat.le_of_ble_eq_true rfl) dX3_heldCells_34 ?_
            have hV := heldA_yes hi6_2 ⟨by omega, by omega⟩ (show k < 48 by omega)
            exact ⟨rfl, (((n9_20 : Int)).toNat), g9_20, h9_20, s9_20, t9_20, ri hV, rfl⟩
  refine x_sub (L' := [(0, .ref (B + c)), (1, .int (zI ld)), (2, .int (zI wn)), (3, .int (zI w)), (4, .ref (B + d)), (5, .int (zI 0)), (6, .int (zI 0))]) [2, 3, 4, 5, 6, 1, 0] rfl ?_
  exact LOOP6 (_) 0 0 n1 g1 h1 s1 t1 (by omega) (by rfl) (by rfl) (Nat.lt_succ_self _)
