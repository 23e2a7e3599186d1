theorem dX8_take_0 : decode cX8_take 0 = .ok (.iload_n 3, 1) := by decide +kernel
theorem dX8_take_1 : decode cX8_take 1 = .ok (.sipush 400, 3) := by decide +kernel
theorem dX8_take_4 : decode cX8_take 4 = .ok (.aload_n 0, 1) := by decide +kernel
theorem dX8_take_5 : decode cX8_take 5 = .ok (.getfield 18, 3) := by decide +kernel
theorem dX8_take_8 : decode cX8_take 8 = .ok (.isub, 1) := by decide +kernel
theorem dX8_take_9 : decode cX8_take 9 = .ok (.if_icmp .le 5, 3) := by decide +kernel
theorem dX8_take_14 : decode cX8_take 14 = .ok (.iload_n 3, 1) := by decide +kernel
theorem dX8_take_15 : decode cX8_take 15 = .ok (.iconst 1, 1) := by decide +kernel
theorem dX8_take_16 : decode cX8_take 16 = .ok (.isub, 1) := by decide +kernel
theorem dX8_take_17 : decode cX8_take 17 = .ok (.istore 4, 2) := by decide +kernel
theorem dX8_take_19 : decode cX8_take 19 = .ok (.iload 4, 2) := by decide +kernel
theorem dX8_take_21 : decode cX8_take 21 = .ok (.ifCond .lt 40, 3) := by decide +kernel
theorem dX8_take_61 : decode cX8_take 61 = .ok (.iconst 1, 1) := by decide +kernel
theorem dX8_take_62 : decode cX8_take 62 = .ok (.ireturn, 1) := by decide +kernel
theorem dX8_take_24 : decode cX8_take 24 = .ok (.aload_n 0, 1) := by decide +kernel
theorem dX8_take_25 : decode cX8_take 25 = .ok (.getfield 11, 3) := by decide +kernel
theorem dX8_take_28 : decode cX8_take 28 = .ok (.aload_n 0, 1) := by decide +kernel
theorem dX8_take_29 : decode cX8_take 29 = .ok (.getfield 18, 3) := by decide +kernel
theorem dX8_take_32 : decode cX8_take 32 = .ok (.lload_n 1, 1) := by decide +kernel
theorem dX8_take_33 : decode cX8_take 33 = .ok (.bipush 8, 2) := by decide +kernel
theorem dX8_take_35 : decode cX8_take 35 = .ok (.iload 4, 2) := by decide +kernel
theorem dX8_take_37 : decode cX8_take 37 = .ok (.imul, 1) := by decide +kernel
theorem dX8_take_38 : decode cX8_take 38 = .ok (.lshr, 1) := by decide +kernel
theorem dX8_take_39 : decode cX8_take 39 = .ok (.l2i, 1) := by decide +kernel
theorem dX8_take_40 : decode cX8_take 40 = .ok (.sipush 255, 3) := by decide +kernel
theorem dX8_take_43 : decode cX8_take 43 = .ok (.iand, 1) := by decide +kernel
theorem dX8_take_44 : decode cX8_take 44 = .ok (.iastore, 1) := by decide +kernel
theorem dX8_take_45 : decode cX8_take 45 = .ok (.aload_n 0, 1) := by decide +kernel
theorem dX8_take_46 : decode cX8_take 46 = .ok (.dup, 1) := by decide +kernel
theorem dX8_take_47 : decode cX8_take 47 = .ok (.getfield 18, 3) := by decide +kernel
theorem dX8_take_50 : decode cX8_take 50 = .ok (.iconst 1, 1) := by decide +kernel
theorem dX8_take_51 : decode cX8_take 51 = .ok (.iadd, 1) := by decide +kernel
theorem dX8_take_52 : decode cX8_take 52 = .ok (.putfield 18, 3) := by decide +kernel
theorem dX8_take_55 : decode cX8_take 55 = .ok (.iinc 4 (-1), 3) := by decide +kernel
theorem dX8_take_58 : decode cX8_take 58 = .ok (.goto (-39), 3) := by decide +kernel
theorem dX8_take_12 : decode cX8_take 12 = .ok (.iconst 0, 1) := by decide +kernel
theorem dX8_take_13 : decode cX8_take 13 = .ok (.ireturn, 1) := by decide +kernel
set_option maxRecDepth 100000 in
set_option maxHeartbeats 4000000 in
theorem c_X8_take {E : XE} {B N : Nat} {v : Nat → va_E} {f pl so s e vv n : Int} {t : Nat → Int} {m : Nat} {w : Int64} (hc0 : Cel N v 2 (.inr (7, [.ref (B + 3), .ref (B + 4), .int (zI (m : Int)), .int (zI f), .int (zI pl), .int (zI so), .int (zI s), .int (zI e), .int (zI vv)]))) (hc1 : Cel N v 3 (iarr E 400 t)) (hq0 : 1 ≤ n ∧ n ≤ 8) (hq1 : m ≤ 400) : gM yX8_take wsX8_take ({ frames := 0, cells := 0, slots := 0, locals := 0 }) E B N v [.ref (B + 2), .long w, .int (zI n)] (po0 N (fun ρ v' => ∃ (res : Int), ∃ (m2 : Nat), ∃ (t2 : Nat → Int), ((400 < (m : Int) + n ∧ res = 0 ∧ m2 = m ∧ t2 = t) ∨ ((m : Int) + n ≤ 400 ∧ res = 1 ∧ m2 = m + n.toNat ∧ t2 = fdA t m n.toNat w n.toNat)) ∧ ρ = some (.int (zI res)) ∧ (va_up (va_up v 2 (.inr (7, [.ref (B + 3), .ref (B + 4), .int (zI (m2 : Int)), .int (zI f), .int (zI pl), .int (zI so), .int (zI s), .int (zI e), .int (zI vv)]))) 3 (iarr E 400 t2)) = v')) := by
  refine x_met (nm := "take") (by decide +kernel) rfl (Nat.le_of_ble_eq_true rfl) rfl (fun Γ K KR hnL hnm => ?_)
  show XW Γ N v [(0, .ref (B + 2)), (1, .long w), (3, .int (zI n))] 0 0 0 []
  refine x_v (cel_pad hc0) ?_
  refine x_v (cel_pad (cel_ne hc1 (by decide))) ?_
  refine x_iload_n (pc := 0) 2 K rfl rfl dX8_take_0 ?_
  refine x_sipush (pc := 1) K (by decide) dX8_take_1 ?_
  refine x_aload_n (pc := 4) 0 K rfl rfl dX8_take_4 ?_
  refine x_get (pc := 5) (C := RX8) (T := TX8) (n := 9) (ci := 7) (idx := 18) (ref := "BorderBeds$Tape") (x := .int (zI (m : Int)))  K (cel_ne (cel_self hc0.1) (by decide)) rfl (by decide +kernel) 2 (by decide) (by decide +kernel) rfl rfl dX8_take_5 ?_
  refine x_isub (pc := 8) K dX8_take_8 ?_
  refine x_icmp_le (pc := 9) (tgt := 14) K (by omega) (by omega) dX8_take_9 (by decide) (fun h_9 => ?_) (fun h_9 => ?_)
  · skip
    refine x_iload_n (pc := 14) 2 K rfl rfl dX8_take_14 ?_
    refine x_iconst (pc := 15) K dX8_take_15 ?_
    refine x_isub (pc := 16) K dX8_take_16 ?_
    refine x_nm (fun z1 hz1 => ?_)
    refine x_istore (pc := 17) K (L' := [(4, .int (zI z1)), (0, .ref (B + 2)), (1, .long w), (3, .int (zI n))]) hnL (by decide) rfl dX8_take_17 ?_
    have LOOP19 : ∀ (n_19 : Nat) (k : Int) (j : Nat) (m3 : Nat) (x : Nat → Int), ((j : Int) ≤ n ∧ k = n - 1 - (j : Int) ∧ m3 = m + j) → (x = fdA t m n.toNat w j) → (n.toNat - j) < n_19 → XW Γ N (va_up (va_up v 2 (.inr (7, [.ref (B + 3), .ref (B + 4), .int (zI (m3 : Int)), .int (zI f), .int (zI pl), .int (zI so), .int (zI s), .int (zI e), .int (zI vv)]))) 3 (iarr E 400 x)) [(0, .ref (B + 2)), (1, .long w), (3, .int (zI n)), (4, .int (zI k))] 0 0 19 [] := by
      intro n_19
      induction n_19 with
      | zero =>
        intro k j m3 x hi19_0 hi19_1 hm_19
        exfalso; omega
      | succ n_19 ih19 =>
        intro k j m3 x hi19_0 hi19_1 hm_19
        refine x_iload (pc := 19) 3 K rfl dX8_take_19 ?_
        refine x_if_lt (pc := 21) (tgt := 61) K (by omega) dX8_take_21 (by decide) (fun h_21 => ?_) (fun h_21 => ?_)
        · skip
          have hj : (j : Int) = n := by omega
          have hj2 : n.toNat = j := by omega
          rw [← hj2] at hi19_1
          refine x_iconst (pc := 61) K dX8_take_61 ?_
          refine x_zret (pc := 62) K KR (by omega) (Nat.le_of_ble_eq_true rfl) (Nat.le_of_ble_eq_true rfl) rfl dX8_take_62 ?_
          exact ⟨rfl, 1, m3, x, (Or.inr ⟨by omega, rfl, by omega, hi19_1⟩), rfl, rfl⟩
        · skip
          obtain ⟨kk, rfl⟩ : ∃ kk : Nat, k = (kk : Int) := ⟨k.toNat, by omega⟩
          refine x_aload_n (pc := 24) 0 K rfl rfl dX8_take_24 ?_
          refine x_get (pc := 25) (C := RX8) (T := TX8) (n := 9) (ci := 7) (idx := 11) (ref := "BorderBeds$Tape") (x := .ref (B + 3))  K (cel_ne (cel_self hc0.1) (by decide)) rfl (by decide +kernel) 0 (by decide) (by decide +kernel) rfl rfl dX8_take_25 ?_
          refine x_aload_n (pc := 28) 0 K rfl rfl dX8_take_28 ?_
          refine x_get (pc := 29) (C := RX8) (T := TX8) (n := 9) (ci := 7) (idx := 18) (ref := "BorderBeds$Tape") (x := .int (zI (m3 : Int)))  K (cel_ne (cel_self hc0.1) (by decide)) rfl (by decide +kernel) 2 (by decide) (by decide +kernel) rfl rfl dX8_take_29 ?_
          refine x_lload_n (pc := 32) 1 K rfl rfl dX8_take_32 ?_
          refine x_bipush (pc := 33) K (by decide) dX8_take_33 ?_
          refine x_iload (pc := 35) 3 K rfl dX8_take_35 ?_
          refine x_imul (pc := 37) K dX8_take_37 ?_
          refine x_lshr (pc := 38) K dX8_take_38 ?_
          refine x_l2iX (pc := 39) K dX8_take_39 ?_
          refine x_sipush (pc := 40) K (by decide) dX8_take_40 ?_
          refine x_iand (pc := 43) K dX8_take_43 ?_
          refine x_st (st' := [.int (zI (bytW w (n.toNat - 1 - j))), .int (zI (m3 : Int)), .ref (B + 3)]) (by rw [show (8 * (kk : Int)) = ((8 * (n.toNat - 1 - j) : Nat) : Int) by omega]; rw [byt_c]) ?_
          refine x_iast (pc := 44) m3 K (cel_self hc1.1) rfl (by omega) (by decide) dX8_take_44 ?_
          refine x_v (w := (va_up (va_up v 2 (.inr (7, [.ref (B + 3), .ref (B + 4), .int (zI (m3 : Int)), .int (zI f), .int (zI pl), .int (zI so), .int (zI s), .int (zI e), .int (zI vv)]))) 3 (iarr E 400 (va_up x m3 (bytW w (n.toNat - 1 - j)))))) (up_at0).symm ?_
          refine x_aload_n (pc := 45) 0 K rfl rfl dX8_take_45 ?_
          refine x_dup (pc := 46) K rfl dX8_take_46 ?_
          refine x_get (pc := 47) (C := RX8) (T := TX8) (n := 9) (ci := 7) (idx := 18) (ref := "BorderBeds$Tape") (x := .int (zI (m3 : Int)))  K (cel_ne (cel_self hc0.1) (by decide)) rfl (by decide +kernel) 2 (by decide) (by decide +kernel) rfl rfl dX8_take_47 ?_
          refine x_iconst (pc := 50) K dX8_take_50 ?_
          refine x_iadd (pc := 51) K dX8_take_51 ?_
          refine x_put (pc := 52) (C := RX8) (T := TX8) (n := 9) (ci := 7) (idx := 18) (ref := "BorderBeds$Tape") (ty := .int)  K (cel_ne (cel_self hc0.1) (by decide)) rfl (by decide +kernel) tyX8 tyX8_ok nmX8 2 (by decide) (by decide +kernel) rfl rfl (by decide +kernel) rfl rfl (Nat.le_of_ble_eq_true rfl) dX8_take_52 ?_
          refine x_v (w := (va_up (va_up v 2 (.inr (7, [.ref (B + 3), .ref (B + 4), .int (zI ((m3 : Int) + 1)), .int (zI f), .int (zI pl), .int (zI so), .int (zI s), .int (zI e), .int (zI vv)]))) 3 (iarr E 400 (va_up x m3 (bytW w (n.toNat - 1 - j)))))) (up_at1 (by decide)).symm ?_
          refine x_iinc (pc := 55) (L' := [(4, .int (zI ((kk : Int) + (-1)))), (0, .ref (B + 2)), (1, .long w), (3, .int (zI n))]) 3 K hnL rfl (by decide) rfl dX8_take_55 ?_
          refine x_goto (pc := 58) (tgt := 19) K dX8_take_58 (by decide) ?_
          refine x_sub (L' := [(0, .ref (B + 2)), (1, .long w), (3, .int (zI n)), (4, .int (zI ((kk : Int) + (-1))))]) [1, 2, 3, 0] rfl ?_
          exact ih19 ((kk : Int) + (-1)) (j + 1) (m3 + 1) (va_up x m3 (bytW w (n.toNat - 1 - j))) (by omega) (by rw [show m3 = m + j by omega, hi19_1]; exact fdA_s (by omega)) (by omega)
    refine x_sub (L' := [(0, .ref (B + 2)), (1, .long w), (3, .int (zI n)), (4, .int (zI z1))]) [1, 2, 3, 0] rfl ?_
    exact LOOP19 (_) z1 0 m t (by omega) (by exact (fdA_0 _ _ _ _).symm) (Nat.lt_succ_self _)
  · skip
    refine x_iconst (pc := 12) K dX8_take_12 ?_
    refine x_zret (pc := 13) K KR (by omega) (Nat.le_of_ble_eq_true rfl) (Nat.le_of_ble_eq_true rfl) rfl dX8_take_13 ?_
    exact ⟨rfl, 0, m, t, (Or.inl ⟨by omega, rfl, rfl, rfl⟩), rfl, rfl⟩
