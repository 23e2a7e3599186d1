theorem dX12_feed_0 : decode cX12_feed 0 = .ok (.iload_n 3, 1) := by decide +kernel
theorem dX12_feed_1 : decode cX12_feed 1 = .ok (.i2l, 1) := by decide +kernel
theorem dX12_feed_2 : decode cX12_feed 2 = .ok (.lconst 1, 1) := by decide +kernel
theorem dX12_feed_3 : decode cX12_feed 3 = .ok (.ldc2_w 72, 3) := by decide +kernel
set_option maxRecDepth 20000 in
theorem ggX12_feed_X12_in : GoodIn wsX12_feed wsX12_in := goodIn_r _ [10] (by decide +kernel) (by decide +kernel)
set_option maxRecDepth 20000 in
theorem gX12_feed_X12_in : GoodIn wsX12_feed (va_wsS RX12 54 yX12_in wsX12_in) := goodIn_app (goodIn_of _ (by decide +kernel)) ggX12_feed_X12_in
theorem dX12_feed_6 : decode cX12_feed 6 = .ok (.invokestatic 54, 3) := by decide +kernel
theorem dX12_feed_9 : decode cX12_feed 9 = .ok (.ifCond .ne 6, 3) := by decide +kernel
theorem dX12_feed_15 : decode cX12_feed 15 = .ok (.aload_n 0, 1) := by decide +kernel
theorem dX12_feed_16 : decode cX12_feed 16 = .ok (.getfield 74, 3) := by decide +kernel
theorem dX12_feed_19 : decode cX12_feed 19 = .ok (.iload_n 3, 1) := by decide +kernel
theorem dX12_feed_20 : decode cX12_feed 20 = .ok (.iadd, 1) := by decide +kernel
theorem dX12_feed_21 : decode cX12_feed 21 = .ok (.sipush 400, 3) := by decide +kernel
theorem dX12_feed_24 : decode cX12_feed 24 = .ok (.if_icmp .le 6, 3) := by decide +kernel
theorem dX12_feed_30 : decode cX12_feed 30 = .ok (.iload_n 3, 1) := by decide +kernel
theorem dX12_feed_31 : decode cX12_feed 31 = .ok (.iconst 1, 1) := by decide +kernel
theorem dX12_feed_32 : decode cX12_feed 32 = .ok (.isub, 1) := by decide +kernel
theorem dX12_feed_33 : decode cX12_feed 33 = .ok (.istore 4, 2) := by decide +kernel
theorem dX12_feed_35 : decode cX12_feed 35 = .ok (.iload 4, 2) := by decide +kernel
theorem dX12_feed_37 : decode cX12_feed 37 = .ok (.ifCond .lt 40, 3) := by decide +kernel
theorem dX12_feed_77 : decode cX12_feed 77 = .ok (.aload_n 0, 1) := by decide +kernel
theorem dX12_feed_78 : decode cX12_feed 78 = .ok (.getfield 74, 3) := by decide +kernel
theorem dX12_feed_81 : decode cX12_feed 81 = .ok (.ireturn, 1) := by decide +kernel
theorem dX12_feed_40 : decode cX12_feed 40 = .ok (.aload_n 0, 1) := by decide +kernel
theorem dX12_feed_41 : decode cX12_feed 41 = .ok (.getfield 19, 3) := by decide +kernel
theorem dX12_feed_44 : decode cX12_feed 44 = .ok (.aload_n 0, 1) := by decide +kernel
theorem dX12_feed_45 : decode cX12_feed 45 = .ok (.getfield 74, 3) := by decide +kernel
theorem dX12_feed_48 : decode cX12_feed 48 = .ok (.lload_n 1, 1) := by decide +kernel
theorem dX12_feed_49 : decode cX12_feed 49 = .ok (.bipush 8, 2) := by decide +kernel
theorem dX12_feed_51 : decode cX12_feed 51 = .ok (.iload 4, 2) := by decide +kernel
theorem dX12_feed_53 : decode cX12_feed 53 = .ok (.imul, 1) := by decide +kernel
theorem dX12_feed_54 : decode cX12_feed 54 = .ok (.lshr, 1) := by decide +kernel
theorem dX12_feed_55 : decode cX12_feed 55 = .ok (.ldc2_w 78, 3) := by decide +kernel
theorem dX12_feed_58 : decode cX12_feed 58 = .ok (.land, 1) := by decide +kernel
theorem dX12_feed_59 : decode cX12_feed 59 = .ok (.l2i, 1) := by decide +kernel
theorem dX12_feed_60 : decode cX12_feed 60 = .ok (.iastore, 1) := by decide +kernel
theorem dX12_feed_61 : decode cX12_feed 61 = .ok (.aload_n 0, 1) := by decide +kernel
theorem dX12_feed_62 : decode cX12_feed 62 = .ok (.dup, 1) := by decide +kernel
theorem dX12_feed_63 : decode cX12_feed 63 = .ok (.getfield 74, 3) := by decide +kernel
theorem dX12_feed_66 : decode cX12_feed 66 = .ok (.iconst 1, 1) := by decide +kernel
theorem dX12_feed_67 : decode cX12_feed 67 = .ok (.iadd, 1) := by decide +kernel
theorem dX12_feed_68 : decode cX12_feed 68 = .ok (.putfield 74, 3) := by decide +kernel
theorem dX12_feed_71 : decode cX12_feed 71 = .ok (.iinc 4 (-1), 3) := by decide +kernel
theorem dX12_feed_74 : decode cX12_feed 74 = .ok (.goto (-39), 3) := by decide +kernel
theorem dX12_feed_27 : decode cX12_feed 27 = .ok (.ldc 77, 2) := by decide +kernel
theorem dX12_feed_29 : decode cX12_feed 29 = .ok (.ireturn, 1) := by decide +kernel
theorem dX12_feed_12 : decode cX12_feed 12 = .ok (.ldc 64, 2) := by decide +kernel
theorem dX12_feed_14 : decode cX12_feed 14 = .ok (.ireturn, 1) := by decide +kernel
set_option maxRecDepth 100000 in
set_option maxHeartbeats 4000000 in
theorem c_X12_feed {E : XE} {B N : Nat} {v : Nat → va_E} {F t : Nat → Int} {V n : Int} {w : Int64} (hc0 : Cel N v 161 (oM B F V)) (hc1 : Cel N v 165 (iarr E 400 t)) (hq0 : (-2147483648 ≤ n ∧ n ≤ 2147483647)) (hq1 : 0 ≤ F 5 ∧ F 5 ≤ 400) : gM yX12_feed wsX12_feed ({ frames := 1, cells := 0, slots := 0, locals := 25 }) E B N v [.ref (B + 161), .long w, .int (zI n)] (po0 N (fun ρ v' => ∃ (res : Int), ∃ (m2 : Int), ∃ (t2 : Nat → Int), ((¬ (1 ≤ n ∧ n ≤ 8) ∧ res = -1000001 ∧ m2 = F 5 ∧ t2 = t) ∨ ((1 ≤ n ∧ n ≤ 8) ∧ 400 < F 5 + n ∧ res = -1000003 ∧ m2 = F 5 ∧ t2 = t) ∨ ((1 ≤ n ∧ n ≤ 8) ∧ F 5 + n ≤ 400 ∧ res = F 5 + n ∧ m2 = F 5 + n ∧ t2 = fdA t (F 5).toNat n.toNat w n.toNat)) ∧ ρ = some (.int (zI res)) ∧ (va_up (va_up v 161 (oM B (va_up F 5 m2) V)) 165 (iarr E 400 t2)) = v')) := by
  refine x_met (nm := "feed") (by decide +kernel) rfl (Nat.le_of_ble_eq_true rfl) rfl (fun Γ K KR hnL hnm => ?_)
  show XW Γ N v [(0, .ref (B + 161)), (1, .long w), (3, .int (zI n))] 0 0 0 []
  refine x_v (cel_pad hc0) ?_
  refine x_v (cel_pad (cel_ne hc1 (by decide))) ?_
  refine x_iload_n (pc := 0) 2 K rfl rfl dX12_feed_0 ?_
  refine x_i2l (pc := 1) K (by omega) dX12_feed_1 ?_
  refine x_lconst (pc := 2) (1) K (by decide) dX12_feed_2 ?_
  refine x_ldc2 (pc := 3) (x := (8)) (8) K (by decide) (by decide +kernel) dX12_feed_3 ?_
  refine x_callS (pc := 6) (As := [.long (zL n), .long (zL 1), .long (zL 8)]) K (c_X12_in (E := E) (B := B) (N := N)    (by omega) (by omega) (by omega)) gX12_feed_X12_in rfl (na := 3) (by decide +kernel) rfl ⟨(Nat.le_of_ble_eq_true rfl), (Nat.le_of_ble_eq_true rfl)⟩ (st := []) rfl (Nat.le_of_ble_eq_true rfl) ⟨(Nat.le_of_ble_eq_true rfl), (Nat.le_of_ble_eq_true rfl)⟩ dX12_feed_6 (fun r6 N6 w6 hpo6 hN6 => ?_)
  obtain ⟨rfl, rfl, rfl⟩ := hpo6
  refine x_st (st' := [.int (zI (bI (1 ≤ n ∧ n ≤ 8)))]) rfl ?_
  have hrg6 := bI_rng (1 ≤ n ∧ n ≤ 8)
  refine x_if_ne (pc := 9) (tgt := 15) K (by omega) dX12_feed_9 (by decide) (fun h_9 => ?_) (fun h_9 => ?_)
  · skip
    have h_9 := bI_f h_9
    refine x_aload_n (pc := 15) 0 K rfl rfl dX12_feed_15 ?_
    refine x_get (pc := 16) (C := RX12) (T := TX12) (n := 26) (ci := 11) (idx := 74) (ref := "BorderBedsModel") (x := .int (zI (F 5)))  K (cel_ne (cel_self hc0.1) (by decide)) rfl (by decide +kernel) 5 (by decide) (by decide +kernel) rfl rfl dX12_feed_16 ?_
    refine x_iload_n (pc := 19) 2 K rfl rfl dX12_feed_19 ?_
    refine x_iadd (pc := 20) K dX12_feed_20 ?_
    refine x_sipush (pc := 21) K (by decide) dX12_feed_21 ?_
    refine x_icmp_le (pc := 24) (tgt := 30) K (by omega) (by decide) dX12_feed_24 (by decide) (fun h_24 => ?_) (fun h_24 => ?_)
    · skip
      refine x_iload_n (pc := 30) 2 K rfl rfl dX12_feed_30 ?_
      refine x_iconst (pc := 31) K dX12_feed_31 ?_
      refine x_isub (pc := 32) K dX12_feed_32 ?_
      refine x_nm (fun z1 hz1 => ?_)
      refine x_istore (pc := 33) K (L' := [(4, .int (zI z1)), (0, .ref (B + 161)), (1, .long w), (3, .int (zI n))]) hnL (by decide) rfl dX12_feed_33 ?_
      have LOOP35 : ∀ (n_35 : Nat) (k : Int) (j : Nat) (m : Int) (x : Nat → Int), ((j : Int) ≤ n ∧ k = n - 1 - (j : Int) ∧ m = F 5 + (j : Int)) → (x = fdA t (F 5).toNat n.toNat w j) → (n.toNat - j) < n_35 → XW Γ N (va_up (va_up v 161 (oM B (va_up F 5 m) V)) 165 (iarr E 400 x)) [(0, .ref (B + 161)), (1, .long w), (3, .int (zI n)), (4, .int (zI k))] 0 0 35 [] := by
        intro n_35
        induction n_35 with
        | zero =>
          intro k j m x hi35_0 hi35_1 hm_35
          exfalso; omega
        | succ n_35 ih35 =>
          intro k j m x hi35_0 hi35_1 hm_35
          refine x_iload (pc := 35) 3 K rfl dX12_feed_35 ?_
          refine x_if_lt (pc := 37) (tgt := 77) K (by omega) dX12_feed_37 (by decide) (fun h_37 => ?_) (fun h_37 => ?_)
          · skip
            have hj : (j : Int) = n := by omega
            have hj2 : n.toNat = j := by omega
            rw [← hj2] at hi35_1
            refine x_aload_n (pc := 77) 0 K rfl rfl dX12_feed_77 ?_
            refine x_get (pc := 78) (C := RX12) (T := TX12) (n := 26) (ci := 11) (idx := 74) (ref := "BorderBedsModel") (x := .int (zI m))  K (cel_ne (cel_self hc0.1) (by decide)) rfl (by decide +kernel) 5 (by decide) (by decide +kernel) rfl rfl dX12_feed_78 ?_
            refine x_iret (pc := 81) K KR (by omega) (Nat.le_of_ble_eq_true rfl) (Nat.le_of_ble_eq_true rfl) dX12_feed_81 ?_
            exact ⟨rfl, m, m, x, (Or.inr (Or.inr ⟨by omega, by omega, by omega, by omega, hi35_1⟩)), rfl, rfl⟩
          · skip
            obtain ⟨kk, rfl⟩ : ∃ kk : Nat, k = (kk : Int) := ⟨k.toNat, by omega⟩
            refine x_aload_n (pc := 40) 0 K rfl rfl dX12_feed_40 ?_
            refine x_get (pc := 41) (C := RX12) (T := TX12) (n := 26) (ci := 11) (idx := 19) (ref := "BorderBedsModel") (x := .ref (B + 165))  K (cel_ne (cel_self hc0.1) (by decide)) rfl (by decide +kernel) 4 (by decide) (by decide +kernel) rfl rfl dX12_feed_41 ?_
            refine x_aload_n (pc := 44) 0 K rfl rfl dX12_feed_44 ?_
            refine x_get (pc := 45) (C := RX12) (T := TX12) (n := 26) (ci := 11) (idx := 74) (ref := "BorderBedsModel") (x := .int (zI m))  K (cel_ne (cel_self hc0.1) (by decide)) rfl (by decide +kernel) 5 (by decide) (by decide +kernel) rfl rfl dX12_feed_45 ?_
            refine x_lload_n (pc := 48) 1 K rfl rfl dX12_feed_48 ?_
            refine x_bipush (pc := 49) K (by decide) dX12_feed_49 ?_
            refine x_iload (pc := 51) 3 K rfl dX12_feed_51 ?_
            refine x_imul (pc := 53) K dX12_feed_53 ?_
            refine x_lshr (pc := 54) K dX12_feed_54 ?_
            refine x_ldc2 (pc := 55) (x := (255)) (255) K (by decide) (by decide +kernel) dX12_feed_55 ?_
            refine x_land (pc := 58) K dX12_feed_58 ?_
            refine x_l2iX (pc := 59) K dX12_feed_59 ?_
            refine x_st (st' := [.int (zI (bytW w (n.toNat - 1 - j))), .int (zI m), .ref (B + 165)]) (by rw [show (8 * (kk : Int)) = ((8 * (n.toNat - 1 - j) : Nat) : Int) by omega]; rw [bytW, zI_self]) ?_
            refine x_iast (pc := 60) ((m).toNat) K (cel_self hc1.1) (by omega) (by omega) (by decide) dX12_feed_60 ?_
            refine x_v (w := (va_up (va_up v 161 (oM B (va_up F 5 m) V)) 165 (iarr E 400 (va_up x ((m).toNat) (bytW w (n.toNat - 1 - j)))))) (up_at0).symm ?_
            refine x_aload_n (pc := 61) 0 K rfl rfl dX12_feed_61 ?_
            refine x_dup (pc := 62) K rfl dX12_feed_62 ?_
            refine x_get (pc := 63) (C := RX12) (T := TX12) (n := 26) (ci := 11) (idx := 74) (ref := "BorderBedsModel") (x := .int (zI m))  K (cel_ne (cel_self hc0.1) (by decide)) rfl (by decide +kernel) 5 (by decide) (by decide +kernel) rfl rfl dX12_feed_63 ?_
            refine x_iconst (pc := 66) K dX12_feed_66 ?_
            refine x_iadd (pc := 67) K dX12_feed_67 ?_
            refine x_put (pc := 68) (C := RX12) (T := TX12) (n := 26) (ci := 11) (idx := 74) (ref := "BorderBedsModel") (ty := .int)  K (cel_ne (cel_self hc0.1) (by decide)) rfl (by decide +kernel) tyX12 tyX12_ok nmX12 5 (by decide) (by decide +kernel) rfl rfl (by decide +kernel) rfl rfl (Nat.le_of_ble_eq_true rfl) dX12_feed_68 ?_
            refine x_v (w := (va_up (va_up v 161 (oM B (va_up F 5 (m + 1)) V)) 165 (iarr E 400 (va_up x ((m).toNat) (bytW w (n.toNat - 1 - j)))))) (up_at1 (by decide)).symm ?_
            refine x_iinc (pc := 71) (L' := [(4, .int (zI ((kk : Int) + (-1)))), (0, .ref (B + 161)), (1, .long w), (3, .int (zI n))]) 3 K hnL rfl (by decide) rfl dX12_feed_71 ?_
            refine x_goto (pc := 74) (tgt := 35) K dX12_feed_74 (by decide) ?_
            refine x_sub (L' := [(0, .ref (B + 161)), (1, .long w), (3, .int (zI n)), (4, .int (zI ((kk : Int) + (-1))))]) [1, 2, 3, 0] rfl ?_
            exact ih35 ((kk : Int) + (-1)) (j + 1) (m + 1) (va_up x ((m).toNat) (bytW w (n.toNat - 1 - j))) (by omega) (by rw [show m.toNat = (F 5).toNat + j by omega, hi35_1]; exact fdA_s (by omega)) (by omega)
      refine x_sub (L' := [(0, .ref (B + 161)), (1, .long w), (3, .int (zI n)), (4, .int (zI z1))]) [1, 2, 3, 0] rfl ?_
      exact LOOP35 (_) z1 0 (F 5) t (by omega) (by exact (fdA_0 _ _ _ _).symm) (Nat.lt_succ_self _)
    · skip
      refine x_ldc (pc := 27) (x := (-1000003)) (-1000003) K (by decide) (by decide +kernel) dX12_feed_27 ?_
      refine x_iret (pc := 29) K KR (by omega) (Nat.le_of_ble_eq_true rfl) (Nat.le_of_ble_eq_true rfl) dX12_feed_29 ?_
      exact ⟨rfl, (-1000003), (F 5), t, (Or.inr (Or.inl ⟨by omega, by omega, rfl, rfl, rfl⟩)), rfl, rfl⟩
  · skip
    have h_9 := bI_t h_9
    refine x_ldc (pc := 12) (x := (-1000001)) (-1000001) K (by decide) (by decide +kernel) dX12_feed_12 ?_
    refine x_iret (pc := 14) K KR (by omega) (Nat.le_of_ble_eq_true rfl) (Nat.le_of_ble_eq_true rfl) dX12_feed_14 ?_
    exact ⟨rfl, (-1000001), (F 5), t, (Or.inl ⟨by omega, rfl, rfl, rfl⟩), rfl, rfl⟩
