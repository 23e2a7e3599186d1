theorem dX12_goesOut_0 : decode cX12_goesOut 0 = .ok (.aload_n 0, 1) := by decide +kernel
theorem dX12_goesOut_1 : decode cX12_goesOut 1 = .ok (.bipush 121, 2) := by decide +kernel
theorem dX12_goesOut_3 : decode cX12_goesOut 3 = .ok (.dup2, 1) := by decide +kernel
theorem dX12_goesOut_4 : decode cX12_goesOut 4 = .ok (.iaload, 1) := by decide +kernel
theorem dX12_goesOut_5 : decode cX12_goesOut 5 = .ok (.iconst 1, 1) := by decide +kernel
theorem dX12_goesOut_6 : decode cX12_goesOut 6 = .ok (.isub, 1) := by decide +kernel
theorem dX12_goesOut_7 : decode cX12_goesOut 7 = .ok (.iastore, 1) := by decide +kernel
theorem dX12_goesOut_8 : decode cX12_goesOut 8 = .ok (.iload_n 1, 1) := by decide +kernel
theorem dX12_goesOut_9 : decode cX12_goesOut 9 = .ok (.istore_n 2, 1) := by decide +kernel
theorem dX12_goesOut_10 : decode cX12_goesOut 10 = .ok (.iload_n 2, 1) := by decide +kernel
theorem dX12_goesOut_11 : decode cX12_goesOut 11 = .ok (.aload_n 0, 1) := by decide +kernel
theorem dX12_goesOut_12 : decode cX12_goesOut 12 = .ok (.bipush 121, 2) := by decide +kernel
theorem dX12_goesOut_14 : decode cX12_goesOut 14 = .ok (.iaload, 1) := by decide +kernel
theorem dX12_goesOut_15 : decode cX12_goesOut 15 = .ok (.if_icmp .ge 39, 3) := by decide +kernel
theorem dX12_goesOut_54 : decode cX12_goesOut 54 = .ok (.return_, 1) := by decide +kernel
theorem dX12_goesOut_18 : decode cX12_goesOut 18 = .ok (.aload_n 0, 1) := by decide +kernel
theorem dX12_goesOut_19 : decode cX12_goesOut 19 = .ok (.bipush 122, 2) := by decide +kernel
theorem dX12_goesOut_21 : decode cX12_goesOut 21 = .ok (.iload_n 2, 1) := by decide +kernel
theorem dX12_goesOut_22 : decode cX12_goesOut 22 = .ok (.iadd, 1) := by decide +kernel
theorem dX12_goesOut_23 : decode cX12_goesOut 23 = .ok (.aload_n 0, 1) := by decide +kernel
theorem dX12_goesOut_24 : decode cX12_goesOut 24 = .ok (.bipush 122, 2) := by decide +kernel
theorem dX12_goesOut_26 : decode cX12_goesOut 26 = .ok (.iload_n 2, 1) := by decide +kernel
theorem dX12_goesOut_27 : decode cX12_goesOut 27 = .ok (.iadd, 1) := by decide +kernel
theorem dX12_goesOut_28 : decode cX12_goesOut 28 = .ok (.iconst 1, 1) := by decide +kernel
theorem dX12_goesOut_29 : decode cX12_goesOut 29 = .ok (.iadd, 1) := by decide +kernel
theorem dX12_goesOut_30 : decode cX12_goesOut 30 = .ok (.iaload, 1) := by decide +kernel
theorem dX12_goesOut_31 : decode cX12_goesOut 31 = .ok (.iastore, 1) := by decide +kernel
theorem dX12_goesOut_32 : decode cX12_goesOut 32 = .ok (.aload_n 0, 1) := by decide +kernel
theorem dX12_goesOut_33 : decode cX12_goesOut 33 = .ok (.sipush 130, 3) := by decide +kernel
theorem dX12_goesOut_36 : decode cX12_goesOut 36 = .ok (.iload_n 2, 1) := by decide +kernel
theorem dX12_goesOut_37 : decode cX12_goesOut 37 = .ok (.iadd, 1) := by decide +kernel
theorem dX12_goesOut_38 : decode cX12_goesOut 38 = .ok (.aload_n 0, 1) := by decide +kernel
theorem dX12_goesOut_39 : decode cX12_goesOut 39 = .ok (.sipush 130, 3) := by decide +kernel
theorem dX12_goesOut_42 : decode cX12_goesOut 42 = .ok (.iload_n 2, 1) := by decide +kernel
theorem dX12_goesOut_43 : decode cX12_goesOut 43 = .ok (.iadd, 1) := by decide +kernel
theorem dX12_goesOut_44 : decode cX12_goesOut 44 = .ok (.iconst 1, 1) := by decide +kernel
theorem dX12_goesOut_45 : decode cX12_goesOut 45 = .ok (.iadd, 1) := by decide +kernel
theorem dX12_goesOut_46 : decode cX12_goesOut 46 = .ok (.iaload, 1) := by decide +kernel
theorem dX12_goesOut_47 : decode cX12_goesOut 47 = .ok (.iastore, 1) := by decide +kernel
theorem dX12_goesOut_48 : decode cX12_goesOut 48 = .ok (.iinc 2 1, 3) := by decide +kernel
theorem dX12_goesOut_51 : decode cX12_goesOut 51 = .ok (.goto (-41), 3) := by decide +kernel
theorem dX12_comes_0 : decode cX12_comes 0 = .ok (.aload_n 0, 1) := by decide +kernel
theorem dX12_comes_1 : decode cX12_comes 1 = .ok (.bipush 121, 2) := by decide +kernel
theorem dX12_comes_3 : decode cX12_comes 3 = .ok (.iaload, 1) := by decide +kernel
theorem dX12_comes_4 : decode cX12_comes 4 = .ok (.iconst 1, 1) := by decide +kernel
theorem dX12_comes_5 : decode cX12_comes 5 = .ok (.isub, 1) := by decide +kernel
theorem dX12_comes_6 : decode cX12_comes 6 = .ok (.istore_n 3, 1) := by decide +kernel
theorem dX12_comes_7 : decode cX12_comes 7 = .ok (.iload_n 3, 1) := by decide +kernel
theorem dX12_comes_8 : decode cX12_comes 8 = .ok (.ifCond .lt 30, 3) := by decide +kernel
theorem dX12_comes_38 : decode cX12_comes 38 = .ok (.aload_n 0, 1) := by decide +kernel
theorem dX12_comes_39 : decode cX12_comes 39 = .ok (.bipush 122, 2) := by decide +kernel
theorem dX12_comes_41 : decode cX12_comes 41 = .ok (.aload_n 0, 1) := by decide +kernel
theorem dX12_comes_42 : decode cX12_comes 42 = .ok (.bipush 121, 2) := by decide +kernel
theorem dX12_comes_44 : decode cX12_comes 44 = .ok (.iaload, 1) := by decide +kernel
theorem dX12_comes_45 : decode cX12_comes 45 = .ok (.iadd, 1) := by decide +kernel
theorem dX12_comes_46 : decode cX12_comes 46 = .ok (.iload_n 1, 1) := by decide +kernel
theorem dX12_comes_47 : decode cX12_comes 47 = .ok (.iastore, 1) := by decide +kernel
theorem dX12_comes_48 : decode cX12_comes 48 = .ok (.aload_n 0, 1) := by decide +kernel
theorem dX12_comes_49 : decode cX12_comes 49 = .ok (.sipush 130, 3) := by decide +kernel
theorem dX12_comes_52 : decode cX12_comes 52 = .ok (.aload_n 0, 1) := by decide +kernel
theorem dX12_comes_53 : decode cX12_comes 53 = .ok (.bipush 121, 2) := by decide +kernel
theorem dX12_comes_55 : decode cX12_comes 55 = .ok (.iaload, 1) := by decide +kernel
theorem dX12_comes_56 : decode cX12_comes 56 = .ok (.iadd, 1) := by decide +kernel
theorem dX12_comes_57 : decode cX12_comes 57 = .ok (.iload_n 2, 1) := by decide +kernel
theorem dX12_comes_58 : decode cX12_comes 58 = .ok (.iastore, 1) := by decide +kernel
theorem dX12_comes_59 : decode cX12_comes 59 = .ok (.aload_n 0, 1) := by decide +kernel
theorem dX12_comes_60 : decode cX12_comes 60 = .ok (.bipush 121, 2) := by decide +kernel
theorem dX12_comes_62 : decode cX12_comes 62 = .ok (.dup2, 1) := by decide +kernel
theorem dX12_comes_63 : decode cX12_comes 63 = .ok (.iaload, 1) := by decide +kernel
theorem dX12_comes_64 : decode cX12_comes 64 = .ok (.iconst 1, 1) := by decide +kernel
theorem dX12_comes_65 : decode cX12_comes 65 = .ok (.iadd, 1) := by decide +kernel
theorem dX12_comes_66 : decode cX12_comes 66 = .ok (.iastore, 1) := by decide +kernel
theorem dX12_comes_67 : decode cX12_comes 67 = .ok (.return_, 1) := by decide +kernel
theorem dX12_comes_11 : decode cX12_comes 11 = .ok (.aload_n 0, 1) := by decide +kernel
theorem dX12_comes_12 : decode cX12_comes 12 = .ok (.bipush 122, 2) := by decide +kernel
theorem dX12_comes_14 : decode cX12_comes 14 = .ok (.iload_n 3, 1) := by decide +kernel
theorem dX12_comes_15 : decode cX12_comes 15 = .ok (.iadd, 1) := by decide +kernel
theorem dX12_comes_16 : decode cX12_comes 16 = .ok (.iaload, 1) := by decide +kernel
theorem dX12_comes_17 : decode cX12_comes 17 = .ok (.bipush 8, 2) := by decide +kernel
theorem dX12_comes_19 : decode cX12_comes 19 = .ok (.irem, 1) := by decide +kernel
theorem dX12_comes_20 : decode cX12_comes 20 = .ok (.iload_n 1, 1) := by decide +kernel
theorem dX12_comes_21 : decode cX12_comes 21 = .ok (.bipush 8, 2) := by decide +kernel
theorem dX12_comes_23 : decode cX12_comes 23 = .ok (.irem, 1) := by decide +kernel
theorem dX12_comes_24 : decode cX12_comes 24 = .ok (.if_icmp .ne 8, 3) := by decide +kernel
theorem dX12_comes_32 : decode cX12_comes 32 = .ok (.iinc 3 (-1), 3) := by decide +kernel
theorem dX12_comes_35 : decode cX12_comes 35 = .ok (.goto (-28), 3) := by decide +kernel
theorem dX12_comes_27 : decode cX12_comes 27 = .ok (.aload_n 0, 1) := by decide +kernel
theorem dX12_comes_28 : decode cX12_comes 28 = .ok (.iload_n 3, 1) := by decide +kernel
set_option maxRecDepth 20000 in
theorem ggX12_comes_X12_goesOut : GoodIn wsX12_comes wsX12_goesOut := goodIn_r _ [4] (by decide +kernel) (by decide +kernel)
set_option maxRecDepth 20000 in
theorem gX12_comes_X12_goesOut : GoodIn wsX12_comes (va_wsS RX12 203 yX12_goesOut wsX12_goesOut) := goodIn_app (goodIn_of _ (by decide +kernel)) ggX12_comes_X12_goesOut
theorem dX12_comes_29 : decode cX12_comes 29 = .ok (.invokestatic 203, 3) := by decide +kernel
theorem dX12_crosses_0 : decode cX12_crosses 0 = .ok (.aload_n 0, 1) := by decide +kernel
theorem dX12_crosses_1 : decode cX12_crosses 1 = .ok (.iconst 5, 1) := by decide +kernel
theorem dX12_crosses_2 : decode cX12_crosses 2 = .ok (.iload_n 1, 1) := by decide +kernel
theorem dX12_crosses_3 : decode cX12_crosses 3 = .ok (.iadd, 1) := by decide +kernel
theorem dX12_crosses_4 : decode cX12_crosses 4 = .ok (.iaload, 1) := by decide +kernel
theorem dX12_crosses_5 : decode cX12_crosses 5 = .ok (.istore_n 3, 1) := by decide +kernel
theorem dX12_crosses_6 : decode cX12_crosses 6 = .ok (.iload_n 3, 1) := by decide +kernel
theorem dX12_crosses_7 : decode cX12_crosses 7 = .ok (.iconst 5, 1) := by decide +kernel
theorem dX12_crosses_8 : decode cX12_crosses 8 = .ok (.if_icmp .ne 4, 3) := by decide +kernel
theorem dX12_crosses_12 : decode cX12_crosses 12 = .ok (.aload_n 0, 1) := by decide +kernel
theorem dX12_crosses_13 : decode cX12_crosses 13 = .ok (.iload_n 2, 1) := by decide +kernel
theorem dX12_crosses_14 : decode cX12_crosses 14 = .ok (.iload_n 3, 1) := by decide +kernel
theorem dX12_crosses_15 : decode cX12_crosses 15 = .ok (.iconst 4, 1) := by decide +kernel
theorem dX12_crosses_16 : decode cX12_crosses 16 = .ok (.if_icmp .ne 7, 3) := by decide +kernel
theorem dX12_crosses_23 : decode cX12_crosses 23 = .ok (.iconst 0, 1) := by decide +kernel
set_option maxRecDepth 20000 in
theorem ggX12_crosses_X12_comes : GoodIn wsX12_crosses wsX12_comes := goodIn_r _ [4, 5, 6, 3, 7] (by decide +kernel) (by decide +kernel)
set_option maxRecDepth 20000 in
theorem gX12_crosses_X12_comes : GoodIn wsX12_crosses (va_wsS RX12 207 yX12_comes wsX12_comes) := goodIn_app (goodIn_of _ (by decide +kernel)) ggX12_crosses_X12_comes
theorem dX12_crosses_24 : decode cX12_crosses 24 = .ok (.invokestatic 207, 3) := by decide +kernel
theorem dX12_crosses_27 : decode cX12_crosses 27 = .ok (.iload_n 3, 1) := by decide +kernel
theorem dX12_crosses_28 : decode cX12_crosses 28 = .ok (.iconst 3, 1) := by decide +kernel
theorem dX12_crosses_29 : decode cX12_crosses 29 = .ok (.if_icmp .ne 23, 3) := by decide +kernel
theorem dX12_crosses_52 : decode cX12_crosses 52 = .ok (.aload_n 0, 1) := by decide +kernel
theorem dX12_crosses_53 : decode cX12_crosses 53 = .ok (.bipush 121, 2) := by decide +kernel
theorem dX12_crosses_55 : decode cX12_crosses 55 = .ok (.iaload, 1) := by decide +kernel
theorem dX12_crosses_56 : decode cX12_crosses 56 = .ok (.aload_n 0, 1) := by decide +kernel
theorem dX12_crosses_57 : decode cX12_crosses 57 = .ok (.iconst 2, 1) := by decide +kernel
theorem dX12_crosses_58 : decode cX12_crosses 58 = .ok (.iaload, 1) := by decide +kernel
theorem dX12_crosses_59 : decode cX12_crosses 59 = .ok (.if_icmp .le 55, 3) := by decide +kernel
theorem dX12_crosses_114 : decode cX12_crosses 114 = .ok (.return_, 1) := by decide +kernel
theorem dX12_crosses_62 : decode cX12_crosses 62 = .ok (.iconst 0, 1) := by decide +kernel
theorem dX12_crosses_63 : decode cX12_crosses 63 = .ok (.istore 4, 2) := by decide +kernel
theorem dX12_crosses_65 : decode cX12_crosses 65 = .ok (.aload_n 0, 1) := by decide +kernel
theorem dX12_crosses_66 : decode cX12_crosses 66 = .ok (.bipush 121, 2) := by decide +kernel
theorem dX12_crosses_68 : decode cX12_crosses 68 = .ok (.iaload, 1) := by decide +kernel
theorem dX12_crosses_69 : decode cX12_crosses 69 = .ok (.iconst 1, 1) := by decide +kernel
theorem dX12_crosses_70 : decode cX12_crosses 70 = .ok (.isub, 1) := by decide +kernel
theorem dX12_crosses_71 : decode cX12_crosses 71 = .ok (.istore 5, 2) := by decide +kernel
theorem dX12_crosses_73 : decode cX12_crosses 73 = .ok (.iload 5, 2) := by decide +kernel
theorem dX12_crosses_75 : decode cX12_crosses 75 = .ok (.ifCond .lt 30, 3) := by decide +kernel
theorem dX12_crosses_105 : decode cX12_crosses 105 = .ok (.aload_n 0, 1) := by decide +kernel
theorem dX12_crosses_106 : decode cX12_crosses 106 = .ok (.iload 4, 2) := by decide +kernel
set_option maxRecDepth 20000 in
theorem ggX12_crosses_X12_goesOut : GoodIn wsX12_crosses wsX12_goesOut := goodIn_r _ [7] (by decide +kernel) (by decide +kernel)
set_option maxRecDepth 20000 in
theorem gX12_crosses_X12_goesOut : GoodIn wsX12_crosses (va_wsS RX12 203 yX12_goesOut wsX12_goesOut) := goodIn_app (goodIn_of _ (by decide +kernel)) ggX12_crosses_X12_goesOut
theorem dX12_crosses_108 : decode cX12_crosses 108 = .ok (.invokestatic 203, 3) := by decide +kernel
theorem dX12_crosses_111 : decode cX12_crosses 111 = .ok (.goto (-59), 3) := by decide +kernel
theorem dX12_crosses_78 : decode cX12_crosses 78 = .ok (.aload_n 0, 1) := by decide +kernel
theorem dX12_crosses_79 : decode cX12_crosses 79 = .ok (.sipush 130, 3) := by decide +kernel
theorem dX12_crosses_82 : decode cX12_crosses 82 = .ok (.iload 5, 2) := by decide +kernel
theorem dX12_crosses_84 : decode cX12_crosses 84 = .ok (.iadd, 1) := by decide +kernel
theorem dX12_crosses_85 : decode cX12_crosses 85 = .ok (.iaload, 1) := by decide +kernel
theorem dX12_crosses_86 : decode cX12_crosses 86 = .ok (.iconst 1, 1) := by decide +kernel
theorem dX12_crosses_87 : decode cX12_crosses 87 = .ok (.if_icmp .ne 8, 3) := by decide +kernel
theorem dX12_crosses_95 : decode cX12_crosses 95 = .ok (.iload 4, 2) := by decide +kernel
theorem dX12_crosses_97 : decode cX12_crosses 97 = .ok (.istore 4, 2) := by decide +kernel
theorem dX12_crosses_99 : decode cX12_crosses 99 = .ok (.iinc 5 (-1), 3) := by decide +kernel
theorem dX12_crosses_102 : decode cX12_crosses 102 = .ok (.goto (-29), 3) := by decide +kernel
theorem dX12_crosses_90 : decode cX12_crosses 90 = .ok (.iload 5, 2) := by decide +kernel
theorem dX12_crosses_92 : decode cX12_crosses 92 = .ok (.goto 5, 3) := by decide +kernel
theorem dX12_crosses_32 : decode cX12_crosses 32 = .ok (.aload_n 0, 1) := by decide +kernel
theorem dX12_crosses_33 : decode cX12_crosses 33 = .ok (.iload_n 2, 1) := by decide +kernel
theorem dX12_crosses_34 : decode cX12_crosses 34 = .ok (.bipush 8, 2) := by decide +kernel
theorem dX12_crosses_36 : decode cX12_crosses 36 = .ok (.idiv, 1) := by decide +kernel
theorem dX12_crosses_37 : decode cX12_crosses 37 = .ok (.bipush 8, 2) := by decide +kernel
theorem dX12_crosses_39 : decode cX12_crosses 39 = .ok (.imul, 1) := by decide +kernel
theorem dX12_crosses_40 : decode cX12_crosses 40 = .ok (.bipush 7, 2) := by decide +kernel
theorem dX12_crosses_42 : decode cX12_crosses 42 = .ok (.iadd, 1) := by decide +kernel
theorem dX12_crosses_43 : decode cX12_crosses 43 = .ok (.iload_n 2, 1) := by decide +kernel
theorem dX12_crosses_44 : decode cX12_crosses 44 = .ok (.bipush 8, 2) := by decide +kernel
theorem dX12_crosses_46 : decode cX12_crosses 46 = .ok (.irem, 1) := by decide +kernel
theorem dX12_crosses_47 : decode cX12_crosses 47 = .ok (.isub, 1) := by decide +kernel
theorem dX12_crosses_48 : decode cX12_crosses 48 = .ok (.iconst 0, 1) := by decide +kernel
theorem dX12_crosses_49 : decode cX12_crosses 49 = .ok (.invokestatic 207, 3) := by decide +kernel
theorem dX12_crosses_19 : decode cX12_crosses 19 = .ok (.iconst 1, 1) := by decide +kernel
theorem dX12_crosses_20 : decode cX12_crosses 20 = .ok (.goto 4, 3) := by decide +kernel
theorem dX12_crosses_11 : decode cX12_crosses 11 = .ok (.return_, 1) := by decide +kernel
set_option maxRecDepth 100000 in
set_option maxHeartbeats 4000000 in
theorem c_X12_goesOut {E : XE} {B N : Nat} {v : Nat → va_E} {c k : Nat} {f p : Nat → Int} {l : Cor} {k_i : Int} (ha_k : k_i = (k : Int)) (hc0 : Cel N v c (iarr E 138 f)) (hq0 : PR f p l) (hq1 : k < l.length) (hq2 : l.length ≤ 8) : gM yX12_goesOut wsX12_goesOut ({ frames := 0, cells := 0, slots := 0, locals := 0 }) E B N v [.ref (B + c), .int (zI k_i)] (po0 N (fun ρ v' => ∃ (g : Nat → Int), (PR g p (l.eraseIdx k)) ∧ ρ = none ∧ (va_up v c (iarr E 138 g)) = v')) := by
  subst ha_k
  refine x_met (nm := "goesOut") (by decide +kernel) rfl (Nat.le_of_ble_eq_true rfl) rfl (fun Γ K KR hnL hnm => ?_)
  show XW Γ N v [(0, .ref (B + c)), (1, .int (zI (k : Int)))] 0 0 0 []
  have hf121 := hq0.2.1
  refine x_v (cel_pad hc0) ?_
  refine x_aload_n (pc := 0) 0 K rfl rfl dX12_goesOut_0 ?_
  refine x_bipush (pc := 1) K (by decide) dX12_goesOut_1 ?_
  refine x_dup2 (pc := 3) K rfl rfl dX12_goesOut_3 ?_
  refine x_iald (pc := 4) 121 K (cel_self hc0.1) rfl (by omega) (by decide) dX12_goesOut_4 ?_
  refine x_iconst (pc := 5) K dX12_goesOut_5 ?_
  refine x_isub (pc := 6) K dX12_goesOut_6 ?_
  refine x_iast (pc := 7) 121 K (cel_self hc0.1) rfl (by omega) (by decide) dX12_goesOut_7 ?_
  refine x_v (w := (va_up v c (iarr E 138 (va_up f 121 ((f 121) - 1))))) (up_at0).symm ?_
  refine x_iload_n (pc := 8) 1 K rfl rfl dX12_goesOut_8 ?_
  refine x_istore_n (pc := 9) K (L' := [(2, .int (zI (k : Int))), (0, .ref (B + c)), (1, .int (zI (k : Int)))]) hnL rfl (by decide) rfl dX12_goesOut_9 ?_
  have LOOP10 : ∀ (n_10 : Nat) (e : Nat) (h : Nat → Int), (k ≤ e ∧ e ≤ l.length - 1) → (h = shA f k e) → (8 - e) < n_10 → XW Γ N (va_up v c (iarr E 138 h)) [(0, .ref (B + c)), (1, .int (zI (k : Int))), (2, .int (zI (e : Int)))] 0 0 10 [] := by
    intro n_10
    induction n_10 with
    | zero =>
      intro e h hi10_0 hi10_1 hm_10
      exfalso; omega
    | succ n_10 ih10 =>
      intro e h hi10_0 hi10_1 hm_10
      have hh121 : h 121 = (l.length : Int) - 1 := by rw [hi10_1]; unfold shA; rw [if_pos rfl, hf121]
      refine x_iload_n (pc := 10) 2 K rfl rfl dX12_goesOut_10 ?_
      refine x_aload_n (pc := 11) 0 K rfl rfl dX12_goesOut_11 ?_
      refine x_bipush (pc := 12) K (by decide) dX12_goesOut_12 ?_
      refine x_iald (pc := 14) 121 K (cel_self hc0.1) rfl (by omega) (by decide) dX12_goesOut_14 ?_
      refine x_icmp_ge (pc := 15) (tgt := 54) K (by omega) (by omega) dX12_goesOut_15 (by decide) (fun h_15 => ?_) (fun h_15 => ?_)
      · skip
        refine x_vret (pc := 54) K KR (by omega) (Nat.le_of_ble_eq_true rfl) (Nat.le_of_ble_eq_true rfl) dX12_goesOut_54 ?_
        have he : e = l.length - 1 := by omega
        exact ⟨rfl, h, by rw [hi10_1, he]; exact PR_sh hq0 hq1 hq2, rfl, rfl⟩
      · skip
        refine x_aload_n (pc := 18) 0 K rfl rfl dX12_goesOut_18 ?_
        refine x_bipush (pc := 19) K (by decide) dX12_goesOut_19 ?_
        refine x_iload_n (pc := 21) 2 K rfl rfl dX12_goesOut_21 ?_
        refine x_iadd (pc := 22) K dX12_goesOut_22 ?_
        refine x_aload_n (pc := 23) 0 K rfl rfl dX12_goesOut_23 ?_
        refine x_bipush (pc := 24) K (by decide) dX12_goesOut_24 ?_
        refine x_iload_n (pc := 26) 2 K rfl rfl dX12_goesOut_26 ?_
        refine x_iadd (pc := 27) K dX12_goesOut_27 ?_
        refine x_iconst (pc := 28) K dX12_goesOut_28 ?_
        refine x_iadd (pc := 29) K dX12_goesOut_29 ?_
        refine x_iald (pc := 30) ((122 + e) + 1) K (cel_self hc0.1) (by omega) (by omega) (by decide) dX12_goesOut_30 ?_
        refine x_iast (pc := 31) (122 + e) K (cel_self hc0.1) (by omega) (by omega) (by decide) dX12_goesOut_31 ?_
        refine x_v (w := (va_up v c (iarr E 138 (va_up h (122 + e) (h ((122 + e) + 1)))))) (up_at0).symm ?_
        refine x_aload_n (pc := 32) 0 K rfl rfl dX12_goesOut_32 ?_
        refine x_sipush (pc := 33) K (by decide) dX12_goesOut_33 ?_
        refine x_iload_n (pc := 36) 2 K rfl rfl dX12_goesOut_36 ?_
        refine x_iadd (pc := 37) K dX12_goesOut_37 ?_
        refine x_aload_n (pc := 38) 0 K rfl rfl dX12_goesOut_38 ?_
        refine x_sipush (pc := 39) K (by decide) dX12_goesOut_39 ?_
        refine x_iload_n (pc := 42) 2 K rfl rfl dX12_goesOut_42 ?_
        refine x_iadd (pc := 43) K dX12_goesOut_43 ?_
        refine x_iconst (pc := 44) K dX12_goesOut_44 ?_
        refine x_iadd (pc := 45) K dX12_goesOut_45 ?_
        refine x_iald (pc := 46) ((130 + e) + 1) K (cel_self hc0.1) (by omega) (by omega) (by decide) dX12_goesOut_46 ?_
        refine x_iast (pc := 47) (130 + e) K (cel_self hc0.1) (by omega) (by omega) (by decide) dX12_goesOut_47 ?_
        refine x_v (w := (va_up v c (iarr E 138 (va_up (va_up h (122 + e) (h ((122 + e) + 1))) (130 + e) ((va_up h (122 + e) (h ((122 + e) + 1))) ((130 + e) + 1)))))) (up_at0).symm ?_
        refine x_iinc (pc := 48) (L' := [(2, .int (zI ((e : Int) + 1))), (0, .ref (B + c)), (1, .int (zI (k : Int)))]) 2 K hnL rfl (by decide) rfl dX12_goesOut_48 ?_
        refine x_goto (pc := 51) (tgt := 10) K dX12_goesOut_51 (by decide) ?_
        refine x_sub (L' := [(0, .ref (B + c)), (1, .int (zI (k : Int))), (2, .int (zI ((e : Int) + 1)))]) [1, 2, 0] rfl ?_
        exact ih10 (e + 1) (va_up (va_up h (122 + e) (h ((122 + e) + 1))) (130 + e) ((va_up h (122 + e) (h ((122 + e) + 1))) ((130 + e) + 1))) (by omega) (by rw [hi10_1]; exact shA_s (by omega) (by omega)) (by omega)
  refine x_sub (L' := [(0, .ref (B + c)), (1, .int (zI (k : Int))), (2, .int (zI (k : Int)))]) [1, 2, 0] rfl ?_
  exact LOOP10 (_) k (va_up f 121 ((f 121) - 1)) (by omega) (by exact shA_0 f k) (Nat.lt_succ_self _)

set_option maxRecDepth 100000 in
set_option maxHeartbeats 4000000 in
theorem c_X12_comes {E : XE} {B N : Nat} {v : Nat → va_E} {c : Nat} {cell made : Int} {f p : Nat → Int} {l : Cor} (hc0 : Cel N v c (iarr E 138 f)) (hq0 : PR f p l) (hq1 : CorOk l) (hq2 : l.length ≤ 7) (hq3 : 0 ≤ cell ∧ cell ≤ 47) : gM yX12_comes wsX12_comes ({ frames := 1, cells := 0, slots := 0, locals := 22 }) E B N v [.ref (B + c), .int (zI cell), .int (zI made)] (po0 N (fun ρ v' => ∃ (g : Nat → Int), (PR g p (comesA cell made l)) ∧ ρ = none ∧ (va_up v c (iarr E 138 g)) = v')) := by
  refine x_met (nm := "comes") (by decide +kernel) rfl (Nat.le_of_ble_eq_true rfl) rfl (fun Γ K KR hnL hnm => ?_)
  show XW Γ N v [(0, .ref (B + c)), (1, .int (zI cell)), (2, .int (zI made))] 0 0 0 []
  have hf121 := hq0.2.1
  refine x_v (cel_pad hc0) ?_
  refine x_aload_n (pc := 0) 0 K rfl rfl dX12_comes_0 ?_
  refine x_bipush (pc := 1) K (by decide) dX12_comes_1 ?_
  refine x_iald (pc := 3) 121 K (cel_self hc0.1) rfl (by omega) (by decide) dX12_comes_3 ?_
  refine x_iconst (pc := 4) K dX12_comes_4 ?_
  refine x_isub (pc := 5) K dX12_comes_5 ?_
  refine x_nm (fun z1 hz1 => ?_)
  refine x_istore_n (pc := 6) K (L' := [(3, .int (zI z1)), (0, .ref (B + c)), (1, .int (zI cell)), (2, .int (zI made))]) hnL rfl (by decide) rfl dX12_comes_6 ?_
  have LOOP7 : ∀ (n_7 : Nat) (k : Int) (h : Nat → Int), (-1 ≤ k ∧ k < l.length) → (PR h p (rmB (cell % 8) l (k + 1).toNat)) → ((k + 1).toNat) < n_7 → XW Γ N (va_up v c (iarr E 138 h)) [(0, .ref (B + c)), (1, .int (zI cell)), (2, .int (zI made)), (3, .int (zI k))] 0 0 7 [] := by
    intro n_7
    induction n_7 with
    | zero =>
      intro k h hi7_0 hi7_1 hm_7
      exfalso; omega
    | succ n_7 ih7 =>
      intro k h hi7_0 hi7_1 hm_7
      have hs7 := (rmB_sub (cell % 8) l (k + 1).toNat).length_le
      have hok7 := hq1.sub (rmB_sub (cell % 8) l (k + 1).toNat)
      refine x_iload_n (pc := 7) 3 K rfl rfl dX12_comes_7 ?_
      refine x_if_lt (pc := 8) (tgt := 38) K (by omega) dX12_comes_8 (by decide) (fun h_8 => ?_) (fun h_8 => ?_)
      · skip
        have hk0 : (k + 1).toNat = 0 := by omega
        rw [hk0, rmB_0] at hi7_1 hs7
        obtain ⟨n, hn⟩ : ∃ n : Nat, n = (rmvA (cell % 8) l).length := ⟨_, rfl⟩
        have e44 := hi7_1.2.1
        rw [← hn] at e44 hs7
        refine x_aload_n (pc := 38) 0 K rfl rfl dX12_comes_38 ?_
        refine x_bipush (pc := 39) K (by decide) dX12_comes_39 ?_
        refine x_aload_n (pc := 41) 0 K rfl rfl dX12_comes_41 ?_
        refine x_bipush (pc := 42) K (by decide) dX12_comes_42 ?_
        refine x_iald (pc := 44) 121 K (cel_self hc0.1) rfl (by omega) (by decide) dX12_comes_44 ?_
        refine x_st (st' := [.int (zI (n : Int)), .int (zI 122), .ref (B + c)]) (by rw [e44]) ?_
        refine x_iadd (pc := 45) K dX12_comes_45 ?_
        refine x_iload_n (pc := 46) 1 K rfl rfl dX12_comes_46 ?_
        refine x_iast (pc := 47) (122 + n) K (cel_self hc0.1) (by omega) (by omega) (by decide) dX12_comes_47 ?_
        refine x_v (w := (va_up v c (iarr E 138 (va_up h (122 + n) cell)))) (up_at0).symm ?_
        refine x_aload_n (pc := 48) 0 K rfl rfl dX12_comes_48 ?_
        refine x_sipush (pc := 49) K (by decide) dX12_comes_49 ?_
        refine x_aload_n (pc := 52) 0 K rfl rfl dX12_comes_52 ?_
        refine x_bipush (pc := 53) K (by decide) dX12_comes_53 ?_
        refine x_iald (pc := 55) 121 K (cel_self hc0.1) rfl (by omega) (by decide) dX12_comes_55 ?_
        refine x_st (st' := [.int (zI (n : Int)), .int (zI 130), .ref (B + c)]) (by rw [va_up_ne _ _ (by omega), e44]) ?_
        refine x_iadd (pc := 56) K dX12_comes_56 ?_
        refine x_iload_n (pc := 57) 2 K rfl rfl dX12_comes_57 ?_
        refine x_iast (pc := 58) (130 + n) K (cel_self hc0.1) (by omega) (by omega) (by decide) dX12_comes_58 ?_
        refine x_v (w := (va_up v c (iarr E 138 (va_up (va_up h (122 + n) cell) (130 + n) made)))) (up_at0).symm ?_
        refine x_aload_n (pc := 59) 0 K rfl rfl dX12_comes_59 ?_
        refine x_bipush (pc := 60) K (by decide) dX12_comes_60 ?_
        refine x_dup2 (pc := 62) K rfl rfl dX12_comes_62 ?_
        refine x_iald (pc := 63) 121 K (cel_self hc0.1) rfl (by omega) (by decide) dX12_comes_63 ?_
        refine x_st (st' := [.int (zI (n : Int)), .int (zI 121), .ref (B + c)]) (by rw [va_up_ne _ _ (by omega), va_up_ne _ _ (by omega), e44]) ?_
        refine x_iconst (pc := 64) K dX12_comes_64 ?_
        refine x_iadd (pc := 65) K dX12_comes_65 ?_
        refine x_iast (pc := 66) 121 K (cel_self hc0.1) rfl (by omega) (by decide) dX12_comes_66 ?_
        refine x_v (w := (va_up v c (iarr E 138 (va_up (va_up (va_up h (122 + n) cell) (130 + n) made) 121 ((n : Int) + 1))))) (up_at0).symm ?_
        refine x_vret (pc := 67) K KR (by omega) (Nat.le_of_ble_eq_true rfl) (Nat.le_of_ble_eq_true rfl) dX12_comes_67 ?_
        have hfin := PR_add (c := cell) (m := made) hi7_1 (by omega)
        rw [← hn] at hfin
        exact ⟨rfl, _, hfin, rfl, rfl⟩
      · skip
        obtain ⟨j, rfl⟩ : ∃ j : Nat, k = (j : Int) := ⟨k.toNat, by omega⟩
        have hj2 : j < l.length := by omega
        rw [show ((j : Int) + 1).toNat = j + 1 by omega] at hi7_1 hs7 hok7
        obtain ⟨hj3, hj4⟩ := rmB_at (x := cell % 8) hj2
        have e16 := hi7_1.cor hj3
        rw [hj4] at e16
        have b16 := hq1.at hj2
        rw [← e16] at b16
        refine x_aload_n (pc := 11) 0 K rfl rfl dX12_comes_11 ?_
        refine x_bipush (pc := 12) K (by decide) dX12_comes_12 ?_
        refine x_iload_n (pc := 14) 3 K rfl rfl dX12_comes_14 ?_
        refine x_iadd (pc := 15) K dX12_comes_15 ?_
        refine x_iald (pc := 16) (122 + j) K (cel_self hc0.1) (by omega) (by omega) (by decide) dX12_comes_16 ?_
        refine x_bipush (pc := 17) K (by decide) dX12_comes_17 ?_
        refine x_irem (pc := 19) K (by omega) (by omega) dX12_comes_19 ?_
        refine x_iload_n (pc := 20) 1 K rfl rfl dX12_comes_20 ?_
        refine x_bipush (pc := 21) K (by decide) dX12_comes_21 ?_
        refine x_irem (pc := 23) K (by omega) (by omega) dX12_comes_23 ?_
        refine x_icmp_ne (pc := 24) (tgt := 32) K (by omega) (by omega) dX12_comes_24 (by decide) (fun h_24 => ?_) (fun h_24 => ?_)
        · skip
          refine x_iinc (pc := 32) (L' := [(3, .int (zI ((j : Int) + (-1)))), (0, .ref (B + c)), (1, .int (zI cell)), (2, .int (zI made))]) 3 K hnL rfl (by decide) rfl dX12_comes_32 ?_
          refine x_goto (pc := 35) (tgt := 7) K dX12_comes_35 (by decide) ?_
          refine x_sub (L' := [(0, .ref (B + c)), (1, .int (zI cell)), (2, .int (zI made)), (3, .int (zI ((j : Int) + (-1))))]) [1, 2, 3, 0] rfl ?_
          exact ih7 ((j : Int) + (-1)) h (by omega) (by rw [show ((j : Int) + -1 + 1).toNat = j by omega]; first | (rw [← rmB_out hj2 (by omega)]; exact hp29_0) | (rw [← rmB_keep hj2 (by omega)]; exact hi7_1)) (by omega)
        · skip
          refine x_aload_n (pc := 27) 0 K rfl rfl dX12_comes_27 ?_
          refine x_iload_n (pc := 28) 3 K rfl rfl dX12_comes_28 ?_
          refine x_callS (pc := 29) (As := [.ref (B + c), .int (zI (j : Int))]) K (c_X12_goesOut (E := E) (B := B) (N := N) (k := j) rfl (cel_self hc0.1) hi7_1 hj3 (by omega)) gX12_comes_X12_goesOut rfl (na := 2) (by decide +kernel) rfl ⟨(Nat.le_of_ble_eq_true rfl), (Nat.le_of_ble_eq_true rfl)⟩ (st := []) rfl (Nat.le_of_ble_eq_true rfl) ⟨(Nat.le_of_ble_eq_true rfl), (Nat.le_of_ble_eq_true rfl)⟩ dX12_comes_29 (fun r29 N29 w29 hpo29 hN29 => ?_)
          obtain ⟨rfl, g_29, hp29_0, rfl, rfl⟩ := hpo29
          refine x_v (w := (va_up v c (iarr E 138 g_29))) (up_at0).symm ?_
          refine x_st (st' := []) rfl ?_
          refine x_iinc (pc := 32) (L' := [(3, .int (zI ((j : Int) + (-1)))), (0, .ref (B + c)), (1, .int (zI cell)), (2, .int (zI made))]) 3 K hnL rfl (by decide) rfl dX12_comes_32 ?_
          refine x_goto (pc := 35) (tgt := 7) K dX12_comes_35 (by decide) ?_
          refine x_sub (L' := [(0, .ref (B + c)), (1, .int (zI cell)), (2, .int (zI made)), (3, .int (zI ((j : Int) + (-1))))]) [1, 2, 3, 0] rfl ?_
          exact ih7 ((j : Int) + (-1)) g_29 (by omega) (by rw [show ((j : Int) + -1 + 1).toNat = j by omega]; first | (rw [← rmB_out hj2 (by omega)]; exact hp29_0) | (rw [← rmB_keep hj2 (by omega)]; exact hi7_1)) (by omega)
  refine x_sub (L' := [(0, .ref (B + c)), (1, .int (zI cell)), (2, .int (zI made)), (3, .int (zI z1))]) [1, 2, 3, 0] rfl ?_
  exact LOOP7 (_) z1 f (by omega) (by rw [hz1, show (f 121 - 1 + 1).toNat = l.length by omega, rmB_len]; exact hq0) (Nat.lt_succ_self _)

set_option maxRecDepth 100000 in
set_option maxHeartbeats 4000000 in
theorem c_X12_crosses {E : XE} {B N : Nat} {v : Nat → va_E} {c who cell : Nat} {f p : Nat → Int} {l : Cor} {who_i : Int} {cell_i : Int} (ha_who : who_i = (who : Int)) (ha_cell : cell_i = (cell : Int)) (hc0 : Cel N v c (iarr E 138 f)) (hq0 : PR f p l) (hq1 : POk p) (hq2 : CorOk l) (hq3 : l.length ≤ 6) (hq4 : who < 5) (hq5 : cell ≤ 47) : gM yX12_crosses wsX12_crosses ({ frames := 2, cells := 0, slots := 0, locals := 45 }) E B N v [.ref (B + c), .int (zI who_i), .int (zI cell_i)] (po0 N (fun ρ v' => ∃ (g : Nat → Int), (PR g p (crossA (p (5 + who)) (p 2) cell l)) ∧ ρ = none ∧ (va_up v c (iarr E 138 g)) = v')) := by
  subst ha_who
  subst ha_cell
  refine x_met (nm := "crosses") (by decide +kernel) rfl (Nat.le_of_ble_eq_true rfl) rfl (fun Γ K KR hnL hnm => ?_)
  show XW Γ N v [(0, .ref (B + c)), (1, .int (zI (who : Int))), (2, .int (zI (cell : Int)))] 0 0 0 []
  have hw := (hq1.2.2.2.2.2.1 who hq4)
  have hkp := hq1.2.2.1
  have hmir := mirA_le hq5
  refine x_v (cel_pad hc0) ?_
  refine x_aload_n (pc := 0) 0 K rfl rfl dX12_crosses_0 ?_
  refine x_iconst (pc := 1) K dX12_crosses_1 ?_
  refine x_iload_n (pc := 2) 1 K rfl rfl dX12_crosses_2 ?_
  refine x_iadd (pc := 3) K dX12_crosses_3 ?_
  refine x_iald (pc := 4) (5 + who) K (cel_self hc0.1) (by omega) (by omega) (by decide) dX12_crosses_4 ?_
  have e4 := hq0.1 (5 + who) (by omega)
  refine x_nm (fun z1 hz1 => ?_)
  refine x_istore_n (pc := 5) K (L' := [(3, .int (zI z1)), (0, .ref (B + c)), (1, .int (zI (who : Int))), (2, .int (zI (cell : Int)))]) hnL rfl (by decide) rfl dX12_crosses_5 ?_
  refine x_iload_n (pc := 6) 0 K rfl rfl dX12_crosses_6 ?_
  refine x_iconst (pc := 7) K dX12_crosses_7 ?_
  refine x_icmp_ne (pc := 8) (tgt := 12) K (by omega) (by decide) dX12_crosses_8 (by decide) (fun h_8 => ?_) (fun h_8 => ?_)
  · skip
    refine x_aload_n (pc := 12) 1 K rfl rfl dX12_crosses_12 ?_
    refine x_iload_n (pc := 13) 3 K rfl rfl dX12_crosses_13 ?_
    refine x_iload_n (pc := 14) 0 K rfl rfl dX12_crosses_14 ?_
    refine x_iconst (pc := 15) K dX12_crosses_15 ?_
    refine x_icmp_ne (pc := 16) (tgt := 23) K (by omega) (by decide) dX12_crosses_16 (by decide) (fun h_16 => ?_) (fun h_16 => ?_)
    · skip
      refine x_iconst (pc := 23) K dX12_crosses_23 ?_
      refine x_callS (pc := 24) (As := [.ref (B + c), .int (zI (cell : Int)), .int (zI 0)]) K (c_X12_comes (E := E) (B := B) (N := N)   (cel_self hc0.1) hq0 hq2 (by omega) (by omega)) gX12_crosses_X12_comes rfl (na := 3) (by decide +kernel) rfl ⟨(Nat.le_of_ble_eq_true rfl), (Nat.le_of_ble_eq_true rfl)⟩ (st := []) rfl (Nat.le_of_ble_eq_true rfl) ⟨(Nat.le_of_ble_eq_true rfl), (Nat.le_of_ble_eq_true rfl)⟩ dX12_crosses_24 (fun r24 N24 w24 hpo24 hN24 => ?_)
      obtain ⟨rfl, g_24, hp24_0, rfl, rfl⟩ := hpo24
      refine x_v (w := (va_up v c (iarr E 138 g_24))) (up_at0).symm ?_
      refine x_st (st' := []) rfl ?_
      have hlen24 := comesA_len (cell : Int) 0 l
      have hok24 := comesA_ok (c := (cell : Int)) (m := 0) hq2 (by omega) (by omega)
      refine x_iload_n (pc := 27) 0 K rfl rfl dX12_crosses_27 ?_
      refine x_iconst (pc := 28) K dX12_crosses_28 ?_
      refine x_icmp_ne (pc := 29) (tgt := 52) K (by omega) (by decide) dX12_crosses_29 (by decide) (fun h_29 => ?_) (fun h_29 => ?_)
      · skip
        have LOOP52 : ∀ (n_52 : Nat) (l1 : Cor) (m : Nat) (h : Nat → Int), (PR h p l1) → (CorOk l1) → (l1.length ≤ 8 ∧ l1.length ≤ m) → (trimA (p 2) m l1 = crossA (p (5 + who)) (p 2) cell l) → (l1.length) < n_52 → XW Γ N (va_up v c (iarr E 138 h)) [(0, .ref (B + c)), (1, .int (zI (who : Int))), (2, .int (zI (cell : Int))), (3, .int (zI z1))] 0 0 52 [] := by
          intro n_52
          induction n_52 with
          | zero =>
            intro l1 m h hi52_0 hi52_1 hi52_2 hi52_3 hm_52
            exfalso; omega
          | succ n_52 ih52 =>
            intro l1 m h hi52_0 hi52_1 hi52_2 hi52_3 hm_52
            refine x_aload_n (pc := 52) 0 K rfl rfl dX12_crosses_52 ?_
            refine x_bipush (pc := 53) K (by decide) dX12_crosses_53 ?_
            refine x_iald (pc := 55) 121 K (cel_self hc0.1) rfl (by omega) (by decide) dX12_crosses_55 ?_
            have e55 := hi52_0.2.1
            refine x_aload_n (pc := 56) 0 K rfl rfl dX12_crosses_56 ?_
            refine x_iconst (pc := 57) K dX12_crosses_57 ?_
            refine x_iald (pc := 58) 2 K (cel_self hc0.1) rfl (by omega) (by decide) dX12_crosses_58 ?_
            have e58 := hi52_0.1 2 (by omega)
            refine x_icmp_le (pc := 59) (tgt := 114) K (by omega) (by omega) dX12_crosses_59 (by decide) (fun h_59 => ?_) (fun h_59 => ?_)
            · skip
              refine x_vret (pc := 114) K KR (by omega) (Nat.le_of_ble_eq_true rfl) (Nat.le_of_ble_eq_true rfl) dX12_crosses_114 ?_
              have e114 : PR h p (crossA (p (5 + who)) (p 2) cell l) := by rw [← hi52_3, trimA_done (by omega)]; exact hi52_0
              exact ⟨rfl, h, e114, rfl, rfl⟩
            · skip
              refine x_iconst (pc := 62) K dX12_crosses_62 ?_
              refine x_istore (pc := 63) K (L' := [(4, .int (zI 0)), (0, .ref (B + c)), (1, .int (zI (who : Int))), (2, .int (zI (cell : Int))), (3, .int (zI z1))]) hnL (by decide) rfl dX12_crosses_63 ?_
              refine x_aload_n (pc := 65) 1 K rfl rfl dX12_crosses_65 ?_
              refine x_bipush (pc := 66) K (by decide) dX12_crosses_66 ?_
              refine x_iald (pc := 68) 121 K (cel_self hc0.1) rfl (by omega) (by decide) dX12_crosses_68 ?_
              refine x_iconst (pc := 69) K dX12_crosses_69 ?_
              refine x_isub (pc := 70) K dX12_crosses_70 ?_
              refine x_nm (fun z2 hz2 => ?_)
              refine x_istore (pc := 71) K (L' := [(5, .int (zI z2)), (4, .int (zI 0)), (0, .ref (B + c)), (1, .int (zI (who : Int))), (2, .int (zI (cell : Int))), (3, .int (zI z1))]) hnL (by decide) rfl dX12_crosses_71 ?_
              have LOOP73 : ∀ (n_73 : Nat) (o : Nat) (k : Int), (-1 ≤ k ∧ k < l1.length) → (o = outG (l1.drop (k + 1).toNat) (k + 1).toNat) → ((k + 1).toNat) < n_73 → XW Γ N (va_up v c (iarr E 138 h)) [(0, .ref (B + c)), (1, .int (zI (who : Int))), (2, .int (zI (cell : Int))), (3, .int (zI z1)), (4, .int (zI (o : Int))), (5, .int (zI k))] 0 0 73 [] := by
                intro n_73
                induction n_73 with
                | zero =>
                  intro o k hi73_0 hi73_1 hm_73
                  exfalso; omega
                | succ n_73 ih73 =>
                  intro o k hi73_0 hi73_1 hm_73
                  refine x_iload (pc := 73) 5 K rfl dX12_crosses_73 ?_
                  refine x_if_lt (pc := 75) (tgt := 105) K (by omega) dX12_crosses_75 (by decide) (fun h_75 => ?_) (fun h_75 => ?_)
                  · skip
                    have hk0 : (k + 1).toNat = 0 := by omega
                    rw [hk0, List.drop_zero] at hi73_1
                    have ho : o = outA l1 := hi73_1
                    have hol : o < l1.length := by rw [ho]; exact outA_lt (by omega)
                    refine x_aload_n (pc := 105) 0 K rfl rfl dX12_crosses_105 ?_
                    refine x_iload (pc := 106) 4 K rfl dX12_crosses_106 ?_
                    refine x_callS (pc := 108) (As := [.ref (B + c), .int (zI (o : Int))]) K (c_X12_goesOut (E := E) (B := B) (N := N) (k := o) rfl (cel_self hc0.1) hi52_0 hol (by omega)) gX12_crosses_X12_goesOut rfl (na := 2) (by decide +kernel) rfl ⟨(Nat.le_of_ble_eq_true rfl), (Nat.le_of_ble_eq_true rfl)⟩ (st := []) rfl (Nat.le_of_ble_eq_true rfl) ⟨(Nat.le_of_ble_eq_true rfl), (Nat.le_of_ble_eq_true rfl)⟩ dX12_crosses_108 (fun r108 N108 w108 hpo108 hN108 => ?_)
                    obtain ⟨rfl, g_108, hp108_0, rfl, rfl⟩ := hpo108
                    refine x_v (w := (va_up v c (iarr E 138 g_108))) (up_at0).symm ?_
                    refine x_st (st' := []) rfl ?_
                    have hle := List.length_eraseIdx_of_lt hol
                    refine x_goto (pc := 111) (tgt := 52) K dX12_crosses_111 (by decide) ?_
                    refine x_sub (L' := [(0, .ref (B + c)), (1, .int (zI (who : Int))), (2, .int (zI (cell : Int))), (3, .int (zI z1))]) [0, 1, 2, 3] rfl ?_
                    exact ih52 (l1.eraseIdx o) (m - 1) g_108 (by exact hp108_0) (by exact hi52_1.erase o) (by omega) (by rw [← hi52_3, trimA_step (l := l1) (by omega) (by omega), ho]) (by omega)
                  · skip
                    obtain ⟨j, rfl⟩ : ∃ j : Nat, k = (j : Int) := ⟨k.toNat, by omega⟩
                    have hj2 : j < l1.length := by omega
                    rw [show ((j : Int) + 1).toNat = j + 1 by omega] at hi73_1
                    have e85 := hi52_0.made hj2
                    have b85 := hi52_1.at hj2
                    rw [← e85] at b85
                    have o85 := outG_at hj2
                    rw [← e85] at o85
                    refine x_aload_n (pc := 78) 0 K rfl rfl dX12_crosses_78 ?_
                    refine x_sipush (pc := 79) K (by decide) dX12_crosses_79 ?_
                    refine x_iload (pc := 82) 5 K rfl dX12_crosses_82 ?_
                    refine x_iadd (pc := 84) K dX12_crosses_84 ?_
                    refine x_iald (pc := 85) (130 + j) K (cel_self hc0.1) (by omega) (by omega) (by decide) dX12_crosses_85 ?_
                    refine x_iconst (pc := 86) K dX12_crosses_86 ?_
                    refine x_icmp_ne (pc := 87) (tgt := 95) K (by omega) (by decide) dX12_crosses_87 (by decide) (fun h_87 => ?_) (fun h_87 => ?_)
                    · skip
                      refine x_iload (pc := 95) 4 K rfl dX12_crosses_95 ?_
                      refine x_istore (pc := 97) K (L' := [(4, .int (zI (o : Int))), (0, .ref (B + c)), (1, .int (zI (who : Int))), (2, .int (zI (cell : Int))), (3, .int (zI z1)), (5, .int (zI (j : Int)))]) hnL (by decide) rfl dX12_crosses_97 ?_
                      refine x_iinc (pc := 99) (L' := [(5, .int (zI ((j : Int) + (-1)))), (4, .int (zI (o : Int))), (0, .ref (B + c)), (1, .int (zI (who : Int))), (2, .int (zI (cell : Int))), (3, .int (zI z1))]) 5 K hnL rfl (by decide) rfl dX12_crosses_99 ?_
                      refine x_goto (pc := 102) (tgt := 73) K dX12_crosses_102 (by decide) ?_
                      refine x_sub (L' := [(0, .ref (B + c)), (1, .int (zI (who : Int))), (2, .int (zI (cell : Int))), (3, .int (zI z1)), (4, .int (zI (o : Int))), (5, .int (zI ((j : Int) + (-1))))]) [2, 3, 4, 5, 1, 0] rfl ?_
                      exact ih73 o ((j : Int) + (-1)) (by omega) (by rw [show ((j : Int) + -1 + 1).toNat = j by omega, o85]; split <;> omega) (by omega)
                    · skip
                      refine x_iload (pc := 90) 5 K rfl dX12_crosses_90 ?_
                      refine x_goto (pc := 92) (tgt := 97) K dX12_crosses_92 (by decide) ?_
                      refine x_istore (pc := 97) K (L' := [(4, .int (zI (j : Int))), (0, .ref (B + c)), (1, .int (zI (who : Int))), (2, .int (zI (cell : Int))), (3, .int (zI z1)), (5, .int (zI (j : Int)))]) hnL (by decide) rfl dX12_crosses_97 ?_
                      refine x_iinc (pc := 99) (L' := [(5, .int (zI ((j : Int) + (-1)))), (4, .int (zI (j : Int))), (0, .ref (B + c)), (1, .int (zI (who : Int))), (2, .int (zI (cell : Int))), (3, .int (zI z1))]) 5 K hnL rfl (by decide) rfl dX12_crosses_99 ?_
                      refine x_goto (pc := 102) (tgt := 73) K dX12_crosses_102 (by decide) ?_
                      refine x_sub (L' := [(0, .ref (B + c)), (1, .int (zI (who : Int))), (2, .int (zI (cell : Int))), (3, .int (zI z1)), (4, .int (zI (j : Int))), (5, .int (zI ((j : Int) + (-1))))]) [2, 3, 4, 5, 1, 0] rfl ?_
                      exact ih73 j ((j : Int) + (-1)) (by omega) (by rw [show ((j : Int) + -1 + 1).toNat = j by omega, o85]; split <;> omega) (by omega)
              refine x_sub (L' := [(0, .ref (B + c)), (1, .int (zI (who : Int))), (2, .int (zI (cell : Int))), (3, .int (zI z1)), (4, .int (zI 0)), (5, .int (zI z2))]) [2, 3, 4, 5, 1, 0] rfl ?_
              exact LOOP73 (_) 0 z2 (by omega) (by rw [show (z2 + 1).toNat = l1.length by omega, outG_end]) (Nat.lt_succ_self _)
        refine x_sub (L' := [(0, .ref (B + c)), (1, .int (zI (who : Int))), (2, .int (zI (cell : Int))), (3, .int (zI z1))]) [1, 2, 3, 0] rfl ?_
        exact LOOP52 (_) (comesA (cell : Int) 0 l) 8 g_24 (by first | exact hp49_0 | exact hp24_0) (by first | exact hok49 | exact hok24) (by omega) (by first | (unfold crossA; rw [if_neg (show ¬ p (5 + who) = 5 by omega), if_pos (show p (5 + who) = 3 by omega), if_neg (show ¬ p (5 + who) = 4 by omega)]) | (unfold crossA; rw [if_neg (show ¬ p (5 + who) = 5 by omega), if_neg (show ¬ p (5 + who) = 3 by omega), if_neg (show ¬ p (5 + who) = 4 by omega)]) | (unfold crossA; rw [if_neg (show ¬ p (5 + who) = 5 by omega), if_neg (show ¬ p (5 + who) = 3 by omega), if_pos (show p (5 + who) = 4 by omega)])) (Nat.lt_succ_self _)
      · skip
        refine x_aload_n (pc := 32) 1 K rfl rfl dX12_crosses_32 ?_
        refine x_iload_n (pc := 33) 3 K rfl rfl dX12_crosses_33 ?_
        refine x_bipush (pc := 34) K (by decide) dX12_crosses_34 ?_
        refine x_idiv (pc := 36) K (by omega) (by omega) dX12_crosses_36 ?_
        refine x_bipush (pc := 37) K (by decide) dX12_crosses_37 ?_
        refine x_imul (pc := 39) K dX12_crosses_39 ?_
        refine x_bipush (pc := 40) K (by decide) dX12_crosses_40 ?_
        refine x_iadd (pc := 42) K dX12_crosses_42 ?_
        refine x_iload_n (pc := 43) 3 K rfl rfl dX12_crosses_43 ?_
        refine x_bipush (pc := 44) K (by decide) dX12_crosses_44 ?_
        refine x_irem (pc := 46) K (by omega) (by omega) dX12_crosses_46 ?_
        refine x_isub (pc := 47) K dX12_crosses_47 ?_
        refine x_st (st' := [.int (zI (((mirA cell) : Nat) : Int)), .ref (B + c)]) (by rw [mirA_eq]) ?_
        refine x_iconst (pc := 48) K dX12_crosses_48 ?_
        refine x_callS (pc := 49) (As := [.ref (B + c), .int (zI (((mirA cell) : Nat) : Int)), .int (zI 0)]) K (c_X12_comes (E := E) (B := B) (N := N)   (cel_self hc0.1) hp24_0 hok24 (by omega) (by omega)) gX12_crosses_X12_comes rfl (na := 3) (by decide +kernel) rfl ⟨(Nat.le_of_ble_eq_true rfl), (Nat.le_of_ble_eq_true rfl)⟩ (st := []) rfl (Nat.le_of_ble_eq_true rfl) ⟨(Nat.le_of_ble_eq_true rfl), (Nat.le_of_ble_eq_true rfl)⟩ dX12_crosses_49 (fun r49 N49 w49 hpo49 hN49 => ?_)
        obtain ⟨rfl, g_49, hp49_0, rfl, rfl⟩ := hpo49
        refine x_v (w := (va_up v c (iarr E 138 g_49))) (up_at0).symm ?_
        refine x_st (st' := []) rfl ?_
        have hlen49 := comesA_len (mirA cell : Int) 0 (comesA (cell : Int) 0 l)
        have hok49 := comesA_ok (c := (mirA cell : Int)) (m := 0) hok24 (by omega) (by omega)
        have LOOP52 : ∀ (n_52 : Nat) (l1 : Cor) (m : Nat) (h : Nat → Int), (PR h p l1) → (CorOk l1) → (l1.length ≤ 8 ∧ l1.length ≤ m) → (trimA (p 2) m l1 = crossA (p (5 + who)) (p 2) cell l) → (l1.length) < n_52 → XW Γ N (va_up v c (iarr E 138 h)) [(0, .ref (B + c)), (1, .int (zI (who : Int))), (2, .int (zI (cell : Int))), (3, .int (zI z1))] 0 0 52 [] := by
          intro n_52
          induction n_52 with
          | zero =>
            intro l1 m h hi52_0 hi52_1 hi52_2 hi52_3 hm_52
            exfalso; omega
          | succ n_52 ih52 =>
            intro l1 m h hi52_0 hi52_1 hi52_2 hi52_3 hm_52
            refine x_aload_n (pc := 52) 0 K rfl rfl dX12_crosses_52 ?_
            refine x_bipush (pc := 53) K (by decide) dX12_crosses_53 ?_
            refine x_iald (pc := 55) 121 K (cel_self hc0.1) rfl (by omega) (by decide) dX12_crosses_55 ?_
            have e55 := hi52_0.2.1
            refine x_aload_n (pc := 56) 0 K rfl rfl dX12_crosses_56 ?_
            refine x_iconst (pc := 57) K dX12_crosses_57 ?_
            refine x_iald (pc := 58) 2 K (cel_self hc0.1) rfl (by omega) (by decide) dX12_crosses_58 ?_
            have e58 := hi52_0.1 2 (by omega)
            refine x_icmp_le (pc := 59) (tgt := 114) K (by omega) (by omega) dX12_crosses_59 (by decide) (fun h_59 => ?_) (fun h_59 => ?_)
            · skip
              refine x_vret (pc := 114) K KR (by omega) (Nat.le_of_ble_eq_true rfl) (Nat.le_of_ble_eq_true rfl) dX12_crosses_114 ?_
              have e114 : PR h p (crossA (p (5 + who)) (p 2) cell l) := by rw [← hi52_3, trimA_done (by omega)]; exact hi52_0
              exact ⟨rfl, h, e114, rfl, rfl⟩
            · skip
              refine x_iconst (pc := 62) K dX12_crosses_62 ?_
              refine x_istore (pc := 63) K (L' := [(4, .int (zI 0)), (0, .ref (B + c)), (1, .int (zI (who : Int))), (2, .int (zI (cell : Int))), (3, .int (zI z1))]) hnL (by decide) rfl dX12_crosses_63 ?_
              refine x_aload_n (pc := 65) 1 K rfl rfl dX12_crosses_65 ?_
              refine x_bipush (pc := 66) K (by decide) dX12_crosses_66 ?_
              refine x_iald (pc := 68) 121 K (cel_self hc0.1) rfl (by omega) (by decide) dX12_crosses_68 ?_
              refine x_iconst (pc := 69) K dX12_crosses_69 ?_
              refine x_isub (pc := 70) K dX12_crosses_70 ?_
              refine x_nm (fun z3 hz3 => ?_)
              refine x_istore (pc := 71) K (L' := [(5, .int (zI z3)), (4, .int (zI 0)), (0, .ref (B + c)), (1, .int (zI (who : Int))), (2, .int (zI (cell : Int))), (3, .int (zI z1))]) hnL (by decide) rfl dX12_crosses_71 ?_
              have LOOP73 : ∀ (n_73 : Nat) (o : Nat) (k : Int), (-1 ≤ k ∧ k < l1.length) → (o = outG (l1.drop (k + 1).toNat) (k + 1).toNat) → ((k + 1).toNat) < n_73 → XW Γ N (va_up v c (iarr E 138 h)) [(0, .ref (B + c)), (1, .int (zI (who : Int))), (2, .int (zI (cell : Int))), (3, .int (zI z1)), (4, .int (zI (o : Int))), (5, .int (zI k))] 0 0 73 [] := by
                intro n_73
                induction n_73 with
                | zero =>
                  intro o k hi73_0 hi73_1 hm_73
                  exfalso; omega
                | succ n_73 ih73 =>
                  intro o k hi73_0 hi73_1 hm_73
                  refine x_iload (pc := 73) 5 K rfl dX12_crosses_73 ?_
                  refine x_if_lt (pc := 75) (tgt := 105) K (by omega) dX12_crosses_75 (by decide) (fun h_75 => ?_) (fun h_75 => ?_)
                  · skip
                    have hk0 : (k + 1).toNat = 0 := by omega
                    rw [hk0, List.drop_zero] at hi73_1
                    have ho : o = outA l1 := hi73_1
                    have hol : o < l1.length := by rw [ho]; exact outA_lt (by omega)
                    refine x_aload_n (pc := 105) 0 K rfl rfl dX12_crosses_105 ?_
                    refine x_iload (pc := 106) 4 K rfl dX12_crosses_106 ?_
                    refine x_callS (pc := 108) (As := [.ref (B + c), .int (zI (o : Int))]) K (c_X12_goesOut (E := E) (B := B) (N := N) (k := o) rfl (cel_self hc0.1) hi52_0 hol (by omega)) gX12_crosses_X12_goesOut rfl (na := 2) (by decide +kernel) rfl ⟨(Nat.le_of_ble_eq_true rfl), (Nat.le_of_ble_eq_true rfl)⟩ (st := []) rfl (Nat.le_of_ble_eq_true rfl) ⟨(Nat.le_of_ble_eq_true rfl), (Nat.le_of_ble_eq_true rfl)⟩ dX12_crosses_108 (fun r108 N108 w108 hpo108 hN108 => ?_)
                    obtain ⟨rfl, g_108, hp108_0, rfl, rfl⟩ := hpo108
                    refine x_v (w := (va_up v c (iarr E 138 g_108))) (up_at0).symm ?_
                    refine x_st (st' := []) rfl ?_
                    have hle := List.length_eraseIdx_of_lt hol
                    refine x_goto (pc := 111) (tgt := 52) K dX12_crosses_111 (by decide) ?_
                    refine x_sub (L' := [(0, .ref (B + c)), (1, .int (zI (who : Int))), (2, .int (zI (cell : Int))), (3, .int (zI z1))]) [0, 1, 2, 3] rfl ?_
                    exact ih52 (l1.eraseIdx o) (m - 1) g_108 (by exact hp108_0) (by exact hi52_1.erase o) (by omega) (by rw [← hi52_3, trimA_step (l := l1) (by omega) (by omega), ho]) (by omega)
                  · skip
                    obtain ⟨j, rfl⟩ : ∃ j : Nat, k = (j : Int) := ⟨k.toNat, by omega⟩
                    have hj2 : j < l1.length := by omega
                    rw [show ((j : Int) + 1).toNat = j + 1 by omega] at hi73_1
                    have e85 := hi52_0.made hj2
                    have b85 := hi52_1.at hj2
                    rw [← e85] at b85
                    have o85 := outG_at hj2
                    rw [← e85] at o85
                    refine x_aload_n (pc := 78) 0 K rfl rfl dX12_crosses_78 ?_
                    refine x_sipush (pc := 79) K (by decide) dX12_crosses_79 ?_
                    refine x_iload (pc := 82) 5 K rfl dX12_crosses_82 ?_
                    refine x_iadd (pc := 84) K dX12_crosses_84 ?_
                    refine x_iald (pc := 85) (130 + j) K (cel_self hc0.1) (by omega) (by omega) (by decide) dX12_crosses_85 ?_
                    refine x_iconst (pc := 86) K dX12_crosses_86 ?_
                    refine x_icmp_ne (pc := 87) (tgt := 95) K (by omega) (by decide) dX12_crosses_87 (by decide) (fun h_87 => ?_) (fun h_87 => ?_)
                    · skip
                      refine x_iload (pc := 95) 4 K rfl dX12_crosses_95 ?_
                      refine x_istore (pc := 97) K (L' := [(4, .int (zI (o : Int))), (0, .ref (B + c)), (1, .int (zI (who : Int))), (2, .int (zI (cell : Int))), (3, .int (zI z1)), (5, .int (zI (j : Int)))]) hnL (by decide) rfl dX12_crosses_97 ?_
                      refine x_iinc (pc := 99) (L' := [(5, .int (zI ((j : Int) + (-1)))), (4, .int (zI (o : Int))), (0, .ref (B + c)), (1, .int (zI (who : Int))), (2, .int (zI (cell : Int))), (3, .int (zI z1))]) 5 K hnL rfl (by decide) rfl dX12_crosses_99 ?_
                      refine x_goto (pc := 102) (tgt := 73) K dX12_crosses_102 (by decide) ?_
                      refine x_sub (L' := [(0, .ref (B + c)), (1, .int (zI (who : Int))), (2, .int (zI (cell : Int))), (3, .int (zI z1)), (4, .int (zI (o : Int))), (5, .int (zI ((j : Int) + (-1))))]) [2, 3, 4, 5, 1, 0] rfl ?_
                      exact ih73 o ((j : Int) + (-1)) (by omega) (by rw [show ((j : Int) + -1 + 1).toNat = j by omega, o85]; split <;> omega) (by omega)
                    · skip
                      refine x_iload (pc := 90) 5 K rfl dX12_crosses_90 ?_
                      refine x_goto (pc := 92) (tgt := 97) K dX12_crosses_92 (by decide) ?_
                      refine x_istore (pc := 97) K (L' := [(4, .int (zI (j : Int))), (0, .ref (B + c)), (1, .int (zI (who : Int))), (2, .int (zI (cell : Int))), (3, .int (zI z1)), (5, .int (zI (j : Int)))]) hnL (by decide) rfl dX12_crosses_97 ?_
                      refine x_iinc (pc := 99) (L' := [(5, .int (zI ((j : Int) + (-1)))), (4, .int (zI (j : Int))), (0, .ref (B + c)), (1, .int (zI (who : Int))), (2, .int (zI (cell : Int))), (3, .int (zI z1))]) 5 K hnL rfl (by decide) rfl dX12_crosses_99 ?_
                      refine x_goto (pc := 102) (tgt := 73) K dX12_crosses_102 (by decide) ?_
                      refine x_sub (L' := [(0, .ref (B + c)), (1, .int (zI (who : Int))), (2, .int (zI (cell : Int))), (3, .int (zI z1)), (4, .int (zI (j : Int))), (5, .int (zI ((j : Int) + (-1))))]) [2, 3, 4, 5, 1, 0] rfl ?_
                      exact ih73 j ((j : Int) + (-1)) (by omega) (by rw [show ((j : Int) + -1 + 1).toNat = j by omega, o85]; split <;> omega) (by omega)
              refine x_sub (L' := [(0, .ref (B + c)), (1, .int (zI (who : Int))), (2, .int (zI (cell : Int))), (3, .int (zI z1)), (4, .int (zI 0)), (5, .int (zI z3))]) [2, 3, 4, 5, 1, 0] rfl ?_
              exact LOOP73 (_) 0 z3 (by omega) (by rw [show (z3 + 1).toNat = l1.length by omega, outG_end]) (Nat.lt_succ_self _)
        refine x_sub (L' := [(0, .ref (B + c)), (1, .int (zI (who : Int))), (2, .int (zI (cell : Int))), (3, .int (zI z1))]) [1, 2, 3, 0] rfl ?_
        exact LOOP52 (_) (comesA (mirA cell : Int) 0 (comesA (cell : Int) 0 l)) 8 g_49 (by first | exact hp49_0 | exact hp24_0) (by first | exact hok49 | exact hok24) (by omega) (by first | (unfold crossA; rw [if_neg (show ¬ p (5 + who) = 5 by omega), if_pos (show p (5 + who) = 3 by omega), if_neg (show ¬ p (5 + who) = 4 by omega)]) | (unfold crossA; rw [if_neg (show ¬ p (5 + who) = 5 by omega), if_neg (show ¬ p (5 + who) = 3 by omega), if_neg (show ¬ p (5 + who) = 4 by omega)]) | (unfold crossA; rw [if_neg (show ¬ p (5 + who) = 5 by omega), if_neg (show ¬ p (5 + who) = 3 by omega), if_pos (show p (5 + who) = 4 by omega)])) (Nat.lt_succ_self _)
    · skip
      refine x_iconst (pc := 19) K dX12_crosses_19 ?_
      refine x_goto (pc := 20) (tgt := 24) K dX12_crosses_20 (by decide) ?_
      refine x_callS (pc := 24) (As := [.ref (B + c), .int (zI (cell : Int)), .int (zI 1)]) K (c_X12_comes (E := E) (B := B) (N := N)   (cel_self hc0.1) hq0 hq2 (by omega) (by omega)) gX12_crosses_X12_comes rfl (na := 3) (by decide +kernel) rfl ⟨(Nat.le_of_ble_eq_true rfl), (Nat.le_of_ble_eq_true rfl)⟩ (st := []) rfl (Nat.le_of_ble_eq_true rfl) ⟨(Nat.le_of_ble_eq_true rfl), (Nat.le_of_ble_eq_true rfl)⟩ dX12_crosses_24 (fun r24 N24 w24 hpo24 hN24 => ?_)
      obtain ⟨rfl, g_24, hp24_0, rfl, rfl⟩ := hpo24
      refine x_v (w := (va_up v c (iarr E 138 g_24))) (up_at0).symm ?_
      refine x_st (st' := []) rfl ?_
      have hlen24 := comesA_len (cell : Int) 1 l
      have hok24 := comesA_ok (c := (cell : Int)) (m := 1) hq2 (by omega) (by omega)
      refine x_iload_n (pc := 27) 0 K rfl rfl dX12_crosses_27 ?_
      refine x_iconst (pc := 28) K dX12_crosses_28 ?_
      refine x_icmp_ne (pc := 29) (tgt := 52) K (by omega) (by decide) dX12_crosses_29 (by decide) (fun h_29 => ?_) (fun h_29 => ?_)
      · skip
        have LOOP52 : ∀ (n_52 : Nat) (l1 : Cor) (m : Nat) (h : Nat → Int), (PR h p l1) → (CorOk l1) → (l1.length ≤ 8 ∧ l1.length ≤ m) → (trimA (p 2) m l1 = crossA (p (5 + who)) (p 2) cell l) → (l1.length) < n_52 → XW Γ N (va_up v c (iarr E 138 h)) [(0, .ref (B + c)), (1, .int (zI (who : Int))), (2, .int (zI (cell : Int))), (3, .int (zI z1))] 0 0 52 [] := by
          intro n_52
          induction n_52 with
          | zero =>
            intro l1 m h hi52_0 hi52_1 hi52_2 hi52_3 hm_52
            exfalso; omega
          | succ n_52 ih52 =>
            intro l1 m h hi52_0 hi52_1 hi52_2 hi52_3 hm_52
            refine x_aload_n (pc := 52) 0 K rfl rfl dX12_crosses_52 ?_
            refine x_bipush (pc := 53) K (by decide) dX12_crosses_53 ?_
            refine x_iald (pc := 55) 121 K (cel_self hc0.1) rfl (by omega) (by decide) dX12_crosses_55 ?_
            have e55 := hi52_0.2.1
            refine x_aload_n (pc := 56) 0 K rfl rfl dX12_crosses_56 ?_
            refine x_iconst (pc := 57) K dX12_crosses_57 ?_
            refine x_iald (pc := 58) 2 K (cel_self hc0.1) rfl (by omega) (by decide) dX12_crosses_58 ?_
            have e58 := hi52_0.1 2 (by omega)
            refine x_icmp_le (pc := 59) (tgt := 114) K (by omega) (by omega) dX12_crosses_59 (by decide) (fun h_59 => ?_) (fun h_59 => ?_)
            · skip
              refine x_vret (pc := 114) K KR (by omega) (Nat.le_of_ble_eq_true rfl) (Nat.le_of_ble_eq_true rfl) dX12_crosses_114 ?_
              have e114 : PR h p (crossA (p (5 + who)) (p 2) cell l) := by rw [← hi52_3, trimA_done (by omega)]; exact hi52_0
              exact ⟨rfl, h, e114, rfl, rfl⟩
            · skip
              refine x_iconst (pc := 62) K dX12_crosses_62 ?_
              refine x_istore (pc := 63) K (L' := [(4, .int (zI 0)), (0, .ref (B + c)), (1, .int (zI (who : Int))), (2, .int (zI (cell : Int))), (3, .int (zI z1))]) hnL (by decide) rfl dX12_crosses_63 ?_
              refine x_aload_n (pc := 65) 1 K rfl rfl dX12_crosses_65 ?_
              refine x_bipush (pc := 66) K (by decide) dX12_crosses_66 ?_
              refine x_iald (pc := 68) 121 K (cel_self hc0.1) rfl (by omega) (by decide) dX12_crosses_68 ?_
              refine x_iconst (pc := 69) K dX12_crosses_69 ?_
              refine x_isub (pc := 70) K dX12_crosses_70 ?_
              refine x_nm (fun z4 hz4 => ?_)
              refine x_istore (pc := 71) K (L' := [(5, .int (zI z4)), (4, .int (zI 0)), (0, .ref (B + c)), (1, .int (zI (who : Int))), (2, .int (zI (cell : Int))), (3, .int (zI z1))]) hnL (by decide) rfl dX12_crosses_71 ?_
              have LOOP73 : ∀ (n_73 : Nat) (o : Nat) (k : Int), (-1 ≤ k ∧ k < l1.length) → (o = outG (l1.drop (k + 1).toNat) (k + 1).toNat) → ((k + 1).toNat) < n_73 → XW Γ N (va_up v c (iarr E 138 h)) [(0, .ref (B + c)), (1, .int (zI (who : Int))), (2, .int (zI (cell : Int))), (3, .int (zI z1)), (4, .int (zI (o : Int))), (5, .int (zI k))] 0 0 73 [] := by
                intro n_73
                induction n_73 with
                | zero =>
                  intro o k hi73_0 hi73_1 hm_73
                  exfalso; omega
                | succ n_73 ih73 =>
                  intro o k hi73_0 hi73_1 hm_73
                  refine x_iload (pc := 73) 5 K rfl dX12_crosses_73 ?_
                  refine x_if_lt (pc := 75) (tgt := 105) K (by omega) dX12_crosses_75 (by decide) (fun h_75 => ?_) (fun h_75 => ?_)
                  · skip
                    have hk0 : (k + 1).toNat = 0 := by omega
                    rw [hk0, List.drop_zero] at hi73_1
                    have ho : o = outA l1 := hi73_1
                    have hol : o < l1.length := by rw [ho]; exact outA_lt (by omega)
                    refine x_aload_n (pc := 105) 0 K rfl rfl dX12_crosses_105 ?_
                    refine x_iload (pc := 106) 4 K rfl dX12_crosses_106 ?_
                    refine x_callS (pc := 108) (As := [.ref (B + c), .int (zI (o : Int))]) K (c_X12_goesOut (E := E) (B := B) (N := N) (k := o) rfl (cel_self hc0.1) hi52_0 hol (by omega)) gX12_crosses_X12_goesOut rfl (na := 2) (by decide +kernel) rfl ⟨(Nat.le_of_ble_eq_true rfl), (Nat.le_of_ble_eq_true rfl)⟩ (st := []) rfl (Nat.le_of_ble_eq_true rfl) ⟨(Nat.le_of_ble_eq_true rfl), (Nat.le_of_ble_eq_true rfl)⟩ dX12_crosses_108 (fun r108 N108 w108 hpo108 hN108 => ?_)
                    obtain ⟨rfl, g_108, hp108_0, rfl, rfl⟩ := hpo108
                    refine x_v (w := (va_up v c (iarr E 138 g_108))) (up_at0).symm ?_
                    refine x_st (st' := []) rfl ?_
                    have hle := List.length_eraseIdx_of_lt hol
                    refine x_goto (pc := 111) (tgt := 52) K dX12_crosses_111 (by decide) ?_
                    refine x_sub (L' := [(0, .ref (B + c)), (1, .int (zI (who : Int))), (2, .int (zI (cell : Int))), (3, .int (zI z1))]) [0, 1, 2, 3] rfl ?_
                    exact ih52 (l1.eraseIdx o) (m - 1) g_108 (by exact hp108_0) (by exact hi52_1.erase o) (by omega) (by rw [← hi52_3, trimA_step (l := l1) (by omega) (by omega), ho]) (by omega)
                  · skip
                    obtain ⟨j, rfl⟩ : ∃ j : Nat, k = (j : Int) := ⟨k.toNat, by omega⟩
                    have hj2 : j < l1.length := by omega
                    rw [show ((j : Int) + 1).toNat = j + 1 by omega] at hi73_1
                    have e85 := hi52_0.made hj2
                    have b85 := hi52_1.at hj2
                    rw [← e85] at b85
                    have o85 := outG_at hj2
                    rw [← e85] at o85
                    refine x_aload_n (pc := 78) 0 K rfl rfl dX12_crosses_78 ?_
                    refine x_sipush (pc := 79) K (by decide) dX12_crosses_79 ?_
                    refine x_iload (pc := 82) 5 K rfl dX12_crosses_82 ?_
                    refine x_iadd (pc := 84) K dX12_crosses_84 ?_
                    refine x_iald (pc := 85) (130 + j) K (cel_self hc0.1) (by omega) (by omega) (by decide) dX12_crosses_85 ?_
                    refine x_iconst (pc := 86) K dX12_crosses_86 ?_
                    refine x_icmp_ne (pc := 87) (tgt := 95) K (by omega) (by decide) dX12_crosses_87 (by decide) (fun h_87 => ?_) (fun h_87 => ?_)
                    · skip
                      refine x_iload (pc := 95) 4 K rfl dX12_crosses_95 ?_
                      refine x_istore (pc := 97) K (L' := [(4, .int (zI (o : Int))), (0, .ref (B + c)), (1, .int (zI (who : Int))), (2, .int (zI (cell : Int))), (3, .int (zI z1)), (5, .int (zI (j : Int)))]) hnL (by decide) rfl dX12_crosses_97 ?_
                      refine x_iinc (pc := 99) (L' := [(5, .int (zI ((j : Int) + (-1)))), (4, .int (zI (o : Int))), (0, .ref (B + c)), (1, .int (zI (who : Int))), (2, .int (zI (cell : Int))), (3, .int (zI z1))]) 5 K hnL rfl (by decide) rfl dX12_crosses_99 ?_
                      refine x_goto (pc := 102) (tgt := 73) K dX12_crosses_102 (by decide) ?_
                      refine x_sub (L' := [(0, .ref (B + c)), (1, .int (zI (who : Int))), (2, .int (zI (cell : Int))), (3, .int (zI z1)), (4, .int (zI (o : Int))), (5, .int (zI ((j : Int) + (-1))))]) [2, 3, 4, 5, 1, 0] rfl ?_
                      exact ih73 o ((j : Int) + (-1)) (by omega) (by rw [show ((j : Int) + -1 + 1).toNat = j by omega, o85]; split <;> omega) (by omega)
                    · skip
                      refine x_iload (pc := 90) 5 K rfl dX12_crosses_90 ?_
                      refine x_goto (pc := 92) (tgt := 97) K dX12_crosses_92 (by decide) ?_
                      refine x_istore (pc := 97) K (L' := [(4, .int (zI (j : Int))), (0, .ref (B + c)), (1, .int (zI (who : Int))), (2, .int (zI (cell : Int))), (3, .int (zI z1)), (5, .int (zI (j : Int)))]) hnL (by decide) rfl dX12_crosses_97 ?_
                      refine x_iinc (pc := 99) (L' := [(5, .int (zI ((j : Int) + (-1)))), (4, .int (zI (j : Int))), (0, .ref (B + c)), (1, .int (zI (who : Int))), (2, .int (zI (cell : Int))), (3, .int (zI z1))]) 5 K hnL rfl (by decide) rfl dX12_crosses_99 ?_
                      refine x_goto (pc := 102) (tgt := 73) K dX12_crosses_102 (by decide) ?_
                      refine x_sub (L' := [(0, .ref (B + c)), (1, .int (zI (who : Int))), (2, .int (zI (cell : Int))), (3, .int (zI z1)), (4, .int (zI (j : Int))), (5, .int (zI ((j : Int) + (-1))))]) [2, 3, 4, 5, 1, 0] rfl ?_
                      exact ih73 j ((j : Int) + (-1)) (by omega) (by rw [show ((j : Int) + -1 + 1).toNat = j by omega, o85]; split <;> omega) (by omega)
              refine x_sub (L' := [(0, .ref (B + c)), (1, .int (zI (who : Int))), (2, .int (zI (cell : Int))), (3, .int (zI z1)), (4, .int (zI 0)), (5, .int (zI z4))]) [2, 3, 4, 5, 1, 0] rfl ?_
              exact LOOP73 (_) 0 z4 (by omega) (by rw [show (z4 + 1).toNat = l1.length by omega, outG_end]) (Nat.lt_succ_self _)
        refine x_sub (L' := [(0, .ref (B + c)), (1, .int (zI (who : Int))), (2, .int (zI (cell : Int))), (3, .int (zI z1))]) [1, 2, 3, 0] rfl ?_
        exact LOOP52 (_) (comesA (cell : Int) 1 l) 8 g_24 (by first | exact hp49_0 | exact hp24_0) (by first | exact hok49 | exact hok24) (by omega) (by first | (unfold crossA; rw [if_neg (show ¬ p (5 + who) = 5 by omega), if_pos (show p (5 + who) = 3 by omega), if_neg (show ¬ p (5 + who) = 4 by omega)]) | (unfold crossA; rw [if_neg (show ¬ p (5 + who) = 5 by omega), if_neg (show ¬ p (5 + who) = 3 by omega), if_neg (show ¬ p (5 + who) = 4 by omega)]) | (unfold crossA; rw [if_neg (show ¬ p (5 + who) = 5 by omega), if_neg (show ¬ p (5 + who) = 3 by omega), if_pos (show p (5 + who) = 4 by omega)])) (Nat.lt_succ_self _)
      · skip
        exfalso; omega
  · skip
    refine x_vret (pc := 11) K KR (by omega) (Nat.le_of_ble_eq_true rfl) (Nat.le_of_ble_eq_true rfl) dX12_crosses_11 ?_
    exact ⟨rfl, f, by unfold crossA; rw [if_pos (show p (5 + who) = 5 by omega)]; exact hq0, rfl, rfl⟩
