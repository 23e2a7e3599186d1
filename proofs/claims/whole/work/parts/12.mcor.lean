theorem dX12_goesOut_0 : decode cX12_goesOut 0 = .ok (.aload_n 0, 1) := by decide +kernel
theorem dX12_goesOut_1 : decode cX12_goesOut 1 = .ok (.bipush 121, 2) := by decide +kernel
theorem dX12_goesOut_3 : decode cX12_goesOut 3 = .ok (.dup2, 1) := by decide +kernel
theorem dX12_goesOut_4 : decode cX12_goesOut 4 = .ok (.iaload, 1) := by decide +kernel
theorem dX12_goesOut_5 : decode cX12_goesOut 5 = .ok (.iconst 1, 1) := by decide +kernel
theorem dX12_goesOut_6 : decode cX12_goesOut 6 = .ok (.isub, 1) := by decide +kernel
theorem dX12_goesOut_7 : decode cX12_goesOut 7 = .ok (.iastore, 1) := by decide +kernel
theorem dX12_goesOut_8 : decode cX12_goesOut 8 = .ok (.iload_n 1, 1) := by decide +kernel
theorem dX12_goesOut_9 : decode cX12_goesOut 9 = .ok (.istore_n 2, 1) := by decide +kernel
theorem dX12_goesOut_10 : decode cX12_goesOut 10 = .ok (.iload_n 2, 1) := by decide +kernel
theorem dX12_goesOut_11 : decode cX12_goesOut 11 = .ok (.aload_n 0, 1) := by decide +kernel
theorem dX12_goesOut_12 : decode cX12_goesOut 12 = .ok (.bipush 121, 2) := by decide +kernel
theorem dX12_goesOut_14 : decode cX12_goesOut 14 = .ok (.iaload, 1) := by decide +kernel
theorem dX12_goesOut_15 : decode cX12_goesOut 15 = .ok (.if_icmp .ge 39, 3) := by decide +kernel
theorem dX12_goesOut_54 : decode cX12_goesOut 54 = .ok (.return_, 1) := by decide +kernel
theorem dX12_goesOut_18 : decode cX12_goesOut 18 = .ok (.aload_n 0, 1) := by decide +kernel
theorem dX12_goesOut_19 : decode cX12_goesOut 19 = .ok (.bipush 122, 2) := by decide +kernel
theorem dX12_goesOut_21 : decode cX12_goesOut 21 = .ok (.iload_n 2, 1) := by decide +kernel
theorem dX12_goesOut_22 : decode cX12_goesOut 22 = .ok (.iadd, 1) := by decide +kernel
theorem dX12_goesOut_23 : decode cX12_goesOut 23 = .ok (.aload_n 0, 1) := by decide +kernel
theorem dX12_goesOut_24 : decode cX12_goesOut 24 = .ok (.bipush 122, 2) := by decide +kernel
theorem dX12_goesOut_26 : decode cX12_goesOut 26 = .ok (.iload_n 2, 1) := by decide +kernel
theorem dX12_goesOut_27 : decode cX12_goesOut 27 = .ok (.iadd, 1) := by decide +kernel
theorem dX12_goesOut_28 : decode cX12_goesOut 28 = .ok (.iconst 1, 1) := by decide +kernel
theorem dX12_goesOut_29 : decode cX12_goesOut 29 = .ok (.iadd, 1) := by decide +kernel
theorem dX12_goesOut_30 : decode cX12_goesOut 30 = .ok (.iaload, 1) := by decide +kernel
theorem dX12_goesOut_31 : decode cX12_goesOut 31 = .ok (.iastore, 1) := by decide +kernel
theorem dX12_goesOut_32 : decode cX12_goesOut 32 = .ok (.aload_n 0, 1) := by decide +kernel
theorem dX12_goesOut_33 : decode cX12_goesOut 33 = .ok (.sipush 130, 3) := by decide +kernel
theorem dX12_goesOut_36 : decode cX12_goesOut 36 = .ok (.iload_n 2, 1) := by decide +kernel
theorem dX12_goesOut_37 : decode cX12_goesOut 37 = .ok (.iadd, 1) := by decide +kernel
theorem dX12_goesOut_38 : decode cX12_goesOut 38 = .ok (.aload_n 0, 1) := by decide +kernel
theorem dX12_goesOut_39 : decode cX12_goesOut 39 = .ok (.sipush 130, 3) := by decide +kernel
theorem dX12_goesOut_42 : decode cX12_goesOut 42 = .ok (.iload_n 2, 1) := by decide +kernel
theorem dX12_goesOut_43 : decode cX12_goesOut 43 = .ok (.iadd, 1) := by decide +kernel
theorem dX12_goesOut_44 : decode cX12_goesOut 44 = .ok (.iconst 1, 1) := by decide +kernel
theorem dX12_goesOut_45 : decode cX12_goesOut 45 = .ok (.iadd, 1) := by decide +kernel
theorem dX12_goesOut_46 : decode cX12_goesOut 46 = .ok (.iaload, 1) := by decide +kernel
theorem dX12_goesOut_47 : decode cX12_goesOut 47 = .ok (.iastore, 1) := by decide +kernel
theorem dX12_goesOut_48 : decode cX12_goesOut 48 = .ok (.iinc 2 1, 3) := by decide +kernel
theorem dX12_goesOut_51 : decode cX12_goesOut 51 = .ok (.goto (-41), 3) := by decide +kernel
theorem dX12_comes_0 : decode cX12_comes 0 = .ok (.aload_n 0, 1) := by decide +kernel
theorem dX12_comes_1 : decode cX12_comes 1 = .ok (.bipush 121, 2) := by decide +kernel
theorem dX12_comes_3 : decode cX12_comes 3 = .ok (.iaload, 1) := by decide +kernel
theorem dX12_comes_4 : decode cX12_comes 4 = .ok (.iconst 1, 1) := by decide +kernel
theorem dX12_comes_5 : decode cX12_comes 5 = .ok (.isub, 1) := by decide +kernel
theorem dX12_comes_6 : decode cX12_comes 6 = .ok (.istore_n 3, 1) := by decide +kernel
theorem dX12_comes_7 : decode cX12_comes 7 = .ok (.iload_n 3, 1) := by decide +kernel
theorem dX12_comes_8 : decode cX12_comes 8 = .ok (.ifCond .lt 30, 3) := by decide +kernel
theorem dX12_comes_38 : decode cX12_comes 38 = .ok (.aload_n 0, 1) := by decide +kernel
theorem dX12_comes_39 : decode cX12_comes 39 = .ok (.bipush 122, 2) := by decide +kernel
theorem dX12_comes_41 : decode cX12_comes 41 = .ok (.aload_n 0, 1) := by decide +kernel
theorem dX12_comes_42 : decode cX12_comes 42 = .ok (.bipush 121, 2) := by decide +kernel
theorem dX12_comes_44 : decode cX12_comes 44 = .ok (.iaload, 1) := by decide +kernel
theorem dX12_comes_45 : decode cX12_comes 45 = .ok (.iadd, 1) := by decide +kernel
theorem dX12_comes_46 : decode cX12_comes 46 = .ok (.iload_n 1, 1) := by decide +kernel
theorem dX12_comes_47 : decode cX12_comes 47 = .ok (.iastore, 1) := by decide +kernel
theorem dX12_comes_48 : decode cX12_comes 48 = .ok (.aload_n 0, 1) := by decide +kernel
theorem dX12_comes_49 : decode cX12_comes 49 = .ok (.sipush 130, 3) := by decide +kernel
theorem dX12_comes_52 : decode cX12_comes 52 = .ok (.aload_n 0, 1) := by decide +kernel
theorem dX12_comes_53 : decode cX12_comes 53 = .ok (.bipush 121, 2) := by decide +kernel
theorem dX12_comes_55 : decode cX12_comes 55 = .ok (.iaload, 1) := by decide +kernel
theorem dX12_comes_56 : decode cX12_comes 56 = .ok (.iadd, 1) := by decide +kernel
theorem dX12_comes_57 : decode cX12_comes 57 = .ok (.iload_n 2, 1) := by decide +kernel
theorem dX12_comes_58 : decode cX12_comes 58 = .ok (.iastore, 1) := by decide +kernel
theorem dX12_comes_59 : decode cX12_comes 59 = .ok (.aload_n 0, 1) := by decide +kernel
theorem dX12_comes_60 : decode cX12_comes 60 = .ok (.bipush 121, 2) := by decide +kernel
theorem dX12_comes_62 : decode cX12_comes 62 = .ok (.dup2, 1) := by decide +kernel
theorem dX12_comes_63 : decode cX12_comes 63 = .ok (.iaload, 1) := by decide +kernel
theorem dX12_comes_64 : decode cX12_comes 64 = .ok (.iconst 1, 1) := by decide +kernel
theorem dX12_comes_65 : decode cX12_comes 65 = .ok (.iadd, 1) := by decide +kernel
theorem dX12_comes_66 : decode cX12_comes 66 = .ok (.iastore, 1) := by decide +kernel
theorem dX12_comes_67 : decode cX12_comes 67 = .ok (.return_, 1) := by decide +kernel
theorem dX12_comes_11 : decode cX12_comes 11 = .ok (.aload_n 0, 1) := by decide +kernel
theorem dX12_comes_12 : decode cX12_comes 12 = .ok (.bipush 122, 2) := by decide +kernel
theorem dX12_comes_14 : decode cX12_comes 14 = .ok (.iload_n 3, 1) := by decide +kernel
theorem dX12_comes_15 : decode cX12_comes 15 = .ok (.iadd, 1) := by decide +kernel
theorem dX12_comes_16 : decode cX12_comes 16 = .ok (.iaload, 1) := by decide +kernel
theorem dX12_comes_17 : decode cX12_comes 17 = .ok (.bipush 8, 2) := by decide +kernel
theorem dX12_comes_19 : decode cX12_comes 19 = .ok (.irem, 1) := by decide +kernel
theorem dX12_comes_20 : decode cX12_comes 20 = .ok (.iload_n 1, 1) := by decide +kernel
theorem dX12_comes_21 : decode cX12_comes 21 = .ok (.bipush 8, 2) := by decide +kernel
theorem dX12_comes_23 : decode cX12_comes 23 = .ok (.irem, 1) := by decide +kernel
theorem dX12_comes_24 : decode cX12_comes 24 = .ok (.if_icmp .ne 8, 3) := by decide +kernel
theorem dX12_comes_32 : decode cX12_comes 32 = .ok (.iinc 3 (-1), 3) := by decide +kernel
theorem dX12_comes_35 : decode cX12_comes 35 = .ok (.goto (-28), 3) := by decide +kernel
theorem dX12_comes_27 : decode cX12_comes 27 = .ok (.aload_n 0, 1) := by decide +kernel
theorem dX12_comes_28 : decode cX12_comes 28 = .ok (.iload_n 3, 1) := by decide +kernel
set_option maxRecDepth 20000 in
theorem ggX12_comes_X12_goesOut : GoodIn wsX12_comes wsX12_goesOut := goodIn_r _ [4] (by decide +kernel) (by decide +kernel)
set_option maxRecDepth 20000 in
theorem gX12_comes_X12_goesOut : GoodIn wsX12_comes (va_wsS RX12 203 yX12_goesOut wsX12_goesOut) := goodIn_app (goodIn_of _ (by decide +kernel)) ggX12_comes_X12_goesOut
theorem dX12_comes_29 : decode cX12_comes 29 = .ok (.invokestatic 203, 3) := by decide +kernel
set_option maxRecDepth 100000 in
set_option maxHeartbeats 4000000 in
theorem c_X12_goesOut {E : XE} {B N : Nat} {v : Nat → va_E} {c k : Nat} {f p : Nat → Int} {l : Cor} {k_i : Int} (ha_k : k_i = (k : Int)) (hc0 : Cel N v c (iarr E 138 f)) (hq0 : PR f p l) (hq1 : k < l.length) (hq2 : l.length ≤ 8) : gM yX12_goesOut wsX12_goesOut ({ frames := 0, cells := 0, slots := 0, locals := 0 }) E B N v [.ref (B + c), .int (zI k_i)] (po0 N (fun r v' => ∃ (g : Nat → Int), (PR g p (l.eraseIdx k)) ∧ r = none ∧ (va_up v c (iarr E 138 g)) = v')) := by
  subst ha_k
  refine x_met (nm := "goesOut") (by decide +kernel) rfl (Nat.le_of_ble_eq_true rfl) rfl (fun Γ K KR hnL hnm => ?_)
  show XW Γ N v [(0, .ref (B + c)), (1, .int (zI (k : Int)))] 0 0 0 []
  have hf121 := hq0.2.1
  refine x_v (cel_pad hc0) ?_
  refine x_aload_n (pc := 0) 0 K rfl rfl dX12_goesOut_0 ?_
  refine x_bipush (pc := 1) K (by decide) dX12_goesOut_1 ?_
  refine x_dup2 (pc := 3) K rfl rfl dX12_goesOut_3 ?_
  refine x_iald (pc := 4) 121 K (cel_self hc0.1) rfl (by omega) (by decide) dX12_goesOut_4 ?_
  refine x_iconst (pc := 5) K dX12_goesOut_5 ?_
  refine x_isub (pc := 6) K dX12_goesOut_6 ?_
  refine x_iast (pc := 7) 121 K (cel_self hc0.1) rfl (by omega) (by decide) dX12_goesOut_7 ?_
  refine x_v (w := (va_up v c (iarr E 138 (va_up f 121 ((f 121) - 1))))) (up_at0).symm ?_
  refine x_iload_n (pc := 8) 1 K rfl rfl dX12_goesOut_8 ?_
  refine x_istore_n (pc := 9) K (L' := [(2, .int (zI (k : Int))), (0, .ref (B + c)), (1, .int (zI (k : Int)))]) hnL rfl (by decide) rfl dX12_goesOut_9 ?_
  have LOOP10 : ∀ (n_10 : Nat) (e : Nat) (h : Nat → Int), (k ≤ e ∧ e ≤ l.length - 1) → (h = shA f k e) → (8 - e) < n_10 → XW Γ N (va_up v c (iarr E 138 h)) [(0, .ref (B + c)), (1, .int (zI (k : Int))), (2, .int (zI (e : Int)))] 0 0 10 [] := by
    intro n_10
    induction n_10 with
    | zero =>
      intro e h hi10_0 hi10_1 hm_10
      exfalso; omega
    | succ n_10 ih10 =>
      intro e h hi10_0 hi10_1 hm_10
      have hh121 : h 121 = (l.length : Int) - 1 := by rw [hi10_1]; unfold shA; rw [if_pos rfl, hf121]
      refine x_iload_n (pc := 10) 2 K rfl rfl dX12_goesOut_10 ?_
      refine x_aload_n (pc := 11) 0 K rfl rfl dX12_goesOut_11 ?_
      refine x_bipush (pc := 12) K (by decide) dX12_goesOut_12 ?_
      refine x_iald (pc := 14) 121 K (cel_self hc0.1) rfl (by omega) (by decide) dX12_goesOut_14 ?_
      refine x_icmp_ge (pc := 15) (tgt := 54) K (by omega) (by omega) dX12_goesOut_15 (by decide) (fun h_15 => ?_) (fun h_15 => ?_)
      · skip
        refine x_vret (pc := 54) K KR (by omega) (Nat.le_of_ble_eq_true rfl) (Nat.le_of_ble_eq_true rfl) dX12_goesOut_54 ?_
        have he : e = l.length - 1 := by omega
        exact ⟨rfl, h, by rw [hi10_1, he]; exact PR_sh hq0 hq1 hq2, rfl, rfl⟩
      · skip
        refine x_aload_n (pc := 18) 0 K rfl rfl dX12_goesOut_18 ?_
        refine x_bipush (pc := 19) K (by decide) dX12_goesOut_19 ?_
        refine x_iload_n (pc := 21) 2 K rfl rfl dX12_goesOut_21 ?_
        refine x_iadd (pc := 22) K dX12_goesOut_22 ?_
        refine x_aload_n (pc := 23) 0 K rfl rfl dX12_goesOut_23 ?_
        refine x_bipush (pc := 24) K (by decide) dX12_goesOut_24 ?_
        refine x_iload_n (pc := 26) 2 K rfl rfl dX12_goesOut_26 ?_
        refine x_iadd (pc := 27) K dX12_goesOut_27 ?_
        refine x_iconst (pc := 28) K dX12_goesOut_28 ?_
        refine x_iadd (pc := 29) K dX12_goesOut_29 ?_
        refine x_iald (pc := 30) ((122 + e) + 1) K (cel_self hc0.1) (by omega) (by omega) (by decide) dX12_goesOut_30 ?_
        refine x_iast (pc := 31) (122 + e) K (cel_self hc0.1) (by omega) (by omega) (by decide) dX12_goesOut_31 ?_
        refine x_v (w := (va_up v c (iarr E 138 (va_up h (122 + e) (h ((122 + e) + 1)))))) (up_at0).symm ?_
        refine x_aload_n (pc := 32) 0 K rfl rfl dX12_goesOut_32 ?_
        refine x_sipush (pc := 33) K (by decide) dX12_goesOut_33 ?_
        refine x_iload_n (pc := 36) 2 K rfl rfl dX12_goesOut_36 ?_
        refine x_iadd (pc := 37) K dX12_goesOut_37 ?_
        refine x_aload_n (pc := 38) 0 K rfl rfl dX12_goesOut_38 ?_
        refine x_sipush (pc := 39) K (by decide) dX12_goesOut_39 ?_
        refine x_iload_n (pc := 42) 2 K rfl rfl dX12_goesOut_42 ?_
        refine x_iadd (pc := 43) K dX12_goesOut_43 ?_
        refine x_iconst (pc := 44) K dX12_goesOut_44 ?_
        refine x_iadd (pc := 45) K dX12_goesOut_45 ?_
        refine x_iald (pc := 46) ((130 + e) + 1) K (cel_self hc0.1) (by omega) (by omega) (by decide) dX12_goesOut_46 ?_
        refine x_iast (pc := 47) (130 + e) K (cel_self hc0.1) (by omega) (by omega) (by decide) dX12_goesOut_47 ?_
        refine x_v (w := (va_up v c (iarr E 138 (va_up (va_up h (122 + e) (h ((122 + e) + 1))) (130 + e) ((va_up h (122 + e) (h ((122 + e) + 1))) ((130 + e) + 1)))))) (up_at0).symm ?_
        refine x_iinc (pc := 48) (L' := [(2, .int (zI ((e : Int) + 1))), (0, .ref (B + c)), (1, .int (zI (k : Int)))]) 2 K hnL rfl (by decide) rfl dX12_goesOut_48 ?_
        refine x_goto (pc := 51) (tgt := 10) K dX12_goesOut_51 (by decide) ?_
        refine x_sub (L' := [(0, .ref (B + c)), (1, .int (zI (k : Int))), (2, .int (zI ((e : Int) + 1)))]) [1, 2, 0] rfl ?_
        exact ih10 (e + 1) (va_up (va_up h (122 + e) (h ((122 + e) + 1))) (130 + e) ((va_up h (122 + e) (h ((122 + e) + 1))) ((130 + e) + 1))) (by omega) (by rw [hi10_1]; exact shA_s (by omega) (by omega)) (by omega)
  refine x_sub (L' := [(0, .ref (B + c)), (1, .int (zI (k : Int))), (2, .int (zI (k : Int)))]) [1, 2, 0] rfl ?_
  exact LOOP10 (_) k (va_up f 121 ((f 121) - 1)) (by omega) (by exact shA_0 f k) (Nat.lt_succ_self _)

set_option maxRecDepth 100000 in
set_option maxHeartbeats 4000000 in
theorem c_X12_comes {E : XE} {B N : Nat} {v : Nat → va_E} {c : Nat} {cell made : Int} {f p : Nat → Int} {l : Cor} (hc0 : Cel N v c (iarr E 138 f)) (hq0 : PR f p l) (hq1 : CorOk l) (hq2 : l.length ≤ 7) (hq3 : 0 ≤ cell ∧ cell ≤ 47) : gM yX12_comes wsX12_comes ({ frames := 1, cells := 0, slots := 0, locals := 22 }) E B N v [.ref (B + c), .int (zI cell), .int (zI made)] (po0 N (fun r v' => ∃ (g : Nat → Int), (PR g p (comesA cell made l)) ∧ r = none ∧ (va_up v c (iarr E 138 g)) = v')) := by
  refine x_met (nm := "comes") (by decide +kernel) rfl (Nat.le_of_ble_eq_true rfl) rfl (fun Γ K KR hnL hnm => ?_)
  show XW Γ N v [(0, .ref (B + c)), (1, .int (zI cell)), (2, .int (zI made))] 0 0 0 []
  have hf121 := hq0.2.1
  refine x_v (cel_pad hc0) ?_
  refine x_aload_n (pc := 0) 0 K rfl rfl dX12_comes_0 ?_
  refine x_bipush (pc := 1) K (by decide) dX12_comes_1 ?_
  refine x_iald (pc := 3) 121 K (cel_self hc0.1) rfl (by omega) (by decide) dX12_comes_3 ?_
  refine x_iconst (pc := 4) K dX12_comes_4 ?_
  refine x_isub (pc := 5) K dX12_comes_5 ?_
  refine x_nm (fun z1 hz1 => ?_)
  refine x_istore_n (pc := 6) K (L' := [(3, .int (zI z1)), (0, .ref (B + c)), (1, .int (zI cell)), (2, .int (zI made))]) hnL rfl (by decide) rfl dX12_comes_6 ?_
  have LOOP7 : ∀ (n_7 : Nat) (k : Int) (h : Nat → Int), (-1 ≤ k ∧ k < l.length) → (PR h p (rmB (cell % 8) l (k + 1).toNat)) → ((k + 1).toNat) < n_7 → XW Γ N (va_up v c (iarr E 138 h)) [(0, .ref (B + c)), (1, .int (zI cell)), (2, .int (zI made)), (3, .int (zI k))] 0 0 7 [] := by
    intro n_7
    induction n_7 with
    | zero =>
      intro k h hi7_0 hi7_1 hm_7
      exfalso; omega
    | succ n_7 ih7 =>
      intro k h hi7_0 hi7_1 hm_7
      have hs7 := (rmB_sub (cell % 8) l (k + 1).toNat).length_le
      have hok7 := hq1.sub (rmB_sub (cell % 8) l (k + 1).toNat)
      refine x_iload_n (pc := 7) 3 K rfl rfl dX12_comes_7 ?_
      refine x_if_lt (pc := 8) (tgt := 38) K (by omega) dX12_comes_8 (by decide) (fun h_8 => ?_) (fun h_8 => ?_)
      · skip
        have hk0 : (k + 1).toNat = 0 := by omega
        rw [hk0, rmB_0] at hi7_1 hs7
        obtain ⟨n, hn⟩ : ∃ n : Nat, n = (rmvA (cell % 8) l).length := ⟨_, rfl⟩
        have e44 := hi7_1.2.1
        rw [← hn] at e44 hs7
        refine x_aload_n (pc := 38) 0 K rfl rfl dX12_comes_38 ?_
        refine x_bipush (pc := 39) K (by decide) dX12_comes_39 ?_
        refine x_aload_n (pc := 41) 0 K rfl rfl dX12_comes_41 ?_
        refine x_bipush (pc := 42) K (by decide) dX12_comes_42 ?_
        refine x_iald (pc := 44) 121 K (cel_self hc0.1) rfl (by omega) (by decide) dX12_comes_44 ?_
        refine x_st (st' := [.int (zI (n : Int)), .int (zI 122), .ref (B + c)]) (by rw [e44]) ?_
        refine x_iadd (pc := 45) K dX12_comes_45 ?_
        refine x_iload_n (pc := 46) 1 K rfl rfl dX12_comes_46 ?_
        refine x_iast (pc := 47) (122 + n) K (cel_self hc0.1) (by omega) (by omega) (by decide) dX12_comes_47 ?_
        refine x_v (w := (va_up v c (iarr E 138 (va_up h (122 + n) cell)))) (up_at0).symm ?_
        refine x_aload_n (pc := 48) 0 K rfl rfl dX12_comes_48 ?_
        refine x_sipush (pc := 49) K (by decide) dX12_comes_49 ?_
        refine x_aload_n (pc := 52) 0 K rfl rfl dX12_comes_52 ?_
        refine x_bipush (pc := 53) K (by decide) dX12_comes_53 ?_
        refine x_iald (pc := 55) 121 K (cel_self hc0.1) rfl (by omega) (by decide) dX12_comes_55 ?_
        refine x_st (st' := [.int (zI (n : Int)), .int (zI 130), .ref (B + c)]) (by rw [va_up_ne _ _ (by omega), e44]) ?_
        refine x_iadd (pc := 56) K dX12_comes_56 ?_
        refine x_iload_n (pc := 57) 2 K rfl rfl dX12_comes_57 ?_
        refine x_iast (pc := 58) (130 + n) K (cel_self hc0.1) (by omega) (by omega) (by decide) dX12_comes_58 ?_
        refine x_v (w := (va_up v c (iarr E 138 (va_up (va_up h (122 + n) cell) (130 + n) made)))) (up_at0).symm ?_
        refine x_aload_n (pc := 59) 0 K rfl rfl dX12_comes_59 ?_
        refine x_bipush (pc := 60) K (by decide) dX12_comes_60 ?_
        refine x_dup2 (pc := 62) K rfl rfl dX12_comes_62 ?_
        refine x_iald (pc := 63) 121 K (cel_self hc0.1) rfl (by omega) (by decide) dX12_comes_63 ?_
        refine x_st (st' := [.int (zI (n : Int)), .int (zI 121), .ref (B + c)]) (by rw [va_up_ne _ _ (by omega), va_up_ne _ _ (by omega), e44]) ?_
        refine x_iconst (pc := 64) K dX12_comes_64 ?_
        refine x_iadd (pc := 65) K dX12_comes_65 ?_
        refine x_iast (pc := 66) 121 K (cel_self hc0.1) rfl (by omega) (by decide) dX12_comes_66 ?_
        refine x_v (w := (va_up v c (iarr E 138 (va_up (va_up (va_up h (122 + n) cell) (130 + n) made) 121 ((n : Int) + 1))))) (up_at0).symm ?_
        refine x_vret (pc := 67) K KR (by omega) (Nat.le_of_ble_eq_true rfl) (Nat.le_of_ble_eq_true rfl) dX12_comes_67 ?_
        have hfin := PR_add (c := cell) (m := made) hi7_1 (by omega)
        rw [← hn] at hfin
        exact ⟨rfl, _, hfin, rfl, rfl⟩
      · skip
        obtain ⟨j, rfl⟩ : ∃ j : Nat, k = (j : Int) := ⟨k.toNat, by omega⟩
        have hj2 : j < l.length := by omega
        rw [show ((j : Int) + 1).toNat = j + 1 by omega] at hi7_1 hs7 hok7
        obtain ⟨hj3, hj4⟩ := rmB_at (x := cell % 8) hj2
        have e16 := hi7_1.cor hj3
        rw [hj4] at e16
        have b16 := hq1.at hj2
        rw [← e16] at b16
        refine x_aload_n (pc := 11) 0 K rfl rfl dX12_comes_11 ?_
        refine x_bipush (pc := 12) K (by decide) dX12_comes_12 ?_
        refine x_iload_n (pc := 14) 3 K rfl rfl dX12_comes_14 ?_
        refine x_iadd (pc := 15) K dX12_comes_15 ?_
        refine x_iald (pc := 16) (122 + j) K (cel_self hc0.1) (by omega) (by omega) (by decide) dX12_comes_16 ?_
        refine x_bipush (pc := 17) K (by decide) dX12_comes_17 ?_
        refine x_irem (pc := 19) K (by omega) (by omega) dX12_comes_19 ?_
        refine x_iload_n (pc := 20) 1 K rfl rfl dX12_comes_20 ?_
        refine x_bipush (pc := 21) K (by decide) dX12_comes_21 ?_
        refine x_irem (pc := 23) K (by omega) (by omega) dX12_comes_23 ?_
        refine x_icmp_ne (pc := 24) (tgt := 32) K (by omega) (by omega) dX12_comes_24 (by decide) (fun h_24 => ?_) (fun h_24 => ?_)
        · skip
          refine x_iinc (pc := 32) (L' := [(3, .int (zI ((j : Int) + (-1)))), (0, .ref (B + c)), (1, .int (zI cell)), (2, .int (zI made))]) 3 K hnL rfl (by decide) rfl dX12_comes_32 ?_
          refine x_goto (pc := 35) (tgt := 7) K dX12_comes_35 (by decide) ?_
          refine x_sub (L' := [(0, .ref (B + c)), (1, .int (zI cell)), (2, .int (zI made)), (3, .int (zI ((j : Int) + (-1))))]) [1, 2, 3, 0] rfl ?_
          exact ih7 ((j : Int) + (-1)) h (by omega) (by rw [show ((j : Int) + -1 + 1).toNat = j by omega]; first | (rw [← rmB_out hj2 (by omega)]; exact hp29_0) | (rw [← rmB_keep hj2 (by omega)]; exact hi7_1)) (by omega)
        · skip
          refine x_aload_n (pc := 27) 0 K rfl rfl dX12_comes_27 ?_
          refine x_iload_n (pc := 28) 3 K rfl rfl dX12_comes_28 ?_
          refine x_callS (pc := 29) (As := [.ref (B + c), .int (zI (j : Int))]) K (c_X12_goesOut (E := E) (B := B) (N := N) (k := j) rfl (cel_self hc0.1) hi7_1 hj3 (by omega)) gX12_comes_X12_goesOut rfl (na := 2) (by decide +kernel) rfl ⟨(Nat.le_of_ble_eq_true rfl), (Nat.le_of_ble_eq_true rfl)⟩ (st := []) rfl (Nat.le_of_ble_eq_true rfl) ⟨(Nat.le_of_ble_eq_true rfl), (Nat.le_of_ble_eq_true rfl)⟩ dX12_comes_29 (fun r29 N29 w29 hpo29 hN29 => ?_)
          obtain ⟨rfl, g_29, hp29_0, rfl, rfl⟩ := hpo29
          refine x_v (w := (va_up v c (iarr E 138 g_29))) (up_at0).symm ?_
          refine x_st (st' := []) rfl ?_
          refine x_iinc (pc := 32) (L' := [(3, .int (zI ((j : Int) + (-1)))), (0, .ref (B + c)), (1, .int (zI cell)), (2, .int (zI made))]) 3 K hnL rfl (by decide) rfl dX12_comes_32 ?_
          refine x_goto (pc := 35) (tgt := 7) K dX12_comes_35 (by decide) ?_
          refine x_sub (L' := [(0, .ref (B + c)), (1, .int (zI cell)), (2, .int (zI made)), (3, .int (zI ((j : Int) + (-1))))]) [1, 2, 3, 0] rfl ?_
          exact ih7 ((j : Int) + (-1)) g_29 (by omega) (by rw [show ((j : Int) + -1 + 1).toNat = j by omega]; first | (rw [← rmB_out hj2 (by omega)]; exact hp29_0) | (rw [← rmB_keep hj2 (by omega)]; exact hi7_1)) (by omega)
  refine x_sub (L' := [(0, .ref (B + c)), (1, .int (zI cell)), (2, .int (zI made)), (3, .int (zI z1))]) [1, 2, 3, 0] rfl ?_
  exact LOOP7 (_) z1 f (by omega) (by rw [hz1, show (f 121 - 1 + 1).toNat = l.length by omega, rmB_len]; exact hq0) (Nat.lt_succ_self _)

