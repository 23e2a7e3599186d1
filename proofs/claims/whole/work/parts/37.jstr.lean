theorem dJ0_coder_7d493_0 : decode cJ0_coder_7d493 0 = .ok (.getstatic 38, 3) := by decide +kernel
theorem dJ0_coder_7d493_3 : decode cJ0_coder_7d493 3 = .ok (.ifCond .eq 10, 3) := by decide +kernel
theorem dJ0_coder_7d493_6 : decode cJ0_coder_7d493 6 = .ok (.aload_n 0, 1) := by decide +kernel
theorem dJ0_coder_7d493_7 : decode cJ0_coder_7d493 7 = .ok (.getfield 15, 3) := by decide +kernel
theorem dJ0_coder_7d493_10 : decode cJ0_coder_7d493 10 = .ok (.goto 4, 3) := by decide +kernel
theorem dJ0_coder_7d493_14 : decode cJ0_coder_7d493 14 = .ok (.ireturn, 1) := by decide +kernel
theorem dJ0_length_8abf5_0 : decode cJ0_length_8abf5 0 = .ok (.aload_n 0, 1) := by decide +kernel
theorem dJ0_length_8abf5_1 : decode cJ0_length_8abf5 1 = .ok (.getfield 9, 3) := by decide +kernel
theorem dJ0_length_8abf5_4 : decode cJ0_length_8abf5 4 = .ok (.arraylength, 1) := by decide +kernel
theorem dJ0_length_8abf5_5 : decode cJ0_length_8abf5 5 = .ok (.aload_n 0, 1) := by decide +kernel
theorem dJ0_length_8abf5_6 : decode cJ0_length_8abf5 6 = .ok (.invokevirtual 335, 3) := by decide +kernel
theorem dJ0_length_8abf5_9 : decode cJ0_length_8abf5 9 = .ok (.ishr, 1) := by decide +kernel
theorem dJ0_length_8abf5_10 : decode cJ0_length_8abf5 10 = .ok (.ireturn, 1) := by decide +kernel
theorem dJ0_isLatin1_aae02_0 : decode cJ0_isLatin1_aae02 0 = .ok (.getstatic 38, 3) := by decide +kernel
theorem dJ0_isLatin1_aae02_3 : decode cJ0_isLatin1_aae02 3 = .ok (.ifCond .eq 14, 3) := by decide +kernel
theorem dJ0_isLatin1_aae02_6 : decode cJ0_isLatin1_aae02 6 = .ok (.aload_n 0, 1) := by decide +kernel
theorem dJ0_isLatin1_aae02_7 : decode cJ0_isLatin1_aae02 7 = .ok (.getfield 15, 3) := by decide +kernel
theorem dJ0_isLatin1_aae02_10 : decode cJ0_isLatin1_aae02 10 = .ok (.ifCond .ne 7, 3) := by decide +kernel
theorem dJ0_isLatin1_aae02_13 : decode cJ0_isLatin1_aae02 13 = .ok (.iconst 1, 1) := by decide +kernel
theorem dJ0_isLatin1_aae02_14 : decode cJ0_isLatin1_aae02 14 = .ok (.goto 4, 3) := by decide +kernel
theorem dJ0_isLatin1_aae02_18 : decode cJ0_isLatin1_aae02 18 = .ok (.ireturn, 1) := by decide +kernel
theorem dJ3_checkIndex_8e157_0 : decode cJ3_checkIndex_8e157 0 = .ok (.iload_n 0, 1) := by decide +kernel
theorem dJ3_checkIndex_8e157_1 : decode cJ3_checkIndex_8e157 1 = .ok (.ifCond .lt 8, 3) := by decide +kernel
theorem dJ3_checkIndex_8e157_4 : decode cJ3_checkIndex_8e157 4 = .ok (.iload_n 0, 1) := by decide +kernel
theorem dJ3_checkIndex_8e157_5 : decode cJ3_checkIndex_8e157 5 = .ok (.iload_n 1, 1) := by decide +kernel
theorem dJ3_checkIndex_8e157_6 : decode cJ3_checkIndex_8e157 6 = .ok (.if_icmp .lt 10, 3) := by decide +kernel
theorem dJ3_checkIndex_8e157_16 : decode cJ3_checkIndex_8e157 16 = .ok (.iload_n 0, 1) := by decide +kernel
theorem dJ3_checkIndex_8e157_17 : decode cJ3_checkIndex_8e157 17 = .ok (.ireturn, 1) := by decide +kernel
theorem dJ0_checkIndex_df160_0 : decode cJ0_checkIndex_df160 0 = .ok (.iload_n 0, 1) := by decide +kernel
theorem dJ0_checkIndex_df160_1 : decode cJ0_checkIndex_df160 1 = .ok (.iload_n 1, 1) := by decide +kernel
theorem dJ0_checkIndex_df160_5 : decode cJ0_checkIndex_df160 5 = .ok (.invokestatic 1059, 3) := by decide +kernel
theorem dJ0_checkIndex_df160_8 : decode cJ0_checkIndex_df160 8 = .ok (.pop, 1) := by decide +kernel
theorem dJ0_checkIndex_df160_9 : decode cJ0_checkIndex_df160 9 = .ok (.return_, 1) := by decide +kernel
theorem dJ0_checkIndex_df160_2 : decode cJ0_checkIndex_df160 2 = .ok (.getstatic 1053, 3) := by decide +kernel
theorem dJ1_charAt_3b067_0 : decode cJ1_charAt_3b067 0 = .ok (.iload_n 1, 1) := by decide +kernel
theorem dJ1_charAt_3b067_1 : decode cJ1_charAt_3b067 1 = .ok (.aload_n 0, 1) := by decide +kernel
theorem dJ1_charAt_3b067_2 : decode cJ1_charAt_3b067 2 = .ok (.arraylength, 1) := by decide +kernel
theorem dJ1_charAt_3b067_3 : decode cJ1_charAt_3b067 3 = .ok (.invokestatic 9, 3) := by decide +kernel
theorem dJ1_charAt_3b067_6 : decode cJ1_charAt_3b067 6 = .ok (.aload_n 0, 1) := by decide +kernel
theorem dJ1_charAt_3b067_7 : decode cJ1_charAt_3b067 7 = .ok (.iload_n 1, 1) := by decide +kernel
theorem dJ1_charAt_3b067_8 : decode cJ1_charAt_3b067 8 = .ok (.baload, 1) := by decide +kernel
theorem dJ1_charAt_3b067_9 : decode cJ1_charAt_3b067 9 = .ok (.sipush 255, 3) := by decide +kernel
theorem dJ1_charAt_3b067_12 : decode cJ1_charAt_3b067 12 = .ok (.iand, 1) := by decide +kernel
theorem dJ1_charAt_3b067_13 : decode cJ1_charAt_3b067 13 = .ok (.i2c, 1) := by decide +kernel
theorem dJ1_charAt_3b067_14 : decode cJ1_charAt_3b067 14 = .ok (.ireturn, 1) := by decide +kernel
theorem dJ0_charAt_5068e_0 : decode cJ0_charAt_5068e 0 = .ok (.aload_n 0, 1) := by decide +kernel
theorem dJ0_charAt_5068e_1 : decode cJ0_charAt_5068e 1 = .ok (.invokevirtual 492, 3) := by decide +kernel
theorem dJ0_charAt_5068e_4 : decode cJ0_charAt_5068e 4 = .ok (.ifCond .eq 12, 3) := by decide +kernel
theorem dJ0_charAt_5068e_7 : decode cJ0_charAt_5068e 7 = .ok (.aload_n 0, 1) := by decide +kernel
theorem dJ0_charAt_5068e_8 : decode cJ0_charAt_5068e 8 = .ok (.getfield 9, 3) := by decide +kernel
theorem dJ0_charAt_5068e_11 : decode cJ0_charAt_5068e 11 = .ok (.iload_n 1, 1) := by decide +kernel
theorem dJ0_charAt_5068e_12 : decode cJ0_charAt_5068e 12 = .ok (.invokestatic 495, 3) := by decide +kernel
theorem dJ0_charAt_5068e_15 : decode cJ0_charAt_5068e 15 = .ok (.ireturn, 1) := by decide +kernel
set_option maxRecDepth 100000 in
set_option maxHeartbeats 4000000 in
theorem c_coder {E : XE} {B N : Nat} {v : Nat → va_E} {i : Nat} (hi : i < 9) : gM yJ0_coder_7d493 wsJ0_coder_7d493 { frames := 0, cells := 0, slots := 0, locals := 0 } E B N v [.ref (E.2.2.1 i)] (po0 N (fun ρ v' => ρ = some (.int (zI 0)) ∧ v = v')) := by
  refine x_met (nm := "coder") (by decide +kernel) rfl (Nat.le_of_ble_eq_true rfl) rfl (fun Γ K KR hnL hnm => ?_)
  show XW Γ N v [(0, .ref (E.2.2.1 i))] 0 0 0 []
  refine x_getsC (pc := 0) (idx := 38) K (by decide +kernel) dJ0_coder_7d493_0 ?_
  refine x_if_eq (pc := 3) (tgt := 13) K (by decide) dJ0_coder_7d493_3 (by decide) (fun h => ?_) (fun h => ?_)
  · exact absurd h (by decide)
  refine x_aload_n (pc := 6) 0 K rfl rfl dJ0_coder_7d493_6 ?_
  refine x_getC (pc := 7) (idx := 15) (i := i) K hi (by decide +kernel) dJ0_coder_7d493_7 ?_
  refine x_goto (pc := 10) (tgt := 14) K dJ0_coder_7d493_10 (by decide) ?_
  refine x_nret (pc := 14) K KR (by omega) (Nat.le_of_ble_eq_true rfl) (Nat.le_of_ble_eq_true rfl) rfl dJ0_coder_7d493_14 ?_
  exact ⟨rfl, rfl, rfl⟩
theorem x_shr0 {i : Nat} (hi : i < 9) : zI ((xLen.getD i 0 : Nat) : Int) >>> (zI 0 &&& 31) = zI ((xLen.getD i 0 : Nat) : Int) := by
  have h : i = 0 ∨ i = 1 ∨ i = 2 ∨ i = 3 ∨ i = 4 ∨ i = 5 ∨ i = 6 ∨ i = 7 ∨ i = 8 := by omega
  rcases h with rfl | rfl | rfl | rfl | rfl | rfl | rfl | rfl | rfl <;> decide +kernel
set_option maxRecDepth 100000 in
set_option maxHeartbeats 4000000 in
theorem c_slen {E : XE} {B N : Nat} {v : Nat → va_E} {i : Nat} (hi : i < 9) : gM yJ0_length_8abf5 wsJ0_length_8abf5 { frames := 1, cells := 0, slots := 0, locals := 20 } E B N v [.ref (E.2.2.1 i)] (po0 N (fun ρ v' => ρ = some (.int (zI ((xLen.getD i 0 : Nat) : Int))) ∧ v = v')) := by
  refine x_met (nm := "length") (by decide +kernel) rfl (Nat.le_of_ble_eq_true rfl) rfl (fun Γ K KR hnL hnm => ?_)
  show XW Γ N v [(0, .ref (E.2.2.1 i))] 0 0 0 []
  refine x_aload_n (pc := 0) 0 K rfl rfl dJ0_length_8abf5_0 ?_
  refine x_getV (pc := 1) (idx := 9) (i := i) K hi (by decide +kernel) dJ0_length_8abf5_1 ?_
  refine x_alenK (pc := 4) (i := i) K hi dJ0_length_8abf5_4 ?_
  refine x_aload_n (pc := 5) 0 K rfl rfl dJ0_length_8abf5_5 ?_
  refine x_callK (pc := 6) (i := i) (As := []) (st := [.int (zI ((xLen.getD i 0 : Nat) : Int))]) K hi (c_coder hi) gJ0_length_8abf5_J0_coder_7d493 rfl (na := 0) (by decide +kernel) rfl ⟨Nat.le_of_ble_eq_true rfl, Nat.le_of_ble_eq_true rfl⟩ rfl (Nat.le_of_ble_eq_true rfl) ⟨Nat.le_of_ble_eq_true rfl, Nat.le_of_ble_eq_true rfl⟩ dJ0_length_8abf5_6 (fun r N' w hpo hN => ?_)
  obtain ⟨rfl, rfl, rfl⟩ := hpo
  refine x_ishr (pc := 9) K dJ0_length_8abf5_9 ?_
  refine x_st (st' := [.int (zI ((xLen.getD i 0 : Nat) : Int))]) (by rw [x_shr0 hi]) ?_
  refine x_iret (pc := 10) K KR (by omega) (Nat.le_of_ble_eq_true rfl) (Nat.le_of_ble_eq_true rfl) dJ0_length_8abf5_10 ?_
  exact ⟨rfl, rfl, rfl⟩
set_option maxRecDepth 100000 in
set_option maxHeartbeats 4000000 in
theorem c_isLatin1 {E : XE} {B N : Nat} {v : Nat → va_E} {i : Nat} (hi : i < 9) : gM yJ0_isLatin1_aae02 wsJ0_isLatin1_aae02 { frames := 0, cells := 0, slots := 0, locals := 0 } E B N v [.ref (E.2.2.1 i)] (po0 N (fun ρ v' => ρ = some (.int (zI 1)) ∧ v = v')) := by
  refine x_met (nm := "isLatin1") (by decide +kernel) rfl (Nat.le_of_ble_eq_true rfl) rfl (fun Γ K KR hnL hnm => ?_)
  show XW Γ N v [(0, .ref (E.2.2.1 i))] 0 0 0 []
  refine x_getsC (pc := 0) (idx := 38) K (by decide +kernel) dJ0_isLatin1_aae02_0 ?_
  refine x_if_eq (pc := 3) (tgt := 17) K (by decide) dJ0_isLatin1_aae02_3 (by decide) (fun h => ?_) (fun h => ?_)
  · exact absurd h (by decide)
  refine x_aload_n (pc := 6) 0 K rfl rfl dJ0_isLatin1_aae02_6 ?_
  refine x_getC (pc := 7) (idx := 15) (i := i) K hi (by decide +kernel) dJ0_isLatin1_aae02_7 ?_
  refine x_if_ne (pc := 10) (tgt := 17) K (by decide) dJ0_isLatin1_aae02_10 (by decide) (fun h => ?_) (fun h => ?_)
  · exact absurd rfl h
  refine x_iconst (pc := 13) K dJ0_isLatin1_aae02_13 ?_
  refine x_goto (pc := 14) (tgt := 18) K dJ0_isLatin1_aae02_14 (by decide) ?_
  refine x_zret (pc := 18) K KR (by omega) (Nat.le_of_ble_eq_true rfl) (Nat.le_of_ble_eq_true rfl) rfl dJ0_isLatin1_aae02_18 ?_
  exact ⟨rfl, rfl, rfl⟩
set_option maxRecDepth 100000 in
set_option maxHeartbeats 4000000 in
theorem c_pchk {E : XE} {B N : Nat} {v : Nat → va_E} {k n : Nat} {w : Value} (hw : w = .null ∨ ∃ t, w = .ref t) (hk : k < n) (hn : n < 2147483648) : gM yJ3_checkIndex_8e157 wsJ3_checkIndex_8e157 { frames := 0, cells := 0, slots := 0, locals := 0 } E B N v [.int (zI (k : Int)), .int (zI (n : Int)), w] (po0 N (fun ρ v' => ρ = some (.int (zI (k : Int))) ∧ v = v')) := by
  have hlen : (lg_sl [.int (zI (k : Int)), .int (zI (n : Int)), w]).length ≤ 3 := by rcases hw with rfl | ⟨t, rfl⟩ <;> exact Nat.le_of_ble_eq_true rfl
  have hargs : lv_args 0 [.int (zI (k : Int)), .int (zI (n : Int)), w] = [(0, .int (zI (k : Int))), (1, .int (zI (n : Int))), (2, w)] := by rcases hw with rfl | ⟨t, rfl⟩ <;> rfl
  refine x_met (nm := "checkIndex") (by decide +kernel) rfl hlen rfl (fun Γ K KR hnL hnm => ?_)
  rw [hargs]
  refine x_iload_n (pc := 0) 0 K rfl rfl dJ3_checkIndex_8e157_0 ?_
  refine x_if_lt (pc := 1) (tgt := 9) K (by omega) dJ3_checkIndex_8e157_1 (by decide) (fun h => ?_) (fun h => ?_)
  · exfalso; omega
  refine x_iload_n (pc := 4) 0 K rfl rfl dJ3_checkIndex_8e157_4 ?_
  refine x_iload_n (pc := 5) 1 K rfl rfl dJ3_checkIndex_8e157_5 ?_
  refine x_icmp_lt (pc := 6) (tgt := 16) K (by omega) (by omega) dJ3_checkIndex_8e157_6 (by decide) (fun h => ?_) (fun h => ?_)
  · refine x_iload_n (pc := 16) 0 K rfl rfl dJ3_checkIndex_8e157_16 ?_
    refine x_iret (pc := 17) K KR (by omega) (Nat.le_of_ble_eq_true rfl) (Nat.le_of_ble_eq_true rfl) dJ3_checkIndex_8e157_17 ?_
    exact ⟨rfl, rfl, rfl⟩
  · exfalso; omega
set_option maxRecDepth 100000 in
set_option maxHeartbeats 4000000 in
theorem c_schk {E : XE} {B N : Nat} {v : Nat → va_E} {k n : Nat} (hk : k < n) (hn : n < 2147483648) : gM yJ0_checkIndex_df160 wsJ0_checkIndex_df160 { frames := 1, cells := 0, slots := 0, locals := 22 } E B N v [.int (zI (k : Int)), .int (zI (n : Int))] (po0 N (fun ρ v' => ρ = none ∧ v = v')) := by
  refine x_met (nm := "checkIndex") (by decide +kernel) rfl (Nat.le_of_ble_eq_true rfl) rfl (fun Γ K KR hnL hnm => ?_)
  show XW Γ N v [(0, .int (zI (k : Int))), (1, .int (zI (n : Int)))] 0 0 0 []
  refine x_iload_n (pc := 0) 0 K rfl rfl dJ0_checkIndex_df160_0 ?_
  refine x_iload_n (pc := 1) 1 K rfl rfl dJ0_checkIndex_df160_1 ?_
  have go : ∀ w : Value, (w = .null ∨ ∃ t, w = .ref t) → XW Γ N v [(0, .int (zI (k : Int))), (1, .int (zI (n : Int)))] 0 0 5 [w, .int (zI (n : Int)), .int (zI (k : Int))] := by
    intro w hw
    refine x_callS2 (pc := 5) (As := [.int (zI (k : Int)), .int (zI (n : Int)), w]) (st := []) K (c_pchk hw hk hn) gJ0_checkIndex_df160_J3_checkIndex_8e157 rfl (na := 3) (by decide +kernel) rfl ⟨Nat.le_of_ble_eq_true rfl, Nat.le_of_ble_eq_true rfl⟩ rfl (Nat.le_of_ble_eq_true rfl) ⟨Nat.le_of_ble_eq_true rfl, Nat.le_of_ble_eq_true rfl⟩ dJ0_checkIndex_df160_5 (fun r N' w' hpo hN => ?_)
    obtain ⟨rfl, rfl, rfl⟩ := hpo
    refine x_pop (pc := 8) K rfl dJ0_checkIndex_df160_8 ?_
    refine x_vret (pc := 9) K KR (by omega) (Nat.le_of_ble_eq_true rfl) (Nat.le_of_ble_eq_true rfl) dJ0_checkIndex_df160_9 ?_
    exact ⟨rfl, rfl, rfl⟩
  exact x_getsQ (pc := 2) (idx := 1053) K (by decide +kernel) dJ0_checkIndex_df160_2 (go _ (Or.inl rfl)) (fun t => go _ (Or.inr ⟨t, rfl⟩))
theorem x_chr {i k : Nat} (hi : i < 9) (hk : k < xLen.getD i 0) : (((xByt.getD i []).getD k 0 &&& zI 255).toUInt32 % 65536).toInt32 = zI (xCh i k) ∧ narrow .char (.int (zI (xCh i k))) = .int (zI (xCh i k)) := by
  have h : ∀ i, i < 9 → ∀ k, k < xLen.getD i 0 → (((xByt.getD i []).getD k 0 &&& zI 255).toUInt32 % 65536).toInt32 = zI (xCh i k) ∧ narrow .char (.int (zI (xCh i k))) = .int (zI (xCh i k)) := by decide +kernel
  exact h i hi k hk
theorem xLen_31 {i : Nat} (hi : i < 9) : 4 ≤ xLen.getD i 0 ∧ xLen.getD i 0 ≤ 7 := by
  have h : ∀ i, i < 9 → 4 ≤ xLen.getD i 0 ∧ xLen.getD i 0 ≤ 7 := by decide +kernel
  exact h i hi
set_option maxRecDepth 100000 in
set_option maxHeartbeats 4000000 in
theorem c_lchar {E : XE} {B N : Nat} {v : Nat → va_E} {i k : Nat} (hi : i < 9) (hk : k < xLen.getD i 0) : gM yJ1_charAt_3b067 wsJ1_charAt_3b067 { frames := 2, cells := 0, slots := 0, locals := 43 } E B N v [.ref (E.2.2.2 i), .int (zI (k : Int))] (po0 N (fun ρ v' => ρ = some (.int (zI (xCh i k))) ∧ v = v')) := by
  have h7 := xLen_31 hi
  have hc := x_chr hi hk
  refine x_met (nm := "charAt") (by decide +kernel) rfl (Nat.le_of_ble_eq_true rfl) rfl (fun Γ K KR hnL hnm => ?_)
  show XW Γ N v [(0, .ref (E.2.2.2 i)), (1, .int (zI (k : Int)))] 0 0 0 []
  refine x_iload_n (pc := 0) 1 K rfl rfl dJ1_charAt_3b067_0 ?_
  refine x_aload_n (pc := 1) 0 K rfl rfl dJ1_charAt_3b067_1 ?_
  refine x_alenK (pc := 2) (i := i) K hi dJ1_charAt_3b067_2 ?_
  refine x_callS2 (pc := 3) (As := [.int (zI (k : Int)), .int (zI ((xLen.getD i 0 : Nat) : Int))]) (st := []) K (c_schk hk (by omega)) gJ1_charAt_3b067_J0_checkIndex_df160 rfl (na := 2) (by decide +kernel) rfl ⟨Nat.le_of_ble_eq_true rfl, Nat.le_of_ble_eq_true rfl⟩ rfl (Nat.le_of_ble_eq_true rfl) ⟨Nat.le_of_ble_eq_true rfl, Nat.le_of_ble_eq_true rfl⟩ dJ1_charAt_3b067_3 (fun r N' w' hpo hN => ?_)
  obtain ⟨rfl, rfl, rfl⟩ := hpo
  refine x_aload_n (pc := 6) 0 K rfl rfl dJ1_charAt_3b067_6 ?_
  refine x_iload_n (pc := 7) 1 K rfl rfl dJ1_charAt_3b067_7 ?_
  refine x_baldK (pc := 8) (i := i) K hi hk (by omega) dJ1_charAt_3b067_8 ?_
  refine x_sipush (pc := 9) K (by decide) dJ1_charAt_3b067_9 ?_
  refine x_iand (pc := 12) K dJ1_charAt_3b067_12 ?_
  refine x_i2c (pc := 13) K hc.1 dJ1_charAt_3b067_13 ?_
  refine x_nret (pc := 14) K KR (by omega) (Nat.le_of_ble_eq_true rfl) (Nat.le_of_ble_eq_true rfl) hc.2 dJ1_charAt_3b067_14 ?_
  exact ⟨rfl, rfl, rfl⟩
set_option maxRecDepth 100000 in
set_option maxHeartbeats 4000000 in
theorem c_schar {E : XE} {B N : Nat} {v : Nat → va_E} {i k : Nat} (hi : i < 9) (hk : k < xLen.getD i 0) : gM yJ0_charAt_5068e wsJ0_charAt_5068e { frames := 3, cells := 0, slots := 0, locals := 64 } E B N v [.ref (E.2.2.1 i), .int (zI (k : Int))] (po0 N (fun ρ v' => ρ = some (.int (zI (xCh i k))) ∧ v = v')) := by
  have hc := x_chr hi hk
  refine x_met (nm := "charAt") (by decide +kernel) rfl (Nat.le_of_ble_eq_true rfl) rfl (fun Γ K KR hnL hnm => ?_)
  show XW Γ N v [(0, .ref (E.2.2.1 i)), (1, .int (zI (k : Int)))] 0 0 0 []
  refine x_aload_n (pc := 0) 0 K rfl rfl dJ0_charAt_5068e_0 ?_
  refine x_callK (pc := 1) (i := i) (As := []) (st := []) K hi (c_isLatin1 hi) gJ0_charAt_5068e_J0_isLatin1_aae02 rfl (na := 0) (by decide +kernel) rfl ⟨Nat.le_of_ble_eq_true rfl, Nat.le_of_ble_eq_true rfl⟩ rfl (Nat.le_of_ble_eq_true rfl) ⟨Nat.le_of_ble_eq_true rfl, Nat.le_of_ble_eq_true rfl⟩ dJ0_charAt_5068e_1 (fun r N' w hpo hN => ?_)
  obtain ⟨rfl, rfl, rfl⟩ := hpo
  refine x_if_eq (pc := 4) (tgt := 16) K (by decide) dJ0_charAt_5068e_4 (by decide) (fun h => ?_) (fun h => ?_)
  · exact absurd h (by decide)
  refine x_aload_n (pc := 7) 0 K rfl rfl dJ0_charAt_5068e_7 ?_
  refine x_getV (pc := 8) (idx := 9) (i := i) K hi (by decide +kernel) dJ0_charAt_5068e_8 ?_
  refine x_iload_n (pc := 11) 1 K rfl rfl dJ0_charAt_5068e_11 ?_
  refine x_callS2 (pc := 12) (As := [.ref (E.2.2.2 i), .int (zI (k : Int))]) (st := []) K (c_lchar hi hk) gJ0_charAt_5068e_J1_charAt_3b067 rfl (na := 2) (by decide +kernel) rfl ⟨Nat.le_of_ble_eq_true rfl, Nat.le_of_ble_eq_true rfl⟩ rfl (Nat.le_of_ble_eq_true rfl) ⟨Nat.le_of_ble_eq_true rfl, Nat.le_of_ble_eq_true rfl⟩ dJ0_charAt_5068e_12 (fun r N' w' hpo hN => ?_)
  obtain ⟨rfl, rfl, rfl⟩ := hpo
  refine x_nret (pc := 15) K KR (by omega) (Nat.le_of_ble_eq_true rfl) (Nat.le_of_ble_eq_true rfl) hc.2 dJ0_charAt_5068e_15 ?_
  exact ⟨rfl, rfl, rfl⟩
