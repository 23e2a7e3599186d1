theorem dX12_init_0 : decode cX12_init 0 = .ok (.aload_n 0, 1) := by decide +kernel
theorem dX12_init_1 : decode cX12_init 1 = .ok (.invokespecial 1, 3) := by decide +kernel
theorem dX12_init_4 : decode cX12_init 4 = .ok (.aload_n 0, 1) := by decide +kernel
theorem dX12_init_5 : decode cX12_init 5 = .ok (.bipush 8, 2) := by decide +kernel
theorem dX12_init_7 : decode cX12_init 7 = .ok (.newarray .int, 2) := by decide +kernel
theorem dX12_init_9 : decode cX12_init 9 = .ok (.putfield 7, 3) := by decide +kernel
theorem dX12_init_12 : decode cX12_init 12 = .ok (.aload_n 0, 1) := by decide +kernel
theorem dX12_init_13 : decode cX12_init 13 = .ok (.bipush 8, 2) := by decide +kernel
theorem dX12_init_15 : decode cX12_init 15 = .ok (.newarray .int, 2) := by decide +kernel
theorem dX12_init_17 : decode cX12_init 17 = .ok (.putfield 13, 3) := by decide +kernel
theorem dX12_init_20 : decode cX12_init 20 = .ok (.aload_n 0, 1) := by decide +kernel
theorem dX12_init_21 : decode cX12_init 21 = .ok (.sipush 320, 3) := by decide +kernel
theorem dX12_init_24 : decode cX12_init 24 = .ok (.newarray .int, 2) := by decide +kernel
theorem dX12_init_26 : decode cX12_init 26 = .ok (.putfield 16, 3) := by decide +kernel
theorem dX12_init_29 : decode cX12_init 29 = .ok (.aload_n 0, 1) := by decide +kernel
theorem dX12_init_30 : decode cX12_init 30 = .ok (.sipush 400, 3) := by decide +kernel
theorem dX12_init_33 : decode cX12_init 33 = .ok (.newarray .int, 2) := by decide +kernel
theorem dX12_init_35 : decode cX12_init 35 = .ok (.putfield 19, 3) := by decide +kernel
theorem dX12_init_38 : decode cX12_init 38 = .ok (.aload_n 0, 1) := by decide +kernel
theorem dX12_init_39 : decode cX12_init 39 = .ok (.sipush 138, 3) := by decide +kernel
theorem dX12_init_42 : decode cX12_init 42 = .ok (.newarray .int, 2) := by decide +kernel
theorem dX12_init_44 : decode cX12_init 44 = .ok (.putfield 22, 3) := by decide +kernel
theorem dX12_init_47 : decode cX12_init 47 = .ok (.aload_n 0, 1) := by decide +kernel
theorem dX12_init_48 : decode cX12_init 48 = .ok (.sipush 3312, 3) := by decide +kernel
theorem dX12_init_51 : decode cX12_init 51 = .ok (.newarray .int, 2) := by decide +kernel
theorem dX12_init_53 : decode cX12_init 53 = .ok (.putfield 25, 3) := by decide +kernel
theorem dX12_init_56 : decode cX12_init 56 = .ok (.aload_n 0, 1) := by decide +kernel
theorem dX12_init_57 : decode cX12_init 57 = .ok (.sipush 276, 3) := by decide +kernel
theorem dX12_init_60 : decode cX12_init 60 = .ok (.newarray .int, 2) := by decide +kernel
theorem dX12_init_62 : decode cX12_init 62 = .ok (.putfield 28, 3) := by decide +kernel
theorem dX12_init_65 : decode cX12_init 65 = .ok (.aload_n 0, 1) := by decide +kernel
theorem dX12_init_66 : decode cX12_init 66 = .ok (.iconst 2, 1) := by decide +kernel
theorem dX12_init_67 : decode cX12_init 67 = .ok (.newarray .boolean, 2) := by decide +kernel
theorem dX12_init_69 : decode cX12_init 69 = .ok (.putfield 31, 3) := by decide +kernel
theorem dX12_init_72 : decode cX12_init 72 = .ok (.aload_n 0, 1) := by decide +kernel
theorem dX12_init_73 : decode cX12_init 73 = .ok (.bipush 16, 2) := by decide +kernel
theorem dX12_init_75 : decode cX12_init 75 = .ok (.newarray .int, 2) := by decide +kernel
theorem dX12_init_77 : decode cX12_init 77 = .ok (.putfield 35, 3) := by decide +kernel
theorem dX12_init_80 : decode cX12_init 80 = .ok (.aload_n 0, 1) := by decide +kernel
theorem dX12_init_81 : decode cX12_init 81 = .ok (.sipush 138, 3) := by decide +kernel
theorem dX12_init_84 : decode cX12_init 84 = .ok (.newarray .int, 2) := by decide +kernel
theorem dX12_init_86 : decode cX12_init 86 = .ok (.putfield 38, 3) := by decide +kernel
theorem dX12_init_89 : decode cX12_init 89 = .ok (.aload_n 0, 1) := by decide +kernel
theorem dX12_init_90 : decode cX12_init 90 = .ok (.sipush 138, 3) := by decide +kernel
theorem dX12_init_93 : decode cX12_init 93 = .ok (.newarray .int, 2) := by decide +kernel
theorem dX12_init_95 : decode cX12_init 95 = .ok (.putfield 41, 3) := by decide +kernel
theorem dX12_init_98 : decode cX12_init 98 = .ok (.aload_n 0, 1) := by decide +kernel
theorem dX12_init_99 : decode cX12_init 99 = .ok (.sipush 138, 3) := by decide +kernel
theorem dX12_init_102 : decode cX12_init 102 = .ok (.newarray .int, 2) := by decide +kernel
theorem dX12_init_104 : decode cX12_init 104 = .ok (.putfield 44, 3) := by decide +kernel
theorem dX12_init_107 : decode cX12_init 107 = .ok (.iconst 0, 1) := by decide +kernel
theorem dX12_init_108 : decode cX12_init 108 = .ok (.istore_n 1, 1) := by decide +kernel
theorem dX12_init_109 : decode cX12_init 109 = .ok (.iload_n 1, 1) := by decide +kernel
theorem dX12_init_110 : decode cX12_init 110 = .ok (.bipush 8, 2) := by decide +kernel
theorem dX12_init_112 : decode cX12_init 112 = .ok (.if_icmp .ge 16, 3) := by decide +kernel
theorem dX12_init_128 : decode cX12_init 128 = .ok (.return_, 1) := by decide +kernel
theorem dX12_init_115 : decode cX12_init 115 = .ok (.aload_n 0, 1) := by decide +kernel
theorem dX12_init_116 : decode cX12_init 116 = .ok (.getfield 13, 3) := by decide +kernel
theorem dX12_init_119 : decode cX12_init 119 = .ok (.iload_n 1, 1) := by decide +kernel
theorem dX12_init_120 : decode cX12_init 120 = .ok (.iconst (-1), 1) := by decide +kernel
theorem dX12_init_121 : decode cX12_init 121 = .ok (.iastore, 1) := by decide +kernel
theorem dX12_init_122 : decode cX12_init 122 = .ok (.iinc 1 1, 3) := by decide +kernel
theorem dX12_init_125 : decode cX12_init 125 = .ok (.goto (-16), 3) := by decide +kernel
theorem dX12_ground_0 : decode cX12_ground 0 = .ok (.aload_n 0, 1) := by decide +kernel
theorem dX12_ground_1 : decode cX12_ground 1 = .ok (.aload_n 0, 1) := by decide +kernel
theorem dX12_ground_2 : decode cX12_ground 2 = .ok (.getfield 74, 3) := by decide +kernel
theorem dX12_ground_5 : decode cX12_ground 5 = .ok (.putfield 91, 3) := by decide +kernel
theorem dX12_ground_8 : decode cX12_ground 8 = .ok (.aload_n 0, 1) := by decide +kernel
theorem dX12_ground_9 : decode cX12_ground 9 = .ok (.iconst 0, 1) := by decide +kernel
theorem dX12_ground_10 : decode cX12_ground 10 = .ok (.putfield 74, 3) := by decide +kernel
theorem dX12_ground_13 : decode cX12_ground 13 = .ok (.aload_n 0, 1) := by decide +kernel
theorem dX12_ground_14 : decode cX12_ground 14 = .ok (.getfield 118, 3) := by decide +kernel
theorem dX12_ground_17 : decode cX12_ground 17 = .ok (.istore_n 1, 1) := by decide +kernel
theorem dX12_ground_18 : decode cX12_ground 18 = .ok (.aload_n 0, 1) := by decide +kernel
set_option maxRecDepth 20000 in
theorem ggX12_ground_X12_reads : GoodIn wsX12_ground wsX12_reads := goodIn_r _ [14, 8, 15, 16, 17, 18, 19, 20, 13, 21, 22, 23, 24, 25, 26, 27, 2, 28, 5, 29, 30, 31, 32, 33, 34, 35, 36, 37, 38, 39, 40, 41, 42, 43, 44, 45, 46, 3, 47, 48, 49, 50, 51, 52, 53, 54, 55, 56, 57, 58, 59, 60, 61, 62, 63, 64, 65, 66, 67, 68, 69, 70, 71, 72, 73, 74, 75, 76, 77, 78, 79, 80, 81, 82, 83, 84, 85, 86, 87, 88, 89, 90, 91, 95, 96, 97, 98, 99, 100, 101, 102, 103, 104, 105, 106, 107, 108, 109, 110, 111, 112, 113, 114, 115, 116, 117, 118, 119, 120] (by decide +kernel) (by decide +kernel)
set_option maxRecDepth 20000 in
theorem gX12_ground_X12_reads : GoodIn wsX12_ground (wsV RX12 182 RX12 yX12_reads wsX12_reads) := goodIn_app (goodIn_of _ (by decide +kernel)) ggX12_ground_X12_reads
theorem dX12_ground_19 : decode cX12_ground 19 = .ok (.invokevirtual 182, 3) := by decide +kernel
theorem dX12_ground_22 : decode cX12_ground 22 = .ok (.ifCond .ne 11, 3) := by decide +kernel
theorem dX12_ground_33 : decode cX12_ground 33 = .ok (.aload_n 0, 1) := by decide +kernel
theorem dX12_ground_34 : decode cX12_ground 34 = .ok (.iload_n 1, 1) := by decide +kernel
theorem dX12_ground_35 : decode cX12_ground 35 = .ok (.putfield 118, 3) := by decide +kernel
theorem dX12_ground_38 : decode cX12_ground 38 = .ok (.aload_n 0, 1) := by decide +kernel
theorem dX12_ground_39 : decode cX12_ground 39 = .ok (.iconst 1, 1) := by decide +kernel
theorem dX12_ground_40 : decode cX12_ground 40 = .ok (.putfield 186, 3) := by decide +kernel
theorem dX12_ground_43 : decode cX12_ground 43 = .ok (.aload_n 0, 1) := by decide +kernel
theorem dX12_ground_44 : decode cX12_ground 44 = .ok (.iconst 0, 1) := by decide +kernel
theorem dX12_ground_45 : decode cX12_ground 45 = .ok (.putfield 190, 3) := by decide +kernel
theorem dX12_ground_48 : decode cX12_ground 48 = .ok (.aload_n 0, 1) := by decide +kernel
theorem dX12_ground_49 : decode cX12_ground 49 = .ok (.getfield 38, 3) := by decide +kernel
theorem dX12_ground_52 : decode cX12_ground 52 = .ok (.iconst 0, 1) := by decide +kernel
theorem dX12_ground_53 : decode cX12_ground 53 = .ok (.aload_n 0, 1) := by decide +kernel
theorem dX12_ground_54 : decode cX12_ground 54 = .ok (.getfield 22, 3) := by decide +kernel
theorem dX12_ground_57 : decode cX12_ground 57 = .ok (.iconst 0, 1) := by decide +kernel
set_option maxRecDepth 20000 in
theorem ggX12_ground_X12_copies : GoodIn wsX12_ground wsX12_copies := goodIn_r _ [94] (by decide +kernel) (by decide +kernel)
set_option maxRecDepth 20000 in
theorem gX12_ground_X12_copies : GoodIn wsX12_ground (va_wsS RX12 193 yX12_copies wsX12_copies) := goodIn_app (goodIn_of _ (by decide +kernel)) ggX12_ground_X12_copies
theorem dX12_ground_58 : decode cX12_ground 58 = .ok (.invokestatic 193, 3) := by decide +kernel
theorem dX12_ground_61 : decode cX12_ground 61 = .ok (.aload_n 0, 1) := by decide +kernel
theorem dX12_ground_62 : decode cX12_ground 62 = .ok (.getfield 22, 3) := by decide +kernel
theorem dX12_ground_65 : decode cX12_ground 65 = .ok (.iconst 4, 1) := by decide +kernel
theorem dX12_ground_66 : decode cX12_ground 66 = .ok (.iaload, 1) := by decide +kernel
theorem dX12_ground_67 : decode cX12_ground 67 = .ok (.ireturn, 1) := by decide +kernel
theorem dX12_ground_25 : decode cX12_ground 25 = .ok (.ldc 185, 2) := by decide +kernel
theorem dX12_ground_27 : decode cX12_ground 27 = .ok (.aload_n 0, 1) := by decide +kernel
theorem dX12_ground_28 : decode cX12_ground 28 = .ok (.getfield 94, 3) := by decide +kernel
theorem dX12_ground_31 : decode cX12_ground 31 = .ok (.isub, 1) := by decide +kernel
theorem dX12_ground_32 : decode cX12_ground 32 = .ok (.ireturn, 1) := by decide +kernel
set_option maxRecDepth 100000 in
set_option maxHeartbeats 4000000 in
theorem c_X12_init {E : XE} {B : Nat} {v : Nat → va_E}  (hc0 : Cel 162 v 161 (.inr (11, [.null, .null, .null, .int (zI 0), .null, .int (zI 0), .int (zI 0), .int (zI 0), .null, .int (zI 0), .null, .null, .null, .int (zI 0), .null, .int (zI 0), .int (zI 0), .int (zI 0), .long (zL 0), .int (zI 0), .null, .int (zI 0), .int (zI 0), .null, .null, .int (zI 0)]))) : gM yX12_init wsX12_init ({ frames := 1, cells := 12, slots := 4894, locals := 12 }) E B 162 v [.ref (B + 161)] (fun ρ N' v' => N' = 174 ∧ ρ = none ∧ (va_up (va_up (va_up (va_up (va_up (va_up (va_up (va_up (va_up (va_up (va_up (va_up (va_up v 161 (oM B (fun _ => (0 : Int)) 0)) 162 (iarr E 8 (fun _ => (0 : Int)))) 163 (iarr E 8 (fun _ => (-1 : Int)))) 164 (iarr E 320 (fun _ => (0 : Int)))) 165 (iarr E 400 (fun _ => (0 : Int)))) 166 (iarr E 138 (fun _ => (0 : Int)))) 167 (iarr E 3312 (fun _ => (0 : Int)))) 168 (iarr E 276 (fun _ => (0 : Int)))) 169 (barr E 2 (fun _ => (0 : Int)))) 170 (iarr E 16 (fun _ => (0 : Int)))) 171 (iarr E 138 (fun _ => (0 : Int)))) 172 (iarr E 138 (fun _ => (0 : Int)))) 173 (iarr E 138 (fun _ => (0 : Int)))) = v') := by
  refine x_met (nm := "<init>") (by decide +kernel) rfl (Nat.le_of_ble_eq_true rfl) rfl (fun Γ K KR hnL hnm => ?_)
  show XW Γ 162 v [(0, .ref (B + 161))] 0 0 0 []
  refine x_v (cel_pad hc0) ?_
  refine x_aload_n (pc := 0) 0 K rfl rfl dX12_init_0 ?_
  refine x_objInit (nL9 := 0) (pc := 1) (idx := 1) K (by decide +kernel) (by decide +kernel) (by decide +kernel) (Nat.le_of_ble_eq_true rfl) (Nat.le_of_ble_eq_true rfl) dX12_init_1 ?_
  refine x_aload_n (pc := 4) 0 K rfl rfl dX12_init_4 ?_
  refine x_bipush (pc := 5) K (by decide) dX12_init_5 ?_
  refine x_newa_iarr (pc := 7) 8 K (by decide +kernel) rfl (by decide) (Nat.le_of_ble_eq_true rfl) (Nat.le_of_ble_eq_true rfl) dX12_init_7 ?_
  refine x_N (M := 163) rfl ?_
  refine x_putF (pc := 9) (C := RX12) (T := TX12) (n := 26) (ci := 11) (idx := 7) (ref := "BorderBedsModel") (ty := .array .int)  K (cel_ne (cel_self (Nat.lt_of_lt_of_le hc0.1 (by omega))) (by decide)) rfl (by decide +kernel) tyX12 tyX12_ok nmX12 0 (by decide) (by decide +kernel) rfl rfl hnm rfl (by decide +kernel) rfl rfl (Nat.le_of_ble_eq_true rfl) dX12_init_9 ?_
  refine x_v (w := (va_up (va_up v 161 (.inr (11, [.ref (B + 162), .null, .null, .int (zI 0), .null, .int (zI 0), .int (zI 0), .int (zI 0), .null, .int (zI 0), .null, .null, .null, .int (zI 0), .null, .int (zI 0), .int (zI 0), .int (zI 0), .long (zL 0), .int (zI 0), .null, .int (zI 0), .int (zI 0), .null, .null, .int (zI 0)]))) 162 (iarr E 8 (fun _ => 0)))) (up_at1 (by decide)).symm ?_
  refine x_aload_n (pc := 12) 0 K rfl rfl dX12_init_12 ?_
  refine x_bipush (pc := 13) K (by decide) dX12_init_13 ?_
  refine x_newa_iarr (pc := 15) 8 K (by decide +kernel) rfl (by decide) (Nat.le_of_ble_eq_true rfl) (Nat.le_of_ble_eq_true rfl) dX12_init_15 ?_
  refine x_N (M := 164) rfl ?_
  refine x_putF (pc := 17) (C := RX12) (T := TX12) (n := 26) (ci := 11) (idx := 13) (ref := "BorderBedsModel") (ty := .array .int)  K (cel_ne (cel_ne (cel_self (Nat.lt_of_lt_of_le hc0.1 (by omega))) (by decide)) (by decide)) rfl (by decide +kernel) tyX12 tyX12_ok nmX12 1 (by decide) (by decide +kernel) rfl rfl hnm rfl (by decide +kernel) rfl rfl (Nat.le_of_ble_eq_true rfl) dX12_init_17 ?_
  refine x_v (w := (va_up (va_up (va_up v 161 (.inr (11, [.ref (B + 162), .ref (B + 163), .null, .int (zI 0), .null, .int (zI 0), .int (zI 0), .int (zI 0), .null, .int (zI 0), .null, .null, .null, .int (zI 0), .null, .int (zI 0), .int (zI 0), .int (zI 0), .long (zL 0), .int (zI 0), .null, .int (zI 0), .int (zI 0), .null, .null, .int (zI 0)]))) 162 (iarr E 8 (fun _ => 0))) 163 (iarr E 8 (fun _ => 0)))) (up_at2 (by decide) (by decide)).symm ?_
  refine x_aload_n (pc := 20) 0 K rfl rfl dX12_init_20 ?_
  refine x_sipush (pc := 21) K (by decide) dX12_init_21 ?_
  refine x_newa_iarr (pc := 24) 320 K (by decide +kernel) rfl (by decide) (Nat.le_of_ble_eq_true rfl) (Nat.le_of_ble_eq_true rfl) dX12_init_24 ?_
  refine x_N (M := 165) rfl ?_
  refine x_putF (pc := 26) (C := RX12) (T := TX12) (n := 26) (ci := 11) (idx := 16) (ref := "BorderBedsModel") (ty := .array .int)  K (cel_ne (cel_ne (cel_ne (cel_self (Nat.lt_of_lt_of_le hc0.1 (by omega))) (by decide)) (by decide)) (by decide)) rfl (by decide +kernel) tyX12 tyX12_ok nmX12 2 (by decide) (by decide +kernel) rfl rfl hnm rfl (by decide +kernel) rfl rfl (Nat.le_of_ble_eq_true rfl) dX12_init_26 ?_
  refine x_v (w := (va_up (va_up (va_up (va_up v 161 (.inr (11, [.ref (B + 162), .ref (B + 163), .ref (B + 164), .int (zI 0), .null, .int (zI 0), .int (zI 0), .int (zI 0), .null, .int (zI 0), .null, .null, .null, .int (zI 0), .null, .int (zI 0), .int (zI 0), .int (zI 0), .long (zL 0), .int (zI 0), .null, .int (zI 0), .int (zI 0), .null, .null, .int (zI 0)]))) 162 (iarr E 8 (fun _ => 0))) 163 (iarr E 8 (fun _ => 0))) 164 (iarr E 320 (fun _ => 0)))) (up_at3 (by decide) (by decide) (by decide)).symm ?_
  refine x_aload_n (pc := 29) 0 K rfl rfl dX12_init_29 ?_
  refine x_sipush (pc := 30) K (by decide) dX12_init_30 ?_
  refine x_newa_iarr (pc := 33) 400 K (by decide +kernel) rfl (by decide) (Nat.le_of_ble_eq_true rfl) (Nat.le_of_ble_eq_true rfl) dX12_init_33 ?_
  refine x_N (M := 166) rfl ?_
  refine x_putF (pc := 35) (C := RX12) (T := TX12) (n := 26) (ci := 11) (idx := 19) (ref := "BorderBedsModel") (ty := .array .int)  K (cel_ne (cel_ne (cel_ne (cel_ne (cel_self (Nat.lt_of_lt_of_le hc0.1 (by omega))) (by decide)) (by decide)) (by decide)) (by decide)) rfl (by decide +kernel) tyX12 tyX12_ok nmX12 4 (by decide) (by decide +kernel) rfl rfl hnm rfl (by decide +kernel) rfl rfl (Nat.le_of_ble_eq_true rfl) dX12_init_35 ?_
  refine x_v (w := (va_up (va_up (va_up (va_up (va_up v 161 (.inr (11, [.ref (B + 162), .ref (B + 163), .ref (B + 164), .int (zI 0), .ref (B + 165), .int (zI 0), .int (zI 0), .int (zI 0), .null, .int (zI 0), .null, .null, .null, .int (zI 0), .null, .int (zI 0), .int (zI 0), .int (zI 0), .long (zL 0), .int (zI 0), .null, .int (zI 0), .int (zI 0), .null, .null, .int (zI 0)]))) 162 (iarr E 8 (fun _ => 0))) 163 (iarr E 8 (fun _ => 0))) 164 (iarr E 320 (fun _ => 0))) 165 (iarr E 400 (fun _ => 0)))) (up_at4 (by decide) (by decide) (by decide) (by decide)).symm ?_
  refine x_aload_n (pc := 38) 0 K rfl rfl dX12_init_38 ?_
  refine x_sipush (pc := 39) K (by decide) dX12_init_39 ?_
  refine x_newa_iarr (pc := 42) 138 K (by decide +kernel) rfl (by decide) (Nat.le_of_ble_eq_true rfl) (Nat.le_of_ble_eq_true rfl) dX12_init_42 ?_
  refine x_N (M := 167) rfl ?_
  refine x_putF (pc := 44) (C := RX12) (T := TX12) (n := 26) (ci := 11) (idx := 22) (ref := "BorderBedsModel") (ty := .array .int)  K (cel_ne (cel_ne (cel_ne (cel_ne (cel_ne (cel_self (Nat.lt_of_lt_of_le hc0.1 (by omega))) (by decide)) (by decide)) (by decide)) (by decide)) (by decide)) rfl (by decide +kernel) tyX12 tyX12_ok nmX12 8 (by decide) (by decide +kernel) rfl rfl hnm rfl (by decide +kernel) rfl rfl (Nat.le_of_ble_eq_true rfl) dX12_init_44 ?_
  refine x_v (w := (va_up (va_up (va_up (va_up (va_up (va_up v 161 (.inr (11, [.ref (B + 162), .ref (B + 163), .ref (B + 164), .int (zI 0), .ref (B + 165), .int (zI 0), .int (zI 0), .int (zI 0), .ref (B + 166), .int (zI 0), .null, .null, .null, .int (zI 0), .null, .int (zI 0), .int (zI 0), .int (zI 0), .long (zL 0), .int (zI 0), .null, .int (zI 0), .int (zI 0), .null, .null, .int (zI 0)]))) 162 (iarr E 8 (fun _ => 0))) 163 (iarr E 8 (fun _ => 0))) 164 (iarr E 320 (fun _ => 0))) 165 (iarr E 400 (fun _ => 0))) 166 (iarr E 138 (fun _ => 0)))) (up_at5 (by decide) (by decide) (by decide) (by decide) (by decide)).symm ?_
  refine x_aload_n (pc := 47) 0 K rfl rfl dX12_init_47 ?_
  refine x_sipush (pc := 48) K (by decide) dX12_init_48 ?_
  refine x_newa_iarr (pc := 51) 3312 K (by decide +kernel) rfl (by decide) (Nat.le_of_ble_eq_true rfl) (Nat.le_of_ble_eq_true rfl) dX12_init_51 ?_
  refine x_N (M := 168) rfl ?_
  refine x_putF (pc := 53) (C := RX12) (T := TX12) (n := 26) (ci := 11) (idx := 25) (ref := "BorderBedsModel") (ty := .array .int)  K (cel_ne (cel_ne (cel_ne (cel_ne (cel_ne (cel_ne (cel_self (Nat.lt_of_lt_of_le hc0.1 (by omega))) (by decide)) (by decide)) (by decide)) (by decide)) (by decide)) (by decide)) rfl (by decide +kernel) tyX12 tyX12_ok nmX12 10 (by decide) (by decide +kernel) rfl rfl hnm rfl (by decide +kernel) rfl rfl (Nat.le_of_ble_eq_true rfl) dX12_init_53 ?_
  refine x_v (w := (va_up (va_up (va_up (va_up (va_up (va_up (va_up v 161 (.inr (11, [.ref (B + 162), .ref (B + 163), .ref (B + 164), .int (zI 0), .ref (B + 165), .int (zI 0), .int (zI 0), .int (zI 0), .ref (B + 166), .int (zI 0), .ref (B + 167), .null, .null, .int (zI 0), .null, .int (zI 0), .int (zI 0), .int (zI 0), .long (zL 0), .int (zI 0), .null, .int (zI 0), .int (zI 0), .null, .null, .int (zI 0)]))) 162 (iarr E 8 (fun _ => 0))) 163 (iarr E 8 (fun _ => 0))) 164 (iarr E 320 (fun _ => 0))) 165 (iarr E 400 (fun _ => 0))) 166 (iarr E 138 (fun _ => 0))) 167 (iarr E 3312 (fun _ => 0)))) (up_at6 (by decide) (by decide) (by decide) (by decide) (by decide) (by decide)).symm ?_
  refine x_aload_n (pc := 56) 0 K rfl rfl dX12_init_56 ?_
  refine x_sipush (pc := 57) K (by decide) dX12_init_57 ?_
  refine x_newa_iarr (pc := 60) 276 K (by decide +kernel) rfl (by decide) (Nat.le_of_ble_eq_true rfl) (Nat.le_of_ble_eq_true rfl) dX12_init_60 ?_
  refine x_N (M := 169) rfl ?_
  refine x_putF (pc := 62) (C := RX12) (T := TX12) (n := 26) (ci := 11) (idx := 28) (ref := "BorderBedsModel") (ty := .array .int)  K (cel_ne (cel_ne (cel_ne (cel_ne (cel_ne (cel_ne (cel_ne (cel_self (Nat.lt_of_lt_of_le hc0.1 (by omega))) (by decide)) (by decide)) (by decide)) (by decide)) (by decide)) (by decide)) (by decide)) rfl (by decide +kernel) tyX12 tyX12_ok nmX12 11 (by decide) (by decide +kernel) rfl rfl hnm rfl (by decide +kernel) rfl rfl (Nat.le_of_ble_eq_true rfl) dX12_init_62 ?_
  refine x_v (w := (va_up (va_up (va_up (va_up (va_up (va_up (va_up (va_up v 161 (.inr (11, [.ref (B + 162), .ref (B + 163), .ref (B + 164), .int (zI 0), .ref (B + 165), .int (zI 0), .int (zI 0), .int (zI 0), .ref (B + 166), .int (zI 0), .ref (B + 167), .ref (B + 168), .null, .int (zI 0), .null, .int (zI 0), .int (zI 0), .int (zI 0), .long (zL 0), .int (zI 0), .null, .int (zI 0), .int (zI 0), .null, .null, .int (zI 0)]))) 162 (iarr E 8 (fun _ => 0))) 163 (iarr E 8 (fun _ => 0))) 164 (iarr E 320 (fun _ => 0))) 165 (iarr E 400 (fun _ => 0))) 166 (iarr E 138 (fun _ => 0))) 167 (iarr E 3312 (fun _ => 0))) 168 (iarr E 276 (fun _ => 0)))) (up_at7 (by decide) (by decide) (by decide) (by decide) (by decide) (by decide) (by decide)).symm ?_
  refine x_aload_n (pc := 65) 0 K rfl rfl dX12_init_65 ?_
  refine x_iconst (pc := 66) K dX12_init_66 ?_
  refine x_newa_barr (pc := 67) 2 K (by decide +kernel) rfl (by decide) (Nat.le_of_ble_eq_true rfl) (Nat.le_of_ble_eq_true rfl) dX12_init_67 ?_
  refine x_N (M := 170) rfl ?_
  refine x_putF (pc := 69) (C := RX12) (T := TX12) (n := 26) (ci := 11) (idx := 31) (ref := "BorderBedsModel") (ty := .array .boolean)  K (cel_ne (cel_ne (cel_ne (cel_ne (cel_ne (cel_ne (cel_ne (cel_ne (cel_self (Nat.lt_of_lt_of_le hc0.1 (by omega))) (by decide)) (by decide)) (by decide)) (by decide)) (by decide)) (by decide)) (by decide)) (by decide)) rfl (by decide +kernel) tyX12 tyX12_ok nmX12 12 (by decide) (by decide +kernel) rfl rfl hnm rfl (by decide +kernel) rfl rfl (Nat.le_of_ble_eq_true rfl) dX12_init_69 ?_
  refine x_v (w := (va_up (va_up (va_up (va_up (va_up (va_up (va_up (va_up (va_up v 161 (.inr (11, [.ref (B + 162), .ref (B + 163), .ref (B + 164), .int (zI 0), .ref (B + 165), .int (zI 0), .int (zI 0), .int (zI 0), .ref (B + 166), .int (zI 0), .ref (B + 167), .ref (B + 168), .ref (B + 169), .int (zI 0), .null, .int (zI 0), .int (zI 0), .int (zI 0), .long (zL 0), .int (zI 0), .null, .int (zI 0), .int (zI 0), .null, .null, .int (zI 0)]))) 162 (iarr E 8 (fun _ => 0))) 163 (iarr E 8 (fun _ => 0))) 164 (iarr E 320 (fun _ => 0))) 165 (iarr E 400 (fun _ => 0))) 166 (iarr E 138 (fun _ => 0))) 167 (iarr E 3312 (fun _ => 0))) 168 (iarr E 276 (fun _ => 0))) 169 (barr E 2 (fun _ => 0)))) (up_at8 (by decide) (by decide) (by decide) (by decide) (by decide) (by decide) (by decide) (by decide)).symm ?_
  refine x_aload_n (pc := 72) 0 K rfl rfl dX12_init_72 ?_
  refine x_bipush (pc := 73) K (by decide) dX12_init_73 ?_
  refine x_newa_iarr (pc := 75) 16 K (by decide +kernel) rfl (by decide) (Nat.le_of_ble_eq_true rfl) (Nat.le_of_ble_eq_true rfl) dX12_init_75 ?_
  refine x_N (M := 171) rfl ?_
  refine x_putF (pc := 77) (C := RX12) (T := TX12) (n := 26) (ci := 11) (idx := 35) (ref := "BorderBedsModel") (ty := .array .int)  K (cel_ne (cel_ne (cel_ne (cel_ne (cel_ne (cel_ne (cel_ne (cel_ne (cel_ne (cel_self (Nat.lt_of_lt_of_le hc0.1 (by omega))) (by decide)) (by decide)) (by decide)) (by decide)) (by decide)) (by decide)) (by decide)) (by decide)) (by decide)) rfl (by decide +kernel) tyX12 tyX12_ok nmX12 14 (by decide) (by decide +kernel) rfl rfl hnm rfl (by decide +kernel) rfl rfl (Nat.le_of_ble_eq_true rfl) dX12_init_77 ?_
  refine x_v (w := (va_up (va_up (va_up (va_up (va_up (va_up (va_up (va_up (va_up (va_up v 161 (.inr (11, [.ref (B + 162), .ref (B + 163), .ref (B + 164), .int (zI 0), .ref (B + 165), .int (zI 0), .int (zI 0), .int (zI 0), .ref (B + 166), .int (zI 0), .ref (B + 167), .ref (B + 168), .ref (B + 169), .int (zI 0), .ref (B + 170), .int (zI 0), .int (zI 0), .int (zI 0), .long (zL 0), .int (zI 0), .null, .int (zI 0), .int (zI 0), .null, .null, .int (zI 0)]))) 162 (iarr E 8 (fun _ => 0))) 163 (iarr E 8 (fun _ => 0))) 164 (iarr E 320 (fun _ => 0))) 165 (iarr E 400 (fun _ => 0))) 166 (iarr E 138 (fun _ => 0))) 167 (iarr E 3312 (fun _ => 0))) 168 (iarr E 276 (fun _ => 0))) 169 (barr E 2 (fun _ => 0))) 170 (iarr E 16 (fun _ => 0)))) (up_at9 (by decide) (by decide) (by decide) (by decide) (by decide) (by decide) (by decide) (by decide) (by decide)).symm ?_
  refine x_aload_n (pc := 80) 0 K rfl rfl dX12_init_80 ?_
  refine x_sipush (pc := 81) K (by decide) dX12_init_81 ?_
  refine x_newa_iarr (pc := 84) 138 K (by decide +kernel) rfl (by decide) (Nat.le_of_ble_eq_true rfl) (Nat.le_of_ble_eq_true rfl) dX12_init_84 ?_
  refine x_N (M := 172) rfl ?_
  refine x_putF (pc := 86) (C := RX12) (T := TX12) (n := 26) (ci := 11) (idx := 38) (ref := "BorderBedsModel") (ty := .array .int)  K (cel_ne (cel_ne (cel_ne (cel_ne (cel_ne (cel_ne (cel_ne (cel_ne (cel_ne (cel_ne (cel_self (Nat.lt_of_lt_of_le hc0.1 (by omega))) (by decide)) (by decide)) (by decide)) (by decide)) (by decide)) (by decide)) (by decide)) (by decide)) (by decide)) (by decide)) rfl (by decide +kernel) tyX12 tyX12_ok nmX12 20 (by decide) (by decide +kernel) rfl rfl hnm rfl (by decide +kernel) rfl rfl (Nat.le_of_ble_eq_true rfl) dX12_init_86 ?_
  refine x_v (w := (va_up (va_up (va_up (va_up (va_up (va_up (va_up (va_up (va_up (va_up (va_up v 161 (.inr (11, [.ref (B + 162), .ref (B + 163), .ref (B + 164), .int (zI 0), .ref (B + 165), .int (zI 0), .int (zI 0), .int (zI 0), .ref (B + 166), .int (zI 0), .ref (B + 167), .ref (B + 168), .ref (B + 169), .int (zI 0), .ref (B + 170), .int (zI 0), .int (zI 0), .int (zI 0), .long (zL 0), .int (zI 0), .ref (B + 171), .int (zI 0), .int (zI 0), .null, .null, .int (zI 0)]))) 162 (iarr E 8 (fun _ => 0))) 163 (iarr E 8 (fun _ => 0))) 164 (iarr E 320 (fun _ => 0))) 165 (iarr E 400 (fun _ => 0))) 166 (iarr E 138 (fun _ => 0))) 167 (iarr E 3312 (fun _ => 0))) 168 (iarr E 276 (fun _ => 0))) 169 (barr E 2 (fun _ => 0))) 170 (iarr E 16 (fun _ => 0))) 171 (iarr E 138 (fun _ => 0)))) (up_at10 (by decide) (by decide) (by decide) (by decide) (by decide) (by decide) (by decide) (by decide) (by decide) (by decide)).symm ?_
  refine x_aload_n (pc := 89) 0 K rfl rfl dX12_init_89 ?_
  refine x_sipush (pc := 90) K (by decide) dX12_init_90 ?_
  refine x_newa_iarr (pc := 93) 138 K (by decide +kernel) rfl (by decide) (Nat.le_of_ble_eq_true rfl) (Nat.le_of_ble_eq_true rfl) dX12_init_93 ?_
  refine x_N (M := 173) rfl ?_
  refine x_putF (pc := 95) (C := RX12) (T := TX12) (n := 26) (ci := 11) (idx := 41) (ref := "BorderBedsModel") (ty := .array .int)  K (cel_ne (cel_ne (cel_ne (cel_ne (cel_ne (cel_ne (cel_ne (cel_ne (cel_ne (cel_ne (cel_ne (cel_self (Nat.lt_of_lt_of_le hc0.1 (by omega))) (by decide)) (by decide)) (by decide)) (by decide)) (by decide)) (by decide)) (by decide)) (by decide)) (by decide)) (by decide)) (by decide)) rfl (by decide +kernel) tyX12 tyX12_ok nmX12 23 (by decide) (by decide +kernel) rfl rfl hnm rfl (by decide +kernel) rfl rfl (Nat.le_of_ble_eq_true rfl) dX12_init_95 ?_
  refine x_v (w := (va_up (va_up (va_up (va_up (va_up (va_up (va_up (va_up (va_up (va_up (va_up (va_up v 161 (.inr (11, [.ref (B + 162), .ref (B + 163), .ref (B + 164), .int (zI 0), .ref (B + 165), .int (zI 0), .int (zI 0), .int (zI 0), .ref (B + 166), .int (zI 0), .ref (B + 167), .ref (B + 168), .ref (B + 169), .int (zI 0), .ref (B + 170), .int (zI 0), .int (zI 0), .int (zI 0), .long (zL 0), .int (zI 0), .ref (B + 171), .int (zI 0), .int (zI 0), .ref (B + 172), .null, .int (zI 0)]))) 162 (iarr E 8 (fun _ => 0))) 163 (iarr E 8 (fun _ => 0))) 164 (iarr E 320 (fun _ => 0))) 165 (iarr E 400 (fun _ => 0))) 166 (iarr E 138 (fun _ => 0))) 167 (iarr E 3312 (fun _ => 0))) 168 (iarr E 276 (fun _ => 0))) 169 (barr E 2 (fun _ => 0))) 170 (iarr E 16 (fun _ => 0))) 171 (iarr E 138 (fun _ => 0))) 172 (iarr E 138 (fun _ => 0)))) (up_at11 (by decide) (by decide) (by decide) (by decide) (by decide) (by decide) (by decide) (by decide) (by decide) (by decide) (by decide)).symm ?_
  refine x_aload_n (pc := 98) 0 K rfl rfl dX12_init_98 ?_
  refine x_sipush (pc := 99) K (by decide) dX12_init_99 ?_
  refine x_newa_iarr (pc := 102) 138 K (by decide +kernel) rfl (by decide) (Nat.le_of_ble_eq_true rfl) (Nat.le_of_ble_eq_true rfl) dX12_init_102 ?_
  refine x_N (M := 174) rfl ?_
  refine x_putF (pc := 104) (C := RX12) (T := TX12) (n := 26) (ci := 11) (idx := 44) (ref := "BorderBedsModel") (ty := .array .int)  K (cel_ne (cel_ne (cel_ne (cel_ne (cel_ne (cel_ne (cel_ne (cel_ne (cel_ne (cel_ne (cel_ne (cel_ne (cel_self (Nat.lt_of_lt_of_le hc0.1 (by omega))) (by decide)) (by decide)) (by decide)) (by decide)) (by decide)) (by decide)) (by decide)) (by decide)) (by decide)) (by decide)) (by decide)) (by decide)) rfl (by decide +kernel) tyX12 tyX12_ok nmX12 24 (by decide) (by decide +kernel) rfl rfl hnm rfl (by decide +kernel) rfl rfl (Nat.le_of_ble_eq_true rfl) dX12_init_104 ?_
  refine x_v (w := (va_up (va_up (va_up (va_up (va_up (va_up (va_up (va_up (va_up (va_up (va_up (va_up (va_up v 161 (.inr (11, [.ref (B + 162), .ref (B + 163), .ref (B + 164), .int (zI 0), .ref (B + 165), .int (zI 0), .int (zI 0), .int (zI 0), .ref (B + 166), .int (zI 0), .ref (B + 167), .ref (B + 168), .ref (B + 169), .int (zI 0), .ref (B + 170), .int (zI 0), .int (zI 0), .int (zI 0), .long (zL 0), .int (zI 0), .ref (B + 171), .int (zI 0), .int (zI 0), .ref (B + 172), .ref (B + 173), .int (zI 0)]))) 162 (iarr E 8 (fun _ => 0))) 163 (iarr E 8 (fun _ => 0))) 164 (iarr E 320 (fun _ => 0))) 165 (iarr E 400 (fun _ => 0))) 166 (iarr E 138 (fun _ => 0))) 167 (iarr E 3312 (fun _ => 0))) 168 (iarr E 276 (fun _ => 0))) 169 (barr E 2 (fun _ => 0))) 170 (iarr E 16 (fun _ => 0))) 171 (iarr E 138 (fun _ => 0))) 172 (iarr E 138 (fun _ => 0))) 173 (iarr E 138 (fun _ => 0)))) (up_at12 (by decide) (by decide) (by decide) (by decide) (by decide) (by decide) (by decide) (by decide) (by decide) (by decide) (by decide) (by decide)).symm ?_
  refine x_iconst (pc := 107) K dX12_init_107 ?_
  refine x_istore_n (pc := 108) K (L' := [(1, .int (zI 0)), (0, .ref (B + 161))]) hnL rfl (by decide) rfl dX12_init_108 ?_
  have LOOP109 : ∀ (n_109 : Nat) (k : Nat) (x : Nat → Int), (k ≤ 8) → (∀ q : Nat, q < k → x q = -1) → (8 - k) < n_109 → XW Γ 174 (va_up (va_up (va_up (va_up (va_up (va_up (va_up (va_up (va_up (va_up (va_up (va_up (va_up v 161 (.inr (11, [.ref (B + 162), .ref (B + 163), .ref (B + 164), .int (zI 0), .ref (B + 165), .int (zI 0), .int (zI 0), .int (zI 0), .ref (B + 166), .int (zI 0), .ref (B + 167), .ref (B + 168), .ref (B + 169), .int (zI 0), .ref (B + 170), .int (zI 0), .int (zI 0), .int (zI 0), .long (zL 0), .int (zI 0), .ref (B + 171), .int (zI 0), .int (zI 0), .ref (B + 172), .ref (B + 173), .int (zI 0)]))) 162 (iarr E 8 (fun _ => 0))) 163 (iarr E 8 x)) 164 (iarr E 320 (fun _ => 0))) 165 (iarr E 400 (fun _ => 0))) 166 (iarr E 138 (fun _ => 0))) 167 (iarr E 3312 (fun _ => 0))) 168 (iarr E 276 (fun _ => 0))) 169 (barr E 2 (fun _ => 0))) 170 (iarr E 16 (fun _ => 0))) 171 (iarr E 138 (fun _ => 0))) 172 (iarr E 138 (fun _ => 0))) 173 (iarr E 138 (fun _ => 0))) [(0, .ref (B + 161)), (1, .int (zI (k : Int)))] 12 4894 109 [] := by
    intro n_109
    induction n_109 with
    | zero =>
      intro k x hi109_0 hi109_1 hm_109
      exfalso; omega
    | succ n_109 ih109 =>
      intro k x hi109_0 hi109_1 hm_109
      refine x_iload_n (pc := 109) 1 K rfl rfl dX12_init_109 ?_
      refine x_bipush (pc := 110) K (by decide) dX12_init_110 ?_
      refine x_icmp_ge (pc := 112) (tgt := 128) K (by omega) (by decide) dX12_init_112 (by decide) (fun h_112 => ?_) (fun h_112 => ?_)
      · skip
        have hk8 : k = 8 := by omega
        rw [hk8] at hi109_1
        refine x_iext (c := 163) (g' := (fun _ => (-1 : Int))) K (cel_ne (cel_ne (cel_ne (cel_ne (cel_ne (cel_ne (cel_ne (cel_ne (cel_ne (cel_ne (cel_self (by omega)) (by decide)) (by decide)) (by decide)) (by decide)) (by decide)) (by decide)) (by decide)) (by decide)) (by decide)) (by decide)) (fun j hj => (hi109_1 j hj).symm) ?_
        refine x_v (w := (va_up (va_up (va_up (va_up (va_up (va_up (va_up (va_up (va_up (va_up (va_up (va_up (va_up v 161 (.inr (11, [.ref (B + 162), .ref (B + 163), .ref (B + 164), .int (zI 0), .ref (B + 165), .int (zI 0), .int (zI 0), .int (zI 0), .ref (B + 166), .int (zI 0), .ref (B + 167), .ref (B + 168), .ref (B + 169), .int (zI 0), .ref (B + 170), .int (zI 0), .int (zI 0), .int (zI 0), .long (zL 0), .int (zI 0), .ref (B + 171), .int (zI 0), .int (zI 0), .ref (B + 172), .ref (B + 173), .int (zI 0)]))) 162 (iarr E 8 (fun _ => 0))) 163 (iarr E 8 (fun _ => (-1 : Int)))) 164 (iarr E 320 (fun _ => 0))) 165 (iarr E 400 (fun _ => 0))) 166 (iarr E 138 (fun _ => 0))) 167 (iarr E 3312 (fun _ => 0))) 168 (iarr E 276 (fun _ => 0))) 169 (barr E 2 (fun _ => 0))) 170 (iarr E 16 (fun _ => 0))) 171 (iarr E 138 (fun _ => 0))) 172 (iarr E 138 (fun _ => 0))) 173 (iarr E 138 (fun _ => 0)))) (up_at10 (by decide) (by decide) (by decide) (by decide) (by decide) (by decide) (by decide) (by decide) (by decide) (by decide)).symm ?_
        refine x_vret (pc := 128) K KR (by omega) (Nat.le_of_ble_eq_true rfl) (Nat.le_of_ble_eq_true rfl) dX12_init_128 ?_
        exact ⟨rfl, rfl, rfl⟩
      · skip
        refine x_aload_n (pc := 115) 0 K rfl rfl dX12_init_115 ?_
        refine x_get (pc := 116) (C := RX12) (T := TX12) (n := 26) (ci := 11) (idx := 13) (ref := "BorderBedsModel") (x := .ref (B + 163))  K (cel_ne (cel_ne (cel_ne (cel_ne (cel_ne (cel_ne (cel_ne (cel_ne (cel_ne (cel_ne (cel_ne (cel_ne (cel_self (Nat.lt_of_lt_of_le hc0.1 (by omega))) (by decide)) (by decide)) (by decide)) (by decide)) (by decide)) (by decide)) (by decide)) (by decide)) (by decide)) (by decide)) (by decide)) (by decide)) rfl (by decide +kernel) 1 (by decide) (by decide +kernel) rfl rfl dX12_init_116 ?_
        refine x_iload_n (pc := 119) 1 K rfl rfl dX12_init_119 ?_
        refine x_iconst (pc := 120) K dX12_init_120 ?_
        refine x_iast (pc := 121) k K (cel_ne (cel_ne (cel_ne (cel_ne (cel_ne (cel_ne (cel_ne (cel_ne (cel_ne (cel_ne (cel_self (by omega)) (by decide)) (by decide)) (by decide)) (by decide)) (by decide)) (by decide)) (by decide)) (by decide)) (by decide)) (by decide)) rfl (by omega) (by decide) dX12_init_121 ?_
        refine x_v (w := (va_up (va_up (va_up (va_up (va_up (va_up (va_up (va_up (va_up (va_up (va_up (va_up (va_up v 161 (.inr (11, [.ref (B + 162), .ref (B + 163), .ref (B + 164), .int (zI 0), .ref (B + 165), .int (zI 0), .int (zI 0), .int (zI 0), .ref (B + 166), .int (zI 0), .ref (B + 167), .ref (B + 168), .ref (B + 169), .int (zI 0), .ref (B + 170), .int (zI 0), .int (zI 0), .int (zI 0), .long (zL 0), .int (zI 0), .ref (B + 171), .int (zI 0), .int (zI 0), .ref (B + 172), .ref (B + 173), .int (zI 0)]))) 162 (iarr E 8 (fun _ => 0))) 163 (iarr E 8 (va_up x k (-1)))) 164 (iarr E 320 (fun _ => 0))) 165 (iarr E 400 (fun _ => 0))) 166 (iarr E 138 (fun _ => 0))) 167 (iarr E 3312 (fun _ => 0))) 168 (iarr E 276 (fun _ => 0))) 169 (barr E 2 (fun _ => 0))) 170 (iarr E 16 (fun _ => 0))) 171 (iarr E 138 (fun _ => 0))) 172 (iarr E 138 (fun _ => 0))) 173 (iarr E 138 (fun _ => 0)))) (up_at10 (by decide) (by decide) (by decide) (by decide) (by decide) (by decide) (by decide) (by decide) (by decide) (by decide)).symm ?_
        refine x_iinc (pc := 122) (L' := [(1, .int (zI ((k : Int) + 1))), (0, .ref (B + 161))]) 1 K hnL rfl (by decide) rfl dX12_init_122 ?_
        refine x_goto (pc := 125) (tgt := 109) K dX12_init_125 (by decide) ?_
        refine x_sub (L' := [(0, .ref (B + 161)), (1, .int (zI ((k : Int) + 1)))]) [1, 0] rfl ?_
        exact ih109 (k + 1) (va_up x k (-1)) (by omega) (by exact cfill_s hi109_1) (by omega)
  refine x_sub (L' := [(0, .ref (B + 161)), (1, .int (zI 0))]) [1, 0] rfl ?_
  exact LOOP109 (_) 0 (fun _ => 0) (by omega) (by exact fun q h => absurd h (Nat.not_lt_zero _)) (Nat.lt_succ_self _)

set_option maxRecDepth 100000 in
set_option maxHeartbeats 4000000 in
theorem c_X12_ground {E : XE} {B N : Nat} {v : Nat → va_E} {F t r a : Nat → Int} {V : Int} {n : Nat} (hc0 : Cel N v 161 (oM B F V)) (hc1 : Cel N v 165 (iarr E 400 t)) (hc2 : Cel N v 171 (iarr E 138 r)) (hc3 : Cel N v 166 (iarr E 138 a)) (hq0 : F 5 = (n : Int)) (hq1 : n ≤ 400) (hq2 : ∀ i : Nat, 0 ≤ t i ∧ t i ≤ 255) : gM yX12_ground wsX12_ground ({ frames := 7, cells := 0, slots := 0, locals := 151 }) E B N v [.ref (B + 161)] (po0 N (fun ρ v' => ∃ (res : Int), ∃ (F2 : Nat → Int), ∃ (V2 : Int), ∃ (r2 : Nat → Int), ∃ (a2 : Nat → Int), (F2 3 = F 3 ∧ F2 5 = 0 ∧ F2 13 = F 13) ∧ ((∃ x2 : Nat → Int, pAll t n = .ok x2 ∧ res = x2 4 ∧ F2 6 = F 6 ∧ F2 7 = 1 ∧ F2 9 = 0 ∧ a2 = cpI x2 a 0 0 138 ∧ rOk x2) ∨ (∃ (f2 : Int) (p2 : Nat), pAll t n = .error (f2, p2) ∧ res = -1000100 - (p2 : Int) ∧ F2 6 = f2 ∧ F2 7 = F 7 ∧ F2 9 = F 9 ∧ a2 = a ∧ p2 ≤ n)) ∧ ρ = some (.int (zI res)) ∧ (va_up (va_up (va_up v 161 (oM B F2 V2)) 171 (iarr E 138 r2)) 166 (iarr E 138 a2)) = v')) := by
  refine x_met (nm := "ground") (by decide +kernel) rfl (Nat.le_of_ble_eq_true rfl) rfl (fun Γ K KR hnL hnm => ?_)
  show XW Γ N v [(0, .ref (B + 161))] 0 0 0 []
  refine x_v (cel_pad hc0) ?_
  refine x_v (cel_pad (cel_ne hc2 (by decide))) ?_
  refine x_v (cel_pad (cel_ne (cel_ne hc3 (by decide)) (by decide))) ?_
  refine x_aload_n (pc := 0) 0 K rfl rfl dX12_ground_0 ?_
  refine x_aload_n (pc := 1) 0 K rfl rfl dX12_ground_1 ?_
  refine x_get (pc := 2) (C := RX12) (T := TX12) (n := 26) (ci := 11) (idx := 74) (ref := "BorderBedsModel") (x := .int (zI (F 5)))  K (cel_ne (cel_ne (cel_self hc0.1) (by decide)) (by decide)) rfl (by decide +kernel) 5 (by decide) (by decide +kernel) rfl rfl dX12_ground_2 ?_
  refine x_put (pc := 5) (C := RX12) (T := TX12) (n := 26) (ci := 11) (idx := 91) (ref := "BorderBedsModel") (ty := .int)  K (cel_ne (cel_ne (cel_self hc0.1) (by decide)) (by decide)) rfl (by decide +kernel) tyX12 tyX12_ok nmX12 19 (by decide) (by decide +kernel) rfl rfl (by decide +kernel) rfl rfl (Nat.le_of_ble_eq_true rfl) dX12_ground_5 ?_
  refine x_v (w := (va_up (va_up (va_up v 161 (oM B (va_up F 19 (F 5)) V)) 171 (iarr E 138 r)) 166 (iarr E 138 a))) (up_at2 (by decide) (by decide)).symm ?_
  refine x_aload_n (pc := 8) 0 K rfl rfl dX12_ground_8 ?_
  refine x_iconst (pc := 9) K dX12_ground_9 ?_
  refine x_put (pc := 10) (C := RX12) (T := TX12) (n := 26) (ci := 11) (idx := 74) (ref := "BorderBedsModel") (ty := .int)  K (cel_ne (cel_ne (cel_self hc0.1) (by decide)) (by decide)) rfl (by decide +kernel) tyX12 tyX12_ok nmX12 5 (by decide) (by decide +kernel) rfl rfl (by decide +kernel) rfl rfl (Nat.le_of_ble_eq_true rfl) dX12_ground_10 ?_
  refine x_v (w := (va_up (va_up (va_up v 161 (oM B (va_up (va_up F 5 0) 19 (F 5)) V)) 171 (iarr E 138 r)) 166 (iarr E 138 a))) (up_at2 (by decide) (by decide)).symm ?_
  refine x_aload_n (pc := 13) 0 K rfl rfl dX12_ground_13 ?_
  refine x_get (pc := 14) (C := RX12) (T := TX12) (n := 26) (ci := 11) (idx := 118) (ref := "BorderBedsModel") (x := .int (zI (F 6)))  K (cel_ne (cel_ne (cel_self hc0.1) (by decide)) (by decide)) rfl (by decide +kernel) 6 (by decide) (by decide +kernel) rfl rfl dX12_ground_14 ?_
  refine x_nm (fun z1 hz1 => ?_)
  refine x_istore_n (pc := 17) K (L' := [(1, .int (zI z1)), (0, .ref (B + 161))]) hnL rfl (by decide) rfl dX12_ground_17 ?_
  refine x_aload_n (pc := 18) 1 K rfl rfl dX12_ground_18 ?_
  refine x_callV (pc := 19) (C := RX12) (T := TX12) (n := 26) (ci := 11) (As := []) K (c_X12_reads (E := E) (B := B) (N := N) (n := n) (F := (va_up (va_up F 5 0) 19 (F 5)))  (cel_ne (cel_ne (cel_self hc0.1) (by decide)) (by decide)) (cel_ne (cel_ne (cel_ne hc1 (by decide)) (by decide)) (by decide)) (cel_ne (cel_self hc2.1) (by decide)) (by rw [va_up_self]; exact hq0) hq1 hq2) gX12_ground_X12_reads rfl (na := 0) (by decide +kernel) rfl ⟨(Nat.le_of_ble_eq_true rfl), (Nat.le_of_ble_eq_true rfl)⟩ (cel_ne (cel_ne (cel_self hc0.1) (by decide)) (by decide)) rfl (st := []) rfl (Nat.le_of_ble_eq_true rfl) ⟨(Nat.le_of_ble_eq_true rfl), (Nat.le_of_ble_eq_true rfl)⟩ dX12_ground_19 (fun r19 N19 w19 hpo19 hN19 => ?_)
  obtain ⟨rfl, res_19, F2_19, V2_19, r2_19, hp19_0, hp19_1, rfl, rfl⟩ := hpo19
  refine x_v (congrArg (fun w => (va_up w 171 (iarr E 138 r2_19))) (show (va_up (va_up (va_up v 161 (oM B F2_19 V2_19)) 171 (iarr E 138 r)) 166 (iarr E 138 a)) = _ from (up_at2 (by decide) (by decide)).symm)) ?_
  refine x_v (w := (va_up (va_up (va_up v 161 (oM B F2_19 V2_19)) 171 (iarr E 138 r2_19)) 166 (iarr E 138 a))) (up_at1 (by decide)).symm ?_
  refine x_st (st' := [.int (zI res_19)]) rfl ?_
  have n3 := hp19_0 3 (by omega) (by omega) (by omega) (by omega) (by omega) (by omega)
  have n5 := hp19_0 5 (by omega) (by omega) (by omega) (by omega) (by omega) (by omega)
  have n7 := hp19_0 7 (by omega) (by omega) (by omega) (by omega) (by omega) (by omega)
  have n9 := hp19_0 9 (by omega) (by omega) (by omega) (by omega) (by omega) (by omega)
  have n13 := hp19_0 13 (by omega) (by omega) (by omega) (by omega) (by omega) (by omega)
  refine x_if_ne (pc := 22) (tgt := 33) K (by omega) dX12_ground_22 (by decide) (fun h_22 => ?_) (fun h_22 => ?_)
  · skip
    obtain ⟨x2, hx2, -, hf2, hr2, ho2⟩ := hp19_1.resolve_right (fun ⟨_, _, _, q, _⟩ => by omega)
    refine x_aload_n (pc := 33) 1 K rfl rfl dX12_ground_33 ?_
    refine x_iload_n (pc := 34) 0 K rfl rfl dX12_ground_34 ?_
    refine x_put (pc := 35) (C := RX12) (T := TX12) (n := 26) (ci := 11) (idx := 118) (ref := "BorderBedsModel") (ty := .int)  K (cel_ne (cel_ne (cel_self hc0.1) (by decide)) (by decide)) rfl (by decide +kernel) tyX12 tyX12_ok nmX12 6 (by decide) (by decide +kernel) rfl rfl (by decide +kernel) rfl rfl (Nat.le_of_ble_eq_true rfl) dX12_ground_35 ?_
    refine x_v (w := (va_up (va_up (va_up v 161 (oM B (va_up F2_19 6 z1) V2_19)) 171 (iarr E 138 r2_19)) 166 (iarr E 138 a))) (up_at2 (by decide) (by decide)).symm ?_
    refine x_aload_n (pc := 38) 1 K rfl rfl dX12_ground_38 ?_
    refine x_iconst (pc := 39) K dX12_ground_39 ?_
    refine x_put (pc := 40) (C := RX12) (T := TX12) (n := 26) (ci := 11) (idx := 186) (ref := "BorderBedsModel") (ty := .boolean)  K (cel_ne (cel_ne (cel_self hc0.1) (by decide)) (by decide)) rfl (by decide +kernel) tyX12 tyX12_ok nmX12 7 (by decide) (by decide +kernel) rfl rfl (by decide +kernel) rfl rfl (Nat.le_of_ble_eq_true rfl) dX12_ground_40 ?_
    refine x_v (w := (va_up (va_up (va_up v 161 (oM B (va_up (va_up F2_19 6 z1) 7 1) V2_19)) 171 (iarr E 138 r2_19)) 166 (iarr E 138 a))) (up_at2 (by decide) (by decide)).symm ?_
    refine x_aload_n (pc := 43) 1 K rfl rfl dX12_ground_43 ?_
    refine x_iconst (pc := 44) K dX12_ground_44 ?_
    refine x_put (pc := 45) (C := RX12) (T := TX12) (n := 26) (ci := 11) (idx := 190) (ref := "BorderBedsModel") (ty := .int)  K (cel_ne (cel_ne (cel_self hc0.1) (by decide)) (by decide)) rfl (by decide +kernel) tyX12 tyX12_ok nmX12 9 (by decide) (by decide +kernel) rfl rfl (by decide +kernel) rfl rfl (Nat.le_of_ble_eq_true rfl) dX12_ground_45 ?_
    refine x_v (w := (va_up (va_up (va_up v 161 (oM B (va_up (va_up (va_up F2_19 6 z1) 7 1) 9 0) V2_19)) 171 (iarr E 138 r2_19)) 166 (iarr E 138 a))) (up_at2 (by decide) (by decide)).symm ?_
    refine x_aload_n (pc := 48) 1 K rfl rfl dX12_ground_48 ?_
    refine x_get (pc := 49) (C := RX12) (T := TX12) (n := 26) (ci := 11) (idx := 38) (ref := "BorderBedsModel") (x := .ref (B + 171))  K (cel_ne (cel_ne (cel_self hc0.1) (by decide)) (by decide)) rfl (by decide +kernel) 20 (by decide) (by decide +kernel) rfl rfl dX12_ground_49 ?_
    refine x_iconst (pc := 52) K dX12_ground_52 ?_
    refine x_aload_n (pc := 53) 1 K rfl rfl dX12_ground_53 ?_
    refine x_get (pc := 54) (C := RX12) (T := TX12) (n := 26) (ci := 11) (idx := 22) (ref := "BorderBedsModel") (x := .ref (B + 166))  K (cel_ne (cel_ne (cel_self hc0.1) (by decide)) (by decide)) rfl (by decide +kernel) 8 (by decide) (by decide +kernel) rfl rfl dX12_ground_54 ?_
    refine x_iconst (pc := 57) K dX12_ground_57 ?_
    refine x_callS (pc := 58) (As := [.ref (B + 171), .int (zI 0), .ref (B + 166), .int (zI 0)]) K (c_X12_copies (E := E) (B := B) (N := N) (i := 0) (j := 0) rfl rfl (cel_ne (cel_self hc2.1) (by decide)) (cel_self hc3.1) (by omega) (by omega) (by omega)) gX12_ground_X12_copies rfl (na := 4) (by decide +kernel) rfl ⟨(Nat.le_of_ble_eq_true rfl), (Nat.le_of_ble_eq_true rfl)⟩ (st := []) rfl (Nat.le_of_ble_eq_true rfl) ⟨(Nat.le_of_ble_eq_true rfl), (Nat.le_of_ble_eq_true rfl)⟩ dX12_ground_58 (fun r58 N58 w58 hpo58 hN58 => ?_)
    obtain ⟨rfl, rfl, rfl⟩ := hpo58
    refine x_v (w := (va_up (va_up (va_up v 161 (oM B (va_up (va_up (va_up F2_19 6 z1) 7 1) 9 0) V2_19)) 171 (iarr E 138 r2_19)) 166 (iarr E 138 (cpI r2_19 a 0 0 138)))) (up_at0).symm ?_
    refine x_st (st' := []) rfl ?_
    refine x_aload_n (pc := 61) 1 K rfl rfl dX12_ground_61 ?_
    refine x_get (pc := 62) (C := RX12) (T := TX12) (n := 26) (ci := 11) (idx := 22) (ref := "BorderBedsModel") (x := .ref (B + 166))  K (cel_ne (cel_ne (cel_self hc0.1) (by decide)) (by decide)) rfl (by decide +kernel) 8 (by decide) (by decide +kernel) rfl rfl dX12_ground_62 ?_
    refine x_iconst (pc := 65) K dX12_ground_65 ?_
    refine x_iald (pc := 66) 4 K (cel_self hc3.1) rfl (by omega) (by decide) dX12_ground_66 ?_
    refine x_iret (pc := 67) K KR (by omega) (Nat.le_of_ble_eq_true rfl) (Nat.le_of_ble_eq_true rfl) dX12_ground_67 ?_
    subst hr2
    exact ⟨rfl, ((cpI r2_19 a 0 0 138) 4), (va_up (va_up (va_up F2_19 6 z1) 7 1) 9 0), V2_19, r2_19, (cpI r2_19 a 0 0 138), ⟨n3, n5, n13⟩, (Or.inl ⟨r2_19, hx2, by rw [cpI_in (by omega)], hz1, rfl, rfl, rfl, ho2⟩), rfl, rfl⟩
  · skip
    obtain ⟨f2, p2, hx2, -, hf2, hp2, hl2⟩ := hp19_1.resolve_left (fun ⟨_, _, q, _⟩ => by omega)
    refine x_ldc (pc := 25) (x := (-1000100)) (-1000100) K (by decide) (by decide +kernel) dX12_ground_25 ?_
    refine x_aload_n (pc := 27) 1 K rfl rfl dX12_ground_27 ?_
    refine x_get (pc := 28) (C := RX12) (T := TX12) (n := 26) (ci := 11) (idx := 94) (ref := "BorderBedsModel") (x := .int (zI (F2_19 16)))  K (cel_ne (cel_ne (cel_self hc0.1) (by decide)) (by decide)) rfl (by decide +kernel) 16 (by decide) (by decide +kernel) rfl rfl dX12_ground_28 ?_
    refine x_isub (pc := 31) K dX12_ground_31 ?_
    refine x_iret (pc := 32) K KR (by omega) (Nat.le_of_ble_eq_true rfl) (Nat.le_of_ble_eq_true rfl) dX12_ground_32 ?_
    exact ⟨rfl, ((-1000100) - (F2_19 16)), F2_19, V2_19, r2_19, a, ⟨n3, n5, n13⟩, (Or.inr ⟨f2, p2, hx2, by omega, hf2, n7, n9, rfl, hl2⟩), rfl, rfl⟩
