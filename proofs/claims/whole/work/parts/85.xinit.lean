theorem dX11_init_0 : decode cX11_init 0 = .ok (.aload_n 0, 1) := by decide +kernel
theorem dX11_init_1 : decode cX11_init 1 = .ok (.invokespecial 1, 3) := by decide +kernel
theorem dX11_init_4 : decode cX11_init 4 = .ok (.aload_n 0, 1) := by decide +kernel
theorem dX11_init_5 : decode cX11_init 5 = .ok (.bipush 8, 2) := by decide +kernel
theorem dX11_init_7 : decode cX11_init 7 = .ok (.anewarray 9, 3) := by decide +kernel
theorem dX11_init_10 : decode cX11_init 10 = .ok (.putfield 11, 3) := by decide +kernel
theorem dX11_init_13 : decode cX11_init 13 = .ok (.aload_n 0, 1) := by decide +kernel
theorem dX11_init_14 : decode cX11_init 14 = .ok (.new 15, 3) := by decide +kernel
theorem dX11_init_17 : decode cX11_init 17 = .ok (.dup, 1) := by decide +kernel
set_option maxRecDepth 20000 in
theorem ggX11_init_X8_init : GoodIn wsX11_init wsX8_init := goodIn_r _ [30, 31, 2, 3, 32, 33, 34, 35, 36, 37, 38, 39, 40, 41, 74, 75, 76, 77, 78, 79, 80, 81, 82] (by decide +kernel) (by decide +kernel)
set_option maxRecDepth 20000 in
theorem gX11_init_X8_init_n17 : GoodIn wsX11_init (wsX8_init) := ggX11_init_X8_init
theorem dX11_init_18 : decode cX11_init 18 = .ok (.invokespecial 17, 3) := by decide +kernel
theorem dX11_init_21 : decode cX11_init 21 = .ok (.putfield 18, 3) := by decide +kernel
theorem dX11_init_24 : decode cX11_init 24 = .ok (.aload_n 0, 1) := by decide +kernel
theorem dX11_init_25 : decode cX11_init 25 = .ok (.new 22, 3) := by decide +kernel
theorem dX11_init_28 : decode cX11_init 28 = .ok (.dup, 1) := by decide +kernel
set_option maxRecDepth 20000 in
theorem ggX11_init_X9_init : GoodIn wsX11_init wsX9_init := goodIn_r _ [43, 44, 2, 3, 32, 45, 46, 83, 84] (by decide +kernel) (by decide +kernel)
set_option maxRecDepth 20000 in
theorem gX11_init_X9_init_n24 : GoodIn wsX11_init (wsX9_init) := ggX11_init_X9_init
theorem dX11_init_29 : decode cX11_init 29 = .ok (.invokespecial 24, 3) := by decide +kernel
theorem dX11_init_32 : decode cX11_init 32 = .ok (.putfield 25, 3) := by decide +kernel
theorem dX11_init_35 : decode cX11_init 35 = .ok (.aload_n 0, 1) := by decide +kernel
theorem dX11_init_36 : decode cX11_init 36 = .ok (.new 29, 3) := by decide +kernel
theorem dX11_init_39 : decode cX11_init 39 = .ok (.dup, 1) := by decide +kernel
set_option maxRecDepth 20000 in
theorem ggX11_init_X4_init : GoodIn wsX11_init wsX4_init := goodIn_r _ [48, 49, 2, 3, 32, 50, 51, 52, 53, 54, 55, 85, 86, 87, 88, 89] (by decide +kernel) (by decide +kernel)
set_option maxRecDepth 20000 in
theorem gX11_init_X4_init_n31 : GoodIn wsX11_init (wsX4_init) := ggX11_init_X4_init
theorem dX11_init_40 : decode cX11_init 40 = .ok (.invokespecial 31, 3) := by decide +kernel
theorem dX11_init_43 : decode cX11_init 43 = .ok (.putfield 32, 3) := by decide +kernel
theorem dX11_init_46 : decode cX11_init 46 = .ok (.aload_n 0, 1) := by decide +kernel
theorem dX11_init_47 : decode cX11_init 47 = .ok (.bipush 24, 2) := by decide +kernel
theorem dX11_init_49 : decode cX11_init 49 = .ok (.anewarray 29, 3) := by decide +kernel
theorem dX11_init_52 : decode cX11_init 52 = .ok (.putfield 36, 3) := by decide +kernel
theorem dX11_init_55 : decode cX11_init 55 = .ok (.aload_n 0, 1) := by decide +kernel
theorem dX11_init_56 : decode cX11_init 56 = .ok (.iconst 2, 1) := by decide +kernel
theorem dX11_init_57 : decode cX11_init 57 = .ok (.anewarray 29, 3) := by decide +kernel
theorem dX11_init_60 : decode cX11_init 60 = .ok (.putfield 40, 3) := by decide +kernel
theorem dX11_init_63 : decode cX11_init 63 = .ok (.aload_n 0, 1) := by decide +kernel
theorem dX11_init_64 : decode cX11_init 64 = .ok (.iconst 2, 1) := by decide +kernel
theorem dX11_init_65 : decode cX11_init 65 = .ok (.anewarray 43, 3) := by decide +kernel
theorem dX11_init_68 : decode cX11_init 68 = .ok (.putfield 45, 3) := by decide +kernel
theorem dX11_init_71 : decode cX11_init 71 = .ok (.aload_n 0, 1) := by decide +kernel
theorem dX11_init_72 : decode cX11_init 72 = .ok (.aconst_null, 1) := by decide +kernel
theorem dX11_init_73 : decode cX11_init 73 = .ok (.putfield 49, 3) := by decide +kernel
theorem dX11_init_76 : decode cX11_init 76 = .ok (.aload_n 0, 1) := by decide +kernel
theorem dX11_init_77 : decode cX11_init 77 = .ok (.iconst 0, 1) := by decide +kernel
theorem dX11_init_78 : decode cX11_init 78 = .ok (.putfield 53, 3) := by decide +kernel
theorem dX11_init_81 : decode cX11_init 81 = .ok (.aload_n 0, 1) := by decide +kernel
theorem dX11_init_82 : decode cX11_init 82 = .ok (.iconst 0, 1) := by decide +kernel
theorem dX11_init_83 : decode cX11_init 83 = .ok (.putfield 57, 3) := by decide +kernel
theorem dX11_init_86 : decode cX11_init 86 = .ok (.aload_n 0, 1) := by decide +kernel
theorem dX11_init_87 : decode cX11_init 87 = .ok (.iconst 0, 1) := by decide +kernel
theorem dX11_init_88 : decode cX11_init 88 = .ok (.putfield 60, 3) := by decide +kernel
theorem dX11_init_91 : decode cX11_init 91 = .ok (.aload_n 0, 1) := by decide +kernel
theorem dX11_init_92 : decode cX11_init 92 = .ok (.iconst 0, 1) := by decide +kernel
theorem dX11_init_93 : decode cX11_init 93 = .ok (.putfield 63, 3) := by decide +kernel
theorem dX11_init_96 : decode cX11_init 96 = .ok (.iconst 0, 1) := by decide +kernel
theorem dX11_init_97 : decode cX11_init 97 = .ok (.istore_n 1, 1) := by decide +kernel
theorem dX11_init_98 : decode cX11_init 98 = .ok (.iload_n 1, 1) := by decide +kernel
theorem dX11_init_99 : decode cX11_init 99 = .ok (.bipush 8, 2) := by decide +kernel
theorem dX11_init_101 : decode cX11_init 101 = .ok (.if_icmp .ge 22, 3) := by decide +kernel
theorem dX11_init_123 : decode cX11_init 123 = .ok (.iconst 0, 1) := by decide +kernel
theorem dX11_init_124 : decode cX11_init 124 = .ok (.istore_n 1, 1) := by decide +kernel
theorem dX11_init_125 : decode cX11_init 125 = .ok (.iload_n 1, 1) := by decide +kernel
theorem dX11_init_126 : decode cX11_init 126 = .ok (.bipush 24, 2) := by decide +kernel
theorem dX11_init_128 : decode cX11_init 128 = .ok (.if_icmp .ge 22, 3) := by decide +kernel
theorem dX11_init_150 : decode cX11_init 150 = .ok (.iconst 0, 1) := by decide +kernel
theorem dX11_init_151 : decode cX11_init 151 = .ok (.istore_n 1, 1) := by decide +kernel
theorem dX11_init_152 : decode cX11_init 152 = .ok (.iload_n 1, 1) := by decide +kernel
theorem dX11_init_153 : decode cX11_init 153 = .ok (.iconst 2, 1) := by decide +kernel
theorem dX11_init_154 : decode cX11_init 154 = .ok (.if_icmp .ge 22, 3) := by decide +kernel
theorem dX11_init_176 : decode cX11_init 176 = .ok (.return_, 1) := by decide +kernel
theorem dX11_init_157 : decode cX11_init 157 = .ok (.aload_n 0, 1) := by decide +kernel
theorem dX11_init_158 : decode cX11_init 158 = .ok (.getfield 40, 3) := by decide +kernel
theorem dX11_init_161 : decode cX11_init 161 = .ok (.iload_n 1, 1) := by decide +kernel
theorem dX11_init_162 : decode cX11_init 162 = .ok (.new 29, 3) := by decide +kernel
theorem dX11_init_165 : decode cX11_init 165 = .ok (.dup, 1) := by decide +kernel
theorem dX11_init_166 : decode cX11_init 166 = .ok (.invokespecial 31, 3) := by decide +kernel
theorem dX11_init_169 : decode cX11_init 169 = .ok (.aastore, 1) := by decide +kernel
theorem dX11_init_170 : decode cX11_init 170 = .ok (.iinc 1 1, 3) := by decide +kernel
theorem dX11_init_173 : decode cX11_init 173 = .ok (.goto (-21), 3) := by decide +kernel
theorem dX11_init_131 : decode cX11_init 131 = .ok (.aload_n 0, 1) := by decide +kernel
theorem dX11_init_132 : decode cX11_init 132 = .ok (.getfield 36, 3) := by decide +kernel
theorem dX11_init_135 : decode cX11_init 135 = .ok (.iload_n 1, 1) := by decide +kernel
theorem dX11_init_136 : decode cX11_init 136 = .ok (.new 29, 3) := by decide +kernel
theorem dX11_init_139 : decode cX11_init 139 = .ok (.dup, 1) := by decide +kernel
theorem dX11_init_140 : decode cX11_init 140 = .ok (.invokespecial 31, 3) := by decide +kernel
theorem dX11_init_143 : decode cX11_init 143 = .ok (.aastore, 1) := by decide +kernel
theorem dX11_init_144 : decode cX11_init 144 = .ok (.iinc 1 1, 3) := by decide +kernel
theorem dX11_init_147 : decode cX11_init 147 = .ok (.goto (-22), 3) := by decide +kernel
theorem dX11_init_104 : decode cX11_init 104 = .ok (.aload_n 0, 1) := by decide +kernel
theorem dX11_init_105 : decode cX11_init 105 = .ok (.getfield 11, 3) := by decide +kernel
theorem dX11_init_108 : decode cX11_init 108 = .ok (.iload_n 1, 1) := by decide +kernel
theorem dX11_init_109 : decode cX11_init 109 = .ok (.new 9, 3) := by decide +kernel
theorem dX11_init_112 : decode cX11_init 112 = .ok (.dup, 1) := by decide +kernel
set_option maxRecDepth 20000 in
theorem ggX11_init_X7_init : GoodIn wsX11_init wsX7_init := goodIn_r _ [57, 58, 2, 3, 32, 59, 60, 61, 90, 91, 92] (by decide +kernel) (by decide +kernel)
set_option maxRecDepth 20000 in
theorem gX11_init_X7_init_n66 : GoodIn wsX11_init (wsX7_init) := ggX11_init_X7_init
theorem dX11_init_113 : decode cX11_init 113 = .ok (.invokespecial 66, 3) := by decide +kernel
theorem dX11_init_116 : decode cX11_init 116 = .ok (.aastore, 1) := by decide +kernel
theorem dX11_init_117 : decode cX11_init 117 = .ok (.iinc 1 1, 3) := by decide +kernel
theorem dX11_init_120 : decode cX11_init 120 = .ok (.goto (-22), 3) := by decide +kernel
set_option maxRecDepth 100000 in
set_option maxHeartbeats 4000000 in
theorem c_X11_init {E : XE} {B : Nat} {v : Nat → va_E}  (hc0 : Cel 1 v 0 (.inr (10, [.null, .null, .null, .null, .null, .null, .null, .null, .int (zI 0), .int (zI 0), .int (zI 0), .int (zI 0)]))) : gM yX11_init wsX11_init ({ frames := 2, cells := 160, slots := 1810, locals := 32 }) E B 1 v [.ref (B + 0)] (fun ρ N' v' => (N' = 161) ∧ (XI E B N' v' 8 24 2) ∧ ρ = none) := by
  refine x_met (nm := "<init>") (by decide +kernel) rfl (Nat.le_of_ble_eq_true rfl) rfl (fun Γ K KR hnL hnm => ?_)
  show XW Γ 1 v [(0, .ref (B + 0))] 0 0 0 []
  refine x_aload_n (pc := 0) 0 K rfl rfl dX11_init_0 ?_
  refine x_objInit (nL9 := 0) (pc := 1) (idx := 1) K (by decide +kernel) (by decide +kernel) (by decide +kernel) (Nat.le_of_ble_eq_true rfl) (Nat.le_of_ble_eq_true rfl) dX11_init_1 ?_
  refine x_aload_n (pc := 4) 0 K rfl rfl dX11_init_4 ?_
  refine x_bipush (pc := 5) K (by decide) dX11_init_5 ?_
  refine x_newq (pc := 7) (C := "BorderBeds$Row") (t := 2) 8 K rfl (by decide +kernel) (by decide) rfl (by decide) (Nat.le_of_ble_eq_true rfl) (Nat.le_of_ble_eq_true rfl) dX11_init_7 ?_
  refine x_N (M := 2) rfl ?_
  refine x_putF (pc := 10) (C := RX11) (T := TX11) (n := 12) (ci := 10) (idx := 11) (ref := "BorderBeds") (ty := .array (.object "BorderBeds$Row"))  K (cel_ne (cel_gr hc0 (by omega)) (by decide)) rfl (by decide +kernel) tyX11 tyX11_ok nmX11 0 (by decide) (by decide +kernel) rfl rfl hnm rfl (by decide +kernel) rfl rfl (Nat.le_of_ble_eq_true rfl) dX11_init_10 ?_
  refine x_v (w := (va_up (va_up v 1 (rarr E 2 8 B (fun _ => none))) 0 (.inr (10, [.ref (B + 1), .null, .null, .null, .null, .null, .null, .null, .int (zI 0), .int (zI 0), .int (zI 0), .int (zI 0)])))) rfl ?_
  refine x_aload_n (pc := 13) 0 K rfl rfl dX11_init_13 ?_
  refine x_new (pc := 14) (C := RX8) (T := TX8) (n := 9) (ci := 7) (fs := [.null, .null, .int (zI 0), .int (zI 0), .int (zI 0), .int (zI 0), .int (zI 0), .int (zI 0), .int (zI 0)]) K rfl (by decide +kernel) tyX8 tyX8_ok (by decide +kernel) (by decide +kernel) (by decide +kernel) (by decide +kernel) (Nat.le_of_ble_eq_true rfl) (Nat.le_of_ble_eq_true rfl) dX11_init_14 ?_
  refine x_N (M := 3) rfl ?_
  refine x_dup (pc := 17) K rfl dX11_init_17 ?_
  refine x_callIN (pc := 18) (As := []) K (c_X8_init (E := E) (B := B)   (cel_self (by omega)) ) gX11_init_X8_init_n17 rfl (by decide +kernel) (by decide +kernel) (by decide +kernel) rfl (na := 0) (by decide +kernel) rfl ⟨(Nat.le_of_ble_eq_true rfl), (Nat.le_of_ble_eq_true rfl)⟩ (st := [.ref (B + 2), .ref (B + 0)]) rfl (Nat.le_of_ble_eq_true rfl) ⟨(Nat.le_of_ble_eq_true rfl), (Nat.le_of_ble_eq_true rfl)⟩ dX11_init_18 (fun r18 N18 w18 hpo18 hN18 => ?_)
  obtain ⟨rfl, rfl, rfl⟩ := hpo18
  refine x_N (M := 5) rfl ?_
  refine x_v (congrArg (fun w => (va_up (va_up w 3 (iarr E 400 (fun _ => (0 : Int)))) 4 (iarr E 4 (fun _ => (0 : Int))))) (show (va_up (va_up (va_up v 1 (rarr E 2 8 B (fun _ => none))) 0 (.inr (10, [.ref (B + 1), .null, .null, .null, .null, .null, .null, .null, .int (zI 0), .int (zI 0), .int (zI 0), .int (zI 0)]))) 2 (.inr (7, [.ref (B + 3), .ref (B + 4), .int (zI 0), .int (zI 0), .int (zI 0), .int (zI 0), .int (zI 0), .int (zI 0), .int (zI 0)]))) = _ from (up_at0).symm)) ?_
  refine x_v (congrArg (fun w => (va_up w 4 (iarr E 4 (fun _ => (0 : Int))))) (show (va_up (va_up (va_up (va_up v 1 (rarr E 2 8 B (fun _ => none))) 0 (.inr (10, [.ref (B + 1), .null, .null, .null, .null, .null, .null, .null, .int (zI 0), .int (zI 0), .int (zI 0), .int (zI 0)]))) 2 (.inr (7, [.ref (B + 3), .ref (B + 4), .int (zI 0), .int (zI 0), .int (zI 0), .int (zI 0), .int (zI 0), .int (zI 0), .int (zI 0)]))) 3 (iarr E 400 (fun _ => (0 : Int)))) = _ from rfl)) ?_
  refine x_v (w := (va_up (va_up (va_up (va_up (va_up v 1 (rarr E 2 8 B (fun _ => none))) 0 (.inr (10, [.ref (B + 1), .null, .null, .null, .null, .null, .null, .null, .int (zI 0), .int (zI 0), .int (zI 0), .int (zI 0)]))) 2 (.inr (7, [.ref (B + 3), .ref (B + 4), .int (zI 0), .int (zI 0), .int (zI 0), .int (zI 0), .int (zI 0), .int (zI 0), .int (zI 0)]))) 3 (iarr E 400 (fun _ => (0 : Int)))) 4 (iarr E 4 (fun _ => (0 : Int))))) rfl ?_
  refine x_st (st' := [.ref (B + 2), .ref (B + 0)]) rfl ?_
  refine x_putF (pc := 21) (C := RX11) (T := TX11) (n := 12) (ci := 10) (idx := 18) (ref := "BorderBeds") (ty := .object "BorderBeds$Tape")  K (cel_ne (cel_ne (cel_ne (cel_self (Nat.lt_of_lt_of_le hc0.1 (by omega))) (by decide)) (by decide)) (by decide)) rfl (by decide +kernel) tyX11 tyX11_ok nmX11 1 (by decide) (by decide +kernel) rfl rfl hnm rfl (by decide +kernel) rfl rfl (Nat.le_of_ble_eq_true rfl) dX11_init_21 ?_
  refine x_v (w := (va_up (va_up (va_up (va_up (va_up v 1 (rarr E 2 8 B (fun _ => none))) 0 (.inr (10, [.ref (B + 1), .ref (B + 2), .null, .null, .null, .null, .null, .null, .int (zI 0), .int (zI 0), .int (zI 0), .int (zI 0)]))) 2 (.inr (7, [.ref (B + 3), .ref (B + 4), .int (zI 0), .int (zI 0), .int (zI 0), .int (zI 0), .int (zI 0), .int (zI 0), .int (zI 0)]))) 3 (iarr E 400 (fun _ => (0 : Int)))) 4 (iarr E 4 (fun _ => (0 : Int))))) (up_at3 (by decide) (by decide) (by decide)).symm ?_
  refine x_aload_n (pc := 24) 0 K rfl rfl dX11_init_24 ?_
  refine x_new (pc := 25) (C := RX9) (T := TX9) (n := 2) (ci := 8) (fs := [.null, .int (zI 0)]) K rfl (by decide +kernel) tyX9 tyX9_ok (by decide +kernel) (by decide +kernel) (by decide +kernel) (by decide +kernel) (Nat.le_of_ble_eq_true rfl) (Nat.le_of_ble_eq_true rfl) dX11_init_25 ?_
  refine x_N (M := 6) rfl ?_
  refine x_dup (pc := 28) K rfl dX11_init_28 ?_
  refine x_callIN (pc := 29) (As := []) K (c_X9_init (E := E) (B := B)   (cel_self (by omega)) ) gX11_init_X9_init_n24 rfl (by decide +kernel) (by decide +kernel) (by decide +kernel) rfl (na := 0) (by decide +kernel) rfl ⟨(Nat.le_of_ble_eq_true rfl), (Nat.le_of_ble_eq_true rfl)⟩ (st := [.ref (B + 5), .ref (B + 0)]) rfl (Nat.le_of_ble_eq_true rfl) ⟨(Nat.le_of_ble_eq_true rfl), (Nat.le_of_ble_eq_true rfl)⟩ dX11_init_29 (fun r29 N29 w29 hpo29 hN29 => ?_)
  obtain ⟨rfl, rfl, rfl⟩ := hpo29
  refine x_N (M := 7) rfl ?_
  refine x_v (congrArg (fun w => (va_up w 6 (iarr E 16 (fun _ => (0 : Int))))) (show (va_up (va_up (va_up (va_up (va_up (va_up v 1 (rarr E 2 8 B (fun _ => none))) 0 (.inr (10, [.ref (B + 1), .ref (B + 2), .null, .null, .null, .null, .null, .null, .int (zI 0), .int (zI 0), .int (zI 0), .int (zI 0)]))) 2 (.inr (7, [.ref (B + 3), .ref (B + 4), .int (zI 0), .int (zI 0), .int (zI 0), .int (zI 0), .int (zI 0), .int (zI 0), .int (zI 0)]))) 3 (iarr E 400 (fun _ => (0 : Int)))) 4 (iarr E 4 (fun _ => (0 : Int)))) 5 (.inr (8, [.ref (B + 6), .int (zI 0)]))) = _ from (up_at0).symm)) ?_
  refine x_v (w := (va_up (va_up (va_up (va_up (va_up (va_up (va_up v 1 (rarr E 2 8 B (fun _ => none))) 0 (.inr (10, [.ref (B + 1), .ref (B + 2), .null, .null, .null, .null, .null, .null, .int (zI 0), .int (zI 0), .int (zI 0), .int (zI 0)]))) 2 (.inr (7, [.ref (B + 3), .ref (B + 4), .int (zI 0), .int (zI 0), .int (zI 0), .int (zI 0), .int (zI 0), .int (zI 0), .int (zI 0)]))) 3 (iarr E 400 (fun _ => (0 : Int)))) 4 (iarr E 4 (fun _ => (0 : Int)))) 5 (.inr (8, [.ref (B + 6), .int (zI 0)]))) 6 (iarr E 16 (fun _ => (0 : Int))))) rfl ?_
  refine x_st (st' := [.ref (B + 5), .ref (B + 0)]) rfl ?_
  refine x_putF (pc := 32) (C := RX11) (T := TX11) (n := 12) (ci := 10) (idx := 25) (ref := "BorderBeds") (ty := .object "BorderBeds$Trace")  K (cel_ne (cel_ne (cel_ne (cel_ne (cel_ne (cel_self (Nat.lt_of_lt_of_le hc0.1 (by omega))) (by decide)) (by decide)) (by decide)) (by decide)) (by decide)) rfl (by decide +kernel) tyX11 tyX11_ok nmX11 2 (by decide) (by decide +kernel) rfl rfl hnm rfl (by decide +kernel) rfl rfl (Nat.le_of_ble_eq_true rfl) dX11_init_32 ?_
  refine x_v (w := (va_up (va_up (va_up (va_up (va_up (va_up (va_up v 1 (rarr E 2 8 B (fun _ => none))) 0 (.inr (10, [.ref (B + 1), .ref (B + 2), .ref (B + 5), .null, .null, .null, .null, .null, .int (zI 0), .int (zI 0), .int (zI 0), .int (zI 0)]))) 2 (.inr (7, [.ref (B + 3), .ref (B + 4), .int (zI 0), .int (zI 0), .int (zI 0), .int (zI 0), .int (zI 0), .int (zI 0), .int (zI 0)]))) 3 (iarr E 400 (fun _ => (0 : Int)))) 4 (iarr E 4 (fun _ => (0 : Int)))) 5 (.inr (8, [.ref (B + 6), .int (zI 0)]))) 6 (iarr E 16 (fun _ => (0 : Int))))) (up_at5 (by decide) (by decide) (by decide) (by decide) (by decide)).symm ?_
  refine x_aload_n (pc := 35) 0 K rfl rfl dX11_init_35 ?_
  refine x_new (pc := 36) (C := RX4) (T := TX4) (n := 5) (ci := 4) (fs := [.null, .null, .int (zI 0), .null, .null]) K rfl (by decide +kernel) tyX4 tyX4_ok (by decide +kernel) (by decide +kernel) (by decide +kernel) (by decide +kernel) (Nat.le_of_ble_eq_true rfl) (Nat.le_of_ble_eq_true rfl) dX11_init_36 ?_
  refine x_N (M := 8) rfl ?_
  refine x_dup (pc := 39) K rfl dX11_init_39 ?_
  refine x_callIN (pc := 40) (As := []) K (c_X4_init (E := E) (B := B)   (cel_self (by omega)) ) gX11_init_X4_init_n31 rfl (by decide +kernel) (by decide +kernel) (by decide +kernel) rfl (na := 0) (by decide +kernel) rfl ⟨(Nat.le_of_ble_eq_true rfl), (Nat.le_of_ble_eq_true rfl)⟩ (st := [.ref (B + 7), .ref (B + 0)]) rfl (Nat.le_of_ble_eq_true rfl) ⟨(Nat.le_of_ble_eq_true rfl), (Nat.le_of_ble_eq_true rfl)⟩ dX11_init_40 (fun r40 N40 w40 hpo40 hN40 => ?_)
  obtain ⟨rfl, rfl, rfl⟩ := hpo40
  refine x_N (M := 12) rfl ?_
  refine x_v (congrArg (fun w => (va_up (va_up (va_up (va_up w 8 (iarr E 8 (fun _ => (0 : Int)))) 9 (barr E 8 (fun _ => (0 : Int)))) 10 (iarr E 8 (fun _ => (0 : Int)))) 11 (iarr E 8 (fun _ => (0 : Int))))) (show (va_up (va_up (va_up (va_up (va_up (va_up (va_up (va_up v 1 (rarr E 2 8 B (fun _ => none))) 0 (.inr (10, [.ref (B + 1), .ref (B + 2), .ref (B + 5), .null, .null, .null, .null, .null, .int (zI 0), .int (zI 0), .int (zI 0), .int (zI 0)]))) 2 (.inr (7, [.ref (B + 3), .ref (B + 4), .int (zI 0), .int (zI 0), .int (zI 0), .int (zI 0), .int (zI 0), .int (zI 0), .int (zI 0)]))) 3 (iarr E 400 (fun _ => (0 : Int)))) 4 (iarr E 4 (fun _ => (0 : Int)))) 5 (.inr (8, [.ref (B + 6), .int (zI 0)]))) 6 (iarr E 16 (fun _ => (0 : Int)))) 7 (.inr (4, [.ref (B + 8), .ref (B + 9), .int (zI 0), .ref (B + 10), .ref (B + 11)]))) = _ from (up_at0).symm)) ?_
  refine x_v (congrArg (fun w => (va_up (va_up (va_up w 9 (barr E 8 (fun _ => (0 : Int)))) 10 (iarr E 8 (fun _ => (0 : Int)))) 11 (iarr E 8 (fun _ => (0 : Int))))) (show (va_up (va_up (va_up (va_up (va_up (va_up (va_up (va_up (va_up v 1 (rarr E 2 8 B (fun _ => none))) 0 (.inr (10, [.ref (B + 1), .ref (B + 2), .ref (B + 5), .null, .null, .null, .null, .null, .int (zI 0), .int (zI 0), .int (zI 0), .int (zI 0)]))) 2 (.inr (7, [.ref (B + 3), .ref (B + 4), .int (zI 0), .int (zI 0), .int (zI 0), .int (zI 0), .int (zI 0), .int (zI 0), .int (zI 0)]))) 3 (iarr E 400 (fun _ => (0 : Int)))) 4 (iarr E 4 (fun _ => (0 : Int)))) 5 (.inr (8, [.ref (B + 6), .int (zI 0)]))) 6 (iarr E 16 (fun _ => (0 : Int)))) 7 (.inr (4, [.ref (B + 8), .ref (B + 9), .int (zI 0), .ref (B + 10), .ref (B + 11)]))) 8 (iarr E 8 (fun _ => (0 : Int)))) = _ from rfl)) ?_
  refine x_v (congrArg (fun w => (va_up (va_up w 10 (iarr E 8 (fun _ => (0 : Int)))) 11 (iarr E 8 (fun _ => (0 : Int))))) (show (va_up (va_up (va_up (va_up (va_up (va_up (va_up (va_up (va_up (va_up v 1 (rarr E 2 8 B (fun _ => none))) 0 (.inr (10, [.ref (B + 1), .ref (B + 2), .ref (B + 5), .null, .null, .null, .null, .null, .int (zI 0), .int (zI 0), .int (zI 0), .int (zI 0)]))) 2 (.inr (7, [.ref (B + 3), .ref (B + 4), .int (zI 0), .int (zI 0), .int (zI 0), .int (zI 0), .int (zI 0), .int (zI 0), .int (zI 0)]))) 3 (iarr E 400 (fun _ => (0 : Int)))) 4 (iarr E 4 (fun _ => (0 : Int)))) 5 (.inr (8, [.ref (B + 6), .int (zI 0)]))) 6 (iarr E 16 (fun _ => (0 : Int)))) 7 (.inr (4, [.ref (B + 8), .ref (B + 9), .int (zI 0), .ref (B + 10), .ref (B + 11)]))) 8 (iarr E 8 (fun _ => (0 : Int)))) 9 (barr E 8 (fun _ => (0 : Int)))) = _ from rfl)) ?_
  refine x_v (congrArg (fun w => (va_up w 11 (iarr E 8 (fun _ => (0 : Int))))) (show (va_up (va_up (va_up (va_up (va_up (va_up (va_up (va_up (va_up (va_up (va_up v 1 (rarr E 2 8 B (fun _ => none))) 0 (.inr (10, [.ref (B + 1), .ref (B + 2), .ref (B + 5), .null, .null, .null, .null, .null, .int (zI 0), .int (zI 0), .int (zI 0), .int (zI 0)]))) 2 (.inr (7, [.ref (B + 3), .ref (B + 4), .int (zI 0), .int (zI 0), .int (zI 0), .int (zI 0), .int (zI 0), .int (zI 0), .int (zI 0)]))) 3 (iarr E 400 (fun _ => (0 : Int)))) 4 (iarr E 4 (fun _ => (0 : Int)))) 5 (.inr (8, [.ref (B + 6), .int (zI 0)]))) 6 (iarr E 16 (fun _ => (0 : Int)))) 7 (.inr (4, [.ref (B + 8), .ref (B + 9), .int (zI 0), .ref (B + 10), .ref (B + 11)]))) 8 (iarr E 8 (fun _ => (0 : Int)))) 9 (barr E 8 (fun _ => (0 : Int)))) 10 (iarr E 8 (fun _ => (0 : Int)))) = _ from rfl)) ?_
  refine x_v (w := (va_up (va_up (va_up (va_up (va_up (va_up (va_up (va_up (va_up (va_up (va_up (va_up v 1 (rarr E 2 8 B (fun _ => none))) 0 (.inr (10, [.ref (B + 1), .ref (B + 2), .ref (B + 5), .null, .null, .null, .null, .null, .int (zI 0), .int (zI 0), .int (zI 0), .int (zI 0)]))) 2 (.inr (7, [.ref (B + 3), .ref (B + 4), .int (zI 0), .int (zI 0), .int (zI 0), .int (zI 0), .int (zI 0), .int (zI 0), .int (zI 0)]))) 3 (iarr E 400 (fun _ => (0 : Int)))) 4 (iarr E 4 (fun _ => (0 : Int)))) 5 (.inr (8, [.ref (B + 6), .int (zI 0)]))) 6 (iarr E 16 (fun _ => (0 : Int)))) 7 (.inr (4, [.ref (B + 8), .ref (B + 9), .int (zI 0), .ref (B + 10), .ref (B + 11)]))) 8 (iarr E 8 (fun _ => (0 : Int)))) 9 (barr E 8 (fun _ => (0 : Int)))) 10 (iarr E 8 (fun _ => (0 : Int)))) 11 (iarr E 8 (fun _ => (0 : Int))))) rfl ?_
  refine x_st (st' := [.ref (B + 7), .ref (B + 0)]) rfl ?_
  refine x_putF (pc := 43) (C := RX11) (T := TX11) (n := 12) (ci := 10) (idx := 32) (ref := "BorderBeds") (ty := .object "BorderBeds$Line")  K (cel_ne (cel_ne (cel_ne (cel_ne (cel_ne (cel_ne (cel_ne (cel_ne (cel_ne (cel_ne (cel_self (Nat.lt_of_lt_of_le hc0.1 (by omega))) (by decide)) (by decide)) (by decide)) (by decide)) (by decide)) (by decide)) (by decide)) (by decide)) (by decide)) (by decide)) rfl (by decide +kernel) tyX11 tyX11_ok nmX11 3 (by decide) (by decide +kernel) rfl rfl hnm rfl (by decide +kernel) rfl rfl (Nat.le_of_ble_eq_true rfl) dX11_init_43 ?_
  refine x_v (w := (va_up (va_up (va_up (va_up (va_up (va_up (va_up (va_up (va_up (va_up (va_up (va_up v 1 (rarr E 2 8 B (fun _ => none))) 0 (.inr (10, [.ref (B + 1), .ref (B + 2), .ref (B + 5), .ref (B + 7), .null, .null, .null, .null, .int (zI 0), .int (zI 0), .int (zI 0), .int (zI 0)]))) 2 (.inr (7, [.ref (B + 3), .ref (B + 4), .int (zI 0), .int (zI 0), .int (zI 0), .int (zI 0), .int (zI 0), .int (zI 0), .int (zI 0)]))) 3 (iarr E 400 (fun _ => (0 : Int)))) 4 (iarr E 4 (fun _ => (0 : Int)))) 5 (.inr (8, [.ref (B + 6), .int (zI 0)]))) 6 (iarr E 16 (fun _ => (0 : Int)))) 7 (.inr (4, [.ref (B + 8), .ref (B + 9), .int (zI 0), .ref (B + 10), .ref (B + 11)]))) 8 (iarr E 8 (fun _ => (0 : Int)))) 9 (barr E 8 (fun _ => (0 : Int)))) 10 (iarr E 8 (fun _ => (0 : Int)))) 11 (iarr E 8 (fun _ => (0 : Int))))) (up_at10 (by decide) (by decide) (by decide) (by decide) (by decide) (by decide) (by decide) (by decide) (by decide) (by decide)).symm ?_
  refine x_aload_n (pc := 46) 0 K rfl rfl dX11_init_46 ?_
  refine x_bipush (pc := 47) K (by decide) dX11_init_47 ?_
  refine x_newq (pc := 49) (C := "BorderBeds$Line") (t := 3) 24 K rfl (by decide +kernel) (by decide) rfl (by decide) (Nat.le_of_ble_eq_true rfl) (Nat.le_of_ble_eq_true rfl) dX11_init_49 ?_
  refine x_N (M := 13) rfl ?_
  refine x_putF (pc := 52) (C := RX11) (T := TX11) (n := 12) (ci := 10) (idx := 36) (ref := "BorderBeds") (ty := .array (.object "BorderBeds$Line"))  K (cel_ne (cel_ne (cel_ne (cel_ne (cel_ne (cel_ne (cel_ne (cel_ne (cel_ne (cel_ne (cel_ne (cel_self (Nat.lt_of_lt_of_le hc0.1 (by omega))) (by decide)) (by decide)) (by decide)) (by decide)) (by decide)) (by decide)) (by decide)) (by decide)) (by decide)) (by decide)) (by decide)) rfl (by decide +kernel) tyX11 tyX11_ok nmX11 4 (by decide) (by decide +kernel) rfl rfl hnm rfl (by decide +kernel) rfl rfl (Nat.le_of_ble_eq_true rfl) dX11_init_52 ?_
  refine x_v (w := (va_up (va_up (va_up (va_up (va_up (va_up (va_up (va_up (va_up (va_up (va_up (va_up (va_up v 1 (rarr E 2 8 B (fun _ => none))) 0 (.inr (10, [.ref (B + 1), .ref (B + 2), .ref (B + 5), .ref (B + 7), .ref (B + 12), .null, .null, .null, .int (zI 0), .int (zI 0), .int (zI 0), .int (zI 0)]))) 2 (.inr (7, [.ref (B + 3), .ref (B + 4), .int (zI 0), .int (zI 0), .int (zI 0), .int (zI 0), .int (zI 0), .int (zI 0), .int (zI 0)]))) 3 (iarr E 400 (fun _ => (0 : Int)))) 4 (iarr E 4 (fun _ => (0 : Int)))) 5 (.inr (8, [.ref (B + 6), .int (zI 0)]))) 6 (iarr E 16 (fun _ => (0 : Int)))) 7 (.inr (4, [.ref (B + 8), .ref (B + 9), .int (zI 0), .ref (B + 10), .ref (B + 11)]))) 8 (iarr E 8 (fun _ => (0 : Int)))) 9 (barr E 8 (fun _ => (0 : Int)))) 10 (iarr E 8 (fun _ => (0 : Int)))) 11 (iarr E 8 (fun _ => (0 : Int)))) 12 (rarr E 3 24 B (fun _ => none)))) (up_at11 (by decide) (by decide) (by decide) (by decide) (by decide) (by decide) (by decide) (by decide) (by decide) (by decide) (by decide)).symm ?_
  refine x_aload_n (pc := 55) 0 K rfl rfl dX11_init_55 ?_
  refine x_iconst (pc := 56) K dX11_init_56 ?_
  refine x_newq (pc := 57) (C := "BorderBeds$Line") (t := 3) 2 K rfl (by decide +kernel) (by decide) rfl (by decide) (Nat.le_of_ble_eq_true rfl) (Nat.le_of_ble_eq_true rfl) dX11_init_57 ?_
  refine x_N (M := 14) rfl ?_
  refine x_putF (pc := 60) (C := RX11) (T := TX11) (n := 12) (ci := 10) (idx := 40) (ref := "BorderBeds") (ty := .array (.object "BorderBeds$Line"))  K (cel_ne (cel_ne (cel_ne (cel_ne (cel_ne (cel_ne (cel_ne (cel_ne (cel_ne (cel_ne (cel_ne (cel_ne (cel_self (Nat.lt_of_lt_of_le hc0.1 (by omega))) (by decide)) (by decide)) (by decide)) (by decide)) (by decide)) (by decide)) (by decide)) (by decide)) (by decide)) (by decide)) (by decide)) (by decide)) rfl (by decide +kernel) tyX11 tyX11_ok nmX11 5 (by decide) (by decide +kernel) rfl rfl hnm rfl (by decide +kernel) rfl rfl (Nat.le_of_ble_eq_true rfl) dX11_init_60 ?_
  refine x_v (w := (va_up (va_up (va_up (va_up (va_up (va_up (va_up (va_up (va_up (va_up (va_up (va_up (va_up (va_up v 1 (rarr E 2 8 B (fun _ => none))) 0 (.inr (10, [.ref (B + 1), .ref (B + 2), .ref (B + 5), .ref (B + 7), .ref (B + 12), .ref (B + 13), .null, .null, .int (zI 0), .int (zI 0), .int (zI 0), .int (zI 0)]))) 2 (.inr (7, [.ref (B + 3), .ref (B + 4), .int (zI 0), .int (zI 0), .int (zI 0), .int (zI 0), .int (zI 0), .int (zI 0), .int (zI 0)]))) 3 (iarr E 400 (fun _ => (0 : Int)))) 4 (iarr E 4 (fun _ => (0 : Int)))) 5 (.inr (8, [.ref (B + 6), .int (zI 0)]))) 6 (iarr E 16 (fun _ => (0 : Int)))) 7 (.inr (4, [.ref (B + 8), .ref (B + 9), .int (zI 0), .ref (B + 10), .ref (B + 11)]))) 8 (iarr E 8 (fun _ => (0 : Int)))) 9 (barr E 8 (fun _ => (0 : Int)))) 10 (iarr E 8 (fun _ => (0 : Int)))) 11 (iarr E 8 (fun _ => (0 : Int)))) 12 (rarr E 3 24 B (fun _ => none))) 13 (rarr E 3 2 B (fun _ => none)))) (up_at12 (by decide) (by decide) (by decide) (by decide) (by decide) (by decide) (by decide) (by decide) (by decide) (by decide) (by decide) (by decide)).symm ?_
  refine x_aload_n (pc := 63) 0 K rfl rfl dX11_init_63 ?_
  refine x_iconst (pc := 64) K dX11_init_64 ?_
  refine x_newq (pc := 65) (C := "BorderBeds$Ground") (t := 4) 2 K rfl (by decide +kernel) (by decide) rfl (by decide) (Nat.le_of_ble_eq_true rfl) (Nat.le_of_ble_eq_true rfl) dX11_init_65 ?_
  refine x_N (M := 15) rfl ?_
  refine x_putF (pc := 68) (C := RX11) (T := TX11) (n := 12) (ci := 10) (idx := 45) (ref := "BorderBeds") (ty := .array (.object "BorderBeds$Ground"))  K (cel_ne (cel_ne (cel_ne (cel_ne (cel_ne (cel_ne (cel_ne (cel_ne (cel_ne (cel_ne (cel_ne (cel_ne (cel_ne (cel_self (Nat.lt_of_lt_of_le hc0.1 (by omega))) (by decide)) (by decide)) (by decide)) (by decide)) (by decide)) (by decide)) (by decide)) (by decide)) (by decide)) (by decide)) (by decide)) (by decide)) (by decide)) rfl (by decide +kernel) tyX11 tyX11_ok nmX11 6 (by decide) (by decide +kernel) rfl rfl hnm rfl (by decide +kernel) rfl rfl (Nat.le_of_ble_eq_true rfl) dX11_init_68 ?_
  refine x_v (w := (va_up (va_up (va_up (va_up (va_up (va_up (va_up (va_up (va_up (va_up (va_up (va_up (va_up (va_up (va_up v 1 (rarr E 2 8 B (fun _ => none))) 0 (.inr (10, [.ref (B + 1), .ref (B + 2), .ref (B + 5), .ref (B + 7), .ref (B + 12), .ref (B + 13), .ref (B + 14), .null, .int (zI 0), .int (zI 0), .int (zI 0), .int (zI 0)]))) 2 (.inr (7, [.ref (B + 3), .ref (B + 4), .int (zI 0), .int (zI 0), .int (zI 0), .int (zI 0), .int (zI 0), .int (zI 0), .int (zI 0)]))) 3 (iarr E 400 (fun _ => (0 : Int)))) 4 (iarr E 4 (fun _ => (0 : Int)))) 5 (.inr (8, [.ref (B + 6), .int (zI 0)]))) 6 (iarr E 16 (fun _ => (0 : Int)))) 7 (.inr (4, [.ref (B + 8), .ref (B + 9), .int (zI 0), .ref (B + 10), .ref (B + 11)]))) 8 (iarr E 8 (fun _ => (0 : Int)))) 9 (barr E 8 (fun _ => (0 : Int)))) 10 (iarr E 8 (fun _ => (0 : Int)))) 11 (iarr E 8 (fun _ => (0 : Int)))) 12 (rarr E 3 24 B (fun _ => none))) 13 (rarr E 3 2 B (fun _ => none))) 14 (rarr E 4 2 B (fun _ => none)))) (up_at13 (by decide) (by decide) (by decide) (by decide) (by decide) (by decide) (by decide) (by decide) (by decide) (by decide) (by decide) (by decide) (by decide)).symm ?_
  refine x_aload_n (pc := 71) 0 K rfl rfl dX11_init_71 ?_
  refine x_null (pc := 72) K dX11_init_72 ?_
  refine x_put (pc := 73) (C := RX11) (T := TX11) (n := 12) (ci := 10) (idx := 49) (ref := "BorderBeds") (ty := .object "BorderBeds$Ground")  K (cel_ne (cel_ne (cel_ne (cel_ne (cel_ne (cel_ne (cel_ne (cel_ne (cel_ne (cel_ne (cel_ne (cel_ne (cel_ne (cel_self (Nat.lt_of_lt_of_le hc0.1 (by omega))) (by decide)) (by decide)) (by decide)) (by decide)) (by decide)) (by decide)) (by decide)) (by decide)) (by decide)) (by decide)) (by decide)) (by decide)) (by decide)) rfl (by decide +kernel) tyX11 tyX11_ok nmX11 7 (by decide) (by decide +kernel) rfl rfl (by decide +kernel) rfl rfl (Nat.le_of_ble_eq_true rfl) dX11_init_73 ?_
  refine x_v (w := (va_up (va_up (va_up (va_up (va_up (va_up (va_up (va_up (va_up (va_up (va_up (va_up (va_up (va_up (va_up v 1 (rarr E 2 8 B (fun _ => none))) 0 (.inr (10, [.ref (B + 1), .ref (B + 2), .ref (B + 5), .ref (B + 7), .ref (B + 12), .ref (B + 13), .ref (B + 14), .null, .int (zI 0), .int (zI 0), .int (zI 0), .int (zI 0)]))) 2 (.inr (7, [.ref (B + 3), .ref (B + 4), .int (zI 0), .int (zI 0), .int (zI 0), .int (zI 0), .int (zI 0), .int (zI 0), .int (zI 0)]))) 3 (iarr E 400 (fun _ => (0 : Int)))) 4 (iarr E 4 (fun _ => (0 : Int)))) 5 (.inr (8, [.ref (B + 6), .int (zI 0)]))) 6 (iarr E 16 (fun _ => (0 : Int)))) 7 (.inr (4, [.ref (B + 8), .ref (B + 9), .int (zI 0), .ref (B + 10), .ref (B + 11)]))) 8 (iarr E 8 (fun _ => (0 : Int)))) 9 (barr E 8 (fun _ => (0 : Int)))) 10 (iarr E 8 (fun _ => (0 : Int)))) 11 (iarr E 8 (fun _ => (0 : Int)))) 12 (rarr E 3 24 B (fun _ => none))) 13 (rarr E 3 2 B (fun _ => none))) 14 (rarr E 4 2 B (fun _ => none)))) (up_at13 (by decide) (by decide) (by decide) (by decide) (by decide) (by decide) (by decide) (by decide) (by decide) (by decide) (by decide) (by decide) (by decide)).symm ?_
  refine x_aload_n (pc := 76) 0 K rfl rfl dX11_init_76 ?_
  refine x_iconst (pc := 77) K dX11_init_77 ?_
  refine x_put (pc := 78) (C := RX11) (T := TX11) (n := 12) (ci := 10) (idx := 53) (ref := "BorderBeds") (ty := .int)  K (cel_ne (cel_ne (cel_ne (cel_ne (cel_ne (cel_ne (cel_ne (cel_ne (cel_ne (cel_ne (cel_ne (cel_ne (cel_ne (cel_self (Nat.lt_of_lt_of_le hc0.1 (by omega))) (by decide)) (by decide)) (by decide)) (by decide)) (by decide)) (by decide)) (by decide)) (by decide)) (by decide)) (by decide)) (by decide)) (by decide)) (by decide)) rfl (by decide +kernel) tyX11 tyX11_ok nmX11 8 (by decide) (by decide +kernel) rfl rfl (by decide +kernel) rfl rfl (Nat.le_of_ble_eq_true rfl) dX11_init_78 ?_
  refine x_v (w := (va_up (va_up (va_up (va_up (va_up (va_up (va_up (va_up (va_up (va_up (va_up (va_up (va_up (va_up (va_up v 1 (rarr E 2 8 B (fun _ => none))) 0 (.inr (10, [.ref (B + 1), .ref (B + 2), .ref (B + 5), .ref (B + 7), .ref (B + 12), .ref (B + 13), .ref (B + 14), .null, .int (zI 0), .int (zI 0), .int (zI 0), .int (zI 0)]))) 2 (.inr (7, [.ref (B + 3), .ref (B + 4), .int (zI 0), .int (zI 0), .int (zI 0), .int (zI 0), .int (zI 0), .int (zI 0), .int (zI 0)]))) 3 (iarr E 400 (fun _ => (0 : Int)))) 4 (iarr E 4 (fun _ => (0 : Int)))) 5 (.inr (8, [.ref (B + 6), .int (zI 0)]))) 6 (iarr E 16 (fun _ => (0 : Int)))) 7 (.inr (4, [.ref (B + 8), .ref (B + 9), .int (zI 0), .ref (B + 10), .ref (B + 11)]))) 8 (iarr E 8 (fun _ => (0 : Int)))) 9 (barr E 8 (fun _ => (0 : Int)))) 10 (iarr E 8 (fun _ => (0 : Int)))) 11 (iarr E 8 (fun _ => (0 : Int)))) 12 (rarr E 3 24 B (fun _ => none))) 13 (rarr E 3 2 B (fun _ => none))) 14 (rarr E 4 2 B (fun _ => none)))) (up_at13 (by decide) (by decide) (by decide) (by decide) (by decide) (by decide) (by decide) (by decide) (by decide) (by decide) (by decide) (by decide) (by decide)).symm ?_
  refine x_aload_n (pc := 81) 0 K rfl rfl dX11_init_81 ?_
  refine x_iconst (pc := 82) K dX11_init_82 ?_
  refine x_put (pc := 83) (C := RX11) (T := TX11) (n := 12) (ci := 10) (idx := 57) (ref := "BorderBeds") (ty := .int)  K (cel_ne (cel_ne (cel_ne (cel_ne (cel_ne (cel_ne (cel_ne (cel_ne (cel_ne (cel_ne (cel_ne (cel_ne (cel_ne (cel_self (Nat.lt_of_lt_of_le hc0.1 (by omega))) (by decide)) (by decide)) (by decide)) (by decide)) (by decide)) (by decide)) (by decide)) (by decide)) (by decide)) (by decide)) (by decide)) (by decide)) (by decide)) rfl (by decide +kernel) tyX11 tyX11_ok nmX11 9 (by decide) (by decide +kernel) rfl rfl (by decide +kernel) rfl rfl (Nat.le_of_ble_eq_true rfl) dX11_init_83 ?_
  refine x_v (w := (va_up (va_up (va_up (va_up (va_up (va_up (va_up (va_up (va_up (va_up (va_up (va_up (va_up (va_up (va_up v 1 (rarr E 2 8 B (fun _ => none))) 0 (.inr (10, [.ref (B + 1), .ref (B + 2), .ref (B + 5), .ref (B + 7), .ref (B + 12), .ref (B + 13), .ref (B + 14), .null, .int (zI 0), .int (zI 0), .int (zI 0), .int (zI 0)]))) 2 (.inr (7, [.ref (B + 3), .ref (B + 4), .int (zI 0), .int (zI 0), .int (zI 0), .int (zI 0), .int (zI 0), .int (zI 0), .int (zI 0)]))) 3 (iarr E 400 (fun _ => (0 : Int)))) 4 (iarr E 4 (fun _ => (0 : Int)))) 5 (.inr (8, [.ref (B + 6), .int (zI 0)]))) 6 (iarr E 16 (fun _ => (0 : Int)))) 7 (.inr (4, [.ref (B + 8), .ref (B + 9), .int (zI 0), .ref (B + 10), .ref (B + 11)]))) 8 (iarr E 8 (fun _ => (0 : Int)))) 9 (barr E 8 (fun _ => (0 : Int)))) 10 (iarr E 8 (fun _ => (0 : Int)))) 11 (iarr E 8 (fun _ => (0 : Int)))) 12 (rarr E 3 24 B (fun _ => none))) 13 (rarr E 3 2 B (fun _ => none))) 14 (rarr E 4 2 B (fun _ => none)))) (up_at13 (by decide) (by decide) (by decide) (by decide) (by decide) (by decide) (by decide) (by decide) (by decide) (by decide) (by decide) (by decide) (by decide)).symm ?_
  refine x_aload_n (pc := 86) 0 K rfl rfl dX11_init_86 ?_
  refine x_iconst (pc := 87) K dX11_init_87 ?_
  refine x_put (pc := 88) (C := RX11) (T := TX11) (n := 12) (ci := 10) (idx := 60) (ref := "BorderBeds") (ty := .int)  K (cel_ne (cel_ne (cel_ne (cel_ne (cel_ne (cel_ne (cel_ne (cel_ne (cel_ne (cel_ne (cel_ne (cel_ne (cel_ne (cel_self (Nat.lt_of_lt_of_le hc0.1 (by omega))) (by decide)) (by decide)) (by decide)) (by decide)) (by decide)) (by decide)) (by decide)) (by decide)) (by decide)) (by decide)) (by decide)) (by decide)) (by decide)) rfl (by decide +kernel) tyX11 tyX11_ok nmX11 10 (by decide) (by decide +kernel) rfl rfl (by decide +kernel) rfl rfl (Nat.le_of_ble_eq_true rfl) dX11_init_88 ?_
  refine x_v (w := (va_up (va_up (va_up (va_up (va_up (va_up (va_up (va_up (va_up (va_up (va_up (va_up (va_up (va_up (va_up v 1 (rarr E 2 8 B (fun _ => none))) 0 (.inr (10, [.ref (B + 1), .ref (B + 2), .ref (B + 5), .ref (B + 7), .ref (B + 12), .ref (B + 13), .ref (B + 14), .null, .int (zI 0), .int (zI 0), .int (zI 0), .int (zI 0)]))) 2 (.inr (7, [.ref (B + 3), .ref (B + 4), .int (zI 0), .int (zI 0), .int (zI 0), .int (zI 0), .int (zI 0), .int (zI 0), .int (zI 0)]))) 3 (iarr E 400 (fun _ => (0 : Int)))) 4 (iarr E 4 (fun _ => (0 : Int)))) 5 (.inr (8, [.ref (B + 6), .int (zI 0)]))) 6 (iarr E 16 (fun _ => (0 : Int)))) 7 (.inr (4, [.ref (B + 8), .ref (B + 9), .int (zI 0), .ref (B + 10), .ref (B + 11)]))) 8 (iarr E 8 (fun _ => (0 : Int)))) 9 (barr E 8 (fun _ => (0 : Int)))) 10 (iarr E 8 (fun _ => (0 : Int)))) 11 (iarr E 8 (fun _ => (0 : Int)))) 12 (rarr E 3 24 B (fun _ => none))) 13 (rarr E 3 2 B (fun _ => none))) 14 (rarr E 4 2 B (fun _ => none)))) (up_at13 (by decide) (by decide) (by decide) (by decide) (by decide) (by decide) (by decide) (by decide) (by decide) (by decide) (by decide) (by decide) (by decide)).symm ?_
  refine x_aload_n (pc := 91) 0 K rfl rfl dX11_init_91 ?_
  refine x_iconst (pc := 92) K dX11_init_92 ?_
  refine x_put (pc := 93) (C := RX11) (T := TX11) (n := 12) (ci := 10) (idx := 63) (ref := "BorderBeds") (ty := .int)  K (cel_ne (cel_ne (cel_ne (cel_ne (cel_ne (cel_ne (cel_ne (cel_ne (cel_ne (cel_ne (cel_ne (cel_ne (cel_ne (cel_self (Nat.lt_of_lt_of_le hc0.1 (by omega))) (by decide)) (by decide)) (by decide)) (by decide)) (by decide)) (by decide)) (by decide)) (by decide)) (by decide)) (by decide)) (by decide)) (by decide)) (by decide)) rfl (by decide +kernel) tyX11 tyX11_ok nmX11 11 (by decide) (by decide +kernel) rfl rfl (by decide +kernel) rfl rfl (Nat.le_of_ble_eq_true rfl) dX11_init_93 ?_
  refine x_v (w := (va_up (va_up (va_up (va_up (va_up (va_up (va_up (va_up (va_up (va_up (va_up (va_up (va_up (va_up (va_up v 1 (rarr E 2 8 B (fun _ => none))) 0 (.inr (10, [.ref (B + 1), .ref (B + 2), .ref (B + 5), .ref (B + 7), .ref (B + 12), .ref (B + 13), .ref (B + 14), .null, .int (zI 0), .int (zI 0), .int (zI 0), .int (zI 0)]))) 2 (.inr (7, [.ref (B + 3), .ref (B + 4), .int (zI 0), .int (zI 0), .int (zI 0), .int (zI 0), .int (zI 0), .int (zI 0), .int (zI 0)]))) 3 (iarr E 400 (fun _ => (0 : Int)))) 4 (iarr E 4 (fun _ => (0 : Int)))) 5 (.inr (8, [.ref (B + 6), .int (zI 0)]))) 6 (iarr E 16 (fun _ => (0 : Int)))) 7 (.inr (4, [.ref (B + 8), .ref (B + 9), .int (zI 0), .ref (B + 10), .ref (B + 11)]))) 8 (iarr E 8 (fun _ => (0 : Int)))) 9 (barr E 8 (fun _ => (0 : Int)))) 10 (iarr E 8 (fun _ => (0 : Int)))) 11 (iarr E 8 (fun _ => (0 : Int)))) 12 (rarr E 3 24 B (fun _ => none))) 13 (rarr E 3 2 B (fun _ => none))) 14 (rarr E 4 2 B (fun _ => none)))) (up_at13 (by decide) (by decide) (by decide) (by decide) (by decide) (by decide) (by decide) (by decide) (by decide) (by decide) (by decide) (by decide) (by decide)).symm ?_
  refine x_iconst (pc := 96) K dX11_init_96 ?_
  refine x_istore_n (pc := 97) K (L' := [(1, .int (zI 0)), (0, .ref (B + 0))]) hnL rfl (by decide) rfl dX11_init_97 ?_
  have LOOP98 : ∀ (n_98 : Nat) (N3 : Nat) (v3 : Nat → va_E) (k3 : Nat), (XI E B N3 v3 k3 0 0) → (k3 ≤ 8) → (8 - k3) < n_98 → XW Γ N3 v3 [(0, .ref (B + 0)), (1, .int (zI (k3 : Int)))] (14 + 2 * k3) (504 + 43 * k3) 98 [] := by
    intro n_98
    induction n_98 with
    | zero =>
      intro N3 v3 k3 hX3 hi98_0 hm_98
      exfalso; omega
    | succ n_98 ih98 =>
      intro N3 v3 k3 hX3 hi98_0 hm_98
      have hX9 := hX3
      obtain ⟨eN, X0, X1, X2, X3, X4, X5, X6, X7, X12, X13, X14, XR, XA, XM⟩ := hX9
      refine x_iload_n (pc := 98) 1 K rfl rfl dX11_init_98 ?_
      refine x_bipush (pc := 99) K (by decide) dX11_init_99 ?_
      refine x_icmp_ge (pc := 101) (tgt := 123) K (by omega) (by decide) dX11_init_101 (by decide) (fun h_101 => ?_) (fun h_101 => ?_)
      · skip
        obtain rfl : k3 = 8 := by omega
        refine x_kc (kc' := 30) (ks' := 848) rfl rfl ?_
        refine x_iconst (pc := 123) K dX11_init_123 ?_
        refine x_istore_n (pc := 124) K (L' := [(1, .int (zI 0)), (0, .ref (B + 0))]) hnL rfl (by decide) rfl dX11_init_124 ?_
        have LOOP125 : ∀ (n_125 : Nat) (N4 : Nat) (v4 : Nat → va_E) (k4 : Nat), (XI E B N4 v4 8 k4 0) → (k4 ≤ 24) → (24 - k4) < n_125 → XW Γ N4 v4 [(0, .ref (B + 0)), (1, .int (zI (k4 : Int)))] (30 + 5 * k4) (848 + 37 * k4) 125 [] := by
          intro n_125
          induction n_125 with
          | zero =>
            intro N4 v4 k4 hX4 hi125_0 hm_125
            exfalso; omega
          | succ n_125 ih125 =>
            intro N4 v4 k4 hX4 hi125_0 hm_125
            have hX9 := hX4
            obtain ⟨eN, X0, X1, X2, X3, X4, X5, X6, X7, X12, X13, X14, XR, XA, XM⟩ := hX9
            refine x_iload_n (pc := 125) 1 K rfl rfl dX11_init_125 ?_
            refine x_bipush (pc := 126) K (by decide) dX11_init_126 ?_
            refine x_icmp_ge (pc := 128) (tgt := 150) K (by omega) (by decide) dX11_init_128 (by decide) (fun h_128 => ?_) (fun h_128 => ?_)
            · skip
              obtain rfl : k4 = 24 := by omega
              refine x_kc (kc' := 150) (ks' := 1736) rfl rfl ?_
              refine x_iconst (pc := 150) K dX11_init_150 ?_
              refine x_istore_n (pc := 151) K (L' := [(1, .int (zI 0)), (0, .ref (B + 0))]) hnL rfl (by decide) rfl dX11_init_151 ?_
              have LOOP152 : ∀ (n_152 : Nat) (N5 : Nat) (v5 : Nat → va_E) (k5 : Nat), (XI E B N5 v5 8 24 k5) → (k5 ≤ 2) → (2 - k5) < n_152 → XW Γ N5 v5 [(0, .ref (B + 0)), (1, .int (zI (k5 : Int)))] (150 + 5 * k5) (1736 + 37 * k5) 152 [] := by
                intro n_152
                induction n_152 with
                | zero =>
                  intro N5 v5 k5 hX5 hi152_0 hm_152
                  exfalso; omega
                | succ n_152 ih152 =>
                  intro N5 v5 k5 hX5 hi152_0 hm_152
                  have hX9 := hX5
                  obtain ⟨eN, X0, X1, X2, X3, X4, X5, X6, X7, X12, X13, X14, XR, XA, XM⟩ := hX9
                  refine x_iload_n (pc := 152) 1 K rfl rfl dX11_init_152 ?_
                  refine x_iconst (pc := 153) K dX11_init_153 ?_
                  refine x_icmp_ge (pc := 154) (tgt := 176) K (by omega) (by decide) dX11_init_154 (by decide) (fun h_154 => ?_) (fun h_154 => ?_)
                  · skip
                    obtain rfl : k5 = 2 := by omega
                    refine x_kc (kc' := 160) (ks' := 1810) rfl rfl ?_
                    refine x_vret (pc := 176) K KR (by omega) (Nat.le_of_ble_eq_true rfl) (Nat.le_of_ble_eq_true rfl) dX11_init_176 ?_
                    exact ⟨by have := hX5.1; omega, hX5, rfl⟩
                  · skip
                    refine x_aload_n (pc := 157) 0 K rfl rfl dX11_init_157 ?_
                    refine x_get (pc := 158) (C := RX11) (T := TX11) (n := 12) (ci := 10) (idx := 40) (ref := "BorderBeds") (x := .ref (B + 13))  K X0 rfl (by decide +kernel) 5 (by decide) (by decide +kernel) rfl rfl dX11_init_158 ?_
                    refine x_iload_n (pc := 161) 1 K rfl rfl dX11_init_161 ?_
                    refine x_new (pc := 162) (C := RX4) (T := TX4) (n := 5) (ci := 4) (fs := [.null, .null, .int (zI 0), .null, .null]) K rfl (by decide +kernel) tyX4 tyX4_ok (by decide +kernel) (by decide +kernel) (by decide +kernel) (by decide +kernel) (by show (150 + 5 * k5) + 1 ≤ 160; omega) (by show (1736 + 37 * k5) + 5 ≤ 1810; omega) dX11_init_162 ?_
                    refine x_N (M := (N5 + 1)) rfl ?_
                    refine x_dup (pc := 165) K rfl dX11_init_165 ?_
                    refine x_callIN (pc := 166) (As := []) K (c_X4_init (E := E) (B := B)   (cel_self (by omega)) ) gX11_init_X4_init_n31 rfl (by decide +kernel) (by decide +kernel) (by decide +kernel) rfl (na := 0) (by decide +kernel) rfl ⟨(Nat.le_of_ble_eq_true rfl), (Nat.le_of_ble_eq_true rfl)⟩ (st := [.ref (B + N5), .int (zI (k5 : Int)), .ref (B + 13)]) rfl (Nat.le_of_ble_eq_true rfl) ⟨(by show ((150 + 5 * k5) + 1) + 4 ≤ 160; omega), (by show ((1736 + 37 * k5) + 5) + 32 ≤ 1810; omega)⟩ dX11_init_166 (fun r166 N166 w166 hpo166 hN166 => ?_)
                    obtain ⟨rfl, rfl, rfl⟩ := hpo166
                    refine x_N (M := (N5 + 5)) rfl ?_
                    refine x_v (congrArg (fun w => (va_up (va_up (va_up (va_up w (N5 + 1) (iarr E 8 (fun _ => (0 : Int)))) (N5 + 2) (barr E 8 (fun _ => (0 : Int)))) (N5 + 3) (iarr E 8 (fun _ => (0 : Int)))) (N5 + 4) (iarr E 8 (fun _ => (0 : Int))))) (show (va_up v5 N5 (.inr (4, [.ref (B + (N5 + 1)), .ref (B + (N5 + 2)), .int (zI 0), .ref (B + (N5 + 3)), .ref (B + (N5 + 4))]))) = _ from (up_at0).symm)) ?_
                    refine x_v (congrArg (fun w => (va_up (va_up (va_up w (N5 + 2) (barr E 8 (fun _ => (0 : Int)))) (N5 + 3) (iarr E 8 (fun _ => (0 : Int)))) (N5 + 4) (iarr E 8 (fun _ => (0 : Int))))) (show (va_up (va_up v5 N5 (.inr (4, [.ref (B + (N5 + 1)), .ref (B + (N5 + 2)), .int (zI 0), .ref (B + (N5 + 3)), .ref (B + (N5 + 4))]))) (N5 + 1) (iarr E 8 (fun _ => (0 : Int)))) = _ from rfl)) ?_
                    refine x_v (congrArg (fun w => (va_up (va_up w (N5 + 3) (iarr E 8 (fun _ => (0 : Int)))) (N5 + 4) (iarr E 8 (fun _ => (0 : Int))))) (show (va_up (va_up (va_up v5 N5 (.inr (4, [.ref (B + (N5 + 1)), .ref (B + (N5 + 2)), .int (zI 0), .ref (B + (N5 + 3)), .ref (B + (N5 + 4))]))) (N5 + 1) (iarr E 8 (fun _ => (0 : Int)))) (N5 + 2) (barr E 8 (fun _ => (0 : Int)))) = _ from rfl)) ?_
                    refine x_v (congrArg (fun w => (va_up w (N5 + 4) (iarr E 8 (fun _ => (0 : Int))))) (show (va_up (va_up (va_up (va_up v5 N5 (.inr (4, [.ref (B + (N5 + 1)), .ref (B + (N5 + 2)), .int (zI 0), .ref (B + (N5 + 3)), .ref (B + (N5 + 4))]))) (N5 + 1) (iarr E 8 (fun _ => (0 : Int)))) (N5 + 2) (barr E 8 (fun _ => (0 : Int)))) (N5 + 3) (iarr E 8 (fun _ => (0 : Int)))) = _ from rfl)) ?_
                    refine x_v (w := (va_up (va_up (va_up (va_up (va_up v5 N5 (.inr (4, [.ref (B + (N5 + 1)), .ref (B + (N5 + 2)), .int (zI 0), .ref (B + (N5 + 3)), .ref (B + (N5 + 4))]))) (N5 + 1) (iarr E 8 (fun _ => (0 : Int)))) (N5 + 2) (barr E 8 (fun _ => (0 : Int)))) (N5 + 3) (iarr E 8 (fun _ => (0 : Int)))) (N5 + 4) (iarr E 8 (fun _ => (0 : Int))))) rfl ?_
                    refine x_st (st' := [.ref (B + N5), .int (zI (k5 : Int)), .ref (B + 13)]) rfl ?_
                    refine x_aast (pc := 169) (r := (RX4, TX4, 5)) k5 K (cel_ne (cel_ne (cel_ne (cel_ne (cel_ne (cel_gr X13 (by omega)) (by omega)) (by omega)) (by omega)) (by omega)) (by omega)) (cel_ne (cel_ne (cel_ne (cel_ne (cel_self (by omega)) (by omega)) (by omega)) (by omega)) (by omega)) rfl rfl rfl (by omega) (by decide) dX11_init_169 ?_
                    refine x_v (w := (va_up (va_up (va_up (va_up (va_up (va_up v5 N5 (.inr (4, [.ref (B + (N5 + 1)), .ref (B + (N5 + 2)), .int (zI 0), .ref (B + (N5 + 3)), .ref (B + (N5 + 4))]))) (N5 + 1) (iarr E 8 (fun _ => (0 : Int)))) (N5 + 2) (barr E 8 (fun _ => (0 : Int)))) (N5 + 3) (iarr E 8 (fun _ => (0 : Int)))) (N5 + 4) (iarr E 8 (fun _ => (0 : Int)))) 13 (rarr E 3 2 B (va_up (iq k5) k5 (some N5))))) rfl ?_
                    refine x_iinc (pc := 170) (L' := [(1, .int (zI ((k5 : Int) + 1))), (0, .ref (B + 0))]) 1 K hnL rfl (by decide) rfl dX11_init_170 ?_
                    refine x_goto (pc := 173) (tgt := 152) K dX11_init_173 (by decide) ?_
                    refine x_sub (L' := [(0, .ref (B + 0)), (1, .int (zI ((k5 : Int) + 1)))]) [1, 0] rfl ?_
                    refine x_kc (kc' := 150 + 5 * (k5 + 1)) (ks' := 1736 + 37 * (k5 + 1)) (by show 150 + 5 * (k5 + 1) = (((150 + 5 * k5) + 1) + 4); omega) (by show 1736 + 37 * (k5 + 1) = (((1736 + 37 * k5) + 5) + 32); omega) ?_
                    exact ih152 (N5 + 5) (va_up (va_up (va_up (va_up (va_up (va_up v5 N5 (.inr (4, [.ref (B + (N5 + 1)), .ref (B + (N5 + 2)), .int (zI 0), .ref (B + (N5 + 3)), .ref (B + (N5 + 4))]))) (N5 + 1) (iarr E 8 (fun _ => (0 : Int)))) (N5 + 2) (barr E 8 (fun _ => (0 : Int)))) (N5 + 3) (iarr E 8 (fun _ => (0 : Int)))) (N5 + 4) (iarr E 8 (fun _ => (0 : Int)))) 13 (rarr E 3 2 B (va_up (iq k5) k5 (some N5)))) (k5 + 1) (XI_img hX5 (by omega)) (by omega) (by omega)
              refine x_sub (L' := [(0, .ref (B + 0)), (1, .int (zI 0))]) [1, 0] rfl ?_
              refine x_kc (kc' := 150 + 5 * 0) (ks' := 1736 + 37 * 0) (by show 150 + 5 * 0 = 150; omega) (by show 1736 + 37 * 0 = 1736; omega) ?_
              exact LOOP152 (_) N4 v4 0 hX4 (by omega) (Nat.lt_succ_self _)
            · skip
              refine x_aload_n (pc := 131) 0 K rfl rfl dX11_init_131 ?_
              refine x_get (pc := 132) (C := RX11) (T := TX11) (n := 12) (ci := 10) (idx := 36) (ref := "BorderBeds") (x := .ref (B + 12))  K X0 rfl (by decide +kernel) 4 (by decide) (by decide +kernel) rfl rfl dX11_init_132 ?_
              refine x_iload_n (pc := 135) 1 K rfl rfl dX11_init_135 ?_
              refine x_new (pc := 136) (C := RX4) (T := TX4) (n := 5) (ci := 4) (fs := [.null, .null, .int (zI 0), .null, .null]) K rfl (by decide +kernel) tyX4 tyX4_ok (by decide +kernel) (by decide +kernel) (by decide +kernel) (by decide +kernel) (by show (30 + 5 * k4) + 1 ≤ 160; omega) (by show (848 + 37 * k4) + 5 ≤ 1810; omega) dX11_init_136 ?_
              refine x_N (M := (N4 + 1)) rfl ?_
              refine x_dup (pc := 139) K rfl dX11_init_139 ?_
              refine x_callIN (pc := 140) (As := []) K (c_X4_init (E := E) (B := B)   (cel_self (by omega)) ) gX11_init_X4_init_n31 rfl (by decide +kernel) (by decide +kernel) (by decide +kernel) rfl (na := 0) (by decide +kernel) rfl ⟨(Nat.le_of_ble_eq_true rfl), (Nat.le_of_ble_eq_true rfl)⟩ (st := [.ref (B + N4), .int (zI (k4 : Int)), .ref (B + 12)]) rfl (Nat.le_of_ble_eq_true rfl) ⟨(by show ((30 + 5 * k4) + 1) + 4 ≤ 160; omega), (by show ((848 + 37 * k4) + 5) + 32 ≤ 1810; omega)⟩ dX11_init_140 (fun r140 N140 w140 hpo140 hN140 => ?_)
              obtain ⟨rfl, rfl, rfl⟩ := hpo140
              refine x_N (M := (N4 + 5)) rfl ?_
              refine x_v (congrArg (fun w => (va_up (va_up (va_up (va_up w (N4 + 1) (iarr E 8 (fun _ => (0 : Int)))) (N4 + 2) (barr E 8 (fun _ => (0 : Int)))) (N4 + 3) (iarr E 8 (fun _ => (0 : Int)))) (N4 + 4) (iarr E 8 (fun _ => (0 : Int))))) (show (va_up v4 N4 (.inr (4, [.ref (B + (N4 + 1)), .ref (B + (N4 + 2)), .int (zI 0), .ref (B + (N4 + 3)), .ref (B + (N4 + 4))]))) = _ from (up_at0).symm)) ?_
              refine x_v (congrArg (fun w => (va_up (va_up (va_up w (N4 + 2) (barr E 8 (fun _ => (0 : Int)))) (N4 + 3) (iarr E 8 (fun _ => (0 : Int)))) (N4 + 4) (iarr E 8 (fun _ => (0 : Int))))) (show (va_up (va_up v4 N4 (.inr (4, [.ref (B + (N4 + 1)), .ref (B + (N4 + 2)), .int (zI 0), .ref (B + (N4 + 3)), .ref (B + (N4 + 4))]))) (N4 + 1) (iarr E 8 (fun _ => (0 : Int)))) = _ from rfl)) ?_
              refine x_v (congrArg (fun w => (va_up (va_up w (N4 + 3) (iarr E 8 (fun _ => (0 : Int)))) (N4 + 4) (iarr E 8 (fun _ => (0 : Int))))) (show (va_up (va_up (va_up v4 N4 (.inr (4, [.ref (B + (N4 + 1)), .ref (B + (N4 + 2)), .int (zI 0), .ref (B + (N4 + 3)), .ref (B + (N4 + 4))]))) (N4 + 1) (iarr E 8 (fun _ => (0 : Int)))) (N4 + 2) (barr E 8 (fun _ => (0 : Int)))) = _ from rfl)) ?_
              refine x_v (congrArg (fun w => (va_up w (N4 + 4) (iarr E 8 (fun _ => (0 : Int))))) (show (va_up (va_up (va_up (va_up v4 N4 (.inr (4, [.ref (B + (N4 + 1)), .ref (B + (N4 + 2)), .int (zI 0), .ref (B + (N4 + 3)), .ref (B + (N4 + 4))]))) (N4 + 1) (iarr E 8 (fun _ => (0 : Int)))) (N4 + 2) (barr E 8 (fun _ => (0 : Int)))) (N4 + 3) (iarr E 8 (fun _ => (0 : Int)))) = _ from rfl)) ?_
              refine x_v (w := (va_up (va_up (va_up (va_up (va_up v4 N4 (.inr (4, [.ref (B + (N4 + 1)), .ref (B + (N4 + 2)), .int (zI 0), .ref (B + (N4 + 3)), .ref (B + (N4 + 4))]))) (N4 + 1) (iarr E 8 (fun _ => (0 : Int)))) (N4 + 2) (barr E 8 (fun _ => (0 : Int)))) (N4 + 3) (iarr E 8 (fun _ => (0 : Int)))) (N4 + 4) (iarr E 8 (fun _ => (0 : Int))))) rfl ?_
              refine x_st (st' := [.ref (B + N4), .int (zI (k4 : Int)), .ref (B + 12)]) rfl ?_
              refine x_aast (pc := 143) (r := (RX4, TX4, 5)) k4 K (cel_ne (cel_ne (cel_ne (cel_ne (cel_ne (cel_gr X12 (by omega)) (by omega)) (by omega)) (by omega)) (by omega)) (by omega)) (cel_ne (cel_ne (cel_ne (cel_ne (cel_self (by omega)) (by omega)) (by omega)) (by omega)) (by omega)) rfl rfl rfl (by omega) (by decide) dX11_init_143 ?_
              refine x_v (w := (va_up (va_up (va_up (va_up (va_up (va_up v4 N4 (.inr (4, [.ref (B + (N4 + 1)), .ref (B + (N4 + 2)), .int (zI 0), .ref (B + (N4 + 3)), .ref (B + (N4 + 4))]))) (N4 + 1) (iarr E 8 (fun _ => (0 : Int)))) (N4 + 2) (barr E 8 (fun _ => (0 : Int)))) (N4 + 3) (iarr E 8 (fun _ => (0 : Int)))) (N4 + 4) (iarr E 8 (fun _ => (0 : Int)))) 12 (rarr E 3 24 B (va_up (aq k4) k4 (some N4))))) rfl ?_
              refine x_iinc (pc := 144) (L' := [(1, .int (zI ((k4 : Int) + 1))), (0, .ref (B + 0))]) 1 K hnL rfl (by decide) rfl dX11_init_144 ?_
              refine x_goto (pc := 147) (tgt := 125) K dX11_init_147 (by decide) ?_
              refine x_sub (L' := [(0, .ref (B + 0)), (1, .int (zI ((k4 : Int) + 1)))]) [1, 0] rfl ?_
              refine x_kc (kc' := 30 + 5 * (k4 + 1)) (ks' := 848 + 37 * (k4 + 1)) (by show 30 + 5 * (k4 + 1) = (((30 + 5 * k4) + 1) + 4); omega) (by show 848 + 37 * (k4 + 1) = (((848 + 37 * k4) + 5) + 32); omega) ?_
              exact ih125 (N4 + 5) (va_up (va_up (va_up (va_up (va_up (va_up v4 N4 (.inr (4, [.ref (B + (N4 + 1)), .ref (B + (N4 + 2)), .int (zI 0), .ref (B + (N4 + 3)), .ref (B + (N4 + 4))]))) (N4 + 1) (iarr E 8 (fun _ => (0 : Int)))) (N4 + 2) (barr E 8 (fun _ => (0 : Int)))) (N4 + 3) (iarr E 8 (fun _ => (0 : Int)))) (N4 + 4) (iarr E 8 (fun _ => (0 : Int)))) 12 (rarr E 3 24 B (va_up (aq k4) k4 (some N4)))) (k4 + 1) (XI_act hX4 (by omega)) (by omega) (by omega)
        refine x_sub (L' := [(0, .ref (B + 0)), (1, .int (zI 0))]) [1, 0] rfl ?_
        refine x_kc (kc' := 30 + 5 * 0) (ks' := 848 + 37 * 0) (by show 30 + 5 * 0 = 30; omega) (by show 848 + 37 * 0 = 848; omega) ?_
        exact LOOP125 (_) N3 v3 0 hX3 (by omega) (Nat.lt_succ_self _)
      · skip
        refine x_aload_n (pc := 104) 0 K rfl rfl dX11_init_104 ?_
        refine x_get (pc := 105) (C := RX11) (T := TX11) (n := 12) (ci := 10) (idx := 11) (ref := "BorderBeds") (x := .ref (B + 1))  K X0 rfl (by decide +kernel) 0 (by decide) (by decide +kernel) rfl rfl dX11_init_105 ?_
        refine x_iload_n (pc := 108) 1 K rfl rfl dX11_init_108 ?_
        refine x_new (pc := 109) (C := RX7) (T := TX7) (n := 3) (ci := 6) (fs := [.null, .int (zI 0), .int (zI 0)]) K rfl (by decide +kernel) tyX7 tyX7_ok (by decide +kernel) (by decide +kernel) (by decide +kernel) (by decide +kernel) (by show (14 + 2 * k3) + 1 ≤ 160; omega) (by show (504 + 43 * k3) + 3 ≤ 1810; omega) dX11_init_109 ?_
        refine x_N (M := (N3 + 1)) rfl ?_
        refine x_dup (pc := 112) K rfl dX11_init_112 ?_
        refine x_callIN (pc := 113) (As := []) K (c_X7_init (E := E) (B := B)   (cel_self (by omega)) ) gX11_init_X7_init_n66 rfl (by decide +kernel) (by decide +kernel) (by decide +kernel) rfl (na := 0) (by decide +kernel) rfl ⟨(Nat.le_of_ble_eq_true rfl), (Nat.le_of_ble_eq_true rfl)⟩ (st := [.ref (B + N3), .int (zI (k3 : Int)), .ref (B + 1)]) rfl (Nat.le_of_ble_eq_true rfl) ⟨(by show ((14 + 2 * k3) + 1) + 1 ≤ 160; omega), (by show ((504 + 43 * k3) + 3) + 40 ≤ 1810; omega)⟩ dX11_init_113 (fun r113 N113 w113 hpo113 hN113 => ?_)
        obtain ⟨rfl, rfl, rfl⟩ := hpo113
        refine x_N (M := (N3 + 2)) rfl ?_
        refine x_v (congrArg (fun w => (va_up w (N3 + 1) (iarr E 40 (fun _ => (0 : Int))))) (show (va_up v3 N3 (.inr (6, [.ref (B + (N3 + 1)), .int (zI (-1)), .int (zI 0)]))) = _ from (up_at0).symm)) ?_
        refine x_v (w := (va_up (va_up v3 N3 (.inr (6, [.ref (B + (N3 + 1)), .int (zI (-1)), .int (zI 0)]))) (N3 + 1) (iarr E 40 (fun _ => (0 : Int))))) rfl ?_
        refine x_st (st' := [.ref (B + N3), .int (zI (k3 : Int)), .ref (B + 1)]) rfl ?_
        refine x_aast (pc := 116) (r := (RX7, TX7, 3)) k3 K (cel_ne (cel_ne (cel_gr X1 (by omega)) (by omega)) (by omega)) (cel_ne (cel_self (by omega)) (by omega)) rfl rfl rfl (by omega) (by decide) dX11_init_116 ?_
        refine x_v (w := (va_up (va_up (va_up v3 N3 (.inr (6, [.ref (B + (N3 + 1)), .int (zI (-1)), .int (zI 0)]))) (N3 + 1) (iarr E 40 (fun _ => (0 : Int)))) 1 (rarr E 2 8 B (va_up (rq k3) k3 (some N3))))) rfl ?_
        refine x_iinc (pc := 117) (L' := [(1, .int (zI ((k3 : Int) + 1))), (0, .ref (B + 0))]) 1 K hnL rfl (by decide) rfl dX11_init_117 ?_
        refine x_goto (pc := 120) (tgt := 98) K dX11_init_120 (by decide) ?_
        refine x_sub (L' := [(0, .ref (B + 0)), (1, .int (zI ((k3 : Int) + 1)))]) [1, 0] rfl ?_
        refine x_kc (kc' := 14 + 2 * (k3 + 1)) (ks' := 504 + 43 * (k3 + 1)) (by show 14 + 2 * (k3 + 1) = (((14 + 2 * k3) + 1) + 1); omega) (by show 504 + 43 * (k3 + 1) = (((504 + 43 * k3) + 3) + 40); omega) ?_
        exact ih98 (N3 + 2) (va_up (va_up (va_up v3 N3 (.inr (6, [.ref (B + (N3 + 1)), .int (zI (-1)), .int (zI 0)]))) (N3 + 1) (iarr E 40 (fun _ => (0 : Int)))) 1 (rarr E 2 8 B (va_up (rq k3) k3 (some N3)))) (k3 + 1) (XI_row hX3 (by omega)) (by omega) (by omega)
  refine x_sub (L' := [(0, .ref (B + 0)), (1, .int (zI 0))]) [1, 0] rfl ?_
  refine x_kc (kc' := 14 + 2 * 0) (ks' := 504 + 43 * 0) (by show 14 + 2 * 0 = 14; omega) (by show 504 + 43 * 0 = 504; omega) ?_
  exact LOOP98 (_) 15 (va_up (va_up (va_up (va_up (va_up (va_up (va_up (va_up (va_up (va_up (va_up (va_up (va_up (va_up (va_up v 1 (rarr E 2 8 B (fun _ => none))) 0 (.inr (10, [.ref (B + 1), .ref (B + 2), .ref (B + 5), .ref (B + 7), .ref (B + 12), .ref (B + 13), .ref (B + 14), .null, .int (zI 0), .int (zI 0), .int (zI 0), .int (zI 0)]))) 2 (.inr (7, [.ref (B + 3), .ref (B + 4), .int (zI 0), .int (zI 0), .int (zI 0), .int (zI 0), .int (zI 0), .int (zI 0), .int (zI 0)]))) 3 (iarr E 400 (fun _ => (0 : Int)))) 4 (iarr E 4 (fun _ => (0 : Int)))) 5 (.inr (8, [.ref (B + 6), .int (zI 0)]))) 6 (iarr E 16 (fun _ => (0 : Int)))) 7 (.inr (4, [.ref (B + 8), .ref (B + 9), .int (zI 0), .ref (B + 10), .ref (B + 11)]))) 8 (iarr E 8 (fun _ => (0 : Int)))) 9 (barr E 8 (fun _ => (0 : Int)))) 10 (iarr E 8 (fun _ => (0 : Int)))) 11 (iarr E 8 (fun _ => (0 : Int)))) 12 (rarr E 3 24 B (fun _ => none))) 13 (rarr E 3 2 B (fun _ => none))) 14 (rarr E 4 2 B (fun _ => none))) 0 ⟨rfl, (cel_ne (cel_ne (cel_ne (cel_ne (cel_ne (cel_ne (cel_ne (cel_ne (cel_ne (cel_ne (cel_ne (cel_ne (cel_ne (cel_self (Nat.lt_of_lt_of_le hc0.1 (by omega))) (by decide)) (by decide)) (by decide)) (by decide)) (by decide)) (by decide)) (by decide)) (by decide)) (by decide)) (by decide)) (by decide)) (by decide)) (by decide)), (by rw [rq_0]; exact (cel_ne (cel_ne (cel_ne (cel_ne (cel_ne (cel_ne (cel_ne (cel_ne (cel_ne (cel_ne (cel_ne (cel_ne (cel_ne (cel_ne (cel_self (by omega)) (by decide)) (by decide)) (by decide)) (by decide)) (by decide)) (by decide)) (by decide)) (by decide)) (by decide)) (by decide)) (by decide)) (by decide)) (by decide)) (by decide))), (cel_ne (cel_ne (cel_ne (cel_ne (cel_ne (cel_ne (cel_ne (cel_ne (cel_ne (cel_ne (cel_ne (cel_ne (cel_self (by omega)) (by decide)) (by decide)) (by decide)) (by decide)) (by decide)) (by decide)) (by decide)) (by decide)) (by decide)) (by decide)) (by decide)) (by decide)), (cel_ne (cel_ne (cel_ne (cel_ne (cel_ne (cel_ne (cel_ne (cel_ne (cel_ne (cel_ne (cel_ne (cel_self (by omega)) (by decide)) (by decide)) (by decide)) (by decide)) (by decide)) (by decide)) (by decide)) (by decide)) (by decide)) (by decide)) (by decide)), (cel_ne (cel_ne (cel_ne (cel_ne (cel_ne (cel_ne (cel_ne (cel_ne (cel_ne (cel_ne (cel_self (by omega)) (by decide)) (by decide)) (by decide)) (by decide)) (by decide)) (by decide)) (by decide)) (by decide)) (by decide)) (by decide)), (cel_ne (cel_ne (cel_ne (cel_ne (cel_ne (cel_ne (cel_ne (cel_ne (cel_ne (cel_self (by omega)) (by decide)) (by decide)) (by decide)) (by decide)) (by decide)) (by decide)) (by decide)) (by decide)) (by decide)), (cel_ne (cel_ne (cel_ne (cel_ne (cel_ne (cel_ne (cel_ne (cel_ne (cel_self (by omega)) (by decide)) (by decide)) (by decide)) (by decide)) (by decide)) (by decide)) (by decide)) (by decide)), ⟨(cel_ne (cel_ne (cel_ne (cel_ne (cel_ne (cel_ne (cel_ne (cel_self (by omega)) (by decide)) (by decide)) (by decide)) (by decide)) (by decide)) (by decide)) (by decide)), (cel_ne (cel_ne (cel_ne (cel_ne (cel_ne (cel_ne (cel_self (by omega)) (by decide)) (by decide)) (by decide)) (by decide)) (by decide)) (by decide)), (cel_ne (cel_ne (cel_ne (cel_ne (cel_ne (cel_self (by omega)) (by decide)) (by decide)) (by decide)) (by decide)) (by decide)), (cel_ne (cel_ne (cel_ne (cel_ne (cel_self (by omega)) (by decide)) (by decide)) (by decide)) (by decide)), (cel_ne (cel_ne (cel_ne (cel_self (by omega)) (by decide)) (by decide)) (by decide))⟩, (by rw [aq_0]; exact (cel_ne (cel_ne (cel_self (by omega)) (by decide)) (by decide))), (by rw [iq_0]; exact (cel_ne (cel_self (by omega)) (by decide))), (cel_self (by omega)), (fun i hi => absurd hi (Nat.not_lt_zero _)), (fun i hi => absurd hi (Nat.not_lt_zero _)), (fun i hi => absurd hi (Nat.not_lt_zero _))⟩ (by omega) (Nat.lt_succ_self _)
