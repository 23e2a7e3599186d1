theorem dX3_addVillage_0 : decode cX3_addVillage 0 = .ok (.aload_n 0, 1) := by decide +kernel
theorem dX3_addVillage_1 : decode cX3_addVillage 1 = .ok (.getfield 21, 3) := by decide +kernel
theorem dX3_addVillage_4 : decode cX3_addVillage 4 = .ok (.bipush 8, 2) := by decide +kernel
theorem dX3_addVillage_6 : decode cX3_addVillage 6 = .ok (.iload_n 2, 1) := by decide +kernel
theorem dX3_addVillage_7 : decode cX3_addVillage 7 = .ok (.imul, 1) := by decide +kernel
theorem dX3_addVillage_8 : decode cX3_addVillage 8 = .ok (.iload_n 1, 1) := by decide +kernel
theorem dX3_addVillage_9 : decode cX3_addVillage 9 = .ok (.iadd, 1) := by decide +kernel
theorem dX3_addVillage_10 : decode cX3_addVillage 10 = .ok (.dup2, 1) := by decide +kernel
theorem dX3_addVillage_11 : decode cX3_addVillage 11 = .ok (.iaload, 1) := by decide +kernel
theorem dX3_addVillage_12 : decode cX3_addVillage 12 = .ok (.iload_n 3, 1) := by decide +kernel
theorem dX3_addVillage_13 : decode cX3_addVillage 13 = .ok (.iadd, 1) := by decide +kernel
theorem dX3_addVillage_14 : decode cX3_addVillage 14 = .ok (.iastore, 1) := by decide +kernel
theorem dX3_addVillage_15 : decode cX3_addVillage 15 = .ok (.iload_n 2, 1) := by decide +kernel
theorem dX3_addVillage_16 : decode cX3_addVillage 16 = .ok (.iconst 1, 1) := by decide +kernel
theorem dX3_addVillage_17 : decode cX3_addVillage 17 = .ok (.iadd, 1) := by decide +kernel
theorem dX3_addVillage_18 : decode cX3_addVillage 18 = .ok (.istore 4, 2) := by decide +kernel
theorem dX3_addVillage_20 : decode cX3_addVillage 20 = .ok (.iload 4, 2) := by decide +kernel
theorem dX3_addVillage_22 : decode cX3_addVillage 22 = .ok (.bipush 6, 2) := by decide +kernel
theorem dX3_addVillage_24 : decode cX3_addVillage 24 = .ok (.if_icmp .gt 22, 3) := by decide +kernel
theorem dX3_addVillage_46 : decode cX3_addVillage 46 = .ok (.aload_n 0, 1) := by decide +kernel
theorem dX3_addVillage_47 : decode cX3_addVillage 47 = .ok (.dup, 1) := by decide +kernel
theorem dX3_addVillage_48 : decode cX3_addVillage 48 = .ok (.getfield 29, 3) := by decide +kernel
theorem dX3_addVillage_51 : decode cX3_addVillage 51 = .ok (.iconst 1, 1) := by decide +kernel
theorem dX3_addVillage_52 : decode cX3_addVillage 52 = .ok (.iadd, 1) := by decide +kernel
theorem dX3_addVillage_53 : decode cX3_addVillage 53 = .ok (.putfield 29, 3) := by decide +kernel
theorem dX3_addVillage_56 : decode cX3_addVillage 56 = .ok (.return_, 1) := by decide +kernel
theorem dX3_addVillage_27 : decode cX3_addVillage 27 = .ok (.aload_n 0, 1) := by decide +kernel
theorem dX3_addVillage_28 : decode cX3_addVillage 28 = .ok (.getfield 43, 3) := by decide +kernel
theorem dX3_addVillage_31 : decode cX3_addVillage 31 = .ok (.iload_n 1, 1) := by decide +kernel
theorem dX3_addVillage_32 : decode cX3_addVillage 32 = .ok (.aaload, 1) := by decide +kernel
theorem dX3_addVillage_33 : decode cX3_addVillage 33 = .ok (.iload 4, 2) := by decide +kernel
theorem dX3_addVillage_35 : decode cX3_addVillage 35 = .ok (.dup2, 1) := by decide +kernel
theorem dX3_addVillage_36 : decode cX3_addVillage 36 = .ok (.iaload, 1) := by decide +kernel
theorem dX3_addVillage_37 : decode cX3_addVillage 37 = .ok (.iload_n 3, 1) := by decide +kernel
theorem dX3_addVillage_38 : decode cX3_addVillage 38 = .ok (.iadd, 1) := by decide +kernel
theorem dX3_addVillage_39 : decode cX3_addVillage 39 = .ok (.iastore, 1) := by decide +kernel
theorem dX3_addVillage_40 : decode cX3_addVillage 40 = .ok (.iinc 4 1, 3) := by decide +kernel
theorem dX3_addVillage_43 : decode cX3_addVillage 43 = .ok (.goto (-23), 3) := by decide +kernel
theorem dX3_addPerson_0 : decode cX3_addPerson 0 = .ok (.aload_n 0, 1) := by decide +kernel
theorem dX3_addPerson_1 : decode cX3_addPerson 1 = .ok (.getfield 38, 3) := by decide +kernel
theorem dX3_addPerson_4 : decode cX3_addPerson 4 = .ok (.istore 5, 2) := by decide +kernel
theorem dX3_addPerson_6 : decode cX3_addPerson 6 = .ok (.iload 5, 2) := by decide +kernel
theorem dX3_addPerson_8 : decode cX3_addPerson 8 = .ok (.iconst 5, 1) := by decide +kernel
theorem dX3_addPerson_9 : decode cX3_addPerson 9 = .ok (.if_icmp .lt 4, 3) := by decide +kernel
theorem dX3_addPerson_13 : decode cX3_addPerson 13 = .ok (.iload_n 1, 1) := by decide +kernel
theorem dX3_addPerson_14 : decode cX3_addPerson 14 = .ok (.tableswitch 122 1 4 #[30, 53, 76, 99], 30) := by decide +kernel
theorem dX3_addPerson_44 : decode cX3_addPerson 44 = .ok (.aload_n 0, 1) := by decide +kernel
theorem dX3_addPerson_45 : decode cX3_addPerson 45 = .ok (.getfield 34, 3) := by decide +kernel
theorem dX3_addPerson_48 : decode cX3_addPerson 48 = .ok (.iload 5, 2) := by decide +kernel
theorem dX3_addPerson_50 : decode cX3_addPerson 50 = .ok (.new 56, 3) := by decide +kernel
theorem dX3_addPerson_53 : decode cX3_addPerson 53 = .ok (.dup, 1) := by decide +kernel
theorem dX3_addPerson_54 : decode cX3_addPerson 54 = .ok (.iload 5, 2) := by decide +kernel
theorem dX3_addPerson_56 : decode cX3_addPerson 56 = .ok (.iload_n 2, 1) := by decide +kernel
theorem dX3_addPerson_57 : decode cX3_addPerson 57 = .ok (.iload_n 3, 1) := by decide +kernel
theorem dX3_addPerson_58 : decode cX3_addPerson 58 = .ok (.iload 4, 2) := by decide +kernel
set_option maxRecDepth 20000 in
theorem ggX3_addPerson_X0_init : GoodIn wsX3_addPerson wsX0_init := goodIn_r _ [20, 21, 22, 23, 24, 25, 26, 27, 28, 29, 30, 31, 59, 60, 61, 62, 71, 72, 73, 74, 63, 64, 65, 66, 75, 76, 77, 78, 67, 68, 69, 70] (by decide +kernel) (by decide +kernel)
set_option maxRecDepth 20000 in
theorem gX3_addPerson_X0_init : GoodIn wsX3_addPerson (wsX0_init) := ggX3_addPerson_X0_init
theorem dX3_addPerson_60 : decode cX3_addPerson 60 = .ok (.invokespecial 58, 3) := by decide +kernel
theorem dX3_addPerson_63 : decode cX3_addPerson 63 = .ok (.aastore, 1) := by decide +kernel
theorem dX3_addPerson_64 : decode cX3_addPerson 64 = .ok (.goto 92, 3) := by decide +kernel
theorem dX3_addPerson_156 : decode cX3_addPerson 156 = .ok (.aload_n 0, 1) := by decide +kernel
theorem dX3_addPerson_157 : decode cX3_addPerson 157 = .ok (.dup, 1) := by decide +kernel
theorem dX3_addPerson_158 : decode cX3_addPerson 158 = .ok (.getfield 38, 3) := by decide +kernel
theorem dX3_addPerson_161 : decode cX3_addPerson 161 = .ok (.iconst 1, 1) := by decide +kernel
theorem dX3_addPerson_162 : decode cX3_addPerson 162 = .ok (.iadd, 1) := by decide +kernel
theorem dX3_addPerson_163 : decode cX3_addPerson 163 = .ok (.putfield 38, 3) := by decide +kernel
theorem dX3_addPerson_166 : decode cX3_addPerson 166 = .ok (.return_, 1) := by decide +kernel
theorem dX3_addPerson_67 : decode cX3_addPerson 67 = .ok (.aload_n 0, 1) := by decide +kernel
theorem dX3_addPerson_68 : decode cX3_addPerson 68 = .ok (.getfield 34, 3) := by decide +kernel
theorem dX3_addPerson_71 : decode cX3_addPerson 71 = .ok (.iload 5, 2) := by decide +kernel
theorem dX3_addPerson_73 : decode cX3_addPerson 73 = .ok (.new 61, 3) := by decide +kernel
theorem dX3_addPerson_76 : decode cX3_addPerson 76 = .ok (.dup, 1) := by decide +kernel
theorem dX3_addPerson_77 : decode cX3_addPerson 77 = .ok (.iload 5, 2) := by decide +kernel
theorem dX3_addPerson_79 : decode cX3_addPerson 79 = .ok (.iload_n 2, 1) := by decide +kernel
theorem dX3_addPerson_80 : decode cX3_addPerson 80 = .ok (.iload_n 3, 1) := by decide +kernel
theorem dX3_addPerson_81 : decode cX3_addPerson 81 = .ok (.iload 4, 2) := by decide +kernel
set_option maxRecDepth 20000 in
theorem ggX3_addPerson_X2_init : GoodIn wsX3_addPerson wsX2_init := goodIn_r _ [34, 35, 19, 5, 20, 21, 22, 23, 24, 25, 26, 27, 28, 29, 30, 31, 59, 60, 61, 62, 71, 72, 73, 74, 63, 64, 65, 66, 75, 76, 77, 78, 67, 68, 69, 70] (by decide +kernel) (by decide +kernel)
set_option maxRecDepth 20000 in
theorem gX3_addPerson_X2_init : GoodIn wsX3_addPerson (wsX2_init) := ggX3_addPerson_X2_init
theorem dX3_addPerson_83 : decode cX3_addPerson 83 = .ok (.invokespecial 63, 3) := by decide +kernel
theorem dX3_addPerson_86 : decode cX3_addPerson 86 = .ok (.aastore, 1) := by decide +kernel
theorem dX3_addPerson_87 : decode cX3_addPerson 87 = .ok (.goto 69, 3) := by decide +kernel
theorem dX3_addPerson_90 : decode cX3_addPerson 90 = .ok (.aload_n 0, 1) := by decide +kernel
theorem dX3_addPerson_91 : decode cX3_addPerson 91 = .ok (.getfield 34, 3) := by decide +kernel
theorem dX3_addPerson_94 : decode cX3_addPerson 94 = .ok (.iload 5, 2) := by decide +kernel
theorem dX3_addPerson_96 : decode cX3_addPerson 96 = .ok (.new 64, 3) := by decide +kernel
theorem dX3_addPerson_99 : decode cX3_addPerson 99 = .ok (.dup, 1) := by decide +kernel
theorem dX3_addPerson_100 : decode cX3_addPerson 100 = .ok (.iload 5, 2) := by decide +kernel
theorem dX3_addPerson_102 : decode cX3_addPerson 102 = .ok (.iload_n 2, 1) := by decide +kernel
theorem dX3_addPerson_103 : decode cX3_addPerson 103 = .ok (.iload_n 3, 1) := by decide +kernel
theorem dX3_addPerson_104 : decode cX3_addPerson 104 = .ok (.iload 4, 2) := by decide +kernel
set_option maxRecDepth 20000 in
theorem ggX3_addPerson_X10_init : GoodIn wsX3_addPerson wsX10_init := goodIn_r _ [38, 39, 19, 5, 20, 21, 22, 23, 24, 25, 26, 27, 28, 29, 30, 31, 59, 60, 61, 62, 71, 72, 73, 74, 63, 64, 65, 66, 75, 76, 77, 78, 67, 68, 69, 70] (by decide +kernel) (by decide +kernel)
set_option maxRecDepth 20000 in
theorem gX3_addPerson_X10_init : GoodIn wsX3_addPerson (wsX10_init) := ggX3_addPerson_X10_init
theorem dX3_addPerson_106 : decode cX3_addPerson 106 = .ok (.invokespecial 66, 3) := by decide +kernel
theorem dX3_addPerson_109 : decode cX3_addPerson 109 = .ok (.aastore, 1) := by decide +kernel
theorem dX3_addPerson_110 : decode cX3_addPerson 110 = .ok (.goto 46, 3) := by decide +kernel
theorem dX3_addPerson_113 : decode cX3_addPerson 113 = .ok (.aload_n 0, 1) := by decide +kernel
theorem dX3_addPerson_114 : decode cX3_addPerson 114 = .ok (.getfield 34, 3) := by decide +kernel
theorem dX3_addPerson_117 : decode cX3_addPerson 117 = .ok (.iload 5, 2) := by decide +kernel
theorem dX3_addPerson_119 : decode cX3_addPerson 119 = .ok (.new 67, 3) := by decide +kernel
theorem dX3_addPerson_122 : decode cX3_addPerson 122 = .ok (.dup, 1) := by decide +kernel
theorem dX3_addPerson_123 : decode cX3_addPerson 123 = .ok (.iload 5, 2) := by decide +kernel
theorem dX3_addPerson_125 : decode cX3_addPerson 125 = .ok (.iload_n 2, 1) := by decide +kernel
theorem dX3_addPerson_126 : decode cX3_addPerson 126 = .ok (.iload_n 3, 1) := by decide +kernel
theorem dX3_addPerson_127 : decode cX3_addPerson 127 = .ok (.iload 4, 2) := by decide +kernel
set_option maxRecDepth 20000 in
theorem ggX3_addPerson_X1_init : GoodIn wsX3_addPerson wsX1_init := goodIn_r _ [42, 43, 22, 23, 24, 25, 26, 27, 28, 29, 30, 31, 59, 60, 61, 62, 71, 72, 73, 74, 63, 64, 65, 66, 75, 76, 77, 78, 67, 68, 69, 70] (by decide +kernel) (by decide +kernel)
set_option maxRecDepth 20000 in
theorem gX3_addPerson_X1_init : GoodIn wsX3_addPerson (wsX1_init) := ggX3_addPerson_X1_init
theorem dX3_addPerson_129 : decode cX3_addPerson 129 = .ok (.invokespecial 69, 3) := by decide +kernel
theorem dX3_addPerson_132 : decode cX3_addPerson 132 = .ok (.aastore, 1) := by decide +kernel
theorem dX3_addPerson_133 : decode cX3_addPerson 133 = .ok (.goto 23, 3) := by decide +kernel
theorem dX3_addPerson_136 : decode cX3_addPerson 136 = .ok (.aload_n 0, 1) := by decide +kernel
theorem dX3_addPerson_137 : decode cX3_addPerson 137 = .ok (.getfield 34, 3) := by decide +kernel
theorem dX3_addPerson_140 : decode cX3_addPerson 140 = .ok (.iload 5, 2) := by decide +kernel
theorem dX3_addPerson_142 : decode cX3_addPerson 142 = .ok (.new 70, 3) := by decide +kernel
theorem dX3_addPerson_145 : decode cX3_addPerson 145 = .ok (.dup, 1) := by decide +kernel
theorem dX3_addPerson_146 : decode cX3_addPerson 146 = .ok (.iload 5, 2) := by decide +kernel
theorem dX3_addPerson_148 : decode cX3_addPerson 148 = .ok (.iload_n 2, 1) := by decide +kernel
theorem dX3_addPerson_149 : decode cX3_addPerson 149 = .ok (.iload_n 3, 1) := by decide +kernel
theorem dX3_addPerson_150 : decode cX3_addPerson 150 = .ok (.iload 4, 2) := by decide +kernel
set_option maxRecDepth 20000 in
theorem ggX3_addPerson_X5_init : GoodIn wsX3_addPerson wsX5_init := goodIn_r _ [46, 47, 41, 14, 42, 43, 22, 23, 24, 25, 26, 27, 28, 29, 30, 31, 59, 60, 61, 62, 71, 72, 73, 74, 63, 64, 65, 66, 75, 76, 77, 78, 67, 68, 69, 70] (by decide +kernel) (by decide +kernel)
set_option maxRecDepth 20000 in
theorem gX3_addPerson_X5_init : GoodIn wsX3_addPerson (wsX5_init) := ggX3_addPerson_X5_init
theorem dX3_addPerson_152 : decode cX3_addPerson 152 = .ok (.invokespecial 72, 3) := by decide +kernel
theorem dX3_addPerson_155 : decode cX3_addPerson 155 = .ok (.aastore, 1) := by decide +kernel
set_option maxRecDepth 100000 in
set_option maxHeartbeats 4000000 in
theorem c_X3_addVillage {E : XE} {B N : Nat} {v : Nat → va_E} {c o x y : Nat} {r : Nat → Int} {w : Int} {x_i : Int} {y_i : Int} (ha_x : x_i = (x : Int)) (ha_y : y_i = (y : Int)) (hc0 : Cel N v c (.inr (3, [.int (zI (r 0)), .int (zI (r 1)), .int (zI (r 2)), .ref (B + (c + 1)), .ref (B + (c + 2)), .int (zI (r 3)), .ref (B + (c + 3)), .int (zI (r 4)), .ref (B + (c + 4)), .ref (B + (c + 13)), .ref (B + (c + 18))]))) (hc1 : Cel N v (c + 1) (iarr E 48 (wA r))) (hc2 : Cel N v (c + 4) (rarr E 6 8 B (ouA c))) (hc3 : Cel N v o (iarr E 7 (wbS r x))) (hq0 : o = c + 5 + x) (hq1 : x < 8 ∧ y < 6) (hq2 : 1 ≤ w ∧ w ≤ 99) (hq3 : rOk r) : gM yX3_addVillage wsX3_addVillage ({ frames := 0, cells := 0, slots := 0, locals := 0 }) E B N v [.ref (B + c), .int (zI x_i), .int (zI y_i), .int (zI w)] (po0 N (fun ρ v' => ρ = none ∧ (va_up (va_up (va_up v c (.inr (3, [.int (zI ((vilR r ((8 * y + x : Nat) : Int) w) 0)), .int (zI ((vilR r ((8 * y + x : Nat) : Int) w) 1)), .int (zI ((vilR r ((8 * y + x : Nat) : Int) w) 2)), .ref (B + (c + 1)), .ref (B + (c + 2)), .int (zI ((vilR r ((8 * y + x : Nat) : Int) w) 3)), .ref (B + (c + 3)), .int (zI ((vilR r ((8 * y + x : Nat) : Int) w) 4)), .ref (B + (c + 4)), .ref (B + (c + 13)), .ref (B + (c + 18))]))) (c + 1) (iarr E 48 (wA (vilR r ((8 * y + x : Nat) : Int) w)))) o (iarr E 7 (wbS (vilR r ((8 * y + x : Nat) : Int) w) x))) = v')) := by
  subst ha_x
  subst ha_y
  refine x_met (nm := "addVillage") (by decide +kernel) rfl (Nat.le_of_ble_eq_true rfl) rfl (fun Γ K KR hnL hnm => ?_)
  show XW Γ N v [(0, .ref (B + c)), (1, .int (zI (x : Int))), (2, .int (zI (y : Int))), (3, .int (zI w))] 0 0 0 []
  have hr3 := hq3.1.2.2.2.1
  refine x_v (cel_pad hc0) ?_
  refine x_v (cel_pad (cel_ne hc1 (by omega))) ?_
  refine x_v (cel_pad (cel_ne (cel_ne hc3 (by omega)) (by omega))) ?_
  refine x_aload_n (pc := 0) 0 K rfl rfl dX3_addVillage_0 ?_
  refine x_get (pc := 1) (C := RX3) (T := TX3) (n := 11) (ci := 3) (idx := 21) (ref := "BorderBeds$Ground") (x := .ref (B + (c + 1)))  K (cel_ne (cel_ne (cel_self hc0.1) (by omega)) (by omega)) rfl (by decide +kernel) 3 (by decide) (by decide +kernel) rfl rfl dX3_addVillage_1 ?_
  refine x_bipush (pc := 4) K (by decide) dX3_addVillage_4 ?_
  refine x_iload_n (pc := 6) 2 K rfl rfl dX3_addVillage_6 ?_
  refine x_imul (pc := 7) K dX3_addVillage_7 ?_
  refine x_iload_n (pc := 8) 1 K rfl rfl dX3_addVillage_8 ?_
  refine x_iadd (pc := 9) K dX3_addVillage_9 ?_
  refine x_dup2 (pc := 10) K rfl rfl dX3_addVillage_10 ?_
  refine x_iald (pc := 11) ((8 * y) + x) K (cel_ne (cel_self hc1.1) (by omega)) (by omega) (by omega) (by decide) dX3_addVillage_11 ?_
  refine x_iload_n (pc := 12) 3 K rfl rfl dX3_addVillage_12 ?_
  refine x_iadd (pc := 13) K dX3_addVillage_13 ?_
  refine x_iast (pc := 14) ((8 * y) + x) K (cel_ne (cel_self hc1.1) (by omega)) (by omega) (by omega) (by decide) dX3_addVillage_14 ?_
  refine x_v (w := (va_up (va_up (va_up v c (.inr (3, [.int (zI (r 0)), .int (zI (r 1)), .int (zI (r 2)), .ref (B + (c + 1)), .ref (B + (c + 2)), .int (zI (r 3)), .ref (B + (c + 3)), .int (zI (r 4)), .ref (B + (c + 4)), .ref (B + (c + 13)), .ref (B + (c + 18))]))) (c + 1) (iarr E 48 (va_up (wA r) ((8 * y) + x) (((wA r) ((8 * y) + x)) + w)))) o (iarr E 7 (wbS r x)))) (up_at1 (by omega)).symm ?_
  refine x_iload_n (pc := 15) 2 K rfl rfl dX3_addVillage_15 ?_
  refine x_iconst (pc := 16) K dX3_addVillage_16 ?_
  refine x_iadd (pc := 17) K dX3_addVillage_17 ?_
  refine x_nmN (m := (y + 1)) (by omega) (fun z1 hz1 => ?_)
  refine x_istore (pc := 18) K (L' := [(4, .int (zI (z1 : Int))), (0, .ref (B + c)), (1, .int (zI (x : Int))), (2, .int (zI (y : Int))), (3, .int (zI w))]) hnL (by decide) rfl dX3_addVillage_18 ?_
  have LOOP20 : ∀ (n_20 : Nat) (k : Nat) (z : Nat → Int), (y + 1 ≤ k ∧ k ≤ 7) → (z = adA (wbS r x) (y + 1) k w) → (7 - k) < n_20 → XW Γ N (va_up (va_up (va_up v c (.inr (3, [.int (zI (r 0)), .int (zI (r 1)), .int (zI (r 2)), .ref (B + (c + 1)), .ref (B + (c + 2)), .int (zI (r 3)), .ref (B + (c + 3)), .int (zI (r 4)), .ref (B + (c + 4)), .ref (B + (c + 13)), .ref (B + (c + 18))]))) (c + 1) (iarr E 48 (va_up (wA r) ((8 * y) + x) (((wA r) ((8 * y) + x)) + w)))) o (iarr E 7 z)) [(0, .ref (B + c)), (1, .int (zI (x : Int))), (2, .int (zI (y : Int))), (3, .int (zI w)), (4, .int (zI (k : Int)))] 0 0 20 [] := by
    intro n_20
    induction n_20 with
    | zero =>
      intro k z hi20_0 hi20_1 hm_20
      exfalso; omega
    | succ n_20 ih20 =>
      intro k z hi20_0 hi20_1 hm_20
      refine x_iload (pc := 20) 4 K rfl dX3_addVillage_20 ?_
      refine x_bipush (pc := 22) K (by decide) dX3_addVillage_22 ?_
      refine x_icmp_gt (pc := 24) (tgt := 46) K (by omega) (by decide) dX3_addVillage_24 (by decide) (fun h_24 => ?_) (fun h_24 => ?_)
      · skip
        have hk7 : k = 7 := by omega
        rw [hk7] at hi20_1
        refine x_iext (c := o) (g' := (wbS (vilR r ((8 * y + x : Nat) : Int) w) x)) K (cel_self hc3.1) (fun k2 hk2 => by rw [hi20_1]; exact wbS_vil2 hq1.1 hq1.2 k2 hk2) ?_
        refine x_v (w := (va_up (va_up (va_up v c (.inr (3, [.int (zI (r 0)), .int (zI (r 1)), .int (zI (r 2)), .ref (B + (c + 1)), .ref (B + (c + 2)), .int (zI (r 3)), .ref (B + (c + 3)), .int (zI (r 4)), .ref (B + (c + 4)), .ref (B + (c + 13)), .ref (B + (c + 18))]))) (c + 1) (iarr E 48 (va_up (wA r) ((8 * y) + x) (((wA r) ((8 * y) + x)) + w)))) o (iarr E 7 (wbS (vilR r ((8 * y + x : Nat) : Int) w) x)))) (up_at0).symm ?_
        refine x_aload_n (pc := 46) 0 K rfl rfl dX3_addVillage_46 ?_
        refine x_dup (pc := 47) K rfl dX3_addVillage_47 ?_
        refine x_get (pc := 48) (C := RX3) (T := TX3) (n := 11) (ci := 3) (idx := 29) (ref := "BorderBeds$Ground") (x := .int (zI (r 3)))  K (cel_ne (cel_ne (cel_self hc0.1) (by omega)) (by omega)) rfl (by decide +kernel) 5 (by decide) (by decide +kernel) rfl rfl dX3_addVillage_48 ?_
        refine x_iconst (pc := 51) K dX3_addVillage_51 ?_
        refine x_iadd (pc := 52) K dX3_addVillage_52 ?_
        refine x_put (pc := 53) (C := RX3) (T := TX3) (n := 11) (ci := 3) (idx := 29) (ref := "BorderBeds$Ground") (ty := .int)  K (cel_ne (cel_ne (cel_self hc0.1) (by omega)) (by omega)) rfl (by decide +kernel) tyX3 tyX3_ok nmX3 5 (by decide) (by decide +kernel) rfl rfl (by decide +kernel) rfl rfl (Nat.le_of_ble_eq_true rfl) dX3_addVillage_53 ?_
        refine x_v (w := (va_up (va_up (va_up v c (.inr (3, [.int (zI (r 0)), .int (zI (r 1)), .int (zI (r 2)), .ref (B + (c + 1)), .ref (B + (c + 2)), .int (zI ((r 3) + 1)), .ref (B + (c + 3)), .int (zI (r 4)), .ref (B + (c + 4)), .ref (B + (c + 13)), .ref (B + (c + 18))]))) (c + 1) (iarr E 48 (va_up (wA r) ((8 * y) + x) (((wA r) ((8 * y) + x)) + w)))) o (iarr E 7 (wbS (vilR r ((8 * y + x : Nat) : Int) w) x)))) (up_at2 (by omega) (by omega)).symm ?_
        refine x_vret (pc := 56) K KR (by omega) (Nat.le_of_ble_eq_true rfl) (Nat.le_of_ble_eq_true rfl) dX3_addVillage_56 ?_
        have e1 : ∀ j, j ≠ 3 → j < 73 → (vilR r ((8 * y + x : Nat) : Int) w) j = r j := fun j h1 h2 => by unfold vilR; rw [va_up_ne _ _ h1, va_up_ne _ _ (by omega)]
        have e3 : (vilR r ((8 * y + x : Nat) : Int) w) 3 = r 3 + 1 := by unfold vilR; rw [va_up_self]
        exact ⟨rfl, rfl, by rw [e1 0 (by omega) (by omega), e1 1 (by omega) (by omega), e1 2 (by omega) (by omega), e1 4 (by omega) (by omega), e3, ← vil_wor (x := x) (y := y) (by omega)]⟩
      · skip
        refine x_aload_n (pc := 27) 0 K rfl rfl dX3_addVillage_27 ?_
        refine x_get (pc := 28) (C := RX3) (T := TX3) (n := 11) (ci := 3) (idx := 43) (ref := "BorderBeds$Ground") (x := .ref (B + (c + 4)))  K (cel_ne (cel_ne (cel_self hc0.1) (by omega)) (by omega)) rfl (by decide +kernel) 8 (by decide) (by decide +kernel) rfl rfl dX3_addVillage_28 ?_
        refine x_iload_n (pc := 31) 1 K rfl rfl dX3_addVillage_31 ?_
        refine x_aald (pc := 32) x K (cel_ne (cel_ne (cel_ne hc2 (by omega)) (by omega)) (by omega)) rfl rfl rfl (by omega) (by decide) dX3_addVillage_32 ?_
        refine x_st (st' := [.ref (B + o)]) (by rw [rf_some (h := (ouA c)) (j := x) (o := o) (by rw [ouA_at (by omega), hq0])]) ?_
        refine x_iload (pc := 33) 4 K rfl dX3_addVillage_33 ?_
        refine x_dup2 (pc := 35) K rfl rfl dX3_addVillage_35 ?_
        refine x_iald (pc := 36) k K (cel_self hc3.1) rfl (by omega) (by decide) dX3_addVillage_36 ?_
        refine x_iload_n (pc := 37) 3 K rfl rfl dX3_addVillage_37 ?_
        refine x_iadd (pc := 38) K dX3_addVillage_38 ?_
        refine x_iast (pc := 39) k K (cel_self hc3.1) rfl (by omega) (by decide) dX3_addVillage_39 ?_
        refine x_v (w := (va_up (va_up (va_up v c (.inr (3, [.int (zI (r 0)), .int (zI (r 1)), .int (zI (r 2)), .ref (B + (c + 1)), .ref (B + (c + 2)), .int (zI (r 3)), .ref (B + (c + 3)), .int (zI (r 4)), .ref (B + (c + 4)), .ref (B + (c + 13)), .ref (B + (c + 18))]))) (c + 1) (iarr E 48 (va_up (wA r) ((8 * y) + x) (((wA r) ((8 * y) + x)) + w)))) o (iarr E 7 (va_up z k ((z k) + w))))) (up_at0).symm ?_
        refine x_iinc (pc := 40) (L' := [(4, .int (zI ((k : Int) + 1))), (0, .ref (B + c)), (1, .int (zI (x : Int))), (2, .int (zI (y : Int))), (3, .int (zI w))]) 4 K hnL rfl (by decide) rfl dX3_addVillage_40 ?_
        refine x_goto (pc := 43) (tgt := 20) K dX3_addVillage_43 (by decide) ?_
        refine x_sub (L' := [(0, .ref (B + c)), (1, .int (zI (x : Int))), (2, .int (zI (y : Int))), (3, .int (zI w)), (4, .int (zI ((k : Int) + 1)))]) [1, 2, 3, 4, 0] rfl ?_
        exact ih20 (k + 1) (va_up z k ((z k) + w)) (by omega) (by rw [hi20_1]; exact adA_s (by omega)) (by omega)
  refine x_sub (L' := [(0, .ref (B + c)), (1, .int (zI (x : Int))), (2, .int (zI (y : Int))), (3, .int (zI w)), (4, .int (zI (z1 : Int)))]) [1, 2, 3, 4, 0] rfl ?_
  exact LOOP20 (_) z1 (wbS r x) (by omega) (by rw [show z1 = y + 1 by omega]; exact (adA_0 _ _ _).symm) (Nat.lt_succ_self _)

set_option maxRecDepth 100000 in
set_option maxHeartbeats 4000000 in
theorem c_X3_addPerson {E : XE} {B N : Nat} {v : Nat → va_E} {c : Nat} {r : Nat → Int} {kd lnd home mil : Int} (hc0 : Cel N v c (.inr (3, [.int (zI (r 0)), .int (zI (r 1)), .int (zI (r 2)), .ref (B + (c + 1)), .ref (B + (c + 2)), .int (zI (r 3)), .ref (B + (c + 3)), .int (zI (r 4)), .ref (B + (c + 4)), .ref (B + (c + 13)), .ref (B + (c + 18))]))) (hc1 : Cel N v (c + 3) (rarr E 5 5 B (psA c r))) (hq0 : 1 ≤ kd ∧ kd ≤ 5) (hq1 : N = c + 23 + (r 4).toNat) (hq2 : r 4 < 5) (hq3 : rOk r) : gM yX3_addPerson wsX3_addPerson ({ frames := 4, cells := 1, slots := 4, locals := 84 }) E B N v [.ref (B + c), .int (zI kd), .int (zI lnd), .int (zI home), .int (zI mil)] (fun ρ N' v' => N' = N + 1 ∧ ρ = none ∧ (va_up (va_up (va_up v c (.inr (3, [.int (zI ((perR r (kd, lnd, home, mil)) 0)), .int (zI ((perR r (kd, lnd, home, mil)) 1)), .int (zI ((perR r (kd, lnd, home, mil)) 2)), .ref (B + (c + 1)), .ref (B + (c + 2)), .int (zI ((perR r (kd, lnd, home, mil)) 3)), .ref (B + (c + 3)), .int (zI ((perR r (kd, lnd, home, mil)) 4)), .ref (B + (c + 4)), .ref (B + (c + 13)), .ref (B + (c + 18))]))) (c + 3) (rarr E 5 5 B (psA c (perR r (kd, lnd, home, mil))))) N (.inr ((kci kd), [.int (zI (((r 4).toNat : Nat) : Int)), .int (zI lnd), .int (zI home), .int (zI mil)]))) = v') := by
  refine x_met (nm := "addPerson") (by decide +kernel) rfl (Nat.le_of_ble_eq_true rfl) rfl (fun Γ K KR hnL hnm => ?_)
  show XW Γ N v [(0, .ref (B + c)), (1, .int (zI kd)), (2, .int (zI lnd)), (3, .int (zI home)), (4, .int (zI mil))] 0 0 0 []
  have hr4 := hq3.1.2.2.2.2.1
  have hp4 := perR_at (q := (kd, lnd, home, mil)) ⟨hr4.1, hq2⟩ (show 0 < 5 by omega)
  refine x_v (cel_pad hc0) ?_
  refine x_v (cel_pad (cel_ne hc1 (by omega))) ?_
  refine x_aload_n (pc := 0) 0 K rfl rfl dX3_addPerson_0 ?_
  refine x_get (pc := 1) (C := RX3) (T := TX3) (n := 11) (ci := 3) (idx := 38) (ref := "BorderBeds$Ground") (x := .int (zI (r 4)))  K (cel_ne (cel_self hc0.1) (by omega)) rfl (by decide +kernel) 7 (by decide) (by decide +kernel) rfl rfl dX3_addPerson_1 ?_
  refine x_nm (fun z1 hz1 => ?_)
  refine x_istore (pc := 4) K (L' := [(5, .int (zI z1)), (0, .ref (B + c)), (1, .int (zI kd)), (2, .int (zI lnd)), (3, .int (zI home)), (4, .int (zI mil))]) hnL (by decide) rfl dX3_addPerson_4 ?_
  subst hz1
  refine x_iload (pc := 6) 0 K rfl dX3_addPerson_6 ?_
  refine x_iconst (pc := 8) K dX3_addPerson_8 ?_
  refine x_icmp_lt (pc := 9) (tgt := 13) K (by omega) (by decide) dX3_addPerson_9 (by decide) (fun h_9 => ?_) (fun h_9 => ?_)
  · skip
    refine x_iload_n (pc := 13) 2 K rfl rfl dX3_addPerson_13 ?_
    by_cases h_14_0 : kd = 1
    · skip
      refine x_tswIn (pc := 14) (tgt := 44) K (by omega) (by omega) (by omega) dX3_addPerson_14 (by rw [h_14_0]; rfl) (by decide) ?_
      refine x_aload_n (pc := 44) 1 K rfl rfl dX3_addPerson_44 ?_
      refine x_get (pc := 45) (C := RX3) (T := TX3) (n := 11) (ci := 3) (idx := 34) (ref := "BorderBeds$Ground") (x := .ref (B + (c + 3)))  K (cel_ne (cel_self hc0.1) (by omega)) rfl (by decide +kernel) 6 (by decide) (by decide +kernel) rfl rfl dX3_addPerson_45 ?_
      refine x_iload (pc := 48) 0 K rfl dX3_addPerson_48 ?_
      refine x_new (pc := 50) (C := RX0) (T := TX0) (n := 4) (ci := 0) (fs := [.int (zI 0), .int (zI 0), .int (zI 0), .int (zI 0)]) K rfl (by decide +kernel) tyX0 tyX0_ok (by decide +kernel) (by decide +kernel) (by decide +kernel) (by decide +kernel) (Nat.le_of_ble_eq_true rfl) (Nat.le_of_ble_eq_true rfl) dX3_addPerson_50 ?_
      refine x_N (M := (N + 1)) rfl ?_
      refine x_dup (pc := 53) K rfl dX3_addPerson_53 ?_
      refine x_iload (pc := 54) 0 K rfl dX3_addPerson_54 ?_
      refine x_iload_n (pc := 56) 3 K rfl rfl dX3_addPerson_56 ?_
      refine x_iload_n (pc := 57) 4 K rfl rfl dX3_addPerson_57 ?_
      refine x_iload (pc := 58) 5 K rfl dX3_addPerson_58 ?_
      refine x_callI (pc := 60) (As := [.int (zI (r 4)), .int (zI lnd), .int (zI home), .int (zI mil)]) K (c_X0_init_X0 (E := E) (B := B) (N := (N + 1))   (cel_self (by omega)) ) gX3_addPerson_X0_init rfl (by decide +kernel) (by decide +kernel) (by decide +kernel) rfl (na := 4) (by decide +kernel) rfl ⟨(Nat.le_of_ble_eq_true rfl), (Nat.le_of_ble_eq_true rfl)⟩ (st := [.ref (B + N), .int (zI (r 4)), .ref (B + (c + 3))]) rfl (Nat.le_of_ble_eq_true rfl) ⟨(Nat.le_of_ble_eq_true rfl), (Nat.le_of_ble_eq_true rfl)⟩ dX3_addPerson_60 (fun r60 N60 w60 hpo60 hN60 => ?_)
      obtain ⟨rfl, rfl, rfl⟩ := hpo60
      refine x_v (w := (va_up (va_up (va_up v c (.inr (3, [.int (zI (r 0)), .int (zI (r 1)), .int (zI (r 2)), .ref (B + (c + 1)), .ref (B + (c + 2)), .int (zI (r 3)), .ref (B + (c + 3)), .int (zI (r 4)), .ref (B + (c + 4)), .ref (B + (c + 13)), .ref (B + (c + 18))]))) (c + 3) (rarr E 5 5 B (psA c r))) N (.inr (0, [.int (zI (r 4)), .int (zI lnd), .int (zI home), .int (zI mil)])))) (up_at0).symm ?_
      refine x_st (st' := [.ref (B + N), .int (zI (r 4)), .ref (B + (c + 3))]) rfl ?_
      have hkd : kd = 1 := by omega
      have hkk : (0 : Nat) = kci kd := by subst hkd; rfl
      refine x_v (w := (va_up (va_up (va_up v c (.inr (3, [.int (zI (r 0)), .int (zI (r 1)), .int (zI (r 2)), .ref (B + (c + 1)), .ref (B + (c + 2)), .int (zI (r 3)), .ref (B + (c + 3)), .int (zI (r 4)), .ref (B + (c + 4)), .ref (B + (c + 13)), .ref (B + (c + 18))]))) (c + 3) (rarr E 5 5 B (psA c r))) N (.inr ((kci kd), [.int (zI (r 4)), .int (zI lnd), .int (zI home), .int (zI mil)])))) (by rw [hkk]) ?_
      refine x_aastK (pc := 63) (kd := kd) (((r 4)).toNat) K (by omega) (cel_ne (cel_self (Nat.lt_of_lt_of_le hc1.1 (by omega))) (by omega)) (cel_self (by omega)) (by omega) (by omega) (by decide) dX3_addPerson_63 ?_
      refine x_v (w := (va_up (va_up (va_up v c (.inr (3, [.int (zI (r 0)), .int (zI (r 1)), .int (zI (r 2)), .ref (B + (c + 1)), .ref (B + (c + 2)), .int (zI (r 3)), .ref (B + (c + 3)), .int (zI (r 4)), .ref (B + (c + 4)), .ref (B + (c + 13)), .ref (B + (c + 18))]))) (c + 3) (rarr E 5 5 B (va_up (psA c r) (((r 4)).toNat) (some N)))) N (.inr ((kci kd), [.int (zI (r 4)), .int (zI lnd), .int (zI home), .int (zI mil)])))) (up_at1 (by omega)).symm ?_
      refine x_goto (pc := 64) (tgt := 156) K dX3_addPerson_64 (by decide) ?_
      have hRR : va_up (psA c r) (((r 4)).toNat) (some N) = (psA c (perR r (kd, lnd, home, mil))) := by rw [psA_push ⟨hr4.1, hq2⟩ hq1]
      refine x_v (w := (va_up (va_up (va_up v c (.inr (3, [.int (zI (r 0)), .int (zI (r 1)), .int (zI (r 2)), .ref (B + (c + 1)), .ref (B + (c + 2)), .int (zI (r 3)), .ref (B + (c + 3)), .int (zI (r 4)), .ref (B + (c + 4)), .ref (B + (c + 13)), .ref (B + (c + 18))]))) (c + 3) (rarr E 5 5 B (psA c (perR r (kd, lnd, home, mil))))) N (.inr ((kci kd), [.int (zI (r 4)), .int (zI lnd), .int (zI home), .int (zI mil)])))) (by rw [hRR]) ?_
      refine x_aload_n (pc := 156) 1 K rfl rfl dX3_addPerson_156 ?_
      refine x_dup (pc := 157) K rfl dX3_addPerson_157 ?_
      refine x_get (pc := 158) (C := RX3) (T := TX3) (n := 11) (ci := 3) (idx := 38) (ref := "BorderBeds$Ground") (x := .int (zI (r 4)))  K (cel_ne (cel_ne (cel_self (Nat.lt_of_lt_of_le hc0.1 (by omega))) (by omega)) (by omega)) rfl (by decide +kernel) 7 (by decide) (by decide +kernel) rfl rfl dX3_addPerson_158 ?_
      refine x_iconst (pc := 161) K dX3_addPerson_161 ?_
      refine x_iadd (pc := 162) K dX3_addPerson_162 ?_
      refine x_put (pc := 163) (C := RX3) (T := TX3) (n := 11) (ci := 3) (idx := 38) (ref := "BorderBeds$Ground") (ty := .int)  K (cel_ne (cel_ne (cel_self (Nat.lt_of_lt_of_le hc0.1 (by omega))) (by omega)) (by omega)) rfl (by decide +kernel) tyX3 tyX3_ok nmX3 7 (by decide) (by decide +kernel) rfl rfl (by decide +kernel) rfl rfl (Nat.le_of_ble_eq_true rfl) dX3_addPerson_163 ?_
      refine x_v (w := (va_up (va_up (va_up v c (.inr (3, [.int (zI (r 0)), .int (zI (r 1)), .int (zI (r 2)), .ref (B + (c + 1)), .ref (B + (c + 2)), .int (zI (r 3)), .ref (B + (c + 3)), .int (zI ((r 4) + 1)), .ref (B + (c + 4)), .ref (B + (c + 13)), .ref (B + (c + 18))]))) (c + 3) (rarr E 5 5 B (psA c (perR r (kd, lnd, home, mil))))) N (.inr ((kci kd), [.int (zI (r 4)), .int (zI lnd), .int (zI home), .int (zI mil)])))) (up_at2 (by omega) (by omega)).symm ?_
      refine x_vret (pc := 166) K KR (by omega) (Nat.le_of_ble_eq_true rfl) (Nat.le_of_ble_eq_true rfl) dX3_addPerson_166 ?_
      have e1 : ∀ j, j ≠ 4 → (j < 5 ∨ 25 ≤ j) → (perR r (kd, lnd, home, mil)) j = r j := fun j h1 h2 => perR_ne ⟨hr4.1, hq2⟩ h1 h2
      exact ⟨rfl, rfl, by rw [e1 0 (by omega) (by omega), e1 1 (by omega) (by omega), e1 2 (by omega) (by omega), e1 3 (by omega) (by omega), hp4.2.2.2.2, show ((((r 4).toNat : Nat) : Int)) = r 4 by omega]⟩
    by_cases h_14_1 : kd = 2
    · skip
      refine x_tswIn (pc := 14) (tgt := 67) K (by omega) (by omega) (by omega) dX3_addPerson_14 (by rw [h_14_1]; rfl) (by decide) ?_
      refine x_aload_n (pc := 67) 1 K rfl rfl dX3_addPerson_67 ?_
      refine x_get (pc := 68) (C := RX3) (T := TX3) (n := 11) (ci := 3) (idx := 34) (ref := "BorderBeds$Ground") (x := .ref (B + (c + 3)))  K (cel_ne (cel_self hc0.1) (by omega)) rfl (by decide +kernel) 6 (by decide) (by decide +kernel) rfl rfl dX3_addPerson_68 ?_
      refine x_iload (pc := 71) 0 K rfl dX3_addPerson_71 ?_
      refine x_new (pc := 73) (C := RX2) (T := TX2) (n := 4) (ci := 2) (fs := [.int (zI 0), .int (zI 0), .int (zI 0), .int (zI 0)]) K rfl (by decide +kernel) tyX2 tyX2_ok (by decide +kernel) (by decide +kernel) (by decide +kernel) (by decide +kernel) (Nat.le_of_ble_eq_true rfl) (Nat.le_of_ble_eq_true rfl) dX3_addPerson_73 ?_
      refine x_N (M := (N + 1)) rfl ?_
      refine x_dup (pc := 76) K rfl dX3_addPerson_76 ?_
      refine x_iload (pc := 77) 0 K rfl dX3_addPerson_77 ?_
      refine x_iload_n (pc := 79) 3 K rfl rfl dX3_addPerson_79 ?_
      refine x_iload_n (pc := 80) 4 K rfl rfl dX3_addPerson_80 ?_
      refine x_iload (pc := 81) 5 K rfl dX3_addPerson_81 ?_
      refine x_callI (pc := 83) (As := [.int (zI (r 4)), .int (zI lnd), .int (zI home), .int (zI mil)]) K (c_X2_init_X2 (E := E) (B := B) (N := (N + 1))   (cel_self (by omega)) ) gX3_addPerson_X2_init rfl (by decide +kernel) (by decide +kernel) (by decide +kernel) rfl (na := 4) (by decide +kernel) rfl ⟨(Nat.le_of_ble_eq_true rfl), (Nat.le_of_ble_eq_true rfl)⟩ (st := [.ref (B + N), .int (zI (r 4)), .ref (B + (c + 3))]) rfl (Nat.le_of_ble_eq_true rfl) ⟨(Nat.le_of_ble_eq_true rfl), (Nat.le_of_ble_eq_true rfl)⟩ dX3_addPerson_83 (fun r83 N83 w83 hpo83 hN83 => ?_)
      obtain ⟨rfl, rfl, rfl⟩ := hpo83
      refine x_v (w := (va_up (va_up (va_up v c (.inr (3, [.int (zI (r 0)), .int (zI (r 1)), .int (zI (r 2)), .ref (B + (c + 1)), .ref (B + (c + 2)), .int (zI (r 3)), .ref (B + (c + 3)), .int (zI (r 4)), .ref (B + (c + 4)), .ref (B + (c + 13)), .ref (B + (c + 18))]))) (c + 3) (rarr E 5 5 B (psA c r))) N (.inr (2, [.int (zI (r 4)), .int (zI lnd), .int (zI home), .int (zI mil)])))) (up_at0).symm ?_
      refine x_st (st' := [.ref (B + N), .int (zI (r 4)), .ref (B + (c + 3))]) rfl ?_
      have hkd : kd = 2 := by omega
      have hkk : (2 : Nat) = kci kd := by subst hkd; rfl
      refine x_v (w := (va_up (va_up (va_up v c (.inr (3, [.int (zI (r 0)), .int (zI (r 1)), .int (zI (r 2)), .ref (B + (c + 1)), .ref (B + (c + 2)), .int (zI (r 3)), .ref (B + (c + 3)), .int (zI (r 4)), .ref (B + (c + 4)), .ref (B + (c + 13)), .ref (B + (c + 18))]))) (c + 3) (rarr E 5 5 B (psA c r))) N (.inr ((kci kd), [.int (zI (r 4)), .int (zI lnd), .int (zI home), .int (zI mil)])))) (by rw [hkk]) ?_
      refine x_aastK (pc := 86) (kd := kd) (((r 4)).toNat) K (by omega) (cel_ne (cel_self (Nat.lt_of_lt_of_le hc1.1 (by omega))) (by omega)) (cel_self (by omega)) (by omega) (by omega) (by decide) dX3_addPerson_86 ?_
      refine x_v (w := (va_up (va_up (va_up v c (.inr (3, [.int (zI (r 0)), .int (zI (r 1)), .int (zI (r 2)), .ref (B + (c + 1)), .ref (B + (c + 2)), .int (zI (r 3)), .ref (B + (c + 3)), .int (zI (r 4)), .ref (B + (c + 4)), .ref (B + (c + 13)), .ref (B + (c + 18))]))) (c + 3) (rarr E 5 5 B (va_up (psA c r) (((r 4)).toNat) (some N)))) N (.inr ((kci kd), [.int (zI (r 4)), .int (zI lnd), .int (zI home), .int (zI mil)])))) (up_at1 (by omega)).symm ?_
      refine x_goto (pc := 87) (tgt := 156) K dX3_addPerson_87 (by decide) ?_
      have hRR : va_up (psA c r) (((r 4)).toNat) (some N) = (psA c (perR r (kd, lnd, home, mil))) := by rw [psA_push ⟨hr4.1, hq2⟩ hq1]
      refine x_v (w := (va_up (va_up (va_up v c (.inr (3, [.int (zI (r 0)), .int (zI (r 1)), .int (zI (r 2)), .ref (B + (c + 1)), .ref (B + (c + 2)), .int (zI (r 3)), .ref (B + (c + 3)), .int (zI (r 4)), .ref (B + (c + 4)), .ref (B + (c + 13)), .ref (B + (c + 18))]))) (c + 3) (rarr E 5 5 B (psA c (perR r (kd, lnd, home, mil))))) N (.inr ((kci kd), [.int (zI (r 4)), .int (zI lnd), .int (zI home), .int (zI mil)])))) (by rw [hRR]) ?_
      refine x_aload_n (pc := 156) 1 K rfl rfl dX3_addPerson_156 ?_
      refine x_dup (pc := 157) K rfl dX3_addPerson_157 ?_
      refine x_get (pc := 158) (C := RX3) (T := TX3) (n := 11) (ci := 3) (idx := 38) (ref := "BorderBeds$Ground") (x := .int (zI (r 4)))  K (cel_ne (cel_ne (cel_self (Nat.lt_of_lt_of_le hc0.1 (by omega))) (by omega)) (by omega)) rfl (by decide +kernel) 7 (by decide) (by decide +kernel) rfl rfl dX3_addPerson_158 ?_
      refine x_iconst (pc := 161) K dX3_addPerson_161 ?_
      refine x_iadd (pc := 162) K dX3_addPerson_162 ?_
      refine x_put (pc := 163) (C := RX3) (T := TX3) (n := 11) (ci := 3) (idx := 38) (ref := "BorderBeds$Ground") (ty := .int)  K (cel_ne (cel_ne (cel_self (Nat.lt_of_lt_of_le hc0.1 (by omega))) (by omega)) (by omega)) rfl (by decide +kernel) tyX3 tyX3_ok nmX3 7 (by decide) (by decide +kernel) rfl rfl (by decide +kernel) rfl rfl (Nat.le_of_ble_eq_true rfl) dX3_addPerson_163 ?_
      refine x_v (w := (va_up (va_up (va_up v c (.inr (3, [.int (zI (r 0)), .int (zI (r 1)), .int (zI (r 2)), .ref (B + (c + 1)), .ref (B + (c + 2)), .int (zI (r 3)), .ref (B + (c + 3)), .int (zI ((r 4) + 1)), .ref (B + (c + 4)), .ref (B + (c + 13)), .ref (B + (c + 18))]))) (c + 3) (rarr E 5 5 B (psA c (perR r (kd, lnd, home, mil))))) N (.inr ((kci kd), [.int (zI (r 4)), .int (zI lnd), .int (zI home), .int (zI mil)])))) (up_at2 (by omega) (by omega)).symm ?_
      refine x_vret (pc := 166) K KR (by omega) (Nat.le_of_ble_eq_true rfl) (Nat.le_of_ble_eq_true rfl) dX3_addPerson_166 ?_
      have e1 : ∀ j, j ≠ 4 → (j < 5 ∨ 25 ≤ j) → (perR r (kd, lnd, home, mil)) j = r j := fun j h1 h2 => perR_ne ⟨hr4.1, hq2⟩ h1 h2
      exact ⟨rfl, rfl, by rw [e1 0 (by omega) (by omega), e1 1 (by omega) (by omega), e1 2 (by omega) (by omega), e1 3 (by omega) (by omega), hp4.2.2.2.2, show ((((r 4).toNat : Nat) : Int)) = r 4 by omega]⟩
    by_cases h_14_2 : kd = 3
    · skip
      refine x_tswIn (pc := 14) (tgt := 90) K (by omega) (by omega) (by omega) dX3_addPerson_14 (by rw [h_14_2]; rfl) (by decide) ?_
      refine x_aload_n (pc := 90) 1 K rfl rfl dX3_addPerson_90 ?_
      refine x_get (pc := 91) (C := RX3) (T := TX3) (n := 11) (ci := 3) (idx := 34) (ref := "BorderBeds$Ground") (x := .ref (B + (c + 3)))  K (cel_ne (cel_self hc0.1) (by omega)) rfl (by decide +kernel) 6 (by decide) (by decide +kernel) rfl rfl dX3_addPerson_91 ?_
      refine x_iload (pc := 94) 0 K rfl dX3_addPerson_94 ?_
      refine x_new (pc := 96) (C := RX10) (T := TX10) (n := 4) (ci := 9) (fs := [.int (zI 0), .int (zI 0), .int (zI 0), .int (zI 0)]) K rfl (by decide +kernel) tyX10 tyX10_ok (by decide +kernel) (by decide +kernel) (by decide +kernel) (by decide +kernel) (Nat.le_of_ble_eq_true rfl) (Nat.le_of_ble_eq_true rfl) dX3_addPerson_96 ?_
      refine x_N (M := (N + 1)) rfl ?_
      refine x_dup (pc := 99) K rfl dX3_addPerson_99 ?_
      refine x_iload (pc := 100) 0 K rfl dX3_addPerson_100 ?_
      refine x_iload_n (pc := 102) 3 K rfl rfl dX3_addPerson_102 ?_
      refine x_iload_n (pc := 103) 4 K rfl rfl dX3_addPerson_103 ?_
      refine x_iload (pc := 104) 5 K rfl dX3_addPerson_104 ?_
      refine x_callI (pc := 106) (As := [.int (zI (r 4)), .int (zI lnd), .int (zI home), .int (zI mil)]) K (c_X10_init_X10 (E := E) (B := B) (N := (N + 1))   (cel_self (by omega)) ) gX3_addPerson_X10_init rfl (by decide +kernel) (by decide +kernel) (by decide +kernel) rfl (na := 4) (by decide +kernel) rfl ⟨(Nat.le_of_ble_eq_true rfl), (Nat.le_of_ble_eq_true rfl)⟩ (st := [.ref (B + N), .int (zI (r 4)), .ref (B + (c + 3))]) rfl (Nat.le_of_ble_eq_true rfl) ⟨(Nat.le_of_ble_eq_true rfl), (Nat.le_of_ble_eq_true rfl)⟩ dX3_addPerson_106 (fun r106 N106 w106 hpo106 hN106 => ?_)
      obtain ⟨rfl, rfl, rfl⟩ := hpo106
      refine x_v (w := (va_up (va_up (va_up v c (.inr (3, [.int (zI (r 0)), .int (zI (r 1)), .int (zI (r 2)), .ref (B + (c + 1)), .ref (B + (c + 2)), .int (zI (r 3)), .ref (B + (c + 3)), .int (zI (r 4)), .ref (B + (c + 4)), .ref (B + (c + 13)), .ref (B + (c + 18))]))) (c + 3) (rarr E 5 5 B (psA c r))) N (.inr (9, [.int (zI (r 4)), .int (zI lnd), .int (zI home), .int (zI mil)])))) (up_at0).symm ?_
      refine x_st (st' := [.ref (B + N), .int (zI (r 4)), .ref (B + (c + 3))]) rfl ?_
      have hkd : kd = 3 := by omega
      have hkk : (9 : Nat) = kci kd := by subst hkd; rfl
      refine x_v (w := (va_up (va_up (va_up v c (.inr (3, [.int (zI (r 0)), .int (zI (r 1)), .int (zI (r 2)), .ref (B + (c + 1)), .ref (B + (c + 2)), .int (zI (r 3)), .ref (B + (c + 3)), .int (zI (r 4)), .ref (B + (c + 4)), .ref (B + (c + 13)), .ref (B + (c + 18))]))) (c + 3) (rarr E 5 5 B (psA c r))) N (.inr ((kci kd), [.int (zI (r 4)), .int (zI lnd), .int (zI home), .int (zI mil)])))) (by rw [hkk]) ?_
      refine x_aastK (pc := 109) (kd := kd) (((r 4)).toNat) K (by omega) (cel_ne (cel_self (Nat.lt_of_lt_of_le hc1.1 (by omega))) (by omega)) (cel_self (by omega)) (by omega) (by omega) (by decide) dX3_addPerson_109 ?_
      refine x_v (w := (va_up (va_up (va_up v c (.inr (3, [.int (zI (r 0)), .int (zI (r 1)), .int (zI (r 2)), .ref (B + (c + 1)), .ref (B + (c + 2)), .int (zI (r 3)), .ref (B + (c + 3)), .int (zI (r 4)), .ref (B + (c + 4)), .ref (B + (c + 13)), .ref (B + (c + 18))]))) (c + 3) (rarr E 5 5 B (va_up (psA c r) (((r 4)).toNat) (some N)))) N (.inr ((kci kd), [.int (zI (r 4)), .int (zI lnd), .int (zI home), .int (zI mil)])))) (up_at1 (by omega)).symm ?_
      refine x_goto (pc := 110) (tgt := 156) K dX3_addPerson_110 (by decide) ?_
      have hRR : va_up (psA c r) (((r 4)).toNat) (some N) = (psA c (perR r (kd, lnd, home, mil))) := by rw [psA_push ⟨hr4.1, hq2⟩ hq1]
      refine x_v (w := (va_up (va_up (va_up v c (.inr (3, [.int (zI (r 0)), .int (zI (r 1)), .int (zI (r 2)), .ref (B + (c + 1)), .ref (B + (c + 2)), .int (zI (r 3)), .ref (B + (c + 3)), .int (zI (r 4)), .ref (B + (c + 4)), .ref (B + (c + 13)), .ref (B + (c + 18))]))) (c + 3) (rarr E 5 5 B (psA c (perR r (kd, lnd, home, mil))))) N (.inr ((kci kd), [.int (zI (r 4)), .int (zI lnd), .int (zI home), .int (zI mil)])))) (by rw [hRR]) ?_
      refine x_aload_n (pc := 156) 1 K rfl rfl dX3_addPerson_156 ?_
      refine x_dup (pc := 157) K rfl dX3_addPerson_157 ?_
      refine x_get (pc := 158) (C := RX3) (T := TX3) (n := 11) (ci := 3) (idx := 38) (ref := "BorderBeds$Ground") (x := .int (zI (r 4)))  K (cel_ne (cel_ne (cel_self (Nat.lt_of_lt_of_le hc0.1 (by omega))) (by omega)) (by omega)) rfl (by decide +kernel) 7 (by decide) (by decide +kernel) rfl rfl dX3_addPerson_158 ?_
      refine x_iconst (pc := 161) K dX3_addPerson_161 ?_
      refine x_iadd (pc := 162) K dX3_addPerson_162 ?_
      refine x_put (pc := 163) (C := RX3) (T := TX3) (n := 11) (ci := 3) (idx := 38) (ref := "BorderBeds$Ground") (ty := .int)  K (cel_ne (cel_ne (cel_self (Nat.lt_of_lt_of_le hc0.1 (by omega))) (by omega)) (by omega)) rfl (by decide +kernel) tyX3 tyX3_ok nmX3 7 (by decide) (by decide +kernel) rfl rfl (by decide +kernel) rfl rfl (Nat.le_of_ble_eq_true rfl) dX3_addPerson_163 ?_
      refine x_v (w := (va_up (va_up (va_up v c (.inr (3, [.int (zI (r 0)), .int (zI (r 1)), .int (zI (r 2)), .ref (B + (c + 1)), .ref (B + (c + 2)), .int (zI (r 3)), .ref (B + (c + 3)), .int (zI ((r 4) + 1)), .ref (B + (c + 4)), .ref (B + (c + 13)), .ref (B + (c + 18))]))) (c + 3) (rarr E 5 5 B (psA c (perR r (kd, lnd, home, mil))))) N (.inr ((kci kd), [.int (zI (r 4)), .int (zI lnd), .int (zI home), .int (zI mil)])))) (up_at2 (by omega) (by omega)).symm ?_
      refine x_vret (pc := 166) K KR (by omega) (Nat.le_of_ble_eq_true rfl) (Nat.le_of_ble_eq_true rfl) dX3_addPerson_166 ?_
      have e1 : ∀ j, j ≠ 4 → (j < 5 ∨ 25 ≤ j) → (perR r (kd, lnd, home, mil)) j = r j := fun j h1 h2 => perR_ne ⟨hr4.1, hq2⟩ h1 h2
      exact ⟨rfl, rfl, by rw [e1 0 (by omega) (by omega), e1 1 (by omega) (by omega), e1 2 (by omega) (by omega), e1 3 (by omega) (by omega), hp4.2.2.2.2, show ((((r 4).toNat : Nat) : Int)) = r 4 by omega]⟩
    by_cases h_14_3 : kd = 4
    · skip
      refine x_tswIn (pc := 14) (tgt := 113) K (by omega) (by omega) (by omega) dX3_addPerson_14 (by rw [h_14_3]; rfl) (by decide) ?_
      refine x_aload_n (pc := 113) 1 K rfl rfl dX3_addPerson_113 ?_
      refine x_get (pc := 114) (C := RX3) (T := TX3) (n := 11) (ci := 3) (idx := 34) (ref := "BorderBeds$Ground") (x := .ref (B + (c + 3)))  K (cel_ne (cel_self hc0.1) (by omega)) rfl (by decide +kernel) 6 (by decide) (by decide +kernel) rfl rfl dX3_addPerson_114 ?_
      refine x_iload (pc := 117) 0 K rfl dX3_addPerson_117 ?_
      refine x_new (pc := 119) (C := RX1) (T := TX1) (n := 4) (ci := 1) (fs := [.int (zI 0), .int (zI 0), .int (zI 0), .int (zI 0)]) K rfl (by decide +kernel) tyX1 tyX1_ok (by decide +kernel) (by decide +kernel) (by decide +kernel) (by decide +kernel) (Nat.le_of_ble_eq_true rfl) (Nat.le_of_ble_eq_true rfl) dX3_addPerson_119 ?_
      refine x_N (M := (N + 1)) rfl ?_
      refine x_dup (pc := 122) K rfl dX3_addPerson_122 ?_
      refine x_iload (pc := 123) 0 K rfl dX3_addPerson_123 ?_
      refine x_iload_n (pc := 125) 3 K rfl rfl dX3_addPerson_125 ?_
      refine x_iload_n (pc := 126) 4 K rfl rfl dX3_addPerson_126 ?_
      refine x_iload (pc := 127) 5 K rfl dX3_addPerson_127 ?_
      refine x_callI (pc := 129) (As := [.int (zI (r 4)), .int (zI lnd), .int (zI home), .int (zI mil)]) K (c_X1_init_X1 (E := E) (B := B) (N := (N + 1))   (cel_self (by omega)) ) gX3_addPerson_X1_init rfl (by decide +kernel) (by decide +kernel) (by decide +kernel) rfl (na := 4) (by decide +kernel) rfl ⟨(Nat.le_of_ble_eq_true rfl), (Nat.le_of_ble_eq_true rfl)⟩ (st := [.ref (B + N), .int (zI (r 4)), .ref (B + (c + 3))]) rfl (Nat.le_of_ble_eq_true rfl) ⟨(Nat.le_of_ble_eq_true rfl), (Nat.le_of_ble_eq_true rfl)⟩ dX3_addPerson_129 (fun r129 N129 w129 hpo129 hN129 => ?_)
      obtain ⟨rfl, rfl, rfl⟩ := hpo129
      refine x_v (w := (va_up (va_up (va_up v c (.inr (3, [.int (zI (r 0)), .int (zI (r 1)), .int (zI (r 2)), .ref (B + (c + 1)), .ref (B + (c + 2)), .int (zI (r 3)), .ref (B + (c + 3)), .int (zI (r 4)), .ref (B + (c + 4)), .ref (B + (c + 13)), .ref (B + (c + 18))]))) (c + 3) (rarr E 5 5 B (psA c r))) N (.inr (1, [.int (zI (r 4)), .int (zI lnd), .int (zI home), .int (zI mil)])))) (up_at0).symm ?_
      refine x_st (st' := [.ref (B + N), .int (zI (r 4)), .ref (B + (c + 3))]) rfl ?_
      have hkd : kd = 4 := by omega
      have hkk : (1 : Nat) = kci kd := by subst hkd; rfl
      refine x_v (w := (va_up (va_up (va_up v c (.inr (3, [.int (zI (r 0)), .int (zI (r 1)), .int (zI (r 2)), .ref (B + (c + 1)), .ref (B + (c + 2)), .int (zI (r 3)), .ref (B + (c + 3)), .int (zI (r 4)), .ref (B + (c + 4)), .ref (B + (c + 13)), .ref (B + (c + 18))]))) (c + 3) (rarr E 5 5 B (psA c r))) N (.inr ((kci kd), [.int (zI (r 4)), .int (zI lnd), .int (zI home), .int (zI mil)])))) (by rw [hkk]) ?_
      refine x_aastK (pc := 132) (kd := kd) (((r 4)).toNat) K (by omega) (cel_ne (cel_self (Nat.lt_of_lt_of_le hc1.1 (by omega))) (by omega)) (cel_self (by omega)) (by omega) (by omega) (by decide) dX3_addPerson_132 ?_
      refine x_v (w := (va_up (va_up (va_up v c (.inr (3, [.int (zI (r 0)), .int (zI (r 1)), .int (zI (r 2)), .ref (B + (c + 1)), .ref (B + (c + 2)), .int (zI (r 3)), .ref (B + (c + 3)), .int (zI (r 4)), .ref (B + (c + 4)), .ref (B + (c + 13)), .ref (B + (c + 18))]))) (c + 3) (rarr E 5 5 B (va_up (psA c r) (((r 4)).toNat) (some N)))) N (.inr ((kci kd), [.int (zI (r 4)), .int (zI lnd), .int (zI home), .int (zI mil)])))) (up_at1 (by omega)).symm ?_
      refine x_goto (pc := 133) (tgt := 156) K dX3_addPerson_133 (by decide) ?_
      have hRR : va_up (psA c r) (((r 4)).toNat) (some N) = (psA c (perR r (kd, lnd, home, mil))) := by rw [psA_push ⟨hr4.1, hq2⟩ hq1]
      refine x_v (w := (va_up (va_up (va_up v c (.inr (3, [.int (zI (r 0)), .int (zI (r 1)), .int (zI (r 2)), .ref (B + (c + 1)), .ref (B + (c + 2)), .int (zI (r 3)), .ref (B + (c + 3)), .int (zI (r 4)), .ref (B + (c + 4)), .ref (B + (c + 13)), .ref (B + (c + 18))]))) (c + 3) (rarr E 5 5 B (psA c (perR r (kd, lnd, home, mil))))) N (.inr ((kci kd), [.int (zI (r 4)), .int (zI lnd), .int (zI home), .int (zI mil)])))) (by rw [hRR]) ?_
      refine x_aload_n (pc := 156) 1 K rfl rfl dX3_addPerson_156 ?_
      refine x_dup (pc := 157) K rfl dX3_addPerson_157 ?_
      refine x_get (pc := 158) (C := RX3) (T := TX3) (n := 11) (ci := 3) (idx := 38) (ref := "BorderBeds$Ground") (x := .int (zI (r 4)))  K (cel_ne (cel_ne (cel_self (Nat.lt_of_lt_of_le hc0.1 (by omega))) (by omega)) (by omega)) rfl (by decide +kernel) 7 (by decide) (by decide +kernel) rfl rfl dX3_addPerson_158 ?_
      refine x_iconst (pc := 161) K dX3_addPerson_161 ?_
      refine x_iadd (pc := 162) K dX3_addPerson_162 ?_
      refine x_put (pc := 163) (C := RX3) (T := TX3) (n := 11) (ci := 3) (idx := 38) (ref := "BorderBeds$Ground") (ty := .int)  K (cel_ne (cel_ne (cel_self (Nat.lt_of_lt_of_le hc0.1 (by omega))) (by omega)) (by omega)) rfl (by decide +kernel) tyX3 tyX3_ok nmX3 7 (by decide) (by decide +kernel) rfl rfl (by decide +kernel) rfl rfl (Nat.le_of_ble_eq_true rfl) dX3_addPerson_163 ?_
      refine x_v (w := (va_up (va_up (va_up v c (.inr (3, [.int (zI (r 0)), .int (zI (r 1)), .int (zI (r 2)), .ref (B + (c + 1)), .ref (B + (c + 2)), .int (zI (r 3)), .ref (B + (c + 3)), .int (zI ((r 4) + 1)), .ref (B + (c + 4)), .ref (B + (c + 13)), .ref (B + (c + 18))]))) (c + 3) (rarr E 5 5 B (psA c (perR r (kd, lnd, home, mil))))) N (.inr ((kci kd), [.int (zI (r 4)), .int (zI lnd), .int (zI home), .int (zI mil)])))) (up_at2 (by omega) (by omega)).symm ?_
      refine x_vret (pc := 166) K KR (by omega) (Nat.le_of_ble_eq_true rfl) (Nat.le_of_ble_eq_true rfl) dX3_addPerson_166 ?_
      have e1 : ∀ j, j ≠ 4 → (j < 5 ∨ 25 ≤ j) → (perR r (kd, lnd, home, mil)) j = r j := fun j h1 h2 => perR_ne ⟨hr4.1, hq2⟩ h1 h2
      exact ⟨rfl, rfl, by rw [e1 0 (by omega) (by omega), e1 1 (by omega) (by omega), e1 2 (by omega) (by omega), e1 3 (by omega) (by omega), hp4.2.2.2.2, show ((((r 4).toNat : Nat) : Int)) = r 4 by omega]⟩
    refine x_tswOut (pc := 14) (tgt := 136) K (by omega) (by omega) dX3_addPerson_14 (by decide) ?_
    refine x_aload_n (pc := 136) 1 K rfl rfl dX3_addPerson_136 ?_
    refine x_get (pc := 137) (C := RX3) (T := TX3) (n := 11) (ci := 3) (idx := 34) (ref := "BorderBeds$Ground") (x := .ref (B + (c + 3)))  K (cel_ne (cel_self hc0.1) (by omega)) rfl (by decide +kernel) 6 (by decide) (by decide +kernel) rfl rfl dX3_addPerson_137 ?_
    refine x_iload (pc := 140) 0 K rfl dX3_addPerson_140 ?_
    refine x_new (pc := 142) (C := RX5) (T := TX5) (n := 4) (ci := 5) (fs := [.int (zI 0), .int (zI 0), .int (zI 0), .int (zI 0)]) K rfl (by decide +kernel) tyX5 tyX5_ok (by decide +kernel) (by decide +kernel) (by decide +kernel) (by decide +kernel) (Nat.le_of_ble_eq_true rfl) (Nat.le_of_ble_eq_true rfl) dX3_addPerson_142 ?_
    refine x_N (M := (N + 1)) rfl ?_
    refine x_dup (pc := 145) K rfl dX3_addPerson_145 ?_
    refine x_iload (pc := 146) 0 K rfl dX3_addPerson_146 ?_
    refine x_iload_n (pc := 148) 3 K rfl rfl dX3_addPerson_148 ?_
    refine x_iload_n (pc := 149) 4 K rfl rfl dX3_addPerson_149 ?_
    refine x_iload (pc := 150) 5 K rfl dX3_addPerson_150 ?_
    refine x_callI (pc := 152) (As := [.int (zI (r 4)), .int (zI lnd), .int (zI home), .int (zI mil)]) K (c_X5_init_X5 (E := E) (B := B) (N := (N + 1))   (cel_self (by omega)) ) gX3_addPerson_X5_init rfl (by decide +kernel) (by decide +kernel) (by decide +kernel) rfl (na := 4) (by decide +kernel) rfl ⟨(Nat.le_of_ble_eq_true rfl), (Nat.le_of_ble_eq_true rfl)⟩ (st := [.ref (B + N), .int (zI (r 4)), .ref (B + (c + 3))]) rfl (Nat.le_of_ble_eq_true rfl) ⟨(Nat.le_of_ble_eq_true rfl), (Nat.le_of_ble_eq_true rfl)⟩ dX3_addPerson_152 (fun r152 N152 w152 hpo152 hN152 => ?_)
    obtain ⟨rfl, rfl, rfl⟩ := hpo152
    refine x_v (w := (va_up (va_up (va_up v c (.inr (3, [.int (zI (r 0)), .int (zI (r 1)), .int (zI (r 2)), .ref (B + (c + 1)), .ref (B + (c + 2)), .int (zI (r 3)), .ref (B + (c + 3)), .int (zI (r 4)), .ref (B + (c + 4)), .ref (B + (c + 13)), .ref (B + (c + 18))]))) (c + 3) (rarr E 5 5 B (psA c r))) N (.inr (5, [.int (zI (r 4)), .int (zI lnd), .int (zI home), .int (zI mil)])))) (up_at0).symm ?_
    refine x_st (st' := [.ref (B + N), .int (zI (r 4)), .ref (B + (c + 3))]) rfl ?_
    have hkd : kd = 5 := by omega
    have hkk : (5 : Nat) = kci kd := by subst hkd; rfl
    refine x_v (w := (va_up (va_up (va_up v c (.inr (3, [.int (zI (r 0)), .int (zI (r 1)), .int (zI (r 2)), .ref (B + (c + 1)), .ref (B + (c + 2)), .int (zI (r 3)), .ref (B + (c + 3)), .int (zI (r 4)), .ref (B + (c + 4)), .ref (B + (c + 13)), .ref (B + (c + 18))]))) (c + 3) (rarr E 5 5 B (psA c r))) N (.inr ((kci kd), [.int (zI (r 4)), .int (zI lnd), .int (zI home), .int (zI mil)])))) (by rw [hkk]) ?_
    refine x_aastK (pc := 155) (kd := kd) (((r 4)).toNat) K (by omega) (cel_ne (cel_self (Nat.lt_of_lt_of_le hc1.1 (by omega))) (by omega)) (cel_self (by omega)) (by omega) (by omega) (by decide) dX3_addPerson_155 ?_
    refine x_v (w := (va_up (va_up (va_up v c (.inr (3, [.int (zI (r 0)), .int (zI (r 1)), .int (zI (r 2)), .ref (B + (c + 1)), .ref (B + (c + 2)), .int (zI (r 3)), .ref (B + (c + 3)), .int (zI (r 4)), .ref (B + (c + 4)), .ref (B + (c + 13)), .ref (B + (c + 18))]))) (c + 3) (rarr E 5 5 B (va_up (psA c r) (((r 4)).toNat) (some N)))) N (.inr ((kci kd), [.int (zI (r 4)), .int (zI lnd), .int (zI home), .int (zI mil)])))) (up_at1 (by omega)).symm ?_
    have hRR : va_up (psA c r) (((r 4)).toNat) (some N) = (psA c (perR r (kd, lnd, home, mil))) := by rw [psA_push ⟨hr4.1, hq2⟩ hq1]
    refine x_v (w := (va_up (va_up (va_up v c (.inr (3, [.int (zI (r 0)), .int (zI (r 1)), .int (zI (r 2)), .ref (B + (c + 1)), .ref (B + (c + 2)), .int (zI (r 3)), .ref (B + (c + 3)), .int (zI (r 4)), .ref (B + (c + 4)), .ref (B + (c + 13)), .ref (B + (c + 18))]))) (c + 3) (rarr E 5 5 B (psA c (perR r (kd, lnd, home, mil))))) N (.inr ((kci kd), [.int (zI (r 4)), .int (zI lnd), .int (zI home), .int (zI mil)])))) (by rw [hRR]) ?_
    refine x_aload_n (pc := 156) 1 K rfl rfl dX3_addPerson_156 ?_
    refine x_dup (pc := 157) K rfl dX3_addPerson_157 ?_
    refine x_get (pc := 158) (C := RX3) (T := TX3) (n := 11) (ci := 3) (idx := 38) (ref := "BorderBeds$Ground") (x := .int (zI (r 4)))  K (cel_ne (cel_ne (cel_self (Nat.lt_of_lt_of_le hc0.1 (by omega))) (by omega)) (by omega)) rfl (by decide +kernel) 7 (by decide) (by decide +kernel) rfl rfl dX3_addPerson_158 ?_
    refine x_iconst (pc := 161) K dX3_addPerson_161 ?_
    refine x_iadd (pc := 162) K dX3_addPerson_162 ?_
    refine x_put (pc := 163) (C := RX3) (T := TX3) (n := 11) (ci := 3) (idx := 38) (ref := "BorderBeds$Ground") (ty := .int)  K (cel_ne (cel_ne (cel_self (Nat.lt_of_lt_of_le hc0.1 (by omega))) (by omega)) (by omega)) rfl (by decide +kernel) tyX3 tyX3_ok nmX3 7 (by decide) (by decide +kernel) rfl rfl (by decide +kernel) rfl rfl (Nat.le_of_ble_eq_true rfl) dX3_addPerson_163 ?_
    refine x_v (w := (va_up (va_up (va_up v c (.inr (3, [.int (zI (r 0)), .int (zI (r 1)), .int (zI (r 2)), .ref (B + (c + 1)), .ref (B + (c + 2)), .int (zI (r 3)), .ref (B + (c + 3)), .int (zI ((r 4) + 1)), .ref (B + (c + 4)), .ref (B + (c + 13)), .ref (B + (c + 18))]))) (c + 3) (rarr E 5 5 B (psA c (perR r (kd, lnd, home, mil))))) N (.inr ((kci kd), [.int (zI (r 4)), .int (zI lnd), .int (zI home), .int (zI mil)])))) (up_at2 (by omega) (by omega)).symm ?_
    refine x_vret (pc := 166) K KR (by omega) (Nat.le_of_ble_eq_true rfl) (Nat.le_of_ble_eq_true rfl) dX3_addPerson_166 ?_
    have e1 : ∀ j, j ≠ 4 → (j < 5 ∨ 25 ≤ j) → (perR r (kd, lnd, home, mil)) j = r j := fun j h1 h2 => perR_ne ⟨hr4.1, hq2⟩ h1 h2
    exact ⟨rfl, rfl, by rw [e1 0 (by omega) (by omega), e1 1 (by omega) (by omega), e1 2 (by omega) (by omega), e1 3 (by omega) (by omega), hp4.2.2.2.2, show ((((r 4).toNat : Nat) : Int)) = r 4 by omega]⟩
  · skip
    exfalso; omega
