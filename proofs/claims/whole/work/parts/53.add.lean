theorem dX3_addVillage_0 : decode cX3_addVillage 0 = .ok (.aload_n 0, 1) := by decide +kernel
theorem dX3_addVillage_1 : decode cX3_addVillage 1 = .ok (.getfield 21, 3) := by decide +kernel
theorem dX3_addVillage_4 : decode cX3_addVillage 4 = .ok (.bipush 8, 2) := by decide +kernel
theorem dX3_addVillage_6 : decode cX3_addVillage 6 = .ok (.iload_n 2, 1) := by decide +kernel
theorem dX3_addVillage_7 : decode cX3_addVillage 7 = .ok (.imul, 1) := by decide +kernel
theorem dX3_addVillage_8 : decode cX3_addVillage 8 = .ok (.iload_n 1, 1) := by decide +kernel
theorem dX3_addVillage_9 : decode cX3_addVillage 9 = .ok (.iadd, 1) := by decide +kernel
theorem dX3_addVillage_10 : decode cX3_addVillage 10 = .ok (.dup2, 1) := by decide +kernel
theorem dX3_addVillage_11 : decode cX3_addVillage 11 = .ok (.iaload, 1) := by decide +kernel
theorem dX3_addVillage_12 : decode cX3_addVillage 12 = .ok (.iload_n 3, 1) := by decide +kernel
theorem dX3_addVillage_13 : decode cX3_addVillage 13 = .ok (.iadd, 1) := by decide +kernel
theorem dX3_addVillage_14 : decode cX3_addVillage 14 = .ok (.iastore, 1) := by decide +kernel
theorem dX3_addVillage_15 : decode cX3_addVillage 15 = .ok (.iload_n 2, 1) := by decide +kernel
theorem dX3_addVillage_16 : decode cX3_addVillage 16 = .ok (.iconst 1, 1) := by decide +kernel
theorem dX3_addVillage_17 : decode cX3_addVillage 17 = .ok (.iadd, 1) := by decide +kernel
theorem dX3_addVillage_18 : decode cX3_addVillage 18 = .ok (.istore 4, 2) := by decide +kernel
theorem dX3_addVillage_20 : decode cX3_addVillage 20 = .ok (.iload 4, 2) := by decide +kernel
theorem dX3_addVillage_22 : decode cX3_addVillage 22 = .ok (.bipush 6, 2) := by decide +kernel
theorem dX3_addVillage_24 : decode cX3_addVillage 24 = .ok (.if_icmp .gt 22, 3) := by decide +kernel
theorem dX3_addVillage_46 : decode cX3_addVillage 46 = .ok (.aload_n 0, 1) := by decide +kernel
theorem dX3_addVillage_47 : decode cX3_addVillage 47 = .ok (.dup, 1) := by decide +kernel
theorem dX3_addVillage_48 : decode cX3_addVillage 48 = .ok (.getfield 29, 3) := by decide +kernel
theorem dX3_addVillage_51 : decode cX3_addVillage 51 = .ok (.iconst 1, 1) := by decide +kernel
theorem dX3_addVillage_52 : decode cX3_addVillage 52 = .ok (.iadd, 1) := by decide +kernel
theorem dX3_addVillage_53 : decode cX3_addVillage 53 = .ok (.putfield 29, 3) := by decide +kernel
theorem dX3_addVillage_56 : decode cX3_addVillage 56 = .ok (.return_, 1) := by decide +kernel
theorem dX3_addVillage_27 : decode cX3_addVillage 27 = .ok (.aload_n 0, 1) := by decide +kernel
theorem dX3_addVillage_28 : decode cX3_addVillage 28 = .ok (.getfield 43, 3) := by decide +kernel
theorem dX3_addVillage_31 : decode cX3_addVillage 31 = .ok (.iload_n 1, 1) := by decide +kernel
theorem dX3_addVillage_32 : decode cX3_addVillage 32 = .ok (.aaload, 1) := by decide +kernel
theorem dX3_addVillage_33 : decode cX3_addVillage 33 = .ok (.iload 4, 2) := by decide +kernel
theorem dX3_addVillage_35 : decode cX3_addVillage 35 = .ok (.dup2, 1) := by decide +kernel
theorem dX3_addVillage_36 : decode cX3_addVillage 36 = .ok (.iaload, 1) := by decide +kernel
theorem dX3_addVillage_37 : decode cX3_addVillage 37 = .ok (.iload_n 3, 1) := by decide +kernel
theorem dX3_addVillage_38 : decode cX3_addVillage 38 = .ok (.iadd, 1) := by decide +kernel
theorem dX3_addVillage_39 : decode cX3_addVillage 39 = .ok (.iastore, 1) := by decide +kernel
theorem dX3_addVillage_40 : decode cX3_addVillage 40 = .ok (.iinc 4 1, 3) := by decide +kernel
theorem dX3_addVillage_43 : decode cX3_addVillage 43 = .ok (.goto (-23), 3) := by decide +kernel
theorem dX3_personOf_0 : decode cX3_personOf 0 = .ok (.iload_n 0, 1) := by decide +kernel
theorem dX3_personOf_1 : decode cX3_personOf 1 = .ok (.tableswitch 83 1 4 #[31, 44, 57, 70], 31) := by decide +kernel
theorem dX3_personOf_32 : decode cX3_personOf 32 = .ok (.new 60, 3) := by decide +kernel
theorem dX3_personOf_35 : decode cX3_personOf 35 = .ok (.dup, 1) := by decide +kernel
theorem dX3_personOf_36 : decode cX3_personOf 36 = .ok (.iload_n 1, 1) := by decide +kernel
theorem dX3_personOf_37 : decode cX3_personOf 37 = .ok (.iload_n 2, 1) := by decide +kernel
theorem dX3_personOf_38 : decode cX3_personOf 38 = .ok (.iload_n 3, 1) := by decide +kernel
theorem dX3_personOf_39 : decode cX3_personOf 39 = .ok (.iload 4, 2) := by decide +kernel
set_option maxRecDepth 20000 in
theorem ggX3_personOf_X0_init : GoodIn wsX3_personOf wsX0_init := goodIn_r _ [18, 19, 20, 21, 22, 23, 24, 25, 26, 27, 28, 29, 46, 47, 48, 49, 58, 59, 60, 61, 50, 51, 52, 53, 62, 63, 64, 65, 54, 55, 56, 57] (by decide +kernel) (by decide +kernel)
set_option maxRecDepth 20000 in
theorem gX3_personOf_X0_init : GoodIn wsX3_personOf (wsX0_init) := ggX3_personOf_X0_init
theorem dX3_personOf_41 : decode cX3_personOf 41 = .ok (.invokespecial 62, 3) := by decide +kernel
theorem dX3_personOf_44 : decode cX3_personOf 44 = .ok (.areturn, 1) := by decide +kernel
theorem dX3_personOf_45 : decode cX3_personOf 45 = .ok (.new 65, 3) := by decide +kernel
theorem dX3_personOf_48 : decode cX3_personOf 48 = .ok (.dup, 1) := by decide +kernel
theorem dX3_personOf_49 : decode cX3_personOf 49 = .ok (.iload_n 1, 1) := by decide +kernel
theorem dX3_personOf_50 : decode cX3_personOf 50 = .ok (.iload_n 2, 1) := by decide +kernel
theorem dX3_personOf_51 : decode cX3_personOf 51 = .ok (.iload_n 3, 1) := by decide +kernel
theorem dX3_personOf_52 : decode cX3_personOf 52 = .ok (.iload 4, 2) := by decide +kernel
set_option maxRecDepth 20000 in
theorem ggX3_personOf_X2_init : GoodIn wsX3_personOf wsX2_init := goodIn_r _ [32, 33, 17, 3, 18, 19, 20, 21, 22, 23, 24, 25, 26, 27, 28, 29, 46, 47, 48, 49, 58, 59, 60, 61, 50, 51, 52, 53, 62, 63, 64, 65, 54, 55, 56, 57] (by decide +kernel) (by decide +kernel)
set_option maxRecDepth 20000 in
theorem gX3_personOf_X2_init : GoodIn wsX3_personOf (wsX2_init) := ggX3_personOf_X2_init
theorem dX3_personOf_54 : decode cX3_personOf 54 = .ok (.invokespecial 67, 3) := by decide +kernel
theorem dX3_personOf_57 : decode cX3_personOf 57 = .ok (.areturn, 1) := by decide +kernel
theorem dX3_personOf_58 : decode cX3_personOf 58 = .ok (.new 68, 3) := by decide +kernel
theorem dX3_personOf_61 : decode cX3_personOf 61 = .ok (.dup, 1) := by decide +kernel
theorem dX3_personOf_62 : decode cX3_personOf 62 = .ok (.iload_n 1, 1) := by decide +kernel
theorem dX3_personOf_63 : decode cX3_personOf 63 = .ok (.iload_n 2, 1) := by decide +kernel
theorem dX3_personOf_64 : decode cX3_personOf 64 = .ok (.iload_n 3, 1) := by decide +kernel
theorem dX3_personOf_65 : decode cX3_personOf 65 = .ok (.iload 4, 2) := by decide +kernel
set_option maxRecDepth 20000 in
theorem ggX3_personOf_X10_init : GoodIn wsX3_personOf wsX10_init := goodIn_r _ [36, 37, 17, 3, 18, 19, 20, 21, 22, 23, 24, 25, 26, 27, 28, 29, 46, 47, 48, 49, 58, 59, 60, 61, 50, 51, 52, 53, 62, 63, 64, 65, 54, 55, 56, 57] (by decide +kernel) (by decide +kernel)
set_option maxRecDepth 20000 in
theorem gX3_personOf_X10_init : GoodIn wsX3_personOf (wsX10_init) := ggX3_personOf_X10_init
theorem dX3_personOf_67 : decode cX3_personOf 67 = .ok (.invokespecial 70, 3) := by decide +kernel
theorem dX3_personOf_70 : decode cX3_personOf 70 = .ok (.areturn, 1) := by decide +kernel
theorem dX3_personOf_71 : decode cX3_personOf 71 = .ok (.new 71, 3) := by decide +kernel
theorem dX3_personOf_74 : decode cX3_personOf 74 = .ok (.dup, 1) := by decide +kernel
theorem dX3_personOf_75 : decode cX3_personOf 75 = .ok (.iload_n 1, 1) := by decide +kernel
theorem dX3_personOf_76 : decode cX3_personOf 76 = .ok (.iload_n 2, 1) := by decide +kernel
theorem dX3_personOf_77 : decode cX3_personOf 77 = .ok (.iload_n 3, 1) := by decide +kernel
theorem dX3_personOf_78 : decode cX3_personOf 78 = .ok (.iload 4, 2) := by decide +kernel
set_option maxRecDepth 20000 in
theorem ggX3_personOf_X1_init : GoodIn wsX3_personOf wsX1_init := goodIn_r _ [40, 41, 20, 21, 22, 23, 24, 25, 26, 27, 28, 29, 46, 47, 48, 49, 58, 59, 60, 61, 50, 51, 52, 53, 62, 63, 64, 65, 54, 55, 56, 57] (by decide +kernel) (by decide +kernel)
set_option maxRecDepth 20000 in
theorem gX3_personOf_X1_init : GoodIn wsX3_personOf (wsX1_init) := ggX3_personOf_X1_init
theorem dX3_personOf_80 : decode cX3_personOf 80 = .ok (.invokespecial 73, 3) := by decide +kernel
theorem dX3_personOf_83 : decode cX3_personOf 83 = .ok (.areturn, 1) := by decide +kernel
theorem dX3_personOf_84 : decode cX3_personOf 84 = .ok (.new 74, 3) := by decide +kernel
theorem dX3_personOf_87 : decode cX3_personOf 87 = .ok (.dup, 1) := by decide +kernel
theorem dX3_personOf_88 : decode cX3_personOf 88 = .ok (.iload_n 1, 1) := by decide +kernel
theorem dX3_personOf_89 : decode cX3_personOf 89 = .ok (.iload_n 2, 1) := by decide +kernel
theorem dX3_personOf_90 : decode cX3_personOf 90 = .ok (.iload_n 3, 1) := by decide +kernel
theorem dX3_personOf_91 : decode cX3_personOf 91 = .ok (.iload 4, 2) := by decide +kernel
set_option maxRecDepth 20000 in
theorem ggX3_personOf_X5_init : GoodIn wsX3_personOf wsX5_init := goodIn_r _ [44, 45, 39, 12, 40, 41, 20, 21, 22, 23, 24, 25, 26, 27, 28, 29, 46, 47, 48, 49, 58, 59, 60, 61, 50, 51, 52, 53, 62, 63, 64, 65, 54, 55, 56, 57] (by decide +kernel) (by decide +kernel)
set_option maxRecDepth 20000 in
theorem gX3_personOf_X5_init : GoodIn wsX3_personOf (wsX5_init) := ggX3_personOf_X5_init
theorem dX3_personOf_93 : decode cX3_personOf 93 = .ok (.invokespecial 76, 3) := by decide +kernel
theorem dX3_personOf_96 : decode cX3_personOf 96 = .ok (.areturn, 1) := by decide +kernel
theorem dX3_addPerson_0 : decode cX3_addPerson 0 = .ok (.aload_n 0, 1) := by decide +kernel
theorem dX3_addPerson_1 : decode cX3_addPerson 1 = .ok (.getfield 38, 3) := by decide +kernel
theorem dX3_addPerson_4 : decode cX3_addPerson 4 = .ok (.iconst 5, 1) := by decide +kernel
theorem dX3_addPerson_5 : decode cX3_addPerson 5 = .ok (.if_icmp .ge 34, 3) := by decide +kernel
theorem dX3_addPerson_8 : decode cX3_addPerson 8 = .ok (.aload_n 0, 1) := by decide +kernel
theorem dX3_addPerson_9 : decode cX3_addPerson 9 = .ok (.getfield 34, 3) := by decide +kernel
theorem dX3_addPerson_12 : decode cX3_addPerson 12 = .ok (.aload_n 0, 1) := by decide +kernel
theorem dX3_addPerson_13 : decode cX3_addPerson 13 = .ok (.getfield 38, 3) := by decide +kernel
theorem dX3_addPerson_16 : decode cX3_addPerson 16 = .ok (.iload_n 1, 1) := by decide +kernel
theorem dX3_addPerson_17 : decode cX3_addPerson 17 = .ok (.aload_n 0, 1) := by decide +kernel
theorem dX3_addPerson_18 : decode cX3_addPerson 18 = .ok (.getfield 38, 3) := by decide +kernel
theorem dX3_addPerson_21 : decode cX3_addPerson 21 = .ok (.iload_n 2, 1) := by decide +kernel
theorem dX3_addPerson_22 : decode cX3_addPerson 22 = .ok (.iload_n 3, 1) := by decide +kernel
theorem dX3_addPerson_23 : decode cX3_addPerson 23 = .ok (.iload 4, 2) := by decide +kernel
set_option maxRecDepth 20000 in
theorem ggX3_addPerson_X3_personOf : GoodIn wsX3_addPerson wsX3_personOf := goodIn_r _ [6, 7, 8, 9, 10, 11, 12, 13, 14, 15, 16, 17, 18, 19, 20, 21, 22, 23, 24, 25, 26, 27, 28, 29, 30, 31, 32, 33, 34, 35, 36, 37, 38, 39, 40, 41, 42, 43, 44, 45, 46, 47, 48, 49, 50, 51, 63, 64, 65, 66, 67, 68, 69, 70, 71, 72, 73, 74, 75, 76, 77, 78, 79, 80, 81, 82] (by decide +kernel) (by decide +kernel)
set_option maxRecDepth 20000 in
theorem gX3_addPerson_X3_personOf : GoodIn wsX3_addPerson (va_wsS RX3 56 yX3_personOf wsX3_personOf) := goodIn_app (goodIn_of _ (by decide +kernel)) ggX3_addPerson_X3_personOf
theorem dX3_addPerson_25 : decode cX3_addPerson 25 = .ok (.invokestatic 56, 3) := by decide +kernel
theorem dX3_addPerson_28 : decode cX3_addPerson 28 = .ok (.aastore, 1) := by decide +kernel
theorem dX3_addPerson_29 : decode cX3_addPerson 29 = .ok (.aload_n 0, 1) := by decide +kernel
theorem dX3_addPerson_30 : decode cX3_addPerson 30 = .ok (.dup, 1) := by decide +kernel
theorem dX3_addPerson_31 : decode cX3_addPerson 31 = .ok (.getfield 38, 3) := by decide +kernel
theorem dX3_addPerson_34 : decode cX3_addPerson 34 = .ok (.iconst 1, 1) := by decide +kernel
theorem dX3_addPerson_35 : decode cX3_addPerson 35 = .ok (.iadd, 1) := by decide +kernel
theorem dX3_addPerson_36 : decode cX3_addPerson 36 = .ok (.putfield 38, 3) := by decide +kernel
theorem dX3_addPerson_39 : decode cX3_addPerson 39 = .ok (.return_, 1) := by decide +kernel
set_option maxRecDepth 100000 in
set_option maxHeartbeats 4000000 in
theorem c_X3_addVillage {E : XE} {B N : Nat} {v : Nat → va_E} {c o x y : Nat} {r : Nat → Int} {w : Int} {x_i : Int} {y_i : Int} (ha_x : x_i = (x : Int)) (ha_y : y_i = (y : Int)) (hc0 : Cel N v c (.inr (3, [.int (zI (r 0)), .int (zI (r 1)), .int (zI (r 2)), .ref (B + (c + 1)), .ref (B + (c + 2)), .int (zI (r 3)), .ref (B + (c + 3)), .int (zI (r 4)), .ref (B + (c + 4)), .ref (B + (c + 13)), .ref (B + (c + 18))]))) (hc1 : Cel N v (c + 1) (iarr E 48 (wA r))) (hc2 : Cel N v (c + 4) (rarr E 6 8 B (ouA c))) (hc3 : Cel N v o (iarr E 7 (wbS r x))) (hq0 : o = c + 5 + x) (hq1 : x < 8 ∧ y < 6) (hq2 : 1 ≤ w ∧ w ≤ 99) (hq3 : rOk r) : gM yX3_addVillage wsX3_addVillage ({ frames := 0, cells := 0, slots := 0, locals := 0 }) E B N v [.ref (B + c), .int (zI x_i), .int (zI y_i), .int (zI w)] (po0 N (fun ρ v' => ρ = none ∧ (va_up (va_up (va_up v c (.inr (3, [.int (zI ((vilR r ((8 * y + x : Nat) : Int) w) 0)), .int (zI ((vilR r ((8 * y + x : Nat) : Int) w) 1)), .int (zI ((vilR r ((8 * y + x : Nat) : Int) w) 2)), .ref (B + (c + 1)), .ref (B + (c + 2)), .int (zI ((vilR r ((8 * y + x : Nat) : Int) w) 3)), .ref (B + (c + 3)), .int (zI ((vilR r ((8 * y + x : Nat) : Int) w) 4)), .ref (B + (c + 4)), .ref (B + (c + 13)), .ref (B + (c + 18))]))) (c + 1) (iarr E 48 (wA (vilR r ((8 * y + x : Nat) : Int) w)))) o (iarr E 7 (wbS (vilR r ((8 * y + x : Nat) : Int) w) x))) = v')) := by
  subst ha_x
  subst ha_y
  refine x_met (nm := "addVillage") (by decide +kernel) rfl (Nat.le_of_ble_eq_true rfl) rfl (fun Γ K KR hnL hnm => ?_)
  show XW Γ N v [(0, .ref (B + c)), (1, .int (zI (x : Int))), (2, .int (zI (y : Int))), (3, .int (zI w))] 0 0 0 []
  have hr3 := hq3.1.2.2.2.1
  refine x_v (cel_pad hc0) ?_
  refine x_v (cel_pad (cel_ne hc1 (by omega))) ?_
  refine x_v (cel_pad (cel_ne (cel_ne hc3 (by omega)) (by omega))) ?_
  refine x_aload_n (pc := 0) 0 K rfl rfl dX3_addVillage_0 ?_
  refine x_get (pc := 1) (C := RX3) (T := TX3) (n := 11) (ci := 3) (idx := 21) (ref := "BorderBeds$Ground") (x := .ref (B + (c + 1)))  K (cel_ne (cel_ne (cel_self hc0.1) (by omega)) (by omega)) rfl (by decide +kernel) 3 (by decide) (by decide +kernel) rfl rfl dX3_addVillage_1 ?_
  refine x_bipush (pc := 4) K (by decide) dX3_addVillage_4 ?_
  refine x_iload_n (pc := 6) 2 K rfl rfl dX3_addVillage_6 ?_
  refine x_imul (pc := 7) K dX3_addVillage_7 ?_
  refine x_iload_n (pc := 8) 1 K rfl rfl dX3_addVillage_8 ?_
  refine x_iadd (pc := 9) K dX3_addVillage_9 ?_
  refine x_dup2 (pc := 10) K rfl rfl dX3_addVillage_10 ?_
  refine x_iald (pc := 11) ((8 * y) + x) K (cel_ne (cel_self hc1.1) (by omega)) (by omega) (by omega) (by decide) dX3_addVillage_11 ?_
  refine x_iload_n (pc := 12) 3 K rfl rfl dX3_addVillage_12 ?_
  refine x_iadd (pc := 13) K dX3_addVillage_13 ?_
  refine x_iast (pc := 14) ((8 * y) + x) K (cel_ne (cel_self hc1.1) (by omega)) (by omega) (by omega) (by decide) dX3_addVillage_14 ?_
  refine x_v (w := (va_up (va_up (va_up v c (.inr (3, [.int (zI (r 0)), .int (zI (r 1)), .int (zI (r 2)), .ref (B + (c + 1)), .ref (B + (c + 2)), .int (zI (r 3)), .ref (B + (c + 3)), .int (zI (r 4)), .ref (B + (c + 4)), .ref (B + (c + 13)), .ref (B + (c + 18))]))) (c + 1) (iarr E 48 (va_up (wA r) ((8 * y) + x) (((wA r) ((8 * y) + x)) + w)))) o (iarr E 7 (wbS r x)))) (up_at1 (by omega)).symm ?_
  refine x_iload_n (pc := 15) 2 K rfl rfl dX3_addVillage_15 ?_
  refine x_iconst (pc := 16) K dX3_addVillage_16 ?_
  refine x_iadd (pc := 17) K dX3_addVillage_17 ?_
  refine x_nmN (m := (y + 1)) (by omega) (fun z1 hz1 => ?_)
  refine x_istore (pc := 18) K (L' := [(4, .int (zI (z1 : Int))), (0, .ref (B + c)), (1, .int (zI (x : Int))), (2, .int (zI (y : Int))), (3, .int (zI w))]) hnL (by decide) rfl dX3_addVillage_18 ?_
  have LOOP20 : ∀ (n_20 : Nat) (k : Nat) (z : Nat → Int), (y + 1 ≤ k ∧ k ≤ 7) → (z = adA (wbS r x) (y + 1) k w) → (7 - k) < n_20 → XW Γ N (va_up (va_up (va_up v c (.inr (3, [.int (zI (r 0)), .int (zI (r 1)), .int (zI (r 2)), .ref (B + (c + 1)), .ref (B + (c + 2)), .int (zI (r 3)), .ref (B + (c + 3)), .int (zI (r 4)), .ref (B + (c + 4)), .ref (B + (c + 13)), .ref (B + (c + 18))]))) (c + 1) (iarr E 48 (va_up (wA r) ((8 * y) + x) (((wA r) ((8 * y) + x)) + w)))) o (iarr E 7 z)) [(0, .ref (B + c)), (1, .int (zI (x : Int))), (2, .int (zI (y : Int))), (3, .int (zI w)), (4, .int (zI (k : Int)))] 0 0 20 [] := by
    intro n_20
    induction n_20 with
    | zero =>
      intro k z hi20_0 hi20_1 hm_20
      exfalso; omega
    | succ n_20 ih20 =>
      intro k z hi20_0 hi20_1 hm_20
      refine x_iload (pc := 20) 4 K rfl dX3_addVillage_20 ?_
      refine x_bipush (pc := 22) K (by decide) dX3_addVillage_22 ?_
      refine x_icmp_gt (pc := 24) (tgt := 46) K (by omega) (by decide) dX3_addVillage_24 (by decide) (fun h_24 => ?_) (fun h_24 => ?_)
      · skip
        have hk7 : k = 7 := by omega
        rw [hk7] at hi20_1
        refine x_iext (c := o) (g' := (wbS (vilR r ((8 * y + x : Nat) : Int) w) x)) K (cel_self hc3.1) (fun k2 hk2 => by rw [hi20_1]; exact wbS_vil2 hq1.1 hq1.2 k2 hk2) ?_
        refine x_v (w := (va_up (va_up (va_up v c (.inr (3, [.int (zI (r 0)), .int (zI (r 1)), .int (zI (r 2)), .ref (B + (c + 1)), .ref (B + (c + 2)), .int (zI (r 3)), .ref (B + (c + 3)), .int (zI (r 4)), .ref (B + (c + 4)), .ref (B + (c + 13)), .ref (B + (c + 18))]))) (c + 1) (iarr E 48 (va_up (wA r) ((8 * y) + x) (((wA r) ((8 * y) + x)) + w)))) o (iarr E 7 (wbS (vilR r ((8 * y + x : Nat) : Int) w) x)))) (up_at0).symm ?_
        refine x_aload_n (pc := 46) 0 K rfl rfl dX3_addVillage_46 ?_
        refine x_dup (pc := 47) K rfl dX3_addVillage_47 ?_
        refine x_get (pc := 48) (C := RX3) (T := TX3) (n := 11) (ci := 3) (idx := 29) (ref := "BorderBeds$Ground") (x := .int (zI (r 3)))  K (cel_ne (cel_ne (cel_self hc0.1) (by omega)) (by omega)) rfl (by decide +kernel) 5 (by decide) (by decide +kernel) rfl rfl dX3_addVillage_48 ?_
        refine x_iconst (pc := 51) K dX3_addVillage_51 ?_
        refine x_iadd (pc := 52) K dX3_addVillage_52 ?_
        refine x_put (pc := 53) (C := RX3) (T := TX3) (n := 11) (ci := 3) (idx := 29) (ref := "BorderBeds$Ground") (ty := .int)  K (cel_ne (cel_ne (cel_self hc0.1) (by omega)) (by omega)) rfl (by decide +kernel) tyX3 tyX3_ok nmX3 5 (by decide) (by decide +kernel) rfl rfl (by decide +kernel) rfl rfl (Nat.le_of_ble_eq_true rfl) dX3_addVillage_53 ?_
        refine x_v (w := (va_up (va_up (va_up v c (.inr (3, [.int (zI (r 0)), .int (zI (r 1)), .int (zI (r 2)), .ref (B + (c + 1)), .ref (B + (c + 2)), .int (zI ((r 3) + 1)), .ref (B + (c + 3)), .int (zI (r 4)), .ref (B + (c + 4)), .ref (B + (c + 13)), .ref (B + (c + 18))]))) (c + 1) (iarr E 48 (va_up (wA r) ((8 * y) + x) (((wA r) ((8 * y) + x)) + w)))) o (iarr E 7 (wbS (vilR r ((8 * y + x : Nat) : Int) w) x)))) (up_at2 (by omega) (by omega)).symm ?_
        refine x_vret (pc := 56) K KR (by omega) (Nat.le_of_ble_eq_true rfl) (Nat.le_of_ble_eq_true rfl) dX3_addVillage_56 ?_
        have e1 : ∀ j, j ≠ 3 → j < 73 → (vilR r ((8 * y + x : Nat) : Int) w) j = r j := fun j h1 h2 => by unfold vilR; rw [va_up_ne _ _ h1, va_up_ne _ _ (by omega)]
        have e3 : (vilR r ((8 * y + x : Nat) : Int) w) 3 = r 3 + 1 := by unfold vilR; rw [va_up_self]
        exact ⟨rfl, rfl, by rw [e1 0 (by omega) (by omega), e1 1 (by omega) (by omega), e1 2 (by omega) (by omega), e1 4 (by omega) (by omega), e3, ← vil_wor (x := x) (y := y) (by omega)]⟩
      · skip
        refine x_aload_n (pc := 27) 0 K rfl rfl dX3_addVillage_27 ?_
        refine x_get (pc := 28) (C := RX3) (T := TX3) (n := 11) (ci := 3) (idx := 43) (ref := "BorderBeds$Ground") (x := .ref (B + (c + 4)))  K (cel_ne (cel_ne (cel_self hc0.1) (by omega)) (by omega)) rfl (by decide +kernel) 8 (by decide) (by decide +kernel) rfl rfl dX3_addVillage_28 ?_
        refine x_iload_n (pc := 31) 1 K rfl rfl dX3_addVillage_31 ?_
        refine x_aald (pc := 32) x K (cel_ne (cel_ne (cel_ne hc2 (by omega)) (by omega)) (by omega)) rfl rfl rfl (by omega) (by decide) dX3_addVillage_32 ?_
        refine x_st (st' := [.ref (B + o)]) (by rw [rf_some (h := (ouA c)) (j := x) (o := o) (by rw [ouA_at (by omega), hq0])]) ?_
        refine x_iload (pc := 33) 4 K rfl dX3_addVillage_33 ?_
        refine x_dup2 (pc := 35) K rfl rfl dX3_addVillage_35 ?_
        refine x_iald (pc := 36) k K (cel_self hc3.1) rfl (by omega) (by decide) dX3_addVillage_36 ?_
        refine x_iload_n (pc := 37) 3 K rfl rfl dX3_addVillage_37 ?_
        refine x_iadd (pc := 38) K dX3_addVillage_38 ?_
        refine x_iast (pc := 39) k K (cel_self hc3.1) rfl (by omega) (by decide) dX3_addVillage_39 ?_
        refine x_v (w := (va_up (va_up (va_up v c (.inr (3, [.int (zI (r 0)), .int (zI (r 1)), .int (zI (r 2)), .ref (B + (c + 1)), .ref (B + (c + 2)), .int (zI (r 3)), .ref (B + (c + 3)), .int (zI (r 4)), .ref (B + (c + 4)), .ref (B + (c + 13)), .ref (B + (c + 18))]))) (c + 1) (iarr E 48 (va_up (wA r) ((8 * y) + x) (((wA r) ((8 * y) + x)) + w)))) o (iarr E 7 (va_up z k ((z k) + w))))) (up_at0).symm ?_
        refine x_iinc (pc := 40) (L' := [(4, .int (zI ((k : Int) + 1))), (0, .ref (B + c)), (1, .int (zI (x : Int))), (2, .int (zI (y : Int))), (3, .int (zI w))]) 4 K hnL rfl (by decide) rfl dX3_addVillage_40 ?_
        refine x_goto (pc := 43) (tgt := 20) K dX3_addVillage_43 (by decide) ?_
        refine x_sub (L' := [(0, .ref (B + c)), (1, .int (zI (x : Int))), (2, .int (zI (y : Int))), (3, .int (zI w)), (4, .int (zI ((k : Int) + 1)))]) [1, 2, 3, 4, 0] rfl ?_
        exact ih20 (k + 1) (va_up z k ((z k) + w)) (by omega) (by rw [hi20_1]; exact adA_s (by omega)) (by omega)
  refine x_sub (L' := [(0, .ref (B + c)), (1, .int (zI (x : Int))), (2, .int (zI (y : Int))), (3, .int (zI w)), (4, .int (zI (z1 : Int)))]) [1, 2, 3, 4, 0] rfl ?_
  exact LOOP20 (_) z1 (wbS r x) (by omega) (by rw [show z1 = y + 1 by omega]; exact (adA_0 _ _ _).symm) (Nat.lt_succ_self _)

set_option maxRecDepth 100000 in
set_option maxHeartbeats 4000000 in
theorem c_X3_personOf {E : XE} {B N : Nat} {v : Nat → va_E} {kd num lnd home mil : Int} (hq0 : 1 ≤ kd ∧ kd ≤ 5) : gM yX3_personOf wsX3_personOf ({ frames := 4, cells := 1, slots := 4, locals := 84 }) E B N v [.int (zI kd), .int (zI num), .int (zI lnd), .int (zI home), .int (zI mil)] (fun ρ N' v' => N' = N + 1 ∧ ρ = some (.ref (B + N)) ∧ (va_up v N (.inr ((kci kd), [.int (zI num), .int (zI lnd), .int (zI home), .int (zI mil)]))) = v') := by
  refine x_met (nm := "personOf") (by decide +kernel) rfl (Nat.le_of_ble_eq_true rfl) rfl (fun Γ K KR hnL hnm => ?_)
  show XW Γ N v [(0, .int (zI kd)), (1, .int (zI num)), (2, .int (zI lnd)), (3, .int (zI home)), (4, .int (zI mil))] 0 0 0 []
  refine x_iload_n (pc := 0) 0 K rfl rfl dX3_personOf_0 ?_
  by_cases h_1_0 : kd = 1
  · skip
    refine x_tswIn (pc := 1) (tgt := 32) K (by omega) (by omega) (by omega) dX3_personOf_1 (by rw [h_1_0]; rfl) (by decide) ?_
    refine x_new (pc := 32) (C := RX0) (T := TX0) (n := 4) (ci := 0) (fs := [.int (zI 0), .int (zI 0), .int (zI 0), .int (zI 0)]) K rfl (by decide +kernel) tyX0 tyX0_ok (by decide +kernel) (by decide +kernel) (by decide +kernel) (by decide +kernel) (Nat.le_of_ble_eq_true rfl) (Nat.le_of_ble_eq_true rfl) dX3_personOf_32 ?_
    refine x_N (M := (N + 1)) rfl ?_
    refine x_dup (pc := 35) K rfl dX3_personOf_35 ?_
    refine x_iload_n (pc := 36) 1 K rfl rfl dX3_personOf_36 ?_
    refine x_iload_n (pc := 37) 2 K rfl rfl dX3_personOf_37 ?_
    refine x_iload_n (pc := 38) 3 K rfl rfl dX3_personOf_38 ?_
    refine x_iload (pc := 39) 4 K rfl dX3_personOf_39 ?_
    refine x_callI (pc := 41) (As := [.int (zI num), .int (zI lnd), .int (zI home), .int (zI mil)]) K (c_X0_init_X0 (E := E) (B := B) (N := (N + 1))   (cel_self (by omega)) ) gX3_personOf_X0_init rfl (by decide +kernel) (by decide +kernel) (by decide +kernel) rfl (na := 4) (by decide +kernel) rfl ⟨(Nat.le_of_ble_eq_true rfl), (Nat.le_of_ble_eq_true rfl)⟩ (st := [.ref (B + N)]) rfl (Nat.le_of_ble_eq_true rfl) ⟨(Nat.le_of_ble_eq_true rfl), (Nat.le_of_ble_eq_true rfl)⟩ dX3_personOf_41 (fun r41 N41 w41 hpo41 hN41 => ?_)
    obtain ⟨rfl, rfl, rfl⟩ := hpo41
    refine x_v (w := (va_up v N (.inr (0, [.int (zI num), .int (zI lnd), .int (zI home), .int (zI mil)])))) (up_at0).symm ?_
    refine x_st (st' := [.ref (B + N)]) rfl ?_
    refine x_aret (pc := 44) K KR (by omega) (Nat.le_of_ble_eq_true rfl) (Nat.le_of_ble_eq_true rfl) (Or.inr ⟨_, rfl⟩) dX3_personOf_44 ?_
    have hkd : kd = 1 := by omega
    subst hkd
    exact ⟨rfl, rfl, rfl⟩
  by_cases h_1_1 : kd = 2
  · skip
    refine x_tswIn (pc := 1) (tgt := 45) K (by omega) (by omega) (by omega) dX3_personOf_1 (by rw [h_1_1]; rfl) (by decide) ?_
    refine x_new (pc := 45) (C := RX2) (T := TX2) (n := 4) (ci := 2) (fs := [.int (zI 0), .int (zI 0), .int (zI 0), .int (zI 0)]) K rfl (by decide +kernel) tyX2 tyX2_ok (by decide +kernel) (by decide +kernel) (by decide +kernel) (by decide +kernel) (Nat.le_of_ble_eq_true rfl) (Nat.le_of_ble_eq_true rfl) dX3_personOf_45 ?_
    refine x_N (M := (N + 1)) rfl ?_
    refine x_dup (pc := 48) K rfl dX3_personOf_48 ?_
    refine x_iload_n (pc := 49) 1 K rfl rfl dX3_personOf_49 ?_
    refine x_iload_n (pc := 50) 2 K rfl rfl dX3_personOf_50 ?_
    refine x_iload_n (pc := 51) 3 K rfl rfl dX3_personOf_51 ?_
    refine x_iload (pc := 52) 4 K rfl dX3_personOf_52 ?_
    refine x_callI (pc := 54) (As := [.int (zI num), .int (zI lnd), .int (zI home), .int (zI mil)]) K (c_X2_init_X2 (E := E) (B := B) (N := (N + 1))   (cel_self (by omega)) ) gX3_personOf_X2_init rfl (by decide +kernel) (by decide +kernel) (by decide +kernel) rfl (na := 4) (by decide +kernel) rfl ⟨(Nat.le_of_ble_eq_true rfl), (Nat.le_of_ble_eq_true rfl)⟩ (st := [.ref (B + N)]) rfl (Nat.le_of_ble_eq_true rfl) ⟨(Nat.le_of_ble_eq_true rfl), (Nat.le_of_ble_eq_true rfl)⟩ dX3_personOf_54 (fun r54 N54 w54 hpo54 hN54 => ?_)
    obtain ⟨rfl, rfl, rfl⟩ := hpo54
    refine x_v (w := (va_up v N (.inr (2, [.int (zI num), .int (zI lnd), .int (zI home), .int (zI mil)])))) (up_at0).symm ?_
    refine x_st (st' := [.ref (B + N)]) rfl ?_
    refine x_aret (pc := 57) K KR (by omega) (Nat.le_of_ble_eq_true rfl) (Nat.le_of_ble_eq_true rfl) (Or.inr ⟨_, rfl⟩) dX3_personOf_57 ?_
    have hkd : kd = 2 := by omega
    subst hkd
    exact ⟨rfl, rfl, rfl⟩
  by_cases h_1_2 : kd = 3
  · skip
    refine x_tswIn (pc := 1) (tgt := 58) K (by omega) (by omega) (by omega) dX3_personOf_1 (by rw [h_1_2]; rfl) (by decide) ?_
    refine x_new (pc := 58) (C := RX10) (T := TX10) (n := 4) (ci := 9) (fs := [.int (zI 0), .int (zI 0), .int (zI 0), .int (zI 0)]) K rfl (by decide +kernel) tyX10 tyX10_ok (by decide +kernel) (by decide +kernel) (by decide +kernel) (by decide +kernel) (Nat.le_of_ble_eq_true rfl) (Nat.le_of_ble_eq_true rfl) dX3_personOf_58 ?_
    refine x_N (M := (N + 1)) rfl ?_
    refine x_dup (pc := 61) K rfl dX3_personOf_61 ?_
    refine x_iload_n (pc := 62) 1 K rfl rfl dX3_personOf_62 ?_
    refine x_iload_n (pc := 63) 2 K rfl rfl dX3_personOf_63 ?_
    refine x_iload_n (pc := 64) 3 K rfl rfl dX3_personOf_64 ?_
    refine x_iload (pc := 65) 4 K rfl dX3_personOf_65 ?_
    refine x_callI (pc := 67) (As := [.int (zI num), .int (zI lnd), .int (zI home), .int (zI mil)]) K (c_X10_init_X10 (E := E) (B := B) (N := (N + 1))   (cel_self (by omega)) ) gX3_personOf_X10_init rfl (by decide +kernel) (by decide +kernel) (by decide +kernel) rfl (na := 4) (by decide +kernel) rfl ⟨(Nat.le_of_ble_eq_true rfl), (Nat.le_of_ble_eq_true rfl)⟩ (st := [.ref (B + N)]) rfl (Nat.le_of_ble_eq_true rfl) ⟨(Nat.le_of_ble_eq_true rfl), (Nat.le_of_ble_eq_true rfl)⟩ dX3_personOf_67 (fun r67 N67 w67 hpo67 hN67 => ?_)
    obtain ⟨rfl, rfl, rfl⟩ := hpo67
    refine x_v (w := (va_up v N (.inr (9, [.int (zI num), .int (zI lnd), .int (zI home), .int (zI mil)])))) (up_at0).symm ?_
    refine x_st (st' := [.ref (B + N)]) rfl ?_
    refine x_aret (pc := 70) K KR (by omega) (Nat.le_of_ble_eq_true rfl) (Nat.le_of_ble_eq_true rfl) (Or.inr ⟨_, rfl⟩) dX3_personOf_70 ?_
    have hkd : kd = 3 := by omega
    subst hkd
    exact ⟨rfl, rfl, rfl⟩
  by_cases h_1_3 : kd = 4
  · skip
    refine x_tswIn (pc := 1) (tgt := 71) K (by omega) (by omega) (by omega) dX3_personOf_1 (by rw [h_1_3]; rfl) (by decide) ?_
    refine x_new (pc := 71) (C := RX1) (T := TX1) (n := 4) (ci := 1) (fs := [.int (zI 0), .int (zI 0), .int (zI 0), .int (zI 0)]) K rfl (by decide +kernel) tyX1 tyX1_ok (by decide +kernel) (by decide +kernel) (by decide +kernel) (by decide +kernel) (Nat.le_of_ble_eq_true rfl) (Nat.le_of_ble_eq_true rfl) dX3_personOf_71 ?_
    refine x_N (M := (N + 1)) rfl ?_
    refine x_dup (pc := 74) K rfl dX3_personOf_74 ?_
    refine x_iload_n (pc := 75) 1 K rfl rfl dX3_personOf_75 ?_
    refine x_iload_n (pc := 76) 2 K rfl rfl dX3_personOf_76 ?_
    refine x_iload_n (pc := 77) 3 K rfl rfl dX3_personOf_77 ?_
    refine x_iload (pc := 78) 4 K rfl dX3_personOf_78 ?_
    refine x_callI (pc := 80) (As := [.int (zI num), .int (zI lnd), .int (zI home), .int (zI mil)]) K (c_X1_init_X1 (E := E) (B := B) (N := (N + 1))   (cel_self (by omega)) ) gX3_personOf_X1_init rfl (by decide +kernel) (by decide +kernel) (by decide +kernel) rfl (na := 4) (by decide +kernel) rfl ⟨(Nat.le_of_ble_eq_true rfl), (Nat.le_of_ble_eq_true rfl)⟩ (st := [.ref (B + N)]) rfl (Nat.le_of_ble_eq_true rfl) ⟨(Nat.le_of_ble_eq_true rfl), (Nat.le_of_ble_eq_true rfl)⟩ dX3_personOf_80 (fun r80 N80 w80 hpo80 hN80 => ?_)
    obtain ⟨rfl, rfl, rfl⟩ := hpo80
    refine x_v (w := (va_up v N (.inr (1, [.int (zI num), .int (zI lnd), .int (zI home), .int (zI mil)])))) (up_at0).symm ?_
    refine x_st (st' := [.ref (B + N)]) rfl ?_
    refine x_aret (pc := 83) K KR (by omega) (Nat.le_of_ble_eq_true rfl) (Nat.le_of_ble_eq_true rfl) (Or.inr ⟨_, rfl⟩) dX3_personOf_83 ?_
    have hkd : kd = 4 := by omega
    subst hkd
    exact ⟨rfl, rfl, rfl⟩
  refine x_tswOut (pc := 1) (tgt := 84) K (by omega) (by omega) dX3_personOf_1 (by decide) ?_
  refine x_new (pc := 84) (C := RX5) (T := TX5) (n := 4) (ci := 5) (fs := [.int (zI 0), .int (zI 0), .int (zI 0), .int (zI 0)]) K rfl (by decide +kernel) tyX5 tyX5_ok (by decide +kernel) (by decide +kernel) (by decide +kernel) (by decide +kernel) (Nat.le_of_ble_eq_true rfl) (Nat.le_of_ble_eq_true rfl) dX3_personOf_84 ?_
  refine x_N (M := (N + 1)) rfl ?_
  refine x_dup (pc := 87) K rfl dX3_personOf_87 ?_
  refine x_iload_n (pc := 88) 1 K rfl rfl dX3_personOf_88 ?_
  refine x_iload_n (pc := 89) 2 K rfl rfl dX3_personOf_89 ?_
  refine x_iload_n (pc := 90) 3 K rfl rfl dX3_personOf_90 ?_
  refine x_iload (pc := 91) 4 K rfl dX3_personOf_91 ?_
  refine x_callI (pc := 93) (As := [.int (zI num), .int (zI lnd), .int (zI home), .int (zI mil)]) K (c_X5_init_X5 (E := E) (B := B) (N := (N + 1))   (cel_self (by omega)) ) gX3_personOf_X5_init rfl (by decide +kernel) (by decide +kernel) (by decide +kernel) rfl (na := 4) (by decide +kernel) rfl ⟨(Nat.le_of_ble_eq_true rfl), (Nat.le_of_ble_eq_true rfl)⟩ (st := [.ref (B + N)]) rfl (Nat.le_of_ble_eq_true rfl) ⟨(Nat.le_of_ble_eq_true rfl), (Nat.le_of_ble_eq_true rfl)⟩ dX3_personOf_93 (fun r93 N93 w93 hpo93 hN93 => ?_)
  obtain ⟨rfl, rfl, rfl⟩ := hpo93
  refine x_v (w := (va_up v N (.inr (5, [.int (zI num), .int (zI lnd), .int (zI home), .int (zI mil)])))) (up_at0).symm ?_
  refine x_st (st' := [.ref (B + N)]) rfl ?_
  refine x_aret (pc := 96) K KR (by omega) (Nat.le_of_ble_eq_true rfl) (Nat.le_of_ble_eq_true rfl) (Or.inr ⟨_, rfl⟩) dX3_personOf_96 ?_
  have hkd : kd = 5 := by omega
  subst hkd
  exact ⟨rfl, rfl, rfl⟩

set_option maxRecDepth 100000 in
set_option maxHeartbeats 4000000 in
theorem c_X3_addPerson {E : XE} {B N : Nat} {v : Nat → va_E} {c : Nat} {r : Nat → Int} {kd lnd home mil : Int} (hc0 : Cel N v c (.inr (3, [.int (zI (r 0)), .int (zI (r 1)), .int (zI (r 2)), .ref (B + (c + 1)), .ref (B + (c + 2)), .int (zI (r 3)), .ref (B + (c + 3)), .int (zI (r 4)), .ref (B + (c + 4)), .ref (B + (c + 13)), .ref (B + (c + 18))]))) (hc1 : Cel N v (c + 3) (rarr E 5 5 B (psA c r))) (hq0 : 1 ≤ kd ∧ kd ≤ 5) (hq1 : N = c + 23 + (r 4).toNat) (hq2 : r 4 < 5) (hq3 : rOk r) : gM yX3_addPerson wsX3_addPerson ({ frames := 5, cells := 1, slots := 4, locals := 108 }) E B N v [.ref (B + c), .int (zI kd), .int (zI lnd), .int (zI home), .int (zI mil)] (fun ρ N' v' => N' = N + 1 ∧ ρ = none ∧ (va_up (va_up (va_up v c (.inr (3, [.int (zI ((perR r (kd, lnd, home, mil)) 0)), .int (zI ((perR r (kd, lnd, home, mil)) 1)), .int (zI ((perR r (kd, lnd, home, mil)) 2)), .ref (B + (c + 1)), .ref (B + (c + 2)), .int (zI ((perR r (kd, lnd, home, mil)) 3)), .ref (B + (c + 3)), .int (zI ((perR r (kd, lnd, home, mil)) 4)), .ref (B + (c + 4)), .ref (B + (c + 13)), .ref (B + (c + 18))]))) (c + 3) (rarr E 5 5 B (psA c (perR r (kd, lnd, home, mil))))) N (.inr ((kci kd), [.int (zI (((r 4).toNat : Nat) : Int)), .int (zI lnd), .int (zI home), .int (zI mil)]))) = v') := by
  refine x_met (nm := "addPerson") (by decide +kernel) rfl (Nat.le_of_ble_eq_true rfl) rfl (fun Γ K KR hnL hnm => ?_)
  show XW Γ N v [(0, .ref (B + c)), (1, .int (zI kd)), (2, .int (zI lnd)), (3, .int (zI home)), (4, .int (zI mil))] 0 0 0 []
  have hr4 := hq3.1.2.2.2.2.1
  have hp4 := perR_at (q := (kd, lnd, home, mil)) ⟨hr4.1, hq2⟩ (show 0 < 5 by omega)
  refine x_v (cel_pad hc0) ?_
  refine x_v (cel_pad (cel_ne hc1 (by omega))) ?_
  refine x_aload_n (pc := 0) 0 K rfl rfl dX3_addPerson_0 ?_
  refine x_get (pc := 1) (C := RX3) (T := TX3) (n := 11) (ci := 3) (idx := 38) (ref := "BorderBeds$Ground") (x := .int (zI (r 4)))  K (cel_ne (cel_self hc0.1) (by omega)) rfl (by decide +kernel) 7 (by decide) (by decide +kernel) rfl rfl dX3_addPerson_1 ?_
  refine x_iconst (pc := 4) K dX3_addPerson_4 ?_
  refine x_icmp_ge (pc := 5) (tgt := 39) K (by omega) (by decide) dX3_addPerson_5 (by decide) (fun h_5 => ?_) (fun h_5 => ?_)
  · skip
    exfalso; omega
  · skip
    refine x_aload_n (pc := 8) 0 K rfl rfl dX3_addPerson_8 ?_
    refine x_get (pc := 9) (C := RX3) (T := TX3) (n := 11) (ci := 3) (idx := 34) (ref := "BorderBeds$Ground") (x := .ref (B + (c + 3)))  K (cel_ne (cel_self hc0.1) (by omega)) rfl (by decide +kernel) 6 (by decide) (by decide +kernel) rfl rfl dX3_addPerson_9 ?_
    refine x_aload_n (pc := 12) 0 K rfl rfl dX3_addPerson_12 ?_
    refine x_get (pc := 13) (C := RX3) (T := TX3) (n := 11) (ci := 3) (idx := 38) (ref := "BorderBeds$Ground") (x := .int (zI (r 4)))  K (cel_ne (cel_self hc0.1) (by omega)) rfl (by decide +kernel) 7 (by decide) (by decide +kernel) rfl rfl dX3_addPerson_13 ?_
    refine x_iload_n (pc := 16) 1 K rfl rfl dX3_addPerson_16 ?_
    refine x_aload_n (pc := 17) 0 K rfl rfl dX3_addPerson_17 ?_
    refine x_get (pc := 18) (C := RX3) (T := TX3) (n := 11) (ci := 3) (idx := 38) (ref := "BorderBeds$Ground") (x := .int (zI (r 4)))  K (cel_ne (cel_self hc0.1) (by omega)) rfl (by decide +kernel) 7 (by decide) (by decide +kernel) rfl rfl dX3_addPerson_18 ?_
    refine x_iload_n (pc := 21) 2 K rfl rfl dX3_addPerson_21 ?_
    refine x_iload_n (pc := 22) 3 K rfl rfl dX3_addPerson_22 ?_
    refine x_iload (pc := 23) 4 K rfl dX3_addPerson_23 ?_
    refine x_callS (pc := 25) (As := [.int (zI kd), .int (zI (r 4)), .int (zI lnd), .int (zI home), .int (zI mil)]) K (c_X3_personOf (E := E) (B := B) (N := N)    hq0) gX3_addPerson_X3_personOf rfl (na := 5) (by decide +kernel) rfl ⟨(Nat.le_of_ble_eq_true rfl), (Nat.le_of_ble_eq_true rfl)⟩ (st := [.int (zI (r 4)), .ref (B + (c + 3))]) rfl (Nat.le_of_ble_eq_true rfl) ⟨(Nat.le_of_ble_eq_true rfl), (Nat.le_of_ble_eq_true rfl)⟩ dX3_addPerson_25 (fun r25 N25 w25 hpo25 hN25 => ?_)
    obtain ⟨rfl, rfl, rfl⟩ := hpo25
    refine x_N (M := (N + 1)) rfl ?_
    refine x_v (w := (va_up (va_up (va_up v c (.inr (3, [.int (zI (r 0)), .int (zI (r 1)), .int (zI (r 2)), .ref (B + (c + 1)), .ref (B + (c + 2)), .int (zI (r 3)), .ref (B + (c + 3)), .int (zI (r 4)), .ref (B + (c + 4)), .ref (B + (c + 13)), .ref (B + (c + 18))]))) (c + 3) (rarr E 5 5 B (psA c r))) N (.inr ((kci kd), [.int (zI (r 4)), .int (zI lnd), .int (zI home), .int (zI mil)])))) rfl ?_
    refine x_st (st' := [.ref (B + N), .int (zI (r 4)), .ref (B + (c + 3))]) rfl ?_
    refine x_aastK (pc := 28) (kd := kd) (((r 4)).toNat) K (by omega) (cel_ne (cel_self (Nat.lt_of_lt_of_le hc1.1 (by omega))) (by omega)) (cel_self (by omega)) (by omega) (by omega) (by decide) dX3_addPerson_28 ?_
    refine x_v (w := (va_up (va_up (va_up v c (.inr (3, [.int (zI (r 0)), .int (zI (r 1)), .int (zI (r 2)), .ref (B + (c + 1)), .ref (B + (c + 2)), .int (zI (r 3)), .ref (B + (c + 3)), .int (zI (r 4)), .ref (B + (c + 4)), .ref (B + (c + 13)), .ref (B + (c + 18))]))) (c + 3) (rarr E 5 5 B (va_up (psA c r) (((r 4)).toNat) (some N)))) N (.inr ((kci kd), [.int (zI (r 4)), .int (zI lnd), .int (zI home), .int (zI mil)])))) (up_at1 (by omega)).symm ?_
    have hRR : va_up (psA c r) (((r 4)).toNat) (some N) = (psA c (perR r (kd, lnd, home, mil))) := by rw [psA_push ⟨hr4.1, hq2⟩ hq1]
    refine x_v (w := (va_up (va_up (va_up v c (.inr (3, [.int (zI (r 0)), .int (zI (r 1)), .int (zI (r 2)), .ref (B + (c + 1)), .ref (B + (c + 2)), .int (zI (r 3)), .ref (B + (c + 3)), .int (zI (r 4)), .ref (B + (c + 4)), .ref (B + (c + 13)), .ref (B + (c + 18))]))) (c + 3) (rarr E 5 5 B (psA c (perR r (kd, lnd, home, mil))))) N (.inr ((kci kd), [.int (zI (r 4)), .int (zI lnd), .int (zI home), .int (zI mil)])))) (by rw [hRR]) ?_
    refine x_aload_n (pc := 29) 0 K rfl rfl dX3_addPerson_29 ?_
    refine x_dup (pc := 30) K rfl dX3_addPerson_30 ?_
    refine x_get (pc := 31) (C := RX3) (T := TX3) (n := 11) (ci := 3) (idx := 38) (ref := "BorderBeds$Ground") (x := .int (zI (r 4)))  K (cel_ne (cel_ne (cel_self (Nat.lt_of_lt_of_le hc0.1 (by omega))) (by omega)) (by omega)) rfl (by decide +kernel) 7 (by decide) (by decide +kernel) rfl rfl dX3_addPerson_31 ?_
    refine x_iconst (pc := 34) K dX3_addPerson_34 ?_
    refine x_iadd (pc := 35) K dX3_addPerson_35 ?_
    refine x_put (pc := 36) (C := RX3) (T := TX3) (n := 11) (ci := 3) (idx := 38) (ref := "BorderBeds$Ground") (ty := .int)  K (cel_ne (cel_ne (cel_self (Nat.lt_of_lt_of_le hc0.1 (by omega))) (by omega)) (by omega)) rfl (by decide +kernel) tyX3 tyX3_ok nmX3 7 (by decide) (by decide +kernel) rfl rfl (by decide +kernel) rfl rfl (Nat.le_of_ble_eq_true rfl) dX3_addPerson_36 ?_
    refine x_v (w := (va_up (va_up (va_up v c (.inr (3, [.int (zI (r 0)), .int (zI (r 1)), .int (zI (r 2)), .ref (B + (c + 1)), .ref (B + (c + 2)), .int (zI (r 3)), .ref (B + (c + 3)), .int (zI ((r 4) + 1)), .ref (B + (c + 4)), .ref (B + (c + 13)), .ref (B + (c + 18))]))) (c + 3) (rarr E 5 5 B (psA c (perR r (kd, lnd, home, mil))))) N (.inr ((kci kd), [.int (zI (r 4)), .int (zI lnd), .int (zI home), .int (zI mil)])))) (up_at2 (by omega) (by omega)).symm ?_
    refine x_vret (pc := 39) K KR (by omega) (Nat.le_of_ble_eq_true rfl) (Nat.le_of_ble_eq_true rfl) dX3_addPerson_39 ?_
    have e1 : ∀ j, j ≠ 4 → (j < 5 ∨ 25 ≤ j) → (perR r (kd, lnd, home, mil)) j = r j := fun j h1 h2 => perR_ne ⟨hr4.1, hq2⟩ h1 h2
    exact ⟨rfl, rfl, by rw [e1 0 (by omega) (by omega), e1 1 (by omega) (by omega), e1 2 (by omega) (by omega), e1 3 (by omega) (by omega), hp4.2.2.2.2, show ((((r 4).toNat : Nat) : Int)) = r 4 by omega]⟩
