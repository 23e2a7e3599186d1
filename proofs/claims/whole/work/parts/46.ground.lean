theorem dX3_init_0 : decode cX3_init 0 = .ok (.aload_n 0, 1) := by decide +kernel
theorem dX3_init_1 : decode cX3_init 1 = .ok (.invokespecial 3, 3) := by decide +kernel
theorem dX3_init_4 : decode cX3_init 4 = .ok (.aload_n 0, 1) := by decide +kernel
theorem dX3_init_5 : decode cX3_init 5 = .ok (.iconst 0, 1) := by decide +kernel
theorem dX3_init_6 : decode cX3_init 6 = .ok (.putfield 9, 3) := by decide +kernel
theorem dX3_init_9 : decode cX3_init 9 = .ok (.aload_n 0, 1) := by decide +kernel
theorem dX3_init_10 : decode cX3_init 10 = .ok (.iconst 0, 1) := by decide +kernel
theorem dX3_init_11 : decode cX3_init 11 = .ok (.putfield 15, 3) := by decide +kernel
theorem dX3_init_14 : decode cX3_init 14 = .ok (.aload_n 0, 1) := by decide +kernel
theorem dX3_init_15 : decode cX3_init 15 = .ok (.iconst 1, 1) := by decide +kernel
theorem dX3_init_16 : decode cX3_init 16 = .ok (.putfield 18, 3) := by decide +kernel
theorem dX3_init_19 : decode cX3_init 19 = .ok (.aload_n 0, 1) := by decide +kernel
theorem dX3_init_20 : decode cX3_init 20 = .ok (.bipush 48, 2) := by decide +kernel
theorem dX3_init_22 : decode cX3_init 22 = .ok (.newarray .int, 2) := by decide +kernel
theorem dX3_init_24 : decode cX3_init 24 = .ok (.putfield 21, 3) := by decide +kernel
theorem dX3_init_27 : decode cX3_init 27 = .ok (.aload_n 0, 1) := by decide +kernel
theorem dX3_init_28 : decode cX3_init 28 = .ok (.bipush 48, 2) := by decide +kernel
theorem dX3_init_30 : decode cX3_init 30 = .ok (.newarray .boolean, 2) := by decide +kernel
theorem dX3_init_32 : decode cX3_init 32 = .ok (.putfield 25, 3) := by decide +kernel
theorem dX3_init_35 : decode cX3_init 35 = .ok (.aload_n 0, 1) := by decide +kernel
theorem dX3_init_36 : decode cX3_init 36 = .ok (.iconst 0, 1) := by decide +kernel
theorem dX3_init_37 : decode cX3_init 37 = .ok (.putfield 29, 3) := by decide +kernel
theorem dX3_init_40 : decode cX3_init 40 = .ok (.aload_n 0, 1) := by decide +kernel
theorem dX3_init_41 : decode cX3_init 41 = .ok (.iconst 5, 1) := by decide +kernel
theorem dX3_init_42 : decode cX3_init 42 = .ok (.anewarray 32, 3) := by decide +kernel
theorem dX3_init_45 : decode cX3_init 45 = .ok (.putfield 34, 3) := by decide +kernel
theorem dX3_init_48 : decode cX3_init 48 = .ok (.aload_n 0, 1) := by decide +kernel
theorem dX3_init_49 : decode cX3_init 49 = .ok (.iconst 0, 1) := by decide +kernel
theorem dX3_init_50 : decode cX3_init 50 = .ok (.putfield 38, 3) := by decide +kernel
theorem dX3_init_53 : decode cX3_init 53 = .ok (.aload_n 0, 1) := by decide +kernel
theorem dX3_init_54 : decode cX3_init 54 = .ok (.bipush 8, 2) := by decide +kernel
theorem dX3_init_56 : decode cX3_init 56 = .ok (.bipush 7, 2) := by decide +kernel
theorem dX3_init_58 : decode cX3_init 58 = .ok (.multianewarray 41 2, 4) := by decide +kernel
theorem dX3_init_62 : decode cX3_init 62 = .ok (.putfield 43, 3) := by decide +kernel
theorem dX3_init_65 : decode cX3_init 65 = .ok (.aload_n 0, 1) := by decide +kernel
theorem dX3_init_66 : decode cX3_init 66 = .ok (.new 46, 3) := by decide +kernel
theorem dX3_init_69 : decode cX3_init 69 = .ok (.dup, 1) := by decide +kernel
set_option maxRecDepth 20000 in
theorem ggX3_init_X4_init : GoodIn wsX3_init wsX4_init := goodIn_r _ [23, 24, 2, 3, 7, 25, 9, 26, 27, 28, 29, 41, 42, 43, 44, 45] (by decide +kernel) (by decide +kernel)
set_option maxRecDepth 20000 in
theorem gX3_init_X4_init_n48 : GoodIn wsX3_init (wsX4_init) := ggX3_init_X4_init
theorem dX3_init_70 : decode cX3_init 70 = .ok (.invokespecial 48, 3) := by decide +kernel
theorem dX3_init_73 : decode cX3_init 73 = .ok (.putfield 49, 3) := by decide +kernel
theorem dX3_init_76 : decode cX3_init 76 = .ok (.aload_n 0, 1) := by decide +kernel
theorem dX3_init_77 : decode cX3_init 77 = .ok (.new 46, 3) := by decide +kernel
theorem dX3_init_80 : decode cX3_init 80 = .ok (.dup, 1) := by decide +kernel
theorem dX3_init_81 : decode cX3_init 81 = .ok (.invokespecial 48, 3) := by decide +kernel
theorem dX3_init_84 : decode cX3_init 84 = .ok (.putfield 53, 3) := by decide +kernel
theorem dX3_init_87 : decode cX3_init 87 = .ok (.return_, 1) := by decide +kernel
theorem dX3_cellsOf_0 : decode cX3_cellsOf 0 = .ok (.iconst 0, 1) := by decide +kernel
theorem dX3_cellsOf_1 : decode cX3_cellsOf 1 = .ok (.istore_n 3, 1) := by decide +kernel
theorem dX3_cellsOf_2 : decode cX3_cellsOf 2 = .ok (.iconst 0, 1) := by decide +kernel
theorem dX3_cellsOf_3 : decode cX3_cellsOf 3 = .ok (.istore 4, 2) := by decide +kernel
theorem dX3_cellsOf_5 : decode cX3_cellsOf 5 = .ok (.iload 4, 2) := by decide +kernel
theorem dX3_cellsOf_7 : decode cX3_cellsOf 7 = .ok (.bipush 8, 2) := by decide +kernel
theorem dX3_cellsOf_9 : decode cX3_cellsOf 9 = .ok (.if_icmp .ge 36, 3) := by decide +kernel
theorem dX3_cellsOf_45 : decode cX3_cellsOf 45 = .ok (.iload_n 3, 1) := by decide +kernel
theorem dX3_cellsOf_46 : decode cX3_cellsOf 46 = .ok (.ireturn, 1) := by decide +kernel
theorem dX3_cellsOf_12 : decode cX3_cellsOf 12 = .ok (.iload_n 3, 1) := by decide +kernel
theorem dX3_cellsOf_13 : decode cX3_cellsOf 13 = .ok (.iload_n 1, 1) := by decide +kernel
theorem dX3_cellsOf_14 : decode cX3_cellsOf 14 = .ok (.ifCond .ne 13, 3) := by decide +kernel
theorem dX3_cellsOf_27 : decode cX3_cellsOf 27 = .ok (.bipush 6, 2) := by decide +kernel
theorem dX3_cellsOf_29 : decode cX3_cellsOf 29 = .ok (.aload_n 2, 1) := by decide +kernel
theorem dX3_cellsOf_30 : decode cX3_cellsOf 30 = .ok (.getfield 76, 3) := by decide +kernel
theorem dX3_cellsOf_33 : decode cX3_cellsOf 33 = .ok (.iload 4, 2) := by decide +kernel
theorem dX3_cellsOf_35 : decode cX3_cellsOf 35 = .ok (.iaload, 1) := by decide +kernel
theorem dX3_cellsOf_36 : decode cX3_cellsOf 36 = .ok (.isub, 1) := by decide +kernel
theorem dX3_cellsOf_37 : decode cX3_cellsOf 37 = .ok (.iadd, 1) := by decide +kernel
theorem dX3_cellsOf_38 : decode cX3_cellsOf 38 = .ok (.istore_n 3, 1) := by decide +kernel
theorem dX3_cellsOf_39 : decode cX3_cellsOf 39 = .ok (.iinc 4 1, 3) := by decide +kernel
theorem dX3_cellsOf_42 : decode cX3_cellsOf 42 = .ok (.goto (-37), 3) := by decide +kernel
theorem dX3_cellsOf_17 : decode cX3_cellsOf 17 = .ok (.aload_n 2, 1) := by decide +kernel
theorem dX3_cellsOf_18 : decode cX3_cellsOf 18 = .ok (.getfield 73, 3) := by decide +kernel
theorem dX3_cellsOf_21 : decode cX3_cellsOf 21 = .ok (.iload 4, 2) := by decide +kernel
theorem dX3_cellsOf_23 : decode cX3_cellsOf 23 = .ok (.iaload, 1) := by decide +kernel
theorem dX3_cellsOf_24 : decode cX3_cellsOf 24 = .ok (.goto 13, 3) := by decide +kernel
theorem dX3_worthOf_0 : decode cX3_worthOf 0 = .ok (.iconst 0, 1) := by decide +kernel
theorem dX3_worthOf_1 : decode cX3_worthOf 1 = .ok (.istore_n 3, 1) := by decide +kernel
theorem dX3_worthOf_2 : decode cX3_worthOf 2 = .ok (.iconst 0, 1) := by decide +kernel
theorem dX3_worthOf_3 : decode cX3_worthOf 3 = .ok (.istore 4, 2) := by decide +kernel
theorem dX3_worthOf_5 : decode cX3_worthOf 5 = .ok (.iload 4, 2) := by decide +kernel
theorem dX3_worthOf_7 : decode cX3_worthOf 7 = .ok (.bipush 8, 2) := by decide +kernel
theorem dX3_worthOf_9 : decode cX3_worthOf 9 = .ok (.if_icmp .ge 54, 3) := by decide +kernel
theorem dX3_worthOf_63 : decode cX3_worthOf 63 = .ok (.iload_n 3, 1) := by decide +kernel
theorem dX3_worthOf_64 : decode cX3_worthOf 64 = .ok (.ireturn, 1) := by decide +kernel
theorem dX3_worthOf_12 : decode cX3_worthOf 12 = .ok (.aload_n 0, 1) := by decide +kernel
theorem dX3_worthOf_13 : decode cX3_worthOf 13 = .ok (.getfield 43, 3) := by decide +kernel
theorem dX3_worthOf_16 : decode cX3_worthOf 16 = .ok (.iload 4, 2) := by decide +kernel
theorem dX3_worthOf_18 : decode cX3_worthOf 18 = .ok (.aaload, 1) := by decide +kernel
theorem dX3_worthOf_19 : decode cX3_worthOf 19 = .ok (.astore 5, 2) := by decide +kernel
theorem dX3_worthOf_21 : decode cX3_worthOf 21 = .ok (.iload_n 3, 1) := by decide +kernel
theorem dX3_worthOf_22 : decode cX3_worthOf 22 = .ok (.iload_n 1, 1) := by decide +kernel
theorem dX3_worthOf_23 : decode cX3_worthOf 23 = .ok (.ifCond .ne 16, 3) := by decide +kernel
theorem dX3_worthOf_39 : decode cX3_worthOf 39 = .ok (.aload 5, 2) := by decide +kernel
theorem dX3_worthOf_41 : decode cX3_worthOf 41 = .ok (.bipush 6, 2) := by decide +kernel
theorem dX3_worthOf_43 : decode cX3_worthOf 43 = .ok (.iaload, 1) := by decide +kernel
theorem dX3_worthOf_44 : decode cX3_worthOf 44 = .ok (.aload 5, 2) := by decide +kernel
theorem dX3_worthOf_46 : decode cX3_worthOf 46 = .ok (.aload_n 2, 1) := by decide +kernel
theorem dX3_worthOf_47 : decode cX3_worthOf 47 = .ok (.getfield 76, 3) := by decide +kernel
theorem dX3_worthOf_50 : decode cX3_worthOf 50 = .ok (.iload 4, 2) := by decide +kernel
theorem dX3_worthOf_52 : decode cX3_worthOf 52 = .ok (.iaload, 1) := by decide +kernel
theorem dX3_worthOf_53 : decode cX3_worthOf 53 = .ok (.iaload, 1) := by decide +kernel
theorem dX3_worthOf_54 : decode cX3_worthOf 54 = .ok (.isub, 1) := by decide +kernel
theorem dX3_worthOf_55 : decode cX3_worthOf 55 = .ok (.iadd, 1) := by decide +kernel
theorem dX3_worthOf_56 : decode cX3_worthOf 56 = .ok (.istore_n 3, 1) := by decide +kernel
theorem dX3_worthOf_57 : decode cX3_worthOf 57 = .ok (.iinc 4 1, 3) := by decide +kernel
theorem dX3_worthOf_60 : decode cX3_worthOf 60 = .ok (.goto (-55), 3) := by decide +kernel
theorem dX3_worthOf_26 : decode cX3_worthOf 26 = .ok (.aload 5, 2) := by decide +kernel
theorem dX3_worthOf_28 : decode cX3_worthOf 28 = .ok (.aload_n 2, 1) := by decide +kernel
theorem dX3_worthOf_29 : decode cX3_worthOf 29 = .ok (.getfield 73, 3) := by decide +kernel
theorem dX3_worthOf_32 : decode cX3_worthOf 32 = .ok (.iload 4, 2) := by decide +kernel
theorem dX3_worthOf_34 : decode cX3_worthOf 34 = .ok (.iaload, 1) := by decide +kernel
theorem dX3_worthOf_35 : decode cX3_worthOf 35 = .ok (.iaload, 1) := by decide +kernel
theorem dX3_worthOf_36 : decode cX3_worthOf 36 = .ok (.goto 19, 3) := by decide +kernel
theorem dX3_leadOf_0 : decode cX3_leadOf 0 = .ok (.aload_n 0, 1) := by decide +kernel
theorem dX3_leadOf_1 : decode cX3_leadOf 1 = .ok (.iload_n 1, 1) := by decide +kernel
theorem dX3_leadOf_2 : decode cX3_leadOf 2 = .ok (.aload_n 2, 1) := by decide +kernel
set_option maxRecDepth 20000 in
theorem ggX3_leadOf_X3_worthOf : GoodIn wsX3_leadOf wsX3_worthOf := goodIn_r _ [5, 6, 7, 8, 9, 10, 11, 12, 13, 14, 15, 16, 17, 18, 19, 20, 21, 22, 23, 24] (by decide +kernel) (by decide +kernel)
set_option maxRecDepth 20000 in
theorem gX3_leadOf_X3_worthOf : GoodIn wsX3_leadOf (wsV RX3 79 RX3 yX3_worthOf wsX3_worthOf) := goodIn_app (goodIn_of _ (by decide +kernel)) ggX3_leadOf_X3_worthOf
theorem dX3_leadOf_3 : decode cX3_leadOf 3 = .ok (.invokevirtual 79, 3) := by decide +kernel
theorem dX3_leadOf_6 : decode cX3_leadOf 6 = .ok (.aload_n 0, 1) := by decide +kernel
theorem dX3_leadOf_7 : decode cX3_leadOf 7 = .ok (.iconst 1, 1) := by decide +kernel
theorem dX3_leadOf_8 : decode cX3_leadOf 8 = .ok (.iload_n 1, 1) := by decide +kernel
theorem dX3_leadOf_9 : decode cX3_leadOf 9 = .ok (.isub, 1) := by decide +kernel
theorem dX3_leadOf_10 : decode cX3_leadOf 10 = .ok (.aload_n 2, 1) := by decide +kernel
theorem dX3_leadOf_11 : decode cX3_leadOf 11 = .ok (.invokevirtual 79, 3) := by decide +kernel
theorem dX3_leadOf_14 : decode cX3_leadOf 14 = .ok (.isub, 1) := by decide +kernel
theorem dX3_leadOf_15 : decode cX3_leadOf 15 = .ok (.ireturn, 1) := by decide +kernel
theorem dX3_mayCross_0 : decode cX3_mayCross 0 = .ok (.iload_n 2, 1) := by decide +kernel
theorem dX3_mayCross_1 : decode cX3_mayCross 1 = .ok (.bipush 8, 2) := by decide +kernel
theorem dX3_mayCross_3 : decode cX3_mayCross 3 = .ok (.irem, 1) := by decide +kernel
theorem dX3_mayCross_4 : decode cX3_mayCross 4 = .ok (.aload_n 1, 1) := by decide +kernel
theorem dX3_mayCross_5 : decode cX3_mayCross 5 = .ok (.getfield 83, 3) := by decide +kernel
theorem dX3_mayCross_8 : decode cX3_mayCross 8 = .ok (.bipush 8, 2) := by decide +kernel
theorem dX3_mayCross_10 : decode cX3_mayCross 10 = .ok (.irem, 1) := by decide +kernel
theorem dX3_mayCross_11 : decode cX3_mayCross 11 = .ok (.isub, 1) := by decide +kernel
theorem dX3_mayCross_12 : decode cX3_mayCross 12 = .ok (.invokestatic 86, 3) := by decide +kernel
theorem dX3_mayCross_15 : decode cX3_mayCross 15 = .ok (.iload_n 2, 1) := by decide +kernel
theorem dX3_mayCross_16 : decode cX3_mayCross 16 = .ok (.bipush 8, 2) := by decide +kernel
theorem dX3_mayCross_18 : decode cX3_mayCross 18 = .ok (.idiv, 1) := by decide +kernel
theorem dX3_mayCross_19 : decode cX3_mayCross 19 = .ok (.aload_n 1, 1) := by decide +kernel
theorem dX3_mayCross_20 : decode cX3_mayCross 20 = .ok (.getfield 83, 3) := by decide +kernel
theorem dX3_mayCross_23 : decode cX3_mayCross 23 = .ok (.bipush 8, 2) := by decide +kernel
theorem dX3_mayCross_25 : decode cX3_mayCross 25 = .ok (.idiv, 1) := by decide +kernel
theorem dX3_mayCross_26 : decode cX3_mayCross 26 = .ok (.isub, 1) := by decide +kernel
theorem dX3_mayCross_27 : decode cX3_mayCross 27 = .ok (.invokestatic 86, 3) := by decide +kernel
theorem dX3_mayCross_30 : decode cX3_mayCross 30 = .ok (.iadd, 1) := by decide +kernel
theorem dX3_mayCross_31 : decode cX3_mayCross 31 = .ok (.istore 4, 2) := by decide +kernel
theorem dX3_mayCross_33 : decode cX3_mayCross 33 = .ok (.aload_n 0, 1) := by decide +kernel
theorem dX3_mayCross_34 : decode cX3_mayCross 34 = .ok (.getfield 25, 3) := by decide +kernel
theorem dX3_mayCross_37 : decode cX3_mayCross 37 = .ok (.iload_n 2, 1) := by decide +kernel
theorem dX3_mayCross_38 : decode cX3_mayCross 38 = .ok (.baload, 1) := by decide +kernel
theorem dX3_mayCross_39 : decode cX3_mayCross 39 = .ok (.ifCond .ne 28, 3) := by decide +kernel
theorem dX3_mayCross_67 : decode cX3_mayCross 67 = .ok (.iconst 0, 1) := by decide +kernel
theorem dX3_mayCross_68 : decode cX3_mayCross 68 = .ok (.ireturn, 1) := by decide +kernel
theorem dX3_mayCross_42 : decode cX3_mayCross 42 = .ok (.iload 4, 2) := by decide +kernel
theorem dX3_mayCross_44 : decode cX3_mayCross 44 = .ok (.aload_n 1, 1) := by decide +kernel
set_option maxRecDepth 20000 in
theorem ggX3_mayCross_X6_reach : GoodIn wsX3_mayCross wsX6_reach := goodIn_r _ [13, 14, 32, 33, 34, 35, 36, 37, 38, 39, 40, 41, 42, 43, 44, 45, 46, 47, 48, 49, 50, 51] (by decide +kernel) (by decide +kernel)
set_option maxRecDepth 20000 in
theorem gX3_mayCross_X6_reach_u92X0 : GoodIn wsX3_mayCross (va_wsU RX3 92 RX0 "BorderBeds$Person" ⟨"BorderBeds$Person", "reach", "()I"⟩ yX6_reach wsX6_reach) := goodIn_app (goodIn_of _ (by decide +kernel)) ggX3_mayCross_X6_reach
theorem dX3_mayCross_45 : decode cX3_mayCross 45 = .ok (.invokevirtual 92, 3) := by decide +kernel
theorem dX3_mayCross_48 : decode cX3_mayCross 48 = .ok (.if_icmp .gt 19, 3) := by decide +kernel
theorem dX3_mayCross_51 : decode cX3_mayCross 51 = .ok (.aload_n 3, 1) := by decide +kernel
theorem dX3_mayCross_52 : decode cX3_mayCross 52 = .ok (.iload_n 2, 1) := by decide +kernel
set_option maxRecDepth 20000 in
theorem ggX3_mayCross_X4_ownerOf : GoodIn wsX3_mayCross wsX4_ownerOf := goodIn_r _ [29, 30, 31, 63, 64, 65, 66, 67] (by decide +kernel) (by decide +kernel)
set_option maxRecDepth 20000 in
theorem gX3_mayCross_X4_ownerOf : GoodIn wsX3_mayCross (wsV RX3 96 RX4 yX4_ownerOf wsX4_ownerOf) := goodIn_app (goodIn_of _ (by decide +kernel)) ggX3_mayCross_X4_ownerOf
theorem dX3_mayCross_53 : decode cX3_mayCross 53 = .ok (.invokevirtual 96, 3) := by decide +kernel
theorem dX3_mayCross_56 : decode cX3_mayCross 56 = .ok (.aload_n 1, 1) := by decide +kernel
theorem dX3_mayCross_57 : decode cX3_mayCross 57 = .ok (.getfield 99, 3) := by decide +kernel
theorem dX3_mayCross_60 : decode cX3_mayCross 60 = .ok (.if_icmp .eq 7, 3) := by decide +kernel
theorem dX3_mayCross_63 : decode cX3_mayCross 63 = .ok (.iconst 1, 1) := by decide +kernel
theorem dX3_mayCross_64 : decode cX3_mayCross 64 = .ok (.goto 4, 3) := by decide +kernel
set_option maxRecDepth 20000 in
theorem ggX3_mayCross_X2_reach : GoodIn wsX3_mayCross wsX2_reach := goodIn_r _ [20, 21, 22, 32, 33, 34, 35, 36, 37, 38, 39, 40, 41, 42, 43, 44, 45, 46, 47, 48, 49, 50, 51] (by decide +kernel) (by decide +kernel)
set_option maxRecDepth 20000 in
theorem gX3_mayCross_X2_reach_u92X2 : GoodIn wsX3_mayCross (va_wsO RX3 92 RX2 "BorderBeds$Person" ⟨"BorderBeds$Person", "reach", "()I"⟩ yX2_reach wsX2_reach) := goodIn_app (goodIn_of _ (by decide +kernel)) ggX3_mayCross_X2_reach
set_option maxRecDepth 20000 in
theorem gX3_mayCross_X6_reach_u92X10 : GoodIn wsX3_mayCross (va_wsU RX3 92 RX10 "BorderBeds$Person" ⟨"BorderBeds$Person", "reach", "()I"⟩ yX6_reach wsX6_reach) := goodIn_app (goodIn_of _ (by decide +kernel)) ggX3_mayCross_X6_reach
set_option maxRecDepth 20000 in
theorem gX3_mayCross_X6_reach_u92X1 : GoodIn wsX3_mayCross (va_wsU RX3 92 RX1 "BorderBeds$Person" ⟨"BorderBeds$Person", "reach", "()I"⟩ yX6_reach wsX6_reach) := goodIn_app (goodIn_of _ (by decide +kernel)) ggX3_mayCross_X6_reach
set_option maxRecDepth 20000 in
theorem gX3_mayCross_X6_reach_u92X5 : GoodIn wsX3_mayCross (va_wsU RX3 92 RX5 "BorderBeds$Person" ⟨"BorderBeds$Person", "reach", "()I"⟩ yX6_reach wsX6_reach) := goodIn_app (goodIn_of _ (by decide +kernel)) ggX3_mayCross_X6_reach
set_option maxRecDepth 100000 in
set_option maxHeartbeats 4000000 in
theorem c_X3_init {E : XE} {B : Nat} {v : Nat → va_E} {c : Nat} (hc0 : Cel (c + 1) v c (.inr (3, [.int (zI 0), .int (zI 0), .int (zI 0), .null, .null, .int (zI 0), .null, .int (zI 0), .null, .null, .null]))) : gM yX3_init wsX3_init ({ frames := 2, cells := 22, slots := 239, locals := 32 }) E B (c + 1) v [.ref (B + c)] (fun ρ N' v' => N' = c + 23 ∧ ρ = none ∧ (va_up (va_up (va_up (va_up (va_up (va_up (va_up (va_up (va_up (va_up (va_up (va_up (va_up (va_up (va_up (va_up (va_up (va_up (va_up (va_up (va_up (va_up (va_up v c (.inr (3, [.int (zI 0), .int (zI 0), .int (zI 1), .ref (B + (c + 1)), .ref (B + (c + 2)), .int (zI 0), .ref (B + (c + 3)), .int (zI 0), .ref (B + (c + 4)), .ref (B + (c + 13)), .ref (B + (c + 18))]))) (c + 1) (iarr E 48 (fun _ => (0 : Int)))) (c + 2) (barr E 48 (fun _ => (0 : Int)))) (c + 3) (rarr E 5 5 B (fun _ => none))) (c + 4) (rarr E 6 8 B (ouA c))) (c + 5) (iarr E 7 (fun _ => (0 : Int)))) (c + 6) (iarr E 7 (fun _ => (0 : Int)))) (c + 7) (iarr E 7 (fun _ => (0 : Int)))) (c + 8) (iarr E 7 (fun _ => (0 : Int)))) (c + 9) (iarr E 7 (fun _ => (0 : Int)))) (c + 10) (iarr E 7 (fun _ => (0 : Int)))) (c + 11) (iarr E 7 (fun _ => (0 : Int)))) (c + 12) (iarr E 7 (fun _ => (0 : Int)))) (c + 13) (.inr (4, [.ref (B + (c + 14)), .ref (B + (c + 15)), .int (zI 0), .ref (B + (c + 16)), .ref (B + (c + 17))]))) (c + 14) (iarr E 8 (fun _ => (0 : Int)))) (c + 15) (barr E 8 (fun _ => (0 : Int)))) (c + 16) (iarr E 8 (fun _ => (0 : Int)))) (c + 17) (iarr E 8 (fun _ => (0 : Int)))) (c + 18) (.inr (4, [.ref (B + (c + 19)), .ref (B + (c + 20)), .int (zI 0), .ref (B + (c + 21)), .ref (B + (c + 22))]))) (c + 19) (iarr E 8 (fun _ => (0 : Int)))) (c + 20) (barr E 8 (fun _ => (0 : Int)))) (c + 21) (iarr E 8 (fun _ => (0 : Int)))) (c + 22) (iarr E 8 (fun _ => (0 : Int)))) = v') := by
  refine x_met (nm := "<init>") (by decide +kernel) rfl (Nat.le_of_ble_eq_true rfl) rfl (fun Γ K KR hnL hnm => ?_)
  show XW Γ (c + 1) v [(0, .ref (B + c))] 0 0 0 []
  refine x_v (cel_pad hc0) ?_
  refine x_aload_n (pc := 0) 0 K rfl rfl dX3_init_0 ?_
  refine x_objInit (nL9 := 0) (pc := 1) (idx := 3) K (by decide +kernel) (by decide +kernel) (by decide +kernel) (Nat.le_of_ble_eq_true rfl) (Nat.le_of_ble_eq_true rfl) dX3_init_1 ?_
  refine x_aload_n (pc := 4) 0 K rfl rfl dX3_init_4 ?_
  refine x_iconst (pc := 5) K dX3_init_5 ?_
  refine x_put (pc := 6) (C := RX3) (T := TX3) (n := 11) (ci := 3) (idx := 9) (ref := "BorderBeds$Ground") (ty := .int)  K (cel_self hc0.1) rfl (by decide +kernel) tyX3 tyX3_ok nmX3 0 (by decide) (by decide +kernel) rfl rfl (by decide +kernel) rfl rfl (Nat.le_of_ble_eq_true rfl) dX3_init_6 ?_
  refine x_v (w := (va_up v c (.inr (3, [.int (zI 0), .int (zI 0), .int (zI 0), .null, .null, .int (zI 0), .null, .int (zI 0), .null, .null, .null])))) (up_at0).symm ?_
  refine x_aload_n (pc := 9) 0 K rfl rfl dX3_init_9 ?_
  refine x_iconst (pc := 10) K dX3_init_10 ?_
  refine x_put (pc := 11) (C := RX3) (T := TX3) (n := 11) (ci := 3) (idx := 15) (ref := "BorderBeds$Ground") (ty := .int)  K (cel_self hc0.1) rfl (by decide +kernel) tyX3 tyX3_ok nmX3 1 (by decide) (by decide +kernel) rfl rfl (by decide +kernel) rfl rfl (Nat.le_of_ble_eq_true rfl) dX3_init_11 ?_
  refine x_v (w := (va_up v c (.inr (3, [.int (zI 0), .int (zI 0), .int (zI 0), .null, .null, .int (zI 0), .null, .int (zI 0), .null, .null, .null])))) (up_at0).symm ?_
  refine x_aload_n (pc := 14) 0 K rfl rfl dX3_init_14 ?_
  refine x_iconst (pc := 15) K dX3_init_15 ?_
  refine x_put (pc := 16) (C := RX3) (T := TX3) (n := 11) (ci := 3) (idx := 18) (ref := "BorderBeds$Ground") (ty := .int)  K (cel_self hc0.1) rfl (by decide +kernel) tyX3 tyX3_ok nmX3 2 (by decide) (by decide +kernel) rfl rfl (by decide +kernel) rfl rfl (Nat.le_of_ble_eq_true rfl) dX3_init_16 ?_
  refine x_v (w := (va_up v c (.inr (3, [.int (zI 0), .int (zI 0), .int (zI 1), .null, .null, .int (zI 0), .null, .int (zI 0), .null, .null, .null])))) (up_at0).symm ?_
  refine x_aload_n (pc := 19) 0 K rfl rfl dX3_init_19 ?_
  refine x_bipush (pc := 20) K (by decide) dX3_init_20 ?_
  refine x_newa_iarr (pc := 22) 48 K (by decide +kernel) rfl (by decide) (Nat.le_of_ble_eq_true rfl) (Nat.le_of_ble_eq_true rfl) dX3_init_22 ?_
  refine x_N (M := (c + 2)) rfl ?_
  refine x_putF (pc := 24) (C := RX3) (T := TX3) (n := 11) (ci := 3) (idx := 21) (ref := "BorderBeds$Ground") (ty := .array .int)  K (cel_ne (cel_self (Nat.lt_of_lt_of_le hc0.1 (by omega))) (by omega)) rfl (by decide +kernel) tyX3 tyX3_ok nmX3 3 (by decide) (by decide +kernel) rfl rfl hnm rfl (by decide +kernel) rfl rfl (Nat.le_of_ble_eq_true rfl) dX3_init_24 ?_
  refine x_v (w := (va_up (va_up v c (.inr (3, [.int (zI 0), .int (zI 0), .int (zI 1), .ref (B + (c + 1)), .null, .int (zI 0), .null, .int (zI 0), .null, .null, .null]))) (c + 1) (iarr E 48 (fun _ => 0)))) (up_at1 (by omega)).symm ?_
  refine x_aload_n (pc := 27) 0 K rfl rfl dX3_init_27 ?_
  refine x_bipush (pc := 28) K (by decide) dX3_init_28 ?_
  refine x_newa_barr (pc := 30) 48 K (by decide +kernel) rfl (by decide) (Nat.le_of_ble_eq_true rfl) (Nat.le_of_ble_eq_true rfl) dX3_init_30 ?_
  refine x_N (M := (c + 3)) rfl ?_
  refine x_putF (pc := 32) (C := RX3) (T := TX3) (n := 11) (ci := 3) (idx := 25) (ref := "BorderBeds$Ground") (ty := .array .boolean)  K (cel_ne (cel_ne (cel_self (Nat.lt_of_lt_of_le hc0.1 (by omega))) (by omega)) (by omega)) rfl (by decide +kernel) tyX3 tyX3_ok nmX3 4 (by decide) (by decide +kernel) rfl rfl hnm rfl (by decide +kernel) rfl rfl (Nat.le_of_ble_eq_true rfl) dX3_init_32 ?_
  refine x_v (w := (va_up (va_up (va_up v c (.inr (3, [.int (zI 0), .int (zI 0), .int (zI 1), .ref (B + (c + 1)), .ref (B + (c + 2)), .int (zI 0), .null, .int (zI 0), .null, .null, .null]))) (c + 1) (iarr E 48 (fun _ => 0))) (c + 2) (barr E 48 (fun _ => 0)))) (up_at2 (by omega) (by omega)).symm ?_
  refine x_aload_n (pc := 35) 0 K rfl rfl dX3_init_35 ?_
  refine x_iconst (pc := 36) K dX3_init_36 ?_
  refine x_put (pc := 37) (C := RX3) (T := TX3) (n := 11) (ci := 3) (idx := 29) (ref := "BorderBeds$Ground") (ty := .int)  K (cel_ne (cel_ne (cel_self (Nat.lt_of_lt_of_le hc0.1 (by omega))) (by omega)) (by omega)) rfl (by decide +kernel) tyX3 tyX3_ok nmX3 5 (by decide) (by decide +kernel) rfl rfl (by decide +kernel) rfl rfl (Nat.le_of_ble_eq_true rfl) dX3_init_37 ?_
  refine x_v (w := (va_up (va_up (va_up v c (.inr (3, [.int (zI 0), .int (zI 0), .int (zI 1), .ref (B + (c + 1)), .ref (B + (c + 2)), .int (zI 0), .null, .int (zI 0), .null, .null, .null]))) (c + 1) (iarr E 48 (fun _ => 0))) (c + 2) (barr E 48 (fun _ => 0)))) (up_at2 (by omega) (by omega)).symm ?_
  refine x_aload_n (pc := 40) 0 K rfl rfl dX3_init_40 ?_
  refine x_iconst (pc := 41) K dX3_init_41 ?_
  refine x_newq (pc := 42) (C := "BorderBeds$Person") (t := 5) 5 K rfl (by decide +kernel) (by decide) rfl (by decide) (Nat.le_of_ble_eq_true rfl) (Nat.le_of_ble_eq_true rfl) dX3_init_42 ?_
  refine x_N (M := (c + 4)) rfl ?_
  refine x_putF (pc := 45) (C := RX3) (T := TX3) (n := 11) (ci := 3) (idx := 34) (ref := "BorderBeds$Ground") (ty := .array (.object "BorderBeds$Person"))  K (cel_ne (cel_ne (cel_ne (cel_self (Nat.lt_of_lt_of_le hc0.1 (by omega))) (by omega)) (by omega)) (by omega)) rfl (by decide +kernel) tyX3 tyX3_ok nmX3 6 (by decide) (by decide +kernel) rfl rfl hnm rfl (by decide +kernel) rfl rfl (Nat.le_of_ble_eq_true rfl) dX3_init_45 ?_
  refine x_v (w := (va_up (va_up (va_up (va_up v c (.inr (3, [.int (zI 0), .int (zI 0), .int (zI 1), .ref (B + (c + 1)), .ref (B + (c + 2)), .int (zI 0), .ref (B + (c + 3)), .int (zI 0), .null, .null, .null]))) (c + 1) (iarr E 48 (fun _ => 0))) (c + 2) (barr E 48 (fun _ => 0))) (c + 3) (rarr E 5 5 B (fun _ => none)))) (up_at3 (by omega) (by omega) (by omega)).symm ?_
  refine x_aload_n (pc := 48) 0 K rfl rfl dX3_init_48 ?_
  refine x_iconst (pc := 49) K dX3_init_49 ?_
  refine x_put (pc := 50) (C := RX3) (T := TX3) (n := 11) (ci := 3) (idx := 38) (ref := "BorderBeds$Ground") (ty := .int)  K (cel_ne (cel_ne (cel_ne (cel_self (Nat.lt_of_lt_of_le hc0.1 (by omega))) (by omega)) (by omega)) (by omega)) rfl (by decide +kernel) tyX3 tyX3_ok nmX3 7 (by decide) (by decide +kernel) rfl rfl (by decide +kernel) rfl rfl (Nat.le_of_ble_eq_true rfl) dX3_init_50 ?_
  refine x_v (w := (va_up (va_up (va_up (va_up v c (.inr (3, [.int (zI 0), .int (zI 0), .int (zI 1), .ref (B + (c + 1)), .ref (B + (c + 2)), .int (zI 0), .ref (B + (c + 3)), .int (zI 0), .null, .null, .null]))) (c + 1) (iarr E 48 (fun _ => 0))) (c + 2) (barr E 48 (fun _ => 0))) (c + 3) (rarr E 5 5 B (fun _ => none)))) (up_at3 (by omega) (by omega) (by omega)).symm ?_
  refine x_aload_n (pc := 53) 0 K rfl rfl dX3_init_53 ?_
  refine x_bipush (pc := 54) K (by decide) dX3_init_54 ?_
  refine x_bipush (pc := 56) K (by decide) dX3_init_56 ?_
  refine x_mna (pc := 58) (idx := 41) 8 7 K (by decide +kernel) (by decide +kernel) rfl rfl (by decide) (by decide) (Nat.le_of_ble_eq_true rfl) (Nat.le_of_ble_eq_true rfl) dX3_init_58 ?_
  refine x_v (w := (va_up (va_up (va_up (va_up (va_up (va_up (va_up (va_up (va_up (va_up (va_up (va_up (va_up v c (.inr (3, [.int (zI 0), .int (zI 0), .int (zI 1), .ref (B + (c + 1)), .ref (B + (c + 2)), .int (zI 0), .ref (B + (c + 3)), .int (zI 0), .null, .null, .null]))) (c + 1) (iarr E 48 (fun _ => 0))) (c + 2) (barr E 48 (fun _ => 0))) (c + 3) (rarr E 5 5 B (fun _ => none))) (c + 4) (rarr E 6 8 B (ouA c))) (c + 5) (iarr E 7 (fun _ => (0 : Int)))) (c + 6) (iarr E 7 (fun _ => (0 : Int)))) (c + 7) (iarr E 7 (fun _ => (0 : Int)))) (c + 8) (iarr E 7 (fun _ => (0 : Int)))) (c + 9) (iarr E 7 (fun _ => (0 : Int)))) (c + 10) (iarr E 7 (fun _ => (0 : Int)))) (c + 11) (iarr E 7 (fun _ => (0 : Int)))) (c + 12) (iarr E 7 (fun _ => (0 : Int))))) mna8.symm ?_
  refine x_N (M := (c + 13)) rfl ?_
  refine x_putF (pc := 62) (C := RX3) (T := TX3) (n := 11) (ci := 3) (idx := 43) (ref := "BorderBeds$Ground") (ty := .array (.array .int))  K (cel_ne (cel_ne (cel_ne (cel_ne (cel_ne (cel_ne (cel_ne (cel_ne (cel_ne (cel_ne (cel_ne (cel_ne (cel_self (Nat.lt_of_lt_of_le hc0.1 (by omega))) (by omega)) (by omega)) (by omega)) (by omega)) (by omega)) (by omega)) (by omega)) (by omega)) (by omega)) (by omega)) (by omega)) (by omega)) rfl (by decide +kernel) tyX3 tyX3_ok nmX3 8 (by decide) (by decide +kernel) rfl rfl hnm rfl (by decide +kernel) rfl rfl (Nat.le_of_ble_eq_true rfl) dX3_init_62 ?_
  refine x_v (w := (va_up (va_up (va_up (va_up (va_up (va_up (va_up (va_up (va_up (va_up (va_up (va_up (va_up v c (.inr (3, [.int (zI 0), .int (zI 0), .int (zI 1), .ref (B + (c + 1)), .ref (B + (c + 2)), .int (zI 0), .ref (B + (c + 3)), .int (zI 0), .ref (B + (c + 4)), .null, .null]))) (c + 1) (iarr E 48 (fun _ => 0))) (c + 2) (barr E 48 (fun _ => 0))) (c + 3) (rarr E 5 5 B (fun _ => none))) (c + 4) (rarr E 6 8 B (ouA c))) (c + 5) (iarr E 7 (fun _ => (0 : Int)))) (c + 6) (iarr E 7 (fun _ => (0 : Int)))) (c + 7) (iarr E 7 (fun _ => (0 : Int)))) (c + 8) (iarr E 7 (fun _ => (0 : Int)))) (c + 9) (iarr E 7 (fun _ => (0 : Int)))) (c + 10) (iarr E 7 (fun _ => (0 : Int)))) (c + 11) (iarr E 7 (fun _ => (0 : Int)))) (c + 12) (iarr E 7 (fun _ => (0 : Int))))) (up_at12 (by omega) (by omega) (by omega) (by omega) (by omega) (by omega) (by omega) (by omega) (by omega) (by omega) (by omega) (by omega)).symm ?_
  refine x_aload_n (pc := 65) 0 K rfl rfl dX3_init_65 ?_
  refine x_new (pc := 66) (C := RX4) (T := TX4) (n := 5) (ci := 4) (fs := [.null, .null, .int (zI 0), .null, .null]) K rfl (by decide +kernel) tyX4 tyX4_ok (by decide +kernel) (by decide +kernel) (by decide +kernel) (by decide +kernel) (Nat.le_of_ble_eq_true rfl) (Nat.le_of_ble_eq_true rfl) dX3_init_66 ?_
  refine x_N (M := (c + 14)) rfl ?_
  refine x_dup (pc := 69) K rfl dX3_init_69 ?_
  refine x_callIN (pc := 70) (As := []) K (c_X4_init (E := E) (B := B)   (cel_self (by omega)) ) gX3_init_X4_init_n48 rfl (by decide +kernel) (by decide +kernel) (by decide +kernel) rfl (na := 0) (by decide +kernel) rfl ⟨(Nat.le_of_ble_eq_true rfl), (Nat.le_of_ble_eq_true rfl)⟩ (st := [.ref (B + (c + 13)), .ref (B + c)]) rfl (Nat.le_of_ble_eq_true rfl) ⟨(Nat.le_of_ble_eq_true rfl), (Nat.le_of_ble_eq_true rfl)⟩ dX3_init_70 (fun r70 N70 w70 hpo70 hN70 => ?_)
  obtain ⟨rfl, rfl, rfl⟩ := hpo70
  refine x_N (M := (c + 18)) rfl ?_
  refine x_v (congrArg (fun w => (va_up (va_up (va_up (va_up w (c + 14) (iarr E 8 (fun _ => (0 : Int)))) (c + 15) (barr E 8 (fun _ => (0 : Int)))) (c + 16) (iarr E 8 (fun _ => (0 : Int)))) (c + 17) (iarr E 8 (fun _ => (0 : Int))))) (show (va_up (va_up (va_up (va_up (va_up (va_up (va_up (va_up (va_up (va_up (va_up (va_up (va_up (va_up v c (.inr (3, [.int (zI 0), .int (zI 0), .int (zI 1), .ref (B + (c + 1)), .ref (B + (c + 2)), .int (zI 0), .ref (B + (c + 3)), .int (zI 0), .ref (B + (c + 4)), .null, .null]))) (c + 1) (iarr E 48 (fun _ => 0))) (c + 2) (barr E 48 (fun _ => 0))) (c + 3) (rarr E 5 5 B (fun _ => none))) (c + 4) (rarr E 6 8 B (ouA c))) (c + 5) (iarr E 7 (fun _ => (0 : Int)))) (c + 6) (iarr E 7 (fun _ => (0 : Int)))) (c + 7) (iarr E 7 (fun _ => (0 : Int)))) (c + 8) (iarr E 7 (fun _ => (0 : Int)))) (c + 9) (iarr E 7 (fun _ => (0 : Int)))) (c + 10) (iarr E 7 (fun _ => (0 : Int)))) (c + 11) (iarr E 7 (fun _ => (0 : Int)))) (c + 12) (iarr E 7 (fun _ => (0 : Int)))) (c + 13) (.inr (4, [.ref (B + (c + 14)), .ref (B + (c + 15)), .int (zI 0), .ref (B + (c + 16)), .ref (B + (c + 17))]))) = _ from (up_at0).symm)) ?_
  refine x_v (congrArg (fun w => (va_up (va_up (va_up w (c + 15) (barr E 8 (fun _ => (0 : Int)))) (c + 16) (iarr E 8 (fun _ => (0 : Int)))) (c + 17) (iarr E 8 (fun _ => (0 : Int))))) (show (va_up (va_up (va_up (va_up (va_up (va_up (va_up (va_up (va_up (va_up (va_up (va_up (va_up (va_up (va_up v c (.inr (3, [.int (zI 0), .int (zI 0), .int (zI 1), .ref (B + (c + 1)), .ref (B + (c + 2)), .int (zI 0), .ref (B + (c + 3)), .int (zI 0), .ref (B + (c + 4)), .null, .null]))) (c + 1) (iarr E 48 (fun _ => 0))) (c + 2) (barr E 48 (fun _ => 0))) (c + 3) (rarr E 5 5 B (fun _ => none))) (c + 4) (rarr E 6 8 B (ouA c))) (c + 5) (iarr E 7 (fun _ => (0 : Int)))) (c + 6) (iarr E 7 (fun _ => (0 : Int)))) (c + 7) (iarr E 7 (fun _ => (0 : Int)))) (c + 8) (iarr E 7 (fun _ => (0 : Int)))) (c + 9) (iarr E 7 (fun _ => (0 : Int)))) (c + 10) (iarr E 7 (fun _ => (0 : Int)))) (c + 11) (iarr E 7 (fun _ => (0 : Int)))) (c + 12) (iarr E 7 (fun _ => (0 : Int)))) (c + 13) (.inr (4, [.ref (B + (c + 14)), .ref (B + (c + 15)), .int (zI 0), .ref (B + (c + 16)), .ref (B + (c + 17))]))) (c + 14) (iarr E 8 (fun _ => (0 : Int)))) = _ from rfl)) ?_
  refine x_v (congrArg (fun w => (va_up (va_up w (c + 16) (iarr E 8 (fun _ => (0 : Int)))) (c + 17) (iarr E 8 (fun _ => (0 : Int))))) (show (va_up (va_up (va_up (va_up (va_up (va_up (va_up (va_up (va_up (va_up (va_up (va_up (va_up (va_up (va_up (va_up v c (.inr (3, [.int (zI 0), .int (zI 0), .int (zI 1), .ref (B + (c + 1)), .ref (B + (c + 2)), .int (zI 0), .ref (B + (c + 3)), .int (zI 0), .ref (B + (c + 4)), .null, .null]))) (c + 1) (iarr E 48 (fun _ => 0))) (c + 2) (barr E 48 (fun _ => 0))) (c + 3) (rarr E 5 5 B (fun _ => none))) (c + 4) (rarr E 6 8 B (ouA c))) (c + 5) (iarr E 7 (fun _ => (0 : Int)))) (c + 6) (iarr E 7 (fun _ => (0 : Int)))) (c + 7) (iarr E 7 (fun _ => (0 : Int)))) (c + 8) (iarr E 7 (fun _ => (0 : Int)))) (c + 9) (iarr E 7 (fun _ => (0 : Int)))) (c + 10) (iarr E 7 (fun _ => (0 : Int)))) (c + 11) (iarr E 7 (fun _ => (0 : Int)))) (c + 12) (iarr E 7 (fun _ => (0 : Int)))) (c + 13) (.inr (4, [.ref (B + (c + 14)), .ref (B + (c + 15)), .int (zI 0), .ref (B + (c + 16)), .ref (B + (c + 17))]))) (c + 14) (iarr E 8 (fun _ => (0 : Int)))) (c + 15) (barr E 8 (fun _ => (0 : Int)))) = _ from rfl)) ?_
  refine x_v (congrArg (fun w => (va_up w (c + 17) (iarr E 8 (fun _ => (0 : Int))))) (show (va_up (va_up (va_up (va_up (va_up (va_up (va_up (va_up (va_up (va_up (va_up (va_up (va_up (va_up (va_up (va_up (va_up v c (.inr (3, [.int (zI 0), .int (zI 0), .int (zI 1), .ref (B + (c + 1)), .ref (B + (c + 2)), .int (zI 0), .ref (B + (c + 3)), .int (zI 0), .ref (B + (c + 4)), .null, .null]))) (c + 1) (iarr E 48 (fun _ => 0))) (c + 2) (barr E 48 (fun _ => 0))) (c + 3) (rarr E 5 5 B (fun _ => none))) (c + 4) (rarr E 6 8 B (ouA c))) (c + 5) (iarr E 7 (fun _ => (0 : Int)))) (c + 6) (iarr E 7 (fun _ => (0 : Int)))) (c + 7) (iarr E 7 (fun _ => (0 : Int)))) (c + 8) (iarr E 7 (fun _ => (0 : Int)))) (c + 9) (iarr E 7 (fun _ => (0 : Int)))) (c + 10) (iarr E 7 (fun _ => (0 : Int)))) (c + 11) (iarr E 7 (fun _ => (0 : Int)))) (c + 12) (iarr E 7 (fun _ => (0 : Int)))) (c + 13) (.inr (4, [.ref (B + (c + 14)), .ref (B + (c + 15)), .int (zI 0), .ref (B + (c + 16)), .ref (B + (c + 17))]))) (c + 14) (iarr E 8 (fun _ => (0 : Int)))) (c + 15) (barr E 8 (fun _ => (0 : Int)))) (c + 16) (iarr E 8 (fun _ => (0 : Int)))) = _ from rfl)) ?_
  refine x_v (w := (va_up (va_up (va_up (va_up (va_up (va_up (va_up (va_up (va_up (va_up (va_up (va_up (va_up (va_up (va_up (va_up (va_up (va_up v c (.inr (3, [.int (zI 0), .int (zI 0), .int (zI 1), .ref (B + (c + 1)), .ref (B + (c + 2)), .int (zI 0), .ref (B + (c + 3)), .int (zI 0), .ref (B + (c + 4)), .null, .null]))) (c + 1) (iarr E 48 (fun _ => 0))) (c + 2) (barr E 48 (fun _ => 0))) (c + 3) (rarr E 5 5 B (fun _ => none))) (c + 4) (rarr E 6 8 B (ouA c))) (c + 5) (iarr E 7 (fun _ => (0 : Int)))) (c + 6) (iarr E 7 (fun _ => (0 : Int)))) (c + 7) (iarr E 7 (fun _ => (0 : Int)))) (c + 8) (iarr E 7 (fun _ => (0 : Int)))) (c + 9) (iarr E 7 (fun _ => (0 : Int)))) (c + 10) (iarr E 7 (fun _ => (0 : Int)))) (c + 11) (iarr E 7 (fun _ => (0 : Int)))) (c + 12) (iarr E 7 (fun _ => (0 : Int)))) (c + 13) (.inr (4, [.ref (B + (c + 14)), .ref (B + (c + 15)), .int (zI 0), .ref (B + (c + 16)), .ref (B + (c + 17))]))) (c + 14) (iarr E 8 (fun _ => (0 : Int)))) (c + 15) (barr E 8 (fun _ => (0 : Int)))) (c + 16) (iarr E 8 (fun _ => (0 : Int)))) (c + 17) (iarr E 8 (fun _ => (0 : Int))))) rfl ?_
  refine x_st (st' := [.ref (B + (c + 13)), .ref (B + c)]) rfl ?_
  refine x_putF (pc := 73) (C := RX3) (T := TX3) (n := 11) (ci := 3) (idx := 49) (ref := "BorderBeds$Ground") (ty := .object "BorderBeds$Line")  K (cel_ne (cel_ne (cel_ne (cel_ne (cel_ne (cel_ne (cel_ne (cel_ne (cel_ne (cel_ne (cel_ne (cel_ne (cel_ne (cel_ne (cel_ne (cel_ne (cel_ne (cel_self (Nat.lt_of_lt_of_le hc0.1 (by omega))) (by omega)) (by omega)) (by omega)) (by omega)) (by omega)) (by omega)) (by omega)) (by omega)) (by omega)) (by omega)) (by omega)) (by omega)) (by omega)) (by omega)) (by omega)) (by omega)) (by omega)) rfl (by decide +kernel) tyX3 tyX3_ok nmX3 9 (by decide) (by decide +kernel) rfl rfl hnm rfl (by decide +kernel) rfl rfl (Nat.le_of_ble_eq_true rfl) dX3_init_73 ?_
  refine x_v (w := (va_up (va_up (va_up (va_up (va_up (va_up (va_up (va_up (va_up (va_up (va_up (va_up (va_up (va_up (va_up (va_up (va_up (va_up v c (.inr (3, [.int (zI 0), .int (zI 0), .int (zI 1), .ref (B + (c + 1)), .ref (B + (c + 2)), .int (zI 0), .ref (B + (c + 3)), .int (zI 0), .ref (B + (c + 4)), .ref (B + (c + 13)), .null]))) (c + 1) (iarr E 48 (fun _ => 0))) (c + 2) (barr E 48 (fun _ => 0))) (c + 3) (rarr E 5 5 B (fun _ => none))) (c + 4) (rarr E 6 8 B (ouA c))) (c + 5) (iarr E 7 (fun _ => (0 : Int)))) (c + 6) (iarr E 7 (fun _ => (0 : Int)))) (c + 7) (iarr E 7 (fun _ => (0 : Int)))) (c + 8) (iarr E 7 (fun _ => (0 : Int)))) (c + 9) (iarr E 7 (fun _ => (0 : Int)))) (c + 10) (iarr E 7 (fun _ => (0 : Int)))) (c + 11) (iarr E 7 (fun _ => (0 : Int)))) (c + 12) (iarr E 7 (fun _ => (0 : Int)))) (c + 13) (.inr (4, [.ref (B + (c + 14)), .ref (B + (c + 15)), .int (zI 0), .ref (B + (c + 16)), .ref (B + (c + 17))]))) (c + 14) (iarr E 8 (fun _ => (0 : Int)))) (c + 15) (barr E 8 (fun _ => (0 : Int)))) (c + 16) (iarr E 8 (fun _ => (0 : Int)))) (c + 17) (iarr E 8 (fun _ => (0 : Int))))) (up_at17 (by omega) (by omega) (by omega) (by omega) (by omega) (by omega) (by omega) (by omega) (by omega) (by omega) (by omega) (by omega) (by omega) (by omega) (by omega) (by omega) (by omega)).symm ?_
  refine x_aload_n (pc := 76) 0 K rfl rfl dX3_init_76 ?_
  refine x_new (pc := 77) (C := RX4) (T := TX4) (n := 5) (ci := 4) (fs := [.null, .null, .int (zI 0), .null, .null]) K rfl (by decide +kernel) tyX4 tyX4_ok (by decide +kernel) (by decide +kernel) (by decide +kernel) (by decide +kernel) (Nat.le_of_ble_eq_true rfl) (Nat.le_of_ble_eq_true rfl) dX3_init_77 ?_
  refine x_N (M := (c + 19)) rfl ?_
  refine x_dup (pc := 80) K rfl dX3_init_80 ?_
  refine x_callIN (pc := 81) (As := []) K (c_X4_init (E := E) (B := B)   (cel_self (by omega)) ) gX3_init_X4_init_n48 rfl (by decide +kernel) (by decide +kernel) (by decide +kernel) rfl (na := 0) (by decide +kernel) rfl ⟨(Nat.le_of_ble_eq_true rfl), (Nat.le_of_ble_eq_true rfl)⟩ (st := [.ref (B + (c + 18)), .ref (B + c)]) rfl (Nat.le_of_ble_eq_true rfl) ⟨(Nat.le_of_ble_eq_true rfl), (Nat.le_of_ble_eq_true rfl)⟩ dX3_init_81 (fun r81 N81 w81 hpo81 hN81 => ?_)
  obtain ⟨rfl, rfl, rfl⟩ := hpo81
  refine x_N (M := (c + 23)) rfl ?_
  refine x_v (congrArg (fun w => (va_up (va_up (va_up (va_up w (c + 19) (iarr E 8 (fun _ => (0 : Int)))) (c + 20) (barr E 8 (fun _ => (0 : Int)))) (c + 21) (iarr E 8 (fun _ => (0 : Int)))) (c + 22) (iarr E 8 (fun _ => (0 : Int))))) (show (va_up (va_up (va_up (va_up (va_up (va_up (va_up (va_up (va_up (va_up (va_up (va_up (va_up (va_up (va_up (va_up (va_up (va_up (va_up v c (.inr (3, [.int (zI 0), .int (zI 0), .int (zI 1), .ref (B + (c + 1)), .ref (B + (c + 2)), .int (zI 0), .ref (B + (c + 3)), .int (zI 0), .ref (B + (c + 4)), .ref (B + (c + 13)), .null]))) (c + 1) (iarr E 48 (fun _ => 0))) (c + 2) (barr E 48 (fun _ => 0))) (c + 3) (rarr E 5 5 B (fun _ => none))) (c + 4) (rarr E 6 8 B (ouA c))) (c + 5) (iarr E 7 (fun _ => (0 : Int)))) (c + 6) (iarr E 7 (fun _ => (0 : Int)))) (c + 7) (iarr E 7 (fun _ => (0 : Int)))) (c + 8) (iarr E 7 (fun _ => (0 : Int)))) (c + 9) (iarr E 7 (fun _ => (0 : Int)))) (c + 10) (iarr E 7 (fun _ => (0 : Int)))) (c + 11) (iarr E 7 (fun _ => (0 : Int)))) (c + 12) (iarr E 7 (fun _ => (0 : Int)))) (c + 13) (.inr (4, [.ref (B + (c + 14)), .ref (B + (c + 15)), .int (zI 0), .ref (B + (c + 16)), .ref (B + (c + 17))]))) (c + 14) (iarr E 8 (fun _ => (0 : Int)))) (c + 15) (barr E 8 (fun _ => (0 : Int)))) (c + 16) (iarr E 8 (fun _ => (0 : Int)))) (c + 17) (iarr E 8 (fun _ => (0 : Int)))) (c + 18) (.inr (4, [.ref (B + (c + 19)), .ref (B + (c + 20)), .int (zI 0), .ref (B + (c + 21)), .ref (B + (c + 22))]))) = _ from (up_at0).symm)) ?_
  refine x_v (congrArg (fun w => (va_up (va_up (va_up w (c + 20) (barr E 8 (fun _ => (0 : Int)))) (c + 21) (iarr E 8 (fun _ => (0 : Int)))) (c + 22) (iarr E 8 (fun _ => (0 : Int))))) (show (va_up (va_up (va_up (va_up (va_up (va_up (va_up (va_up (va_up (va_up (va_up (va_up (va_up (va_up (va_up (va_up (va_up (va_up (va_up (va_up v c (.inr (3, [.int (zI 0), .int (zI 0), .int (zI 1), .ref (B + (c + 1)), .ref (B + (c + 2)), .int (zI 0), .ref (B + (c + 3)), .int (zI 0), .ref (B + (c + 4)), .ref (B + (c + 13)), .null]))) (c + 1) (iarr E 48 (fun _ => 0))) (c + 2) (barr E 48 (fun _ => 0))) (c + 3) (rarr E 5 5 B (fun _ => none))) (c + 4) (rarr E 6 8 B (ouA c))) (c + 5) (iarr E 7 (fun _ => (0 : Int)))) (c + 6) (iarr E 7 (fun _ => (0 : Int)))) (c + 7) (iarr E 7 (fun _ => (0 : Int)))) (c + 8) (iarr E 7 (fun _ => (0 : Int)))) (c + 9) (iarr E 7 (fun _ => (0 : Int)))) (c + 10) (iarr E 7 (fun _ => (0 : Int)))) (c + 11) (iarr E 7 (fun _ => (0 : Int)))) (c + 12) (iarr E 7 (fun _ => (0 : Int)))) (c + 13) (.inr (4, [.ref (B + (c + 14)), .ref (B + (c + 15)), .int (zI 0), .ref (B + (c + 16)), .ref (B + (c + 17))]))) (c + 14) (iarr E 8 (fun _ => (0 : Int)))) (c + 15) (barr E 8 (fun _ => (0 : Int)))) (c + 16) (iarr E 8 (fun _ => (0 : Int)))) (c + 17) (iarr E 8 (fun _ => (0 : Int)))) (c + 18) (.inr (4, [.ref (B + (c + 19)), .ref (B + (c + 20)), .int (zI 0), .ref (B + (c + 21)), .ref (B + (c + 22))]))) (c + 19) (iarr E 8 (fun _ => (0 : Int)))) = _ from rfl)) ?_
  refine x_v (congrArg (fun w => (va_up (va_up w (c + 21) (iarr E 8 (fun _ => (0 : Int)))) (c + 22) (iarr E 8 (fun _ => (0 : Int))))) (show (va_up (va_up (va_up (va_up (va_up (va_up (va_up (va_up (va_up (va_up (va_up (va_up (va_up (va_up (va_up (va_up (va_up (va_up (va_up (va_up (va_up v c (.inr (3, [.int (zI 0), .int (zI 0), .int (zI 1), .ref (B + (c + 1)), .ref (B + (c + 2)), .int (zI 0), .ref (B + (c + 3)), .int (zI 0), .ref (B + (c + 4)), .ref (B + (c + 13)), .null]))) (c + 1) (iarr E 48 (fun _ => 0))) (c + 2) (barr E 48 (fun _ => 0))) (c + 3) (rarr E 5 5 B (fun _ => none))) (c + 4) (rarr E 6 8 B (ouA c))) (c + 5) (iarr E 7 (fun _ => (0 : Int)))) (c + 6) (iarr E 7 (fun _ => (0 : Int)))) (c + 7) (iarr E 7 (fun _ => (0 : Int)))) (c + 8) (iarr E 7 (fun _ => (0 : Int)))) (c + 9) (iarr E 7 (fun _ => (0 : Int)))) (c + 10) (iarr E 7 (fun _ => (0 : Int)))) (c + 11) (iarr E 7 (fun _ => (0 : Int)))) (c + 12) (iarr E 7 (fun _ => (0 : Int)))) (c + 13) (.inr (4, [.ref (B + (c + 14)), .ref (B + (c + 15)), .int (zI 0), .ref (B + (c + 16)), .ref (B + (c + 17))]))) (c + 14) (iarr E 8 (fun _ => (0 : Int)))) (c + 15) (barr E 8 (fun _ => (0 : Int)))) (c + 16) (iarr E 8 (fun _ => (0 : Int)))) (c + 17) (iarr E 8 (fun _ => (0 : Int)))) (c + 18) (.inr (4, [.ref (B + (c + 19)), .ref (B + (c + 20)), .int (zI 0), .ref (B + (c + 21)), .ref (B + (c + 22))]))) (c + 19) (iarr E 8 (fun _ => (0 : Int)))) (c + 20) (barr E 8 (fun _ => (0 : Int)))) = _ from rfl)) ?_
  refine x_v (congrArg (fun w => (va_up w (c + 22) (iarr E 8 (fun _ => (0 : Int))))) (show (va_up (va_up (va_up (va_up (va_up (va_up (va_up (va_up (va_up (va_up (va_up (va_up (va_up (va_up (va_up (va_up (va_up (va_up (va_up (va_up (va_up (va_up v c (.inr (3, [.int (zI 0), .int (zI 0), .int (zI 1), .ref (B + (c + 1)), .ref (B + (c + 2)), .int (zI 0), .ref (B + (c + 3)), .int (zI 0), .ref (B + (c + 4)), .ref (B + (c + 13)), .null]))) (c + 1) (iarr E 48 (fun _ => 0))) (c + 2) (barr E 48 (fun _ => 0))) (c + 3) (rarr E 5 5 B (fun _ => none))) (c + 4) (rarr E 6 8 B (ouA c))) (c + 5) (iarr E 7 (fun _ => (0 : Int)))) (c + 6) (iarr E 7 (fun _ => (0 : Int)))) (c + 7) (iarr E 7 (fun _ => (0 : Int)))) (c + 8) (iarr E 7 (fun _ => (0 : Int)))) (c + 9) (iarr E 7 (fun _ => (0 : Int)))) (c + 10) (iarr E 7 (fun _ => (0 : Int)))) (c + 11) (iarr E 7 (fun _ => (0 : Int)))) (c + 12) (iarr E 7 (fun _ => (0 : Int)))) (c + 13) (.inr (4, [.ref (B + (c + 14)), .ref (B + (c + 15)), .int (zI 0), .ref (B + (c + 16)), .ref (B + (c + 17))]))) (c + 14) (iarr E 8 (fun _ => (0 : Int)))) (c + 15) (barr E 8 (fun _ => (0 : Int)))) (c + 16) (iarr E 8 (fun _ => (0 : Int)))) (c + 17) (iarr E 8 (fun _ => (0 : Int)))) (c + 18) (.inr (4, [.ref (B + (c + 19)), .ref (B + (c + 20)), .int (zI 0), .ref (B + (c + 21)), .ref (B + (c + 22))]))) (c + 19) (iarr E 8 (fun _ => (0 : Int)))) (c + 20) (barr E 8 (fun _ => (0 : Int)))) (c + 21) (iarr E 8 (fun _ => (0 : Int)))) = _ from rfl)) ?_
  refine x_v (w := (va_up (va_up (va_up (va_up (va_up (va_up (va_up (va_up (va_up (va_up (va_up (va_up (va_up (va_up (va_up (va_up (va_up (va_up (va_up (va_up (va_up (va_up (va_up v c (.inr (3, [.int (zI 0), .int (zI 0), .int (zI 1), .ref (B + (c + 1)), .ref (B + (c + 2)), .int (zI 0), .ref (B + (c + 3)), .int (zI 0), .ref (B + (c + 4)), .ref (B + (c + 13)), .null]))) (c + 1) (iarr E 48 (fun _ => 0))) (c + 2) (barr E 48 (fun _ => 0))) (c + 3) (rarr E 5 5 B (fun _ => none))) (c + 4) (rarr E 6 8 B (ouA c))) (c + 5) (iarr E 7 (fun _ => (0 : Int)))) (c + 6) (iarr E 7 (fun _ => (0 : Int)))) (c + 7) (iarr E 7 (fun _ => (0 : Int)))) (c + 8) (iarr E 7 (fun _ => (0 : Int)))) (c + 9) (iarr E 7 (fun _ => (0 : Int)))) (c + 10) (iarr E 7 (fun _ => (0 : Int)))) (c + 11) (iarr E 7 (fun _ => (0 : Int)))) (c + 12) (iarr E 7 (fun _ => (0 : Int)))) (c + 13) (.inr (4, [.ref (B + (c + 14)), .ref (B + (c + 15)), .int (zI 0), .ref (B + (c + 16)), .ref (B + (c + 17))]))) (c + 14) (iarr E 8 (fun _ => (0 : Int)))) (c + 15) (barr E 8 (fun _ => (0 : Int)))) (c + 16) (iarr E 8 (fun _ => (0 : Int)))) (c + 17) (iarr E 8 (fun _ => (0 : Int)))) (c + 18) (.inr (4, [.ref (B + (c + 19)), .ref (B + (c + 20)), .int (zI 0), .ref (B + (c + 21)), .ref (B + (c + 22))]))) (c + 19) (iarr E 8 (fun _ => (0 : Int)))) (c + 20) (barr E 8 (fun _ => (0 : Int)))) (c + 21) (iarr E 8 (fun _ => (0 : Int)))) (c + 22) (iarr E 8 (fun _ => (0 : Int))))) rfl ?_
  refine x_st (st' := [.ref (B + (c + 18)), .ref (B + c)]) rfl ?_
  refine x_putF (pc := 84) (C := RX3) (T := TX3) (n := 11) (ci := 3) (idx := 53) (ref := "BorderBeds$Ground") (ty := .object "BorderBeds$Line")  K (cel_ne (cel_ne (cel_ne (cel_ne (cel_ne (cel_ne (cel_ne (cel_ne (cel_ne (cel_ne (cel_ne (cel_ne (cel_ne (cel_ne (cel_ne (cel_ne (cel_ne (cel_ne (cel_ne (cel_ne (cel_ne (cel_ne (cel_self (Nat.lt_of_lt_of_le hc0.1 (by omega))) (by omega)) (by omega)) (by omega)) (by omega)) (by omega)) (by omega)) (by omega)) (by omega)) (by omega)) (by omega)) (by omega)) (by omega)) (by omega)) (by omega)) (by omega)) (by omega)) (by omega)) (by omega)) (by omega)) (by omega)) (by omega)) (by omega)) rfl (by decide +kernel) tyX3 tyX3_ok nmX3 10 (by decide) (by decide +kernel) rfl rfl hnm rfl (by decide +kernel) rfl rfl (Nat.le_of_ble_eq_true rfl) dX3_init_84 ?_
  refine x_v (w := (va_up (va_up (va_up (va_up (va_up (va_up (va_up (va_up (va_up (va_up (va_up (va_up (va_up (va_up (va_up (va_up (va_up (va_up (va_up (va_up (va_up (va_up (va_up v c (.inr (3, [.int (zI 0), .int (zI 0), .int (zI 1), .ref (B + (c + 1)), .ref (B + (c + 2)), .int (zI 0), .ref (B + (c + 3)), .int (zI 0), .ref (B + (c + 4)), .ref (B + (c + 13)), .ref (B + (c + 18))]))) (c + 1) (iarr E 48 (fun _ => 0))) (c + 2) (barr E 48 (fun _ => 0))) (c + 3) (rarr E 5 5 B (fun _ => none))) (c + 4) (rarr E 6 8 B (ouA c))) (c + 5) (iarr E 7 (fun _ => (0 : Int)))) (c + 6) (iarr E 7 (fun _ => (0 : Int)))) (c + 7) (iarr E 7 (fun _ => (0 : Int)))) (c + 8) (iarr E 7 (fun _ => (0 : Int)))) (c + 9) (iarr E 7 (fun _ => (0 : Int)))) (c + 10) (iarr E 7 (fun _ => (0 : Int)))) (c + 11) (iarr E 7 (fun _ => (0 : Int)))) (c + 12) (iarr E 7 (fun _ => (0 : Int)))) (c + 13) (.inr (4, [.ref (B + (c + 14)), .ref (B + (c + 15)), .int (zI 0), .ref (B + (c + 16)), .ref (B + (c + 17))]))) (c + 14) (iarr E 8 (fun _ => (0 : Int)))) (c + 15) (barr E 8 (fun _ => (0 : Int)))) (c + 16) (iarr E 8 (fun _ => (0 : Int)))) (c + 17) (iarr E 8 (fun _ => (0 : Int)))) (c + 18) (.inr (4, [.ref (B + (c + 19)), .ref (B + (c + 20)), .int (zI 0), .ref (B + (c + 21)), .ref (B + (c + 22))]))) (c + 19) (iarr E 8 (fun _ => (0 : Int)))) (c + 20) (barr E 8 (fun _ => (0 : Int)))) (c + 21) (iarr E 8 (fun _ => (0 : Int)))) (c + 22) (iarr E 8 (fun _ => (0 : Int))))) (up_at22 (by omega) (by omega) (by omega) (by omega) (by omega) (by omega) (by omega) (by omega) (by omega) (by omega) (by omega) (by omega) (by omega) (by omega) (by omega) (by omega) (by omega) (by omega) (by omega) (by omega) (by omega) (by omega)).symm ?_
  refine x_vret (pc := 87) K KR (by omega) (Nat.le_of_ble_eq_true rfl) (Nat.le_of_ble_eq_true rfl) dX3_init_87 ?_
  exact ⟨rfl, rfl, rfl⟩

set_option maxRecDepth 100000 in
set_option maxHeartbeats 4000000 in
theorem c_X3_cellsOf {E : XE} {B N : Nat} {v : Nat → va_E} {c d n : Nat} {p s t : Nat → Int} {l : Cor} {ld : Int} (hc0 : Cel N v c (.inr (3, [.int (zI (p 0)), .int (zI (p 1)), .int (zI (p 2)), .ref (B + (c + 1)), .ref (B + (c + 2)), .int (zI (p 3)), .ref (B + (c + 3)), .int (zI (p 4)), .ref (B + (c + 4)), .ref (B + (c + 13)), .ref (B + (c + 18))]))) (hc1 : Cel N v d (.inr (4, [.ref (B + (d + 1)), .ref (B + (d + 2)), .int (zI (n : Int)), .ref (B + (d + 3)), .ref (B + (d + 4))]))) (hc2 : Cel N v (d + 3) (iarr E 8 s)) (hc3 : Cel N v (d + 4) (iarr E 8 t)) (hq0 : SR (p 0) (p 1) l s t) (hq1 : 0 ≤ ld ∧ ld ≤ 1) : gM yX3_cellsOf wsX3_cellsOf ({ frames := 0, cells := 0, slots := 0, locals := 0 }) E B N v [.ref (B + c), .int (zI ld), .ref (B + d)] (po0 N (fun ρ v' => ρ = some (.int (zI (sumA p l ld 0 48))) ∧ v = v')) := by
  refine x_met (nm := "cellsOf") (by decide +kernel) rfl (Nat.le_of_ble_eq_true rfl) rfl (fun Γ K KR hnL hnm => ?_)
  show XW Γ N v [(0, .ref (B + c)), (1, .int (zI ld)), (2, .ref (B + d))] 0 0 0 []
  refine x_iconst (pc := 0) K dX3_cellsOf_0 ?_
  refine x_istore_n (pc := 1) K (L' := [(3, .int (zI 0)), (0, .ref (B + c)), (1, .int (zI ld)), (2, .ref (B + d))]) hnL rfl (by decide) rfl dX3_cellsOf_1 ?_
  refine x_iconst (pc := 2) K dX3_cellsOf_2 ?_
  refine x_istore (pc := 3) K (L' := [(4, .int (zI 0)), (3, .int (zI 0)), (0, .ref (B + c)), (1, .int (zI ld)), (2, .ref (B + d))]) hnL (by decide) rfl dX3_cellsOf_3 ?_
  have LOOP5 : ∀ (n_5 : Nat) (z : Int) (x : Nat), (x ≤ 8) → (z = celF s t ld x) → (8 - x) < n_5 → XW Γ N v [(0, .ref (B + c)), (1, .int (zI ld)), (2, .ref (B + d)), (3, .int (zI z)), (4, .int (zI (x : Int)))] 0 0 5 [] := by
    intro n_5
    induction n_5 with
    | zero =>
      intro z x hi5_0 hi5_1 hm_5
      exfalso; omega
    | succ n_5 ih5 =>
      intro z x hi5_0 hi5_1 hm_5
      have hzr := celF_rng (land := ld) hq0 x hi5_0
      rw [← hi5_1] at hzr
      refine x_iload (pc := 5) 4 K rfl dX3_cellsOf_5 ?_
      refine x_bipush (pc := 7) K (by decide) dX3_cellsOf_7 ?_
      refine x_icmp_ge (pc := 9) (tgt := 45) K (by omega) (by decide) dX3_cellsOf_9 (by decide) (fun h_9 => ?_) (fun h_9 => ?_)
      · skip
        refine x_iload_n (pc := 45) 3 K rfl rfl dX3_cellsOf_45 ?_
        refine x_iret (pc := 46) K KR (by omega) (Nat.le_of_ble_eq_true rfl) (Nat.le_of_ble_eq_true rfl) dX3_cellsOf_46 ?_
        have hx8 : x = 8 := by omega
        rw [hx8] at hi5_1
        exact ⟨rfl, ri (by rw [hi5_1]; exact celF_is hq0 hq1), rfl⟩
      · skip
        have hsx := hq0 x (by omega)
        refine x_iload_n (pc := 12) 3 K rfl rfl dX3_cellsOf_12 ?_
        refine x_iload_n (pc := 13) 1 K rfl rfl dX3_cellsOf_13 ?_
        refine x_if_ne (pc := 14) (tgt := 27) K (by omega) dX3_cellsOf_14 (by decide) (fun h_14 => ?_) (fun h_14 => ?_)
        · skip
          refine x_bipush (pc := 27) K (by decide) dX3_cellsOf_27 ?_
          refine x_aload_n (pc := 29) 2 K rfl rfl dX3_cellsOf_29 ?_
          refine x_get (pc := 30) (C := RX4) (T := TX4) (n := 5) (ci := 4) (idx := 76) (ref := "BorderBeds$Line") (x := .ref (B + (d + 4)))  K hc1 rfl (by decide +kernel) 4 (by decide) (by decide +kernel) rfl rfl dX3_cellsOf_30 ?_
          refine x_iload (pc := 33) 4 K rfl dX3_cellsOf_33 ?_
          refine x_iald (pc := 35) x K hc3 rfl (by omega) (by decide) dX3_cellsOf_35 ?_
          refine x_isub (pc := 36) K dX3_cellsOf_36 ?_
          refine x_iadd (pc := 37) K dX3_cellsOf_37 ?_
          refine x_nm (fun z1 hz1 => ?_)
          refine x_istore_n (pc := 38) K (L' := [(3, .int (zI z1)), (0, .ref (B + c)), (1, .int (zI ld)), (2, .ref (B + d)), (4, .int (zI (x : Int)))]) hnL rfl (by decide) rfl dX3_cellsOf_38 ?_
          refine x_iinc (pc := 39) (L' := [(4, .int (zI ((x : Int) + 1))), (3, .int (zI z1)), (0, .ref (B + c)), (1, .int (zI ld)), (2, .ref (B + d))]) 4 K hnL rfl (by decide) rfl dX3_cellsOf_39 ?_
          refine x_goto (pc := 42) (tgt := 5) K dX3_cellsOf_42 (by decide) ?_
          refine x_sub (L' := [(0, .ref (B + c)), (1, .int (zI ld)), (2, .ref (B + d)), (3, .int (zI z1)), (4, .int (zI ((x : Int) + 1)))]) [2, 3, 4, 1, 0] rfl ?_
          exact ih5 z1 (x + 1) (by omega) (by show _ = celF s t ld x + (if ld = 0 then s x else 6 - t x); rw [← hi5_1]; split <;> omega) (by omega)
        · skip
          refine x_aload_n (pc := 17) 2 K rfl rfl dX3_cellsOf_17 ?_
          refine x_get (pc := 18) (C := RX4) (T := TX4) (n := 5) (ci := 4) (idx := 73) (ref := "BorderBeds$Line") (x := .ref (B + (d + 3)))  K hc1 rfl (by decide +kernel) 3 (by decide) (by decide +kernel) rfl rfl dX3_cellsOf_18 ?_
          refine x_iload (pc := 21) 4 K rfl dX3_cellsOf_21 ?_
          refine x_iald (pc := 23) x K hc2 rfl (by omega) (by decide) dX3_cellsOf_23 ?_
          refine x_goto (pc := 24) (tgt := 37) K dX3_cellsOf_24 (by decide) ?_
          refine x_iadd (pc := 37) K dX3_cellsOf_37 ?_
          refine x_nm (fun z2 hz2 => ?_)
          refine x_istore_n (pc := 38) K (L' := [(3, .int (zI z2)), (0, .ref (B + c)), (1, .int (zI ld)), (2, .ref (B + d)), (4, .int (zI (x : Int)))]) hnL rfl (by decide) rfl dX3_cellsOf_38 ?_
          refine x_iinc (pc := 39) (L' := [(4, .int (zI ((x : Int) + 1))), (3, .int (zI z2)), (0, .ref (B + c)), (1, .int (zI ld)), (2, .ref (B + d))]) 4 K hnL rfl (by decide) rfl dX3_cellsOf_39 ?_
          refine x_goto (pc := 42) (tgt := 5) K dX3_cellsOf_42 (by decide) ?_
          refine x_sub (L' := [(0, .ref (B + c)), (1, .int (zI ld)), (2, .ref (B + d)), (3, .int (zI z2)), (4, .int (zI ((x : Int) + 1)))]) [2, 3, 4, 1, 0] rfl ?_
          exact ih5 z2 (x + 1) (by omega) (by show _ = celF s t ld x + (if ld = 0 then s x else 6 - t x); rw [← hi5_1]; split <;> omega) (by omega)
  refine x_sub (L' := [(0, .ref (B + c)), (1, .int (zI ld)), (2, .ref (B + d)), (3, .int (zI 0)), (4, .int (zI 0))]) [2, 3, 4, 1, 0] rfl ?_
  exact LOOP5 (_) 0 0 (by omega) (by rfl) (Nat.lt_succ_self _)

set_option maxRecDepth 100000 in
set_option maxHeartbeats 4000000 in
theorem c_X3_worthOf {E : XE} {B N : Nat} {v : Nat → va_E} {c d n : Nat} {p s t : Nat → Int} {l : Cor} {ld : Int} (hc0 : Cel N v c (.inr (3, [.int (zI (p 0)), .int (zI (p 1)), .int (zI (p 2)), .ref (B + (c + 1)), .ref (B + (c + 2)), .int (zI (p 3)), .ref (B + (c + 3)), .int (zI (p 4)), .ref (B + (c + 4)), .ref (B + (c + 13)), .ref (B + (c + 18))]))) (hc1 : Cel N v d (.inr (4, [.ref (B + (d + 1)), .ref (B + (d + 2)), .int (zI (n : Int)), .ref (B + (d + 3)), .ref (B + (d + 4))]))) (hc2 : Cel N v (d + 3) (iarr E 8 s)) (hc3 : Cel N v (d + 4) (iarr E 8 t)) (hc4 : Cel N v (c + 4) (rarr E 6 8 B (ouA c))) (hF0 : ∀ x : Nat, x < 8 → Cel N v (c + 5 + x) (iarr E 7 (wbS p x))) (hq0 : SR (p 0) (p 1) l s t) (hq1 : 0 ≤ ld ∧ ld ≤ 1) (hq2 : POk p) : gM yX3_worthOf wsX3_worthOf ({ frames := 0, cells := 0, slots := 0, locals := 0 }) E B N v [.ref (B + c), .int (zI ld), .ref (B + d)] (po0 N (fun ρ v' => ρ = some (.int (zI (sumA p l ld 1 48))) ∧ v = v')) := by
  refine x_met (nm := "worthOf") (by decide +kernel) rfl (Nat.le_of_ble_eq_true rfl) rfl (fun Γ K KR hnL hnm => ?_)
  show XW Γ N v [(0, .ref (B + c)), (1, .int (zI ld)), (2, .ref (B + d))] 0 0 0 []
  refine x_iconst (pc := 0) K dX3_worthOf_0 ?_
  refine x_istore_n (pc := 1) K (L' := [(3, .int (zI 0)), (0, .ref (B + c)), (1, .int (zI ld)), (2, .ref (B + d))]) hnL rfl (by decide) rfl dX3_worthOf_1 ?_
  refine x_iconst (pc := 2) K dX3_worthOf_2 ?_
  refine x_istore (pc := 3) K (L' := [(4, .int (zI 0)), (3, .int (zI 0)), (0, .ref (B + c)), (1, .int (zI ld)), (2, .ref (B + d))]) hnL (by decide) rfl dX3_worthOf_3 ?_
  have LOOP5 : ∀ (n_5 : Nat) (z : Int) (x : Nat), (x ≤ 8) → (z = worF p s t ld x) → (8 - x) < n_5 → XW Γ N v [(0, .ref (B + c)), (1, .int (zI ld)), (2, .ref (B + d)), (3, .int (zI z)), (4, .int (zI (x : Int)))] 0 0 5 [] := by
    intro n_5
    induction n_5 with
    | zero =>
      intro z x hi5_0 hi5_1 hm_5
      exfalso; omega
    | succ n_5 ih5 =>
      intro z x hi5_0 hi5_1 hm_5
      have hzr := worF_rng (land := ld) hq2 hq0 x hi5_0
      rw [← hi5_1] at hzr
      refine x_iload (pc := 5) 4 K rfl dX3_worthOf_5 ?_
      refine x_bipush (pc := 7) K (by decide) dX3_worthOf_7 ?_
      refine x_icmp_ge (pc := 9) (tgt := 63) K (by omega) (by decide) dX3_worthOf_9 (by decide) (fun h_9 => ?_) (fun h_9 => ?_)
      · skip
        refine x_iload_n (pc := 63) 3 K rfl rfl dX3_worthOf_63 ?_
        refine x_iret (pc := 64) K KR (by omega) (Nat.le_of_ble_eq_true rfl) (Nat.le_of_ble_eq_true rfl) dX3_worthOf_64 ?_
        have hx8 : x = 8 := by omega
        rw [hx8] at hi5_1
        exact ⟨rfl, ri (by rw [hi5_1]; exact worF_is hq0 hq1), rfl⟩
      · skip
        have hsx := hq0 x (by omega)
        refine x_aload_n (pc := 12) 0 K rfl rfl dX3_worthOf_12 ?_
        refine x_get (pc := 13) (C := RX3) (T := TX3) (n := 11) (ci := 3) (idx := 43) (ref := "BorderBeds$Ground") (x := .ref (B + (c + 4)))  K hc0 rfl (by decide +kernel) 8 (by decide) (by decide +kernel) rfl rfl dX3_worthOf_13 ?_
        refine x_iload (pc := 16) 4 K rfl dX3_worthOf_16 ?_
        refine x_aald (pc := 18) x K hc4 rfl rfl rfl (by omega) (by decide) dX3_worthOf_18 ?_
        obtain ⟨o, ho⟩ : ∃ o : Nat, o = c + 5 + x := ⟨_, rfl⟩
        have hco : Cel N v o (iarr E 7 (wbS p x)) := by rw [ho]; exact (hF0 x (by omega))
        refine x_st (st' := [.ref (B + o)]) (by rw [rf_some (h := (ouA c)) (j := x) (o := o) (by rw [ouA_at (by omega), ho])]) ?_
        refine x_astore (pc := 19) K (L' := [(5, .ref (B + o)), (0, .ref (B + c)), (1, .int (zI ld)), (2, .ref (B + d)), (3, .int (zI z)), (4, .int (zI (x : Int)))]) hnL (by decide) rfl dX3_worthOf_19 ?_
        refine x_iload_n (pc := 21) 4 K rfl rfl dX3_worthOf_21 ?_
        refine x_iload_n (pc := 22) 2 K rfl rfl dX3_worthOf_22 ?_
        refine x_if_ne (pc := 23) (tgt := 39) K (by omega) dX3_worthOf_23 (by decide) (fun h_23 => ?_) (fun h_23 => ?_)
        · skip
          refine x_aload (pc := 39) 0 K rfl dX3_worthOf_39 ?_
          refine x_bipush (pc := 41) K (by decide) dX3_worthOf_41 ?_
          refine x_iald (pc := 43) 6 K hco rfl (by omega) (by decide) dX3_worthOf_43 ?_
          refine x_aload (pc := 44) 0 K rfl dX3_worthOf_44 ?_
          refine x_aload_n (pc := 46) 3 K rfl rfl dX3_worthOf_46 ?_
          refine x_get (pc := 47) (C := RX4) (T := TX4) (n := 5) (ci := 4) (idx := 76) (ref := "BorderBeds$Line") (x := .ref (B + (d + 4)))  K hc1 rfl (by decide +kernel) 4 (by decide) (by decide +kernel) rfl rfl dX3_worthOf_47 ?_
          refine x_iload (pc := 50) 5 K rfl dX3_worthOf_50 ?_
          refine x_iald (pc := 52) x K hc3 rfl (by omega) (by decide) dX3_worthOf_52 ?_
          refine x_iald (pc := 53) (((t x)).toNat) K hco (by omega) (by omega) (by decide) dX3_worthOf_53 ?_
          refine x_isub (pc := 54) K dX3_worthOf_54 ?_
          refine x_iadd (pc := 55) K dX3_worthOf_55 ?_
          refine x_nm (fun z1 hz1 => ?_)
          refine x_istore_n (pc := 56) K (L' := [(3, .int (zI z1)), (5, .ref (B + o)), (0, .ref (B + c)), (1, .int (zI ld)), (2, .ref (B + d)), (4, .int (zI (x : Int)))]) hnL rfl (by decide) rfl dX3_worthOf_56 ?_
          refine x_iinc (pc := 57) (L' := [(4, .int (zI ((x : Int) + 1))), (3, .int (zI z1)), (5, .ref (B + o)), (0, .ref (B + c)), (1, .int (zI ld)), (2, .ref (B + d))]) 5 K hnL rfl (by decide) rfl dX3_worthOf_57 ?_
          refine x_goto (pc := 60) (tgt := 5) K dX3_worthOf_60 (by decide) ?_
          refine x_sub (L' := [(0, .ref (B + c)), (1, .int (zI ld)), (2, .ref (B + d)), (3, .int (zI z1)), (4, .int (zI ((x : Int) + 1)))]) [3, 4, 5, 1, 0] rfl ?_
          exact ih5 z1 (x + 1) (by omega) (by show _ = worF p s t ld x + (if ld = 0 then wbS p x (s x).toNat else wbS p x 6 - wbS p x (t x).toNat); rw [← hi5_1]; split <;> omega) (by omega)
        · skip
          refine x_aload (pc := 26) 0 K rfl dX3_worthOf_26 ?_
          refine x_aload_n (pc := 28) 3 K rfl rfl dX3_worthOf_28 ?_
          refine x_get (pc := 29) (C := RX4) (T := TX4) (n := 5) (ci := 4) (idx := 73) (ref := "BorderBeds$Line") (x := .ref (B + (d + 3)))  K hc1 rfl (by decide +kernel) 3 (by decide) (by decide +kernel) rfl rfl dX3_worthOf_29 ?_
          refine x_iload (pc := 32) 5 K rfl dX3_worthOf_32 ?_
          refine x_iald (pc := 34) x K hc2 rfl (by omega) (by decide) dX3_worthOf_34 ?_
          refine x_iald (pc := 35) (((s x)).toNat) K hco (by omega) (by omega) (by decide) dX3_worthOf_35 ?_
          refine x_goto (pc := 36) (tgt := 55) K dX3_worthOf_36 (by decide) ?_
          refine x_iadd (pc := 55) K dX3_worthOf_55 ?_
          refine x_nm (fun z2 hz2 => ?_)
          refine x_istore_n (pc := 56) K (L' := [(3, .int (zI z2)), (5, .ref (B + o)), (0, .ref (B + c)), (1, .int (zI ld)), (2, .ref (B + d)), (4, .int (zI (x : Int)))]) hnL rfl (by decide) rfl dX3_worthOf_56 ?_
          refine x_iinc (pc := 57) (L' := [(4, .int (zI ((x : Int) + 1))), (3, .int (zI z2)), (5, .ref (B + o)), (0, .ref (B + c)), (1, .int (zI ld)), (2, .ref (B + d))]) 5 K hnL rfl (by decide) rfl dX3_worthOf_57 ?_
          refine x_goto (pc := 60) (tgt := 5) K dX3_worthOf_60 (by decide) ?_
          refine x_sub (L' := [(0, .ref (B + c)), (1, .int (zI ld)), (2, .ref (B + d)), (3, .int (zI z2)), (4, .int (zI ((x : Int) + 1)))]) [3, 4, 5, 1, 0] rfl ?_
          exact ih5 z2 (x + 1) (by omega) (by show _ = worF p s t ld x + (if ld = 0 then wbS p x (s x).toNat else wbS p x 6 - wbS p x (t x).toNat); rw [← hi5_1]; split <;> omega) (by omega)
  refine x_sub (L' := [(0, .ref (B + c)), (1, .int (zI ld)), (2, .ref (B + d)), (3, .int (zI 0)), (4, .int (zI 0))]) [2, 3, 4, 1, 0] rfl ?_
  exact LOOP5 (_) 0 0 (by omega) (by rfl) (Nat.lt_succ_self _)

set_option maxRecDepth 100000 in
set_option maxHeartbeats 4000000 in
theorem c_X3_leadOf {E : XE} {B N : Nat} {v : Nat → va_E} {c d n : Nat} {p s t : Nat → Int} {l : Cor} {ld : Int} (hc0 : Cel N v c (.inr (3, [.int (zI (p 0)), .int (zI (p 1)), .int (zI (p 2)), .ref (B + (c + 1)), .ref (B + (c + 2)), .int (zI (p 3)), .ref (B + (c + 3)), .int (zI (p 4)), .ref (B + (c + 4)), .ref (B + (c + 13)), .ref (B + (c + 18))]))) (hc1 : Cel N v d (.inr (4, [.ref (B + (d + 1)), .ref (B + (d + 2)), .int (zI (n : Int)), .ref (B + (d + 3)), .ref (B + (d + 4))]))) (hc2 : Cel N v (d + 3) (iarr E 8 s)) (hc3 : Cel N v (d + 4) (iarr E 8 t)) (hc4 : Cel N v (c + 4) (rarr E 6 8 B (ouA c))) (hF0 : ∀ x : Nat, x < 8 → Cel N v (c + 5 + x) (iarr E 7 (wbS p x))) (hq0 : SR (p 0) (p 1) l s t) (hq1 : 0 ≤ ld ∧ ld ≤ 1) (hq2 : POk p) : gM yX3_leadOf wsX3_leadOf ({ frames := 1, cells := 0, slots := 0, locals := 25 }) E B N v [.ref (B + c), .int (zI ld), .ref (B + d)] (po0 N (fun ρ v' => ρ = some (.int (zI (leadA p l ld))) ∧ v = v')) := by
  refine x_met (nm := "leadOf") (by decide +kernel) rfl (Nat.le_of_ble_eq_true rfl) rfl (fun Γ K KR hnL hnm => ?_)
  show XW Γ N v [(0, .ref (B + c)), (1, .int (zI ld)), (2, .ref (B + d))] 0 0 0 []
  refine x_aload_n (pc := 0) 0 K rfl rfl dX3_leadOf_0 ?_
  refine x_iload_n (pc := 1) 1 K rfl rfl dX3_leadOf_1 ?_
  refine x_aload_n (pc := 2) 2 K rfl rfl dX3_leadOf_2 ?_
  refine x_callV (pc := 3) (C := RX3) (T := TX3) (n := 11) (ci := 3) (As := [.int (zI ld), .ref (B + d)]) K (c_X3_worthOf (E := E) (B := B) (N := N) (l := l)  hc0 hc1 hc2 hc3 hc4 (fun x hx => (hF0 x hx)) hq0 (by omega) hq2) gX3_leadOf_X3_worthOf rfl (na := 2) (by decide +kernel) rfl ⟨(Nat.le_of_ble_eq_true rfl), (Nat.le_of_ble_eq_true rfl)⟩ hc0 rfl (st := []) rfl (Nat.le_of_ble_eq_true rfl) ⟨(Nat.le_of_ble_eq_true rfl), (Nat.le_of_ble_eq_true rfl)⟩ dX3_leadOf_3 (fun r3 N3 w3 hpo3 hN3 => ?_)
  obtain ⟨rfl, rfl, rfl⟩ := hpo3
  refine x_st (st' := [.int (zI (sumA p l ld 1 48))]) rfl ?_
  refine x_aload_n (pc := 6) 0 K rfl rfl dX3_leadOf_6 ?_
  refine x_iconst (pc := 7) K dX3_leadOf_7 ?_
  refine x_iload_n (pc := 8) 1 K rfl rfl dX3_leadOf_8 ?_
  refine x_isub (pc := 9) K dX3_leadOf_9 ?_
  refine x_aload_n (pc := 10) 2 K rfl rfl dX3_leadOf_10 ?_
  refine x_callV (pc := 11) (C := RX3) (T := TX3) (n := 11) (ci := 3) (As := [.int (zI (1 - ld)), .ref (B + d)]) K (c_X3_worthOf (E := E) (B := B) (N := N) (l := l)  hc0 hc1 hc2 hc3 hc4 (fun x hx => (hF0 x hx)) hq0 (by omega) hq2) gX3_leadOf_X3_worthOf rfl (na := 2) (by decide +kernel) rfl ⟨(Nat.le_of_ble_eq_true rfl), (Nat.le_of_ble_eq_true rfl)⟩ hc0 rfl (st := [.int (zI (sumA p l ld 1 48))]) rfl (Nat.le_of_ble_eq_true rfl) ⟨(Nat.le_of_ble_eq_true rfl), (Nat.le_of_ble_eq_true rfl)⟩ dX3_leadOf_11 (fun r11 N11 w11 hpo11 hN11 => ?_)
  obtain ⟨rfl, rfl, rfl⟩ := hpo11
  refine x_st (st' := [.int (zI (sumA p l (1 - ld) 1 48)), .int (zI (sumA p l ld 1 48))]) rfl ?_
  refine x_isub (pc := 14) K dX3_leadOf_14 ?_
  refine x_iret (pc := 15) K KR (by omega) (Nat.le_of_ble_eq_true rfl) (Nat.le_of_ble_eq_true rfl) dX3_leadOf_15 ?_
  exact ⟨rfl, rfl, rfl⟩

set_option maxRecDepth 100000 in
set_option maxHeartbeats 4000000 in
theorem c_mayCross_1 {E : XE} {B N : Nat} {v : Nat → va_E} {c d n o who cell : Nat} {p s t : Nat → Int} {l : Cor} {cell_i : Int} (ha_cell : cell_i = (cell : Int)) (hc0 : Cel N v c (.inr (3, [.int (zI (p 0)), .int (zI (p 1)), .int (zI (p 2)), .ref (B + (c + 1)), .ref (B + (c + 2)), .int (zI (p 3)), .ref (B + (c + 3)), .int (zI (p 4)), .ref (B + (c + 4)), .ref (B + (c + 13)), .ref (B + (c + 18))]))) (hc1 : Cel N v d (.inr (4, [.ref (B + (d + 1)), .ref (B + (d + 2)), .int (zI (n : Int)), .ref (B + (d + 3)), .ref (B + (d + 4))]))) (hc2 : Cel N v (d + 3) (iarr E 8 s)) (hc3 : Cel N v (d + 4) (iarr E 8 t)) (hc4 : Cel N v (c + 2) (barr E 48 (gA p))) (hc5 : Cel N v o (.inr (0, [.int (zI (who : Int)), .int (zI (p (10 + who))), .int (zI (p (15 + who))), .int (zI (p (20 + who)))]))) (hq0 : SR (p 0) (p 1) l s t) (hq1 : POk p) (hq2 : who < 5) (hq3 : cell ≤ 47) (hq4 : p (5 + who) = 1) : gM yX3_mayCross wsX3_mayCross ({ frames := 1, cells := 0, slots := 0, locals := 23 }) E B N v [.ref (B + c), .ref (B + o), .int (zI cell_i), .ref (B + d)] (po0 N (fun ρ v' => ρ = some (.int (zI (mayI p l who cell))) ∧ v = v')) := by
  subst ha_cell
  refine x_met (nm := "mayCross") (by decide +kernel) rfl (Nat.le_of_ble_eq_true rfl) rfl (fun Γ K KR hnL hnm => ?_)
  show XW Γ N v [(0, .ref (B + c)), (1, .ref (B + o)), (2, .int (zI (cell : Int))), (3, .ref (B + d))] 0 0 0 []
  have hw := (hq1.2.2.2.2.2.1 who hq2)
  have hg := (hq1.2.2.2.2.2.2 cell (by omega)).1
  have hwr := whoseA_rng (p 0) (p 1) l cell
  refine x_iload_n (pc := 0) 2 K rfl rfl dX3_mayCross_0 ?_
  refine x_bipush (pc := 1) K (by decide) dX3_mayCross_1 ?_
  refine x_irem (pc := 3) K (by omega) (by omega) dX3_mayCross_3 ?_
  refine x_aload_n (pc := 4) 1 K rfl rfl dX3_mayCross_4 ?_
  refine x_get (pc := 5) (C := RX0) (T := TX0) (n := 4) (ci := 0) (idx := 83) (ref := "BorderBeds$Person") (x := .int (zI (p (15 + who))))  K hc5 rfl (by decide +kernel) 2 (by decide) (by decide +kernel) rfl rfl dX3_mayCross_5 ?_
  refine x_bipush (pc := 8) K (by decide) dX3_mayCross_8 ?_
  refine x_irem (pc := 10) K (by omega) (by omega) dX3_mayCross_10 ?_
  refine x_isub (pc := 11) K dX3_mayCross_11 ?_
  refine x_mabs (pc := 12) (idx := 86) K (by decide +kernel) (by decide +kernel) (by decide +kernel) (by decide +kernel) (Nat.le_of_ble_eq_true rfl) (Nat.le_of_ble_eq_true rfl) (Nat.le_of_ble_eq_true rfl) (Nat.le_of_ble_eq_true rfl) (by omega) dX3_mayCross_12 ?_
  refine x_iload_n (pc := 15) 2 K rfl rfl dX3_mayCross_15 ?_
  refine x_bipush (pc := 16) K (by decide) dX3_mayCross_16 ?_
  refine x_idiv (pc := 18) K (by omega) (by omega) dX3_mayCross_18 ?_
  refine x_aload_n (pc := 19) 1 K rfl rfl dX3_mayCross_19 ?_
  refine x_get (pc := 20) (C := RX0) (T := TX0) (n := 4) (ci := 0) (idx := 83) (ref := "BorderBeds$Person") (x := .int (zI (p (15 + who))))  K hc5 rfl (by decide +kernel) 2 (by decide) (by decide +kernel) rfl rfl dX3_mayCross_20 ?_
  refine x_bipush (pc := 23) K (by decide) dX3_mayCross_23 ?_
  refine x_idiv (pc := 25) K (by omega) (by omega) dX3_mayCross_25 ?_
  refine x_isub (pc := 26) K dX3_mayCross_26 ?_
  refine x_mabs (pc := 27) (idx := 86) K (by decide +kernel) (by decide +kernel) (by decide +kernel) (by decide +kernel) (Nat.le_of_ble_eq_true rfl) (Nat.le_of_ble_eq_true rfl) (Nat.le_of_ble_eq_true rfl) (Nat.le_of_ble_eq_true rfl) (by omega) dX3_mayCross_27 ?_
  refine x_iadd (pc := 30) K dX3_mayCross_30 ?_
  refine x_nm (fun z1 hz1 => ?_)
  refine x_istore (pc := 31) K (L' := [(4, .int (zI z1)), (0, .ref (B + c)), (1, .ref (B + o)), (2, .int (zI (cell : Int))), (3, .ref (B + d))]) hnL (by decide) rfl dX3_mayCross_31 ?_
  refine x_aload_n (pc := 33) 1 K rfl rfl dX3_mayCross_33 ?_
  refine x_get (pc := 34) (C := RX3) (T := TX3) (n := 11) (ci := 3) (idx := 25) (ref := "BorderBeds$Ground") (x := .ref (B + (c + 2)))  K hc0 rfl (by decide +kernel) 4 (by decide) (by decide +kernel) rfl rfl dX3_mayCross_34 ?_
  refine x_iload_n (pc := 37) 3 K rfl rfl dX3_mayCross_37 ?_
  refine x_zald (pc := 38) cell K hc4 rfl (by omega) (by decide) dX3_mayCross_38 ?_
  have e38 := gA_at (p := p) (show cell < 48 by omega)
  refine x_if_ne (pc := 39) (tgt := 67) K (by omega) dX3_mayCross_39 (by decide) (fun h_39 => ?_) (fun h_39 => ?_)
  · skip
    refine x_iconst (pc := 67) K dX3_mayCross_67 ?_
    refine x_zret (pc := 68) K KR (by omega) (Nat.le_of_ble_eq_true rfl) (Nat.le_of_ble_eq_true rfl) rfl dX3_mayCross_68 ?_
    have hnear : nearA p who cell ↔ z1 ≤ p (20 + who) := by unfold nearA; rw [hq4]; rw [if_neg (by decide)]; omega
    exact ⟨rfl, ri ((mayI_0 (fun q => by have q1 := hnear.mp q.1.1; have q2 := q.1.2; have q3 := q.2; omega)).symm), rfl⟩
  · skip
    refine x_iload (pc := 42) 0 K rfl dX3_mayCross_42 ?_
    refine x_aload_n (pc := 44) 2 K rfl rfl dX3_mayCross_44 ?_
    refine x_callU (pc := 45) (C := RX0) (T := TX0) (n := 4) (ci := 0) (As := []) (owner := "BorderBeds$Person") (x := ⟨"BorderBeds$Person", "reach", "()I"⟩) K (c_X6_reach_X0 (E := E) (B := B) (N := N)   hc5 ) gX3_mayCross_X6_reach_u92X0 rfl rfl (na := 0) (by decide +kernel) rfl ⟨(Nat.le_of_ble_eq_true rfl), (Nat.le_of_ble_eq_true rfl)⟩ hc5 rfl (st := [.int (zI z1)]) rfl (Nat.le_of_ble_eq_true rfl) ⟨(Nat.le_of_ble_eq_true rfl), (Nat.le_of_ble_eq_true rfl)⟩ dX3_mayCross_45 (fun r45 N45 w45 hpo45 hN45 => ?_)
    obtain ⟨rfl, rfl, rfl⟩ := hpo45
    refine x_st (st' := [.int (zI (p (20 + who))), .int (zI z1)]) rfl ?_
    refine x_icmp_gt (pc := 48) (tgt := 67) K (by omega) (by omega) dX3_mayCross_48 (by decide) (fun h_48 => ?_) (fun h_48 => ?_)
    · skip
      refine x_iconst (pc := 67) K dX3_mayCross_67 ?_
      refine x_zret (pc := 68) K KR (by omega) (Nat.le_of_ble_eq_true rfl) (Nat.le_of_ble_eq_true rfl) rfl dX3_mayCross_68 ?_
      have hnear : nearA p who cell ↔ z1 ≤ p (20 + who) := by unfold nearA; rw [hq4]; rw [if_neg (by decide)]; omega
      exact ⟨rfl, ri ((mayI_0 (fun q => by have q1 := hnear.mp q.1.1; have q2 := q.1.2; have q3 := q.2; omega)).symm), rfl⟩
    · skip
      refine x_aload_n (pc := 51) 4 K rfl rfl dX3_mayCross_51 ?_
      refine x_iload_n (pc := 52) 3 K rfl rfl dX3_mayCross_52 ?_
      refine x_callV (pc := 53) (C := RX4) (T := TX4) (n := 5) (ci := 4) (As := [.int (zI (cell : Int))]) K (c_X4_ownerOf (E := E) (B := B) (N := N) (w := (p 0)) (e := (p 1)) (l := l) (cell := cell) rfl hc1 hc2 hc3 hq0 (by omega)) gX3_mayCross_X4_ownerOf rfl (na := 1) (by decide +kernel) rfl ⟨(Nat.le_of_ble_eq_true rfl), (Nat.le_of_ble_eq_true rfl)⟩ hc1 rfl (st := []) rfl (Nat.le_of_ble_eq_true rfl) ⟨(Nat.le_of_ble_eq_true rfl), (Nat.le_of_ble_eq_true rfl)⟩ dX3_mayCross_53 (fun r53 N53 w53 hpo53 hN53 => ?_)
      obtain ⟨rfl, rfl, rfl⟩ := hpo53
      refine x_st (st' := [.int (zI (whoseA (p 0) (p 1) l cell))]) rfl ?_
      have hrg53 := whoseA_rng (p 0) (p 1) l cell
      refine x_aload_n (pc := 56) 2 K rfl rfl dX3_mayCross_56 ?_
      refine x_get (pc := 57) (C := RX0) (T := TX0) (n := 4) (ci := 0) (idx := 99) (ref := "BorderBeds$Person") (x := .int (zI (p (10 + who))))  K hc5 rfl (by decide +kernel) 1 (by decide) (by decide +kernel) rfl rfl dX3_mayCross_57 ?_
      refine x_icmp_eq (pc := 60) (tgt := 67) K (by omega) (by omega) dX3_mayCross_60 (by decide) (fun h_60 => ?_) (fun h_60 => ?_)
      · skip
        refine x_iconst (pc := 67) K dX3_mayCross_67 ?_
        refine x_zret (pc := 68) K KR (by omega) (Nat.le_of_ble_eq_true rfl) (Nat.le_of_ble_eq_true rfl) rfl dX3_mayCross_68 ?_
        have hnear : nearA p who cell ↔ z1 ≤ p (20 + who) := by unfold nearA; rw [hq4]; rw [if_neg (by decide)]; omega
        exact ⟨rfl, ri ((mayI_0 (fun q => by have q1 := hnear.mp q.1.1; have q2 := q.1.2; have q3 := q.2; omega)).symm), rfl⟩
      · skip
        refine x_iconst (pc := 63) K dX3_mayCross_63 ?_
        refine x_goto (pc := 64) (tgt := 68) K dX3_mayCross_64 (by decide) ?_
        refine x_zret (pc := 68) K KR (by omega) (Nat.le_of_ble_eq_true rfl) (Nat.le_of_ble_eq_true rfl) rfl dX3_mayCross_68 ?_
        have hnear : nearA p who cell ↔ z1 ≤ p (20 + who) := by unfold nearA; rw [hq4]; rw [if_neg (by decide)]; omega
        exact ⟨rfl, ri ((mayI_1 ⟨⟨hnear.mpr (by omega), by omega⟩, by omega⟩).symm), rfl⟩

set_option maxRecDepth 100000 in
set_option maxHeartbeats 4000000 in
theorem c_mayCross_2 {E : XE} {B N : Nat} {v : Nat → va_E} {c d n o who cell : Nat} {p s t : Nat → Int} {l : Cor} {cell_i : Int} (ha_cell : cell_i = (cell : Int)) (hc0 : Cel N v c (.inr (3, [.int (zI (p 0)), .int (zI (p 1)), .int (zI (p 2)), .ref (B + (c + 1)), .ref (B + (c + 2)), .int (zI (p 3)), .ref (B + (c + 3)), .int (zI (p 4)), .ref (B + (c + 4)), .ref (B + (c + 13)), .ref (B + (c + 18))]))) (hc1 : Cel N v d (.inr (4, [.ref (B + (d + 1)), .ref (B + (d + 2)), .int (zI (n : Int)), .ref (B + (d + 3)), .ref (B + (d + 4))]))) (hc2 : Cel N v (d + 3) (iarr E 8 s)) (hc3 : Cel N v (d + 4) (iarr E 8 t)) (hc4 : Cel N v (c + 2) (barr E 48 (gA p))) (hc5 : Cel N v o (.inr (2, [.int (zI (who : Int)), .int (zI (p (10 + who))), .int (zI (p (15 + who))), .int (zI (p (20 + who)))]))) (hq0 : SR (p 0) (p 1) l s t) (hq1 : POk p) (hq2 : who < 5) (hq3 : cell ≤ 47) (hq4 : p (5 + who) = 2) : gM yX3_mayCross wsX3_mayCross ({ frames := 1, cells := 0, slots := 0, locals := 23 }) E B N v [.ref (B + c), .ref (B + o), .int (zI cell_i), .ref (B + d)] (po0 N (fun ρ v' => ρ = some (.int (zI (mayI p l who cell))) ∧ v = v')) := by
  subst ha_cell
  refine x_met (nm := "mayCross") (by decide +kernel) rfl (Nat.le_of_ble_eq_true rfl) rfl (fun Γ K KR hnL hnm => ?_)
  show XW Γ N v [(0, .ref (B + c)), (1, .ref (B + o)), (2, .int (zI (cell : Int))), (3, .ref (B + d))] 0 0 0 []
  have hw := (hq1.2.2.2.2.2.1 who hq2)
  have hg := (hq1.2.2.2.2.2.2 cell (by omega)).1
  have hwr := whoseA_rng (p 0) (p 1) l cell
  refine x_iload_n (pc := 0) 2 K rfl rfl dX3_mayCross_0 ?_
  refine x_bipush (pc := 1) K (by decide) dX3_mayCross_1 ?_
  refine x_irem (pc := 3) K (by omega) (by omega) dX3_mayCross_3 ?_
  refine x_aload_n (pc := 4) 1 K rfl rfl dX3_mayCross_4 ?_
  refine x_get (pc := 5) (C := RX2) (T := TX2) (n := 4) (ci := 2) (idx := 83) (ref := "BorderBeds$Person") (x := .int (zI (p (15 + who))))  K hc5 rfl (by decide +kernel) 2 (by decide) (by decide +kernel) rfl rfl dX3_mayCross_5 ?_
  refine x_bipush (pc := 8) K (by decide) dX3_mayCross_8 ?_
  refine x_irem (pc := 10) K (by omega) (by omega) dX3_mayCross_10 ?_
  refine x_isub (pc := 11) K dX3_mayCross_11 ?_
  refine x_mabs (pc := 12) (idx := 86) K (by decide +kernel) (by decide +kernel) (by decide +kernel) (by decide +kernel) (Nat.le_of_ble_eq_true rfl) (Nat.le_of_ble_eq_true rfl) (Nat.le_of_ble_eq_true rfl) (Nat.le_of_ble_eq_true rfl) (by omega) dX3_mayCross_12 ?_
  refine x_iload_n (pc := 15) 2 K rfl rfl dX3_mayCross_15 ?_
  refine x_bipush (pc := 16) K (by decide) dX3_mayCross_16 ?_
  refine x_idiv (pc := 18) K (by omega) (by omega) dX3_mayCross_18 ?_
  refine x_aload_n (pc := 19) 1 K rfl rfl dX3_mayCross_19 ?_
  refine x_get (pc := 20) (C := RX2) (T := TX2) (n := 4) (ci := 2) (idx := 83) (ref := "BorderBeds$Person") (x := .int (zI (p (15 + who))))  K hc5 rfl (by decide +kernel) 2 (by decide) (by decide +kernel) rfl rfl dX3_mayCross_20 ?_
  refine x_bipush (pc := 23) K (by decide) dX3_mayCross_23 ?_
  refine x_idiv (pc := 25) K (by omega) (by omega) dX3_mayCross_25 ?_
  refine x_isub (pc := 26) K dX3_mayCross_26 ?_
  refine x_mabs (pc := 27) (idx := 86) K (by decide +kernel) (by decide +kernel) (by decide +kernel) (by decide +kernel) (Nat.le_of_ble_eq_true rfl) (Nat.le_of_ble_eq_true rfl) (Nat.le_of_ble_eq_true rfl) (Nat.le_of_ble_eq_true rfl) (by omega) dX3_mayCross_27 ?_
  refine x_iadd (pc := 30) K dX3_mayCross_30 ?_
  refine x_nm (fun z1 hz1 => ?_)
  refine x_istore (pc := 31) K (L' := [(4, .int (zI z1)), (0, .ref (B + c)), (1, .ref (B + o)), (2, .int (zI (cell : Int))), (3, .ref (B + d))]) hnL (by decide) rfl dX3_mayCross_31 ?_
  refine x_aload_n (pc := 33) 1 K rfl rfl dX3_mayCross_33 ?_
  refine x_get (pc := 34) (C := RX3) (T := TX3) (n := 11) (ci := 3) (idx := 25) (ref := "BorderBeds$Ground") (x := .ref (B + (c + 2)))  K hc0 rfl (by decide +kernel) 4 (by decide) (by decide +kernel) rfl rfl dX3_mayCross_34 ?_
  refine x_iload_n (pc := 37) 3 K rfl rfl dX3_mayCross_37 ?_
  refine x_zald (pc := 38) cell K hc4 rfl (by omega) (by decide) dX3_mayCross_38 ?_
  have e38 := gA_at (p := p) (show cell < 48 by omega)
  refine x_if_ne (pc := 39) (tgt := 67) K (by omega) dX3_mayCross_39 (by decide) (fun h_39 => ?_) (fun h_39 => ?_)
  · skip
    refine x_iconst (pc := 67) K dX3_mayCross_67 ?_
    refine x_zret (pc := 68) K KR (by omega) (Nat.le_of_ble_eq_true rfl) (Nat.le_of_ble_eq_true rfl) rfl dX3_mayCross_68 ?_
    have hnear : nearA p who cell ↔ z1 ≤ 2 * p (20 + who) := by unfold nearA; rw [hq4]; rw [if_pos rfl]; omega
    exact ⟨rfl, ri ((mayI_0 (fun q => by have q1 := hnear.mp q.1.1; have q2 := q.1.2; have q3 := q.2; omega)).symm), rfl⟩
  · skip
    refine x_iload (pc := 42) 0 K rfl dX3_mayCross_42 ?_
    refine x_aload_n (pc := 44) 2 K rfl rfl dX3_mayCross_44 ?_
    refine x_callO (pc := 45) (C := RX2) (T := TX2) (n := 4) (ci := 2) (As := []) (owner := "BorderBeds$Person") (x := ⟨"BorderBeds$Person", "reach", "()I"⟩) (b0 := cX6_reach) (m0 := 1) (r0 := (some .int)) K (c_X2_reach_X2 (E := E) (B := B) (N := N)   hc5 ) gX3_mayCross_X2_reach_u92X2 rfl (by decide +kernel) (na := 0) (by decide +kernel) rfl ⟨(Nat.le_of_ble_eq_true rfl), (Nat.le_of_ble_eq_true rfl)⟩ hc5 rfl (st := [.int (zI z1)]) rfl (Nat.le_of_ble_eq_true rfl) ⟨(Nat.le_of_ble_eq_true rfl), (Nat.le_of_ble_eq_true rfl)⟩ dX3_mayCross_45 (fun r45 N45 w45 hpo45 hN45 => ?_)
    obtain ⟨rfl, rfl, rfl⟩ := hpo45
    refine x_st (st' := [.int (zI (2 * (p (20 + who)))), .int (zI z1)]) rfl ?_
    refine x_icmp_gt (pc := 48) (tgt := 67) K (by omega) (by omega) dX3_mayCross_48 (by decide) (fun h_48 => ?_) (fun h_48 => ?_)
    · skip
      refine x_iconst (pc := 67) K dX3_mayCross_67 ?_
      refine x_zret (pc := 68) K KR (by omega) (Nat.le_of_ble_eq_true rfl) (Nat.le_of_ble_eq_true rfl) rfl dX3_mayCross_68 ?_
      have hnear : nearA p who cell ↔ z1 ≤ 2 * p (20 + who) := by unfold nearA; rw [hq4]; rw [if_pos rfl]; omega
      exact ⟨rfl, ri ((mayI_0 (fun q => by have q1 := hnear.mp q.1.1; have q2 := q.1.2; have q3 := q.2; omega)).symm), rfl⟩
    · skip
      refine x_aload_n (pc := 51) 4 K rfl rfl dX3_mayCross_51 ?_
      refine x_iload_n (pc := 52) 3 K rfl rfl dX3_mayCross_52 ?_
      refine x_callV (pc := 53) (C := RX4) (T := TX4) (n := 5) (ci := 4) (As := [.int (zI (cell : Int))]) K (c_X4_ownerOf (E := E) (B := B) (N := N) (w := (p 0)) (e := (p 1)) (l := l) (cell := cell) rfl hc1 hc2 hc3 hq0 (by omega)) gX3_mayCross_X4_ownerOf rfl (na := 1) (by decide +kernel) rfl ⟨(Nat.le_of_ble_eq_true rfl), (Nat.le_of_ble_eq_true rfl)⟩ hc1 rfl (st := []) rfl (Nat.le_of_ble_eq_true rfl) ⟨(Nat.le_of_ble_eq_true rfl), (Nat.le_of_ble_eq_true rfl)⟩ dX3_mayCross_53 (fun r53 N53 w53 hpo53 hN53 => ?_)
      obtain ⟨rfl, rfl, rfl⟩ := hpo53
      refine x_st (st' := [.int (zI (whoseA (p 0) (p 1) l cell))]) rfl ?_
      have hrg53 := whoseA_rng (p 0) (p 1) l cell
      refine x_aload_n (pc := 56) 2 K rfl rfl dX3_mayCross_56 ?_
      refine x_get (pc := 57) (C := RX2) (T := TX2) (n := 4) (ci := 2) (idx := 99) (ref := "BorderBeds$Person") (x := .int (zI (p (10 + who))))  K hc5 rfl (by decide +kernel) 1 (by decide) (by decide +kernel) rfl rfl dX3_mayCross_57 ?_
      refine x_icmp_eq (pc := 60) (tgt := 67) K (by omega) (by omega) dX3_mayCross_60 (by decide) (fun h_60 => ?_) (fun h_60 => ?_)
      · skip
        refine x_iconst (pc := 67) K dX3_mayCross_67 ?_
        refine x_zret (pc := 68) K KR (by omega) (Nat.le_of_ble_eq_true rfl) (Nat.le_of_ble_eq_true rfl) rfl dX3_mayCross_68 ?_
        have hnear : nearA p who cell ↔ z1 ≤ 2 * p (20 + who) := by unfold nearA; rw [hq4]; rw [if_pos rfl]; omega
        exact ⟨rfl, ri ((mayI_0 (fun q => by have q1 := hnear.mp q.1.1; have q2 := q.1.2; have q3 := q.2; omega)).symm), rfl⟩
      · skip
        refine x_iconst (pc := 63) K dX3_mayCross_63 ?_
        refine x_goto (pc := 64) (tgt := 68) K dX3_mayCross_64 (by decide) ?_
        refine x_zret (pc := 68) K KR (by omega) (Nat.le_of_ble_eq_true rfl) (Nat.le_of_ble_eq_true rfl) rfl dX3_mayCross_68 ?_
        have hnear : nearA p who cell ↔ z1 ≤ 2 * p (20 + who) := by unfold nearA; rw [hq4]; rw [if_pos rfl]; omega
        exact ⟨rfl, ri ((mayI_1 ⟨⟨hnear.mpr (by omega), by omega⟩, by omega⟩).symm), rfl⟩

set_option maxRecDepth 100000 in
set_option maxHeartbeats 4000000 in
theorem c_mayCross_3 {E : XE} {B N : Nat} {v : Nat → va_E} {c d n o who cell : Nat} {p s t : Nat → Int} {l : Cor} {cell_i : Int} (ha_cell : cell_i = (cell : Int)) (hc0 : Cel N v c (.inr (3, [.int (zI (p 0)), .int (zI (p 1)), .int (zI (p 2)), .ref (B + (c + 1)), .ref (B + (c + 2)), .int (zI (p 3)), .ref (B + (c + 3)), .int (zI (p 4)), .ref (B + (c + 4)), .ref (B + (c + 13)), .ref (B + (c + 18))]))) (hc1 : Cel N v d (.inr (4, [.ref (B + (d + 1)), .ref (B + (d + 2)), .int (zI (n : Int)), .ref (B + (d + 3)), .ref (B + (d + 4))]))) (hc2 : Cel N v (d + 3) (iarr E 8 s)) (hc3 : Cel N v (d + 4) (iarr E 8 t)) (hc4 : Cel N v (c + 2) (barr E 48 (gA p))) (hc5 : Cel N v o (.inr (9, [.int (zI (who : Int)), .int (zI (p (10 + who))), .int (zI (p (15 + who))), .int (zI (p (20 + who)))]))) (hq0 : SR (p 0) (p 1) l s t) (hq1 : POk p) (hq2 : who < 5) (hq3 : cell ≤ 47) (hq4 : p (5 + who) = 3) : gM yX3_mayCross wsX3_mayCross ({ frames := 1, cells := 0, slots := 0, locals := 23 }) E B N v [.ref (B + c), .ref (B + o), .int (zI cell_i), .ref (B + d)] (po0 N (fun ρ v' => ρ = some (.int (zI (mayI p l who cell))) ∧ v = v')) := by
  subst ha_cell
  refine x_met (nm := "mayCross") (by decide +kernel) rfl (Nat.le_of_ble_eq_true rfl) rfl (fun Γ K KR hnL hnm => ?_)
  show XW Γ N v [(0, .ref (B + c)), (1, .ref (B + o)), (2, .int (zI (cell : Int))), (3, .ref (B + d))] 0 0 0 []
  have hw := (hq1.2.2.2.2.2.1 who hq2)
  have hg := (hq1.2.2.2.2.2.2 cell (by omega)).1
  have hwr := whoseA_rng (p 0) (p 1) l cell
  refine x_iload_n (pc := 0) 2 K rfl rfl dX3_mayCross_0 ?_
  refine x_bipush (pc := 1) K (by decide) dX3_mayCross_1 ?_
  refine x_irem (pc := 3) K (by omega) (by omega) dX3_mayCross_3 ?_
  refine x_aload_n (pc := 4) 1 K rfl rfl dX3_mayCross_4 ?_
  refine x_get (pc := 5) (C := RX10) (T := TX10) (n := 4) (ci := 9) (idx := 83) (ref := "BorderBeds$Person") (x := .int (zI (p (15 + who))))  K hc5 rfl (by decide +kernel) 2 (by decide) (by decide +kernel) rfl rfl dX3_mayCross_5 ?_
  refine x_bipush (pc := 8) K (by decide) dX3_mayCross_8 ?_
  refine x_irem (pc := 10) K (by omega) (by omega) dX3_mayCross_10 ?_
  refine x_isub (pc := 11) K dX3_mayCross_11 ?_
  refine x_mabs (pc := 12) (idx := 86) K (by decide +kernel) (by decide +kernel) (by decide +kernel) (by decide +kernel) (Nat.le_of_ble_eq_true rfl) (Nat.le_of_ble_eq_true rfl) (Nat.le_of_ble_eq_true rfl) (Nat.le_of_ble_eq_true rfl) (by omega) dX3_mayCross_12 ?_
  refine x_iload_n (pc := 15) 2 K rfl rfl dX3_mayCross_15 ?_
  refine x_bipush (pc := 16) K (by decide) dX3_mayCross_16 ?_
  refine x_idiv (pc := 18) K (by omega) (by omega) dX3_mayCross_18 ?_
  refine x_aload_n (pc := 19) 1 K rfl rfl dX3_mayCross_19 ?_
  refine x_get (pc := 20) (C := RX10) (T := TX10) (n := 4) (ci := 9) (idx := 83) (ref := "BorderBeds$Person") (x := .int (zI (p (15 + who))))  K hc5 rfl (by decide +kernel) 2 (by decide) (by decide +kernel) rfl rfl dX3_mayCross_20 ?_
  refine x_bipush (pc := 23) K (by decide) dX3_mayCross_23 ?_
  refine x_idiv (pc := 25) K (by omega) (by omega) dX3_mayCross_25 ?_
  refine x_isub (pc := 26) K dX3_mayCross_26 ?_
  refine x_mabs (pc := 27) (idx := 86) K (by decide +kernel) (by decide +kernel) (by decide +kernel) (by decide +kernel) (Nat.le_of_ble_eq_true rfl) (Nat.le_of_ble_eq_true rfl) (Nat.le_of_ble_eq_true rfl) (Nat.le_of_ble_eq_true rfl) (by omega) dX3_mayCross_27 ?_
  refine x_iadd (pc := 30) K dX3_mayCross_30 ?_
  refine x_nm (fun z1 hz1 => ?_)
  refine x_istore (pc := 31) K (L' := [(4, .int (zI z1)), (0, .ref (B + c)), (1, .ref (B + o)), (2, .int (zI (cell : Int))), (3, .ref (B + d))]) hnL (by decide) rfl dX3_mayCross_31 ?_
  refine x_aload_n (pc := 33) 1 K rfl rfl dX3_mayCross_33 ?_
  refine x_get (pc := 34) (C := RX3) (T := TX3) (n := 11) (ci := 3) (idx := 25) (ref := "BorderBeds$Ground") (x := .ref (B + (c + 2)))  K hc0 rfl (by decide +kernel) 4 (by decide) (by decide +kernel) rfl rfl dX3_mayCross_34 ?_
  refine x_iload_n (pc := 37) 3 K rfl rfl dX3_mayCross_37 ?_
  refine x_zald (pc := 38) cell K hc4 rfl (by omega) (by decide) dX3_mayCross_38 ?_
  have e38 := gA_at (p := p) (show cell < 48 by omega)
  refine x_if_ne (pc := 39) (tgt := 67) K (by omega) dX3_mayCross_39 (by decide) (fun h_39 => ?_) (fun h_39 => ?_)
  · skip
    refine x_iconst (pc := 67) K dX3_mayCross_67 ?_
    refine x_zret (pc := 68) K KR (by omega) (Nat.le_of_ble_eq_true rfl) (Nat.le_of_ble_eq_true rfl) rfl dX3_mayCross_68 ?_
    have hnear : nearA p who cell ↔ z1 ≤ p (20 + who) := by unfold nearA; rw [hq4]; rw [if_neg (by decide)]; omega
    exact ⟨rfl, ri ((mayI_0 (fun q => by have q1 := hnear.mp q.1.1; have q2 := q.1.2; have q3 := q.2; omega)).symm), rfl⟩
  · skip
    refine x_iload (pc := 42) 0 K rfl dX3_mayCross_42 ?_
    refine x_aload_n (pc := 44) 2 K rfl rfl dX3_mayCross_44 ?_
    refine x_callU (pc := 45) (C := RX10) (T := TX10) (n := 4) (ci := 9) (As := []) (owner := "BorderBeds$Person") (x := ⟨"BorderBeds$Person", "reach", "()I"⟩) K (c_X6_reach_X10 (E := E) (B := B) (N := N)   hc5 ) gX3_mayCross_X6_reach_u92X10 rfl rfl (na := 0) (by decide +kernel) rfl ⟨(Nat.le_of_ble_eq_true rfl), (Nat.le_of_ble_eq_true rfl)⟩ hc5 rfl (st := [.int (zI z1)]) rfl (Nat.le_of_ble_eq_true rfl) ⟨(Nat.le_of_ble_eq_true rfl), (Nat.le_of_ble_eq_true rfl)⟩ dX3_mayCross_45 (fun r45 N45 w45 hpo45 hN45 => ?_)
    obtain ⟨rfl, rfl, rfl⟩ := hpo45
    refine x_st (st' := [.int (zI (p (20 + who))), .int (zI z1)]) rfl ?_
    refine x_icmp_gt (pc := 48) (tgt := 67) K (by omega) (by omega) dX3_mayCross_48 (by decide) (fun h_48 => ?_) (fun h_48 => ?_)
    · skip
      refine x_iconst (pc := 67) K dX3_mayCross_67 ?_
      refine x_zret (pc := 68) K KR (by omega) (Nat.le_of_ble_eq_true rfl) (Nat.le_of_ble_eq_true rfl) rfl dX3_mayCross_68 ?_
      have hnear : nearA p who cell ↔ z1 ≤ p (20 + who) := by unfold nearA; rw [hq4]; rw [if_neg (by decide)]; omega
      exact ⟨rfl, ri ((mayI_0 (fun q => by have q1 := hnear.mp q.1.1; have q2 := q.1.2; have q3 := q.2; omega)).symm), rfl⟩
    · skip
      refine x_aload_n (pc := 51) 4 K rfl rfl dX3_mayCross_51 ?_
      refine x_iload_n (pc := 52) 3 K rfl rfl dX3_mayCross_52 ?_
      refine x_callV (pc := 53) (C := RX4) (T := TX4) (n := 5) (ci := 4) (As := [.int (zI (cell : Int))]) K (c_X4_ownerOf (E := E) (B := B) (N := N) (w := (p 0)) (e := (p 1)) (l := l) (cell := cell) rfl hc1 hc2 hc3 hq0 (by omega)) gX3_mayCross_X4_ownerOf rfl (na := 1) (by decide +kernel) rfl ⟨(Nat.le_of_ble_eq_true rfl), (Nat.le_of_ble_eq_true rfl)⟩ hc1 rfl (st := []) rfl (Nat.le_of_ble_eq_true rfl) ⟨(Nat.le_of_ble_eq_true rfl), (Nat.le_of_ble_eq_true rfl)⟩ dX3_mayCross_53 (fun r53 N53 w53 hpo53 hN53 => ?_)
      obtain ⟨rfl, rfl, rfl⟩ := hpo53
      refine x_st (st' := [.int (zI (whoseA (p 0) (p 1) l cell))]) rfl ?_
      have hrg53 := whoseA_rng (p 0) (p 1) l cell
      refine x_aload_n (pc := 56) 2 K rfl rfl dX3_mayCross_56 ?_
      refine x_get (pc := 57) (C := RX10) (T := TX10) (n := 4) (ci := 9) (idx := 99) (ref := "BorderBeds$Person") (x := .int (zI (p (10 + who))))  K hc5 rfl (by decide +kernel) 1 (by decide) (by decide +kernel) rfl rfl dX3_mayCross_57 ?_
      refine x_icmp_eq (pc := 60) (tgt := 67) K (by omega) (by omega) dX3_mayCross_60 (by decide) (fun h_60 => ?_) (fun h_60 => ?_)
      · skip
        refine x_iconst (pc := 67) K dX3_mayCross_67 ?_
        refine x_zret (pc := 68) K KR (by omega) (Nat.le_of_ble_eq_true rfl) (Nat.le_of_ble_eq_true rfl) rfl dX3_mayCross_68 ?_
        have hnear : nearA p who cell ↔ z1 ≤ p (20 + who) := by unfold nearA; rw [hq4]; rw [if_neg (by decide)]; omega
        exact ⟨rfl, ri ((mayI_0 (fun q => by have q1 := hnear.mp q.1.1; have q2 := q.1.2; have q3 := q.2; omega)).symm), rfl⟩
      · skip
        refine x_iconst (pc := 63) K dX3_mayCross_63 ?_
        refine x_goto (pc := 64) (tgt := 68) K dX3_mayCross_64 (by decide) ?_
        refine x_zret (pc := 68) K KR (by omega) (Nat.le_of_ble_eq_true rfl) (Nat.le_of_ble_eq_true rfl) rfl dX3_mayCross_68 ?_
        have hnear : nearA p who cell ↔ z1 ≤ p (20 + who) := by unfold nearA; rw [hq4]; rw [if_neg (by decide)]; omega
        exact ⟨rfl, ri ((mayI_1 ⟨⟨hnear.mpr (by omega), by omega⟩, by omega⟩).symm), rfl⟩

set_option maxRecDepth 100000 in
set_option maxHeartbeats 4000000 in
theorem c_mayCross_4 {E : XE} {B N : Nat} {v : Nat → va_E} {c d n o who cell : Nat} {p s t : Nat → Int} {l : Cor} {cell_i : Int} (ha_cell : cell_i = (cell : Int)) (hc0 : Cel N v c (.inr (3, [.int (zI (p 0)), .int (zI (p 1)), .int (zI (p 2)), .ref (B + (c + 1)), .ref (B + (c + 2)), .int (zI (p 3)), .ref (B + (c + 3)), .int (zI (p 4)), .ref (B + (c + 4)), .ref (B + (c + 13)), .ref (B + (c + 18))]))) (hc1 : Cel N v d (.inr (4, [.ref (B + (d + 1)), .ref (B + (d + 2)), .int (zI (n : Int)), .ref (B + (d + 3)), .ref (B + (d + 4))]))) (hc2 : Cel N v (d + 3) (iarr E 8 s)) (hc3 : Cel N v (d + 4) (iarr E 8 t)) (hc4 : Cel N v (c + 2) (barr E 48 (gA p))) (hc5 : Cel N v o (.inr (1, [.int (zI (who : Int)), .int (zI (p (10 + who))), .int (zI (p (15 + who))), .int (zI (p (20 + who)))]))) (hq0 : SR (p 0) (p 1) l s t) (hq1 : POk p) (hq2 : who < 5) (hq3 : cell ≤ 47) (hq4 : p (5 + who) = 4) : gM yX3_mayCross wsX3_mayCross ({ frames := 1, cells := 0, slots := 0, locals := 23 }) E B N v [.ref (B + c), .ref (B + o), .int (zI cell_i), .ref (B + d)] (po0 N (fun ρ v' => ρ = some (.int (zI (mayI p l who cell))) ∧ v = v')) := by
  subst ha_cell
  refine x_met (nm := "mayCross") (by decide +kernel) rfl (Nat.le_of_ble_eq_true rfl) rfl (fun Γ K KR hnL hnm => ?_)
  show XW Γ N v [(0, .ref (B + c)), (1, .ref (B + o)), (2, .int (zI (cell : Int))), (3, .ref (B + d))] 0 0 0 []
  have hw := (hq1.2.2.2.2.2.1 who hq2)
  have hg := (hq1.2.2.2.2.2.2 cell (by omega)).1
  have hwr := whoseA_rng (p 0) (p 1) l cell
  refine x_iload_n (pc := 0) 2 K rfl rfl dX3_mayCross_0 ?_
  refine x_bipush (pc := 1) K (by decide) dX3_mayCross_1 ?_
  refine x_irem (pc := 3) K (by omega) (by omega) dX3_mayCross_3 ?_
  refine x_aload_n (pc := 4) 1 K rfl rfl dX3_mayCross_4 ?_
  refine x_get (pc := 5) (C := RX1) (T := TX1) (n := 4) (ci := 1) (idx := 83) (ref := "BorderBeds$Person") (x := .int (zI (p (15 + who))))  K hc5 rfl (by decide +kernel) 2 (by decide) (by decide +kernel) rfl rfl dX3_mayCross_5 ?_
  refine x_bipush (pc := 8) K (by decide) dX3_mayCross_8 ?_
  refine x_irem (pc := 10) K (by omega) (by omega) dX3_mayCross_10 ?_
  refine x_isub (pc := 11) K dX3_mayCross_11 ?_
  refine x_mabs (pc := 12) (idx := 86) K (by decide +kernel) (by decide +kernel) (by decide +kernel) (by decide +kernel) (Nat.le_of_ble_eq_true rfl) (Nat.le_of_ble_eq_true rfl) (Nat.le_of_ble_eq_true rfl) (Nat.le_of_ble_eq_true rfl) (by omega) dX3_mayCross_12 ?_
  refine x_iload_n (pc := 15) 2 K rfl rfl dX3_mayCross_15 ?_
  refine x_bipush (pc := 16) K (by decide) dX3_mayCross_16 ?_
  refine x_idiv (pc := 18) K (by omega) (by omega) dX3_mayCross_18 ?_
  refine x_aload_n (pc := 19) 1 K rfl rfl dX3_mayCross_19 ?_
  refine x_get (pc := 20) (C := RX1) (T := TX1) (n := 4) (ci := 1) (idx := 83) (ref := "BorderBeds$Person") (x := .int (zI (p (15 + who))))  K hc5 rfl (by decide +kernel) 2 (by decide) (by decide +kernel) rfl rfl dX3_mayCross_20 ?_
  refine x_bipush (pc := 23) K (by decide) dX3_mayCross_23 ?_
  refine x_idiv (pc := 25) K (by omega) (by omega) dX3_mayCross_25 ?_
  refine x_isub (pc := 26) K dX3_mayCross_26 ?_
  refine x_mabs (pc := 27) (idx := 86) K (by decide +kernel) (by decide +kernel) (by decide +kernel) (by decide +kernel) (Nat.le_of_ble_eq_true rfl) (Nat.le_of_ble_eq_true rfl) (Nat.le_of_ble_eq_true rfl) (Nat.le_of_ble_eq_true rfl) (by omega) dX3_mayCross_27 ?_
  refine x_iadd (pc := 30) K dX3_mayCross_30 ?_
  refine x_nm (fun z1 hz1 => ?_)
  refine x_istore (pc := 31) K (L' := [(4, .int (zI z1)), (0, .ref (B + c)), (1, .ref (B + o)), (2, .int (zI (cell : Int))), (3, .ref (B + d))]) hnL (by decide) rfl dX3_mayCross_31 ?_
  refine x_aload_n (pc := 33) 1 K rfl rfl dX3_mayCross_33 ?_
  refine x_get (pc := 34) (C := RX3) (T := TX3) (n := 11) (ci := 3) (idx := 25) (ref := "BorderBeds$Ground") (x := .ref (B + (c + 2)))  K hc0 rfl (by decide +kernel) 4 (by decide) (by decide +kernel) rfl rfl dX3_mayCross_34 ?_
  refine x_iload_n (pc := 37) 3 K rfl rfl dX3_mayCross_37 ?_
  refine x_zald (pc := 38) cell K hc4 rfl (by omega) (by decide) dX3_mayCross_38 ?_
  have e38 := gA_at (p := p) (show cell < 48 by omega)
  refine x_if_ne (pc := 39) (tgt := 67) K (by omega) dX3_mayCross_39 (by decide) (fun h_39 => ?_) (fun h_39 => ?_)
  · skip
    refine x_iconst (pc := 67) K dX3_mayCross_67 ?_
    refine x_zret (pc := 68) K KR (by omega) (Nat.le_of_ble_eq_true rfl) (Nat.le_of_ble_eq_true rfl) rfl dX3_mayCross_68 ?_
    have hnear : nearA p who cell ↔ z1 ≤ p (20 + who) := by unfold nearA; rw [hq4]; rw [if_neg (by decide)]; omega
    exact ⟨rfl, ri ((mayI_0 (fun q => by have q1 := hnear.mp q.1.1; have q2 := q.1.2; have q3 := q.2; omega)).symm), rfl⟩
  · skip
    refine x_iload (pc := 42) 0 K rfl dX3_mayCross_42 ?_
    refine x_aload_n (pc := 44) 2 K rfl rfl dX3_mayCross_44 ?_
    refine x_callU (pc := 45) (C := RX1) (T := TX1) (n := 4) (ci := 1) (As := []) (owner := "BorderBeds$Person") (x := ⟨"BorderBeds$Person", "reach", "()I"⟩) K (c_X6_reach_X1 (E := E) (B := B) (N := N)   hc5 ) gX3_mayCross_X6_reach_u92X1 rfl rfl (na := 0) (by decide +kernel) rfl ⟨(Nat.le_of_ble_eq_true rfl), (Nat.le_of_ble_eq_true rfl)⟩ hc5 rfl (st := [.int (zI z1)]) rfl (Nat.le_of_ble_eq_true rfl) ⟨(Nat.le_of_ble_eq_true rfl), (Nat.le_of_ble_eq_true rfl)⟩ dX3_mayCross_45 (fun r45 N45 w45 hpo45 hN45 => ?_)
    obtain ⟨rfl, rfl, rfl⟩ := hpo45
    refine x_st (st' := [.int (zI (p (20 + who))), .int (zI z1)]) rfl ?_
    refine x_icmp_gt (pc := 48) (tgt := 67) K (by omega) (by omega) dX3_mayCross_48 (by decide) (fun h_48 => ?_) (fun h_48 => ?_)
    · skip
      refine x_iconst (pc := 67) K dX3_mayCross_67 ?_
      refine x_zret (pc := 68) K KR (by omega) (Nat.le_of_ble_eq_true rfl) (Nat.le_of_ble_eq_true rfl) rfl dX3_mayCross_68 ?_
      have hnear : nearA p who cell ↔ z1 ≤ p (20 + who) := by unfold nearA; rw [hq4]; rw [if_neg (by decide)]; omega
      exact ⟨rfl, ri ((mayI_0 (fun q => by have q1 := hnear.mp q.1.1; have q2 := q.1.2; have q3 := q.2; omega)).symm), rfl⟩
    · skip
      refine x_aload_n (pc := 51) 4 K rfl rfl dX3_mayCross_51 ?_
      refine x_iload_n (pc := 52) 3 K rfl rfl dX3_mayCross_52 ?_
      refine x_callV (pc := 53) (C := RX4) (T := TX4) (n := 5) (ci := 4) (As := [.int (zI (cell : Int))]) K (c_X4_ownerOf (E := E) (B := B) (N := N) (w := (p 0)) (e := (p 1)) (l := l) (cell := cell) rfl hc1 hc2 hc3 hq0 (by omega)) gX3_mayCross_X4_ownerOf rfl (na := 1) (by decide +kernel) rfl ⟨(Nat.le_of_ble_eq_true rfl), (Nat.le_of_ble_eq_true rfl)⟩ hc1 rfl (st := []) rfl (Nat.le_of_ble_eq_true rfl) ⟨(Nat.le_of_ble_eq_true rfl), (Nat.le_of_ble_eq_true rfl)⟩ dX3_mayCross_53 (fun r53 N53 w53 hpo53 hN53 => ?_)
      obtain ⟨rfl, rfl, rfl⟩ := hpo53
      refine x_st (st' := [.int (zI (whoseA (p 0) (p 1) l cell))]) rfl ?_
      have hrg53 := whoseA_rng (p 0) (p 1) l cell
      refine x_aload_n (pc := 56) 2 K rfl rfl dX3_mayCross_56 ?_
      refine x_get (pc := 57) (C := RX1) (T := TX1) (n := 4) (ci := 1) (idx := 99) (ref := "BorderBeds$Person") (x := .int (zI (p (10 + who))))  K hc5 rfl (by decide +kernel) 1 (by decide) (by decide +kernel) rfl rfl dX3_mayCross_57 ?_
      refine x_icmp_eq (pc := 60) (tgt := 67) K (by omega) (by omega) dX3_mayCross_60 (by decide) (fun h_60 => ?_) (fun h_60 => ?_)
      · skip
        refine x_iconst (pc := 67) K dX3_mayCross_67 ?_
        refine x_zret (pc := 68) K KR (by omega) (Nat.le_of_ble_eq_true rfl) (Nat.le_of_ble_eq_true rfl) rfl dX3_mayCross_68 ?_
        have hnear : nearA p who cell ↔ z1 ≤ p (20 + who) := by unfold nearA; rw [hq4]; rw [if_neg (by decide)]; omega
        exact ⟨rfl, ri ((mayI_0 (fun q => by have q1 := hnear.mp q.1.1; have q2 := q.1.2; have q3 := q.2; omega)).symm), rfl⟩
      · skip
        refine x_iconst (pc := 63) K dX3_mayCross_63 ?_
        refine x_goto (pc := 64) (tgt := 68) K dX3_mayCross_64 (by decide) ?_
        refine x_zret (pc := 68) K KR (by omega) (Nat.le_of_ble_eq_true rfl) (Nat.le_of_ble_eq_true rfl) rfl dX3_mayCross_68 ?_
        have hnear : nearA p who cell ↔ z1 ≤ p (20 + who) := by unfold nearA; rw [hq4]; rw [if_neg (by decide)]; omega
        exact ⟨rfl, ri ((mayI_1 ⟨⟨hnear.mpr (by omega), by omega⟩, by omega⟩).symm), rfl⟩

set_option maxRecDepth 100000 in
set_option maxHeartbeats 4000000 in
theorem c_mayCross_5 {E : XE} {B N : Nat} {v : Nat → va_E} {c d n o who cell : Nat} {p s t : Nat → Int} {l : Cor} {cell_i : Int} (ha_cell : cell_i = (cell : Int)) (hc0 : Cel N v c (.inr (3, [.int (zI (p 0)), .int (zI (p 1)), .int (zI (p 2)), .ref (B + (c + 1)), .ref (B + (c + 2)), .int (zI (p 3)), .ref (B + (c + 3)), .int (zI (p 4)), .ref (B + (c + 4)), .ref (B + (c + 13)), .ref (B + (c + 18))]))) (hc1 : Cel N v d (.inr (4, [.ref (B + (d + 1)), .ref (B + (d + 2)), .int (zI (n : Int)), .ref (B + (d + 3)), .ref (B + (d + 4))]))) (hc2 : Cel N v (d + 3) (iarr E 8 s)) (hc3 : Cel N v (d + 4) (iarr E 8 t)) (hc4 : Cel N v (c + 2) (barr E 48 (gA p))) (hc5 : Cel N v o (.inr (5, [.int (zI (who : Int)), .int (zI (p (10 + who))), .int (zI (p (15 + who))), .int (zI (p (20 + who)))]))) (hq0 : SR (p 0) (p 1) l s t) (hq1 : POk p) (hq2 : who < 5) (hq3 : cell ≤ 47) (hq4 : p (5 + who) = 5) : gM yX3_mayCross wsX3_mayCross ({ frames := 1, cells := 0, slots := 0, locals := 23 }) E B N v [.ref (B + c), .ref (B + o), .int (zI cell_i), .ref (B + d)] (po0 N (fun ρ v' => ρ = some (.int (zI (mayI p l who cell))) ∧ v = v')) := by
  subst ha_cell
  refine x_met (nm := "mayCross") (by decide +kernel) rfl (Nat.le_of_ble_eq_true rfl) rfl (fun Γ K KR hnL hnm => ?_)
  show XW Γ N v [(0, .ref (B + c)), (1, .ref (B + o)), (2, .int (zI (cell : Int))), (3, .ref (B + d))] 0 0 0 []
  have hw := (hq1.2.2.2.2.2.1 who hq2)
  have hg := (hq1.2.2.2.2.2.2 cell (by omega)).1
  have hwr := whoseA_rng (p 0) (p 1) l cell
  refine x_iload_n (pc := 0) 2 K rfl rfl dX3_mayCross_0 ?_
  refine x_bipush (pc := 1) K (by decide) dX3_mayCross_1 ?_
  refine x_irem (pc := 3) K (by omega) (by omega) dX3_mayCross_3 ?_
  refine x_aload_n (pc := 4) 1 K rfl rfl dX3_mayCross_4 ?_
  refine x_get (pc := 5) (C := RX5) (T := TX5) (n := 4) (ci := 5) (idx := 83) (ref := "BorderBeds$Person") (x := .int (zI (p (15 + who))))  K hc5 rfl (by decide +kernel) 2 (by decide) (by decide +kernel) rfl rfl dX3_mayCross_5 ?_
  refine x_bipush (pc := 8) K (by decide) dX3_mayCross_8 ?_
  refine x_irem (pc := 10) K (by omega) (by omega) dX3_mayCross_10 ?_
  refine x_isub (pc := 11) K dX3_mayCross_11 ?_
  refine x_mabs (pc := 12) (idx := 86) K (by decide +kernel) (by decide +kernel) (by decide +kernel) (by decide +kernel) (Nat.le_of_ble_eq_true rfl) (Nat.le_of_ble_eq_true rfl) (Nat.le_of_ble_eq_true rfl) (Nat.le_of_ble_eq_true rfl) (by omega) dX3_mayCross_12 ?_
  refine x_iload_n (pc := 15) 2 K rfl rfl dX3_mayCross_15 ?_
  refine x_bipush (pc := 16) K (by decide) dX3_mayCross_16 ?_
  refine x_idiv (pc := 18) K (by omega) (by omega) dX3_mayCross_18 ?_
  refine x_aload_n (pc := 19) 1 K rfl rfl dX3_mayCross_19 ?_
  refine x_get (pc := 20) (C := RX5) (T := TX5) (n := 4) (ci := 5) (idx := 83) (ref := "BorderBeds$Person") (x := .int (zI (p (15 + who))))  K hc5 rfl (by decide +kernel) 2 (by decide) (by decide +kernel) rfl rfl dX3_mayCross_20 ?_
  refine x_bipush (pc := 23) K (by decide) dX3_mayCross_23 ?_
  refine x_idiv (pc := 25) K (by omega) (by omega) dX3_mayCross_25 ?_
  refine x_isub (pc := 26) K dX3_mayCross_26 ?_
  refine x_mabs (pc := 27) (idx := 86) K (by decide +kernel) (by decide +kernel) (by decide +kernel) (by decide +kernel) (Nat.le_of_ble_eq_true rfl) (Nat.le_of_ble_eq_true rfl) (Nat.le_of_ble_eq_true rfl) (Nat.le_of_ble_eq_true rfl) (by omega) dX3_mayCross_27 ?_
  refine x_iadd (pc := 30) K dX3_mayCross_30 ?_
  refine x_nm (fun z1 hz1 => ?_)
  refine x_istore (pc := 31) K (L' := [(4, .int (zI z1)), (0, .ref (B + c)), (1, .ref (B + o)), (2, .int (zI (cell : Int))), (3, .ref (B + d))]) hnL (by decide) rfl dX3_mayCross_31 ?_
  refine x_aload_n (pc := 33) 1 K rfl rfl dX3_mayCross_33 ?_
  refine x_get (pc := 34) (C := RX3) (T := TX3) (n := 11) (ci := 3) (idx := 25) (ref := "BorderBeds$Ground") (x := .ref (B + (c + 2)))  K hc0 rfl (by decide +kernel) 4 (by decide) (by decide +kernel) rfl rfl dX3_mayCross_34 ?_
  refine x_iload_n (pc := 37) 3 K rfl rfl dX3_mayCross_37 ?_
  refine x_zald (pc := 38) cell K hc4 rfl (by omega) (by decide) dX3_mayCross_38 ?_
  have e38 := gA_at (p := p) (show cell < 48 by omega)
  refine x_if_ne (pc := 39) (tgt := 67) K (by omega) dX3_mayCross_39 (by decide) (fun h_39 => ?_) (fun h_39 => ?_)
  · skip
    refine x_iconst (pc := 67) K dX3_mayCross_67 ?_
    refine x_zret (pc := 68) K KR (by omega) (Nat.le_of_ble_eq_true rfl) (Nat.le_of_ble_eq_true rfl) rfl dX3_mayCross_68 ?_
    have hnear : nearA p who cell ↔ z1 ≤ p (20 + who) := by unfold nearA; rw [hq4]; rw [if_neg (by decide)]; omega
    exact ⟨rfl, ri ((mayI_0 (fun q => by have q1 := hnear.mp q.1.1; have q2 := q.1.2; have q3 := q.2; omega)).symm), rfl⟩
  · skip
    refine x_iload (pc := 42) 0 K rfl dX3_mayCross_42 ?_
    refine x_aload_n (pc := 44) 2 K rfl rfl dX3_mayCross_44 ?_
    refine x_callU (pc := 45) (C := RX5) (T := TX5) (n := 4) (ci := 5) (As := []) (owner := "BorderBeds$Person") (x := ⟨"BorderBeds$Person", "reach", "()I"⟩) K (c_X6_reach_X5 (E := E) (B := B) (N := N)   hc5 ) gX3_mayCross_X6_reach_u92X5 rfl rfl (na := 0) (by decide +kernel) rfl ⟨(Nat.le_of_ble_eq_true rfl), (Nat.le_of_ble_eq_true rfl)⟩ hc5 rfl (st := [.int (zI z1)]) rfl (Nat.le_of_ble_eq_true rfl) ⟨(Nat.le_of_ble_eq_true rfl), (Nat.le_of_ble_eq_true rfl)⟩ dX3_mayCross_45 (fun r45 N45 w45 hpo45 hN45 => ?_)
    obtain ⟨rfl, rfl, rfl⟩ := hpo45
    refine x_st (st' := [.int (zI (p (20 + who))), .int (zI z1)]) rfl ?_
    refine x_icmp_gt (pc := 48) (tgt := 67) K (by omega) (by omega) dX3_mayCross_48 (by decide) (fun h_48 => ?_) (fun h_48 => ?_)
    · skip
      refine x_iconst (pc := 67) K dX3_mayCross_67 ?_
      refine x_zret (pc := 68) K KR (by omega) (Nat.le_of_ble_eq_true rfl) (Nat.le_of_ble_eq_true rfl) rfl dX3_mayCross_68 ?_
      have hnear : nearA p who cell ↔ z1 ≤ p (20 + who) := by unfold nearA; rw [hq4]; rw [if_neg (by decide)]; omega
      exact ⟨rfl, ri ((mayI_0 (fun q => by have q1 := hnear.mp q.1.1; have q2 := q.1.2; have q3 := q.2; omega)).symm), rfl⟩
    · skip
      refine x_aload_n (pc := 51) 4 K rfl rfl dX3_mayCross_51 ?_
      refine x_iload_n (pc := 52) 3 K rfl rfl dX3_mayCross_52 ?_
      refine x_callV (pc := 53) (C := RX4) (T := TX4) (n := 5) (ci := 4) (As := [.int (zI (cell : Int))]) K (c_X4_ownerOf (E := E) (B := B) (N := N) (w := (p 0)) (e := (p 1)) (l := l) (cell := cell) rfl hc1 hc2 hc3 hq0 (by omega)) gX3_mayCross_X4_ownerOf rfl (na := 1) (by decide +kernel) rfl ⟨(Nat.le_of_ble_eq_true rfl), (Nat.le_of_ble_eq_true rfl)⟩ hc1 rfl (st := []) rfl (Nat.le_of_ble_eq_true rfl) ⟨(Nat.le_of_ble_eq_true rfl), (Nat.le_of_ble_eq_true rfl)⟩ dX3_mayCross_53 (fun r53 N53 w53 hpo53 hN53 => ?_)
      obtain ⟨rfl, rfl, rfl⟩ := hpo53
      refine x_st (st' := [.int (zI (whoseA (p 0) (p 1) l cell))]) rfl ?_
      have hrg53 := whoseA_rng (p 0) (p 1) l cell
      refine x_aload_n (pc := 56) 2 K rfl rfl dX3_mayCross_56 ?_
      refine x_get (pc := 57) (C := RX5) (T := TX5) (n := 4) (ci := 5) (idx := 99) (ref := "BorderBeds$Person") (x := .int (zI (p (10 + who))))  K hc5 rfl (by decide +kernel) 1 (by decide) (by decide +kernel) rfl rfl dX3_mayCross_57 ?_
      refine x_icmp_eq (pc := 60) (tgt := 67) K (by omega) (by omega) dX3_mayCross_60 (by decide) (fun h_60 => ?_) (fun h_60 => ?_)
      · skip
        refine x_iconst (pc := 67) K dX3_mayCross_67 ?_
        refine x_zret (pc := 68) K KR (by omega) (Nat.le_of_ble_eq_true rfl) (Nat.le_of_ble_eq_true rfl) rfl dX3_mayCross_68 ?_
        have hnear : nearA p who cell ↔ z1 ≤ p (20 + who) := by unfold nearA; rw [hq4]; rw [if_neg (by decide)]; omega
        exact ⟨rfl, ri ((mayI_0 (fun q => by have q1 := hnear.mp q.1.1; have q2 := q.1.2; have q3 := q.2; omega)).symm), rfl⟩
      · skip
        refine x_iconst (pc := 63) K dX3_mayCross_63 ?_
        refine x_goto (pc := 64) (tgt := 68) K dX3_mayCross_64 (by decide) ?_
        refine x_zret (pc := 68) K KR (by omega) (Nat.le_of_ble_eq_true rfl) (Nat.le_of_ble_eq_true rfl) rfl dX3_mayCross_68 ?_
        have hnear : nearA p who cell ↔ z1 ≤ p (20 + who) := by unfold nearA; rw [hq4]; rw [if_neg (by decide)]; omega
        exact ⟨rfl, ri ((mayI_1 ⟨⟨hnear.mpr (by omega), by omega⟩, by omega⟩).symm), rfl⟩

set_option maxRecDepth 100000 in
set_option maxHeartbeats 4000000 in
theorem c_X3_mayCross {E : XE} {B N : Nat} {v : Nat → va_E} {c d n o who cell : Nat} {p s t : Nat → Int} {l : Cor} {cell_i : Int} (ha_cell : cell_i = (cell : Int)) (hc0 : Cel N v c (.inr (3, [.int (zI (p 0)), .int (zI (p 1)), .int (zI (p 2)), .ref (B + (c + 1)), .ref (B + (c + 2)), .int (zI (p 3)), .ref (B + (c + 3)), .int (zI (p 4)), .ref (B + (c + 4)), .ref (B + (c + 13)), .ref (B + (c + 18))]))) (hc1 : Cel N v d (.inr (4, [.ref (B + (d + 1)), .ref (B + (d + 2)), .int (zI (n : Int)), .ref (B + (d + 3)), .ref (B + (d + 4))]))) (hc2 : Cel N v (d + 3) (iarr E 8 s)) (hc3 : Cel N v (d + 4) (iarr E 8 t)) (hc4 : Cel N v (c + 2) (barr E 48 (gA p))) (hc5 : Cel N v o (.inr ((kci (p (5 + who))), [.int (zI (who : Int)), .int (zI (p (10 + who))), .int (zI (p (15 + who))), .int (zI (p (20 + who)))]))) (hq0 : SR (p 0) (p 1) l s t) (hq1 : POk p) (hq2 : who < 5) (hq3 : cell ≤ 47) (hq4 : 1 ≤ p (5 + who) ∧ p (5 + who) ≤ 5) : gM yX3_mayCross wsX3_mayCross ({ frames := 1, cells := 0, slots := 0, locals := 23 }) E B N v [.ref (B + c), .ref (B + o), .int (zI cell_i), .ref (B + d)] (po0 N (fun ρ v' => ρ = some (.int (zI (mayI p l who cell))) ∧ v = v')) := by
  rcases kd5 hq4 with h9 | h9 | h9 | h9 | h9
  · rw [h9] at hc5
    exact c_mayCross_1 ha_cell hc0 hc1 hc2 hc3 hc4 hc5 hq0 hq1 hq2 hq3 h9
  · rw [h9] at hc5
    exact c_mayCross_2 ha_cell hc0 hc1 hc2 hc3 hc4 hc5 hq0 hq1 hq2 hq3 h9
  · rw [h9] at hc5
    exact c_mayCross_3 ha_cell hc0 hc1 hc2 hc3 hc4 hc5 hq0 hq1 hq2 hq3 h9
  · rw [h9] at hc5
    exact c_mayCross_4 ha_cell hc0 hc1 hc2 hc3 hc4 hc5 hq0 hq1 hq2 hq3 h9
  · rw [h9] at hc5
    exact c_mayCross_5 ha_cell hc0 hc1 hc2 hc3 hc4 hc5 hq0 hq1 hq2 hq3 h9
