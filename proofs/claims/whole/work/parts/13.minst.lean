theorem dX12_found_0 : decode cX12_found 0 = .ok (.aload_n 0, 1) := by decide +kernel
theorem dX12_found_1 : decode cX12_found 1 = .ok (.iload_n 1, 1) := by decide +kernel
theorem dX12_found_2 : decode cX12_found 2 = .ok (.putfield 47, 3) := by decide +kernel
theorem dX12_found_5 : decode cX12_found 5 = .ok (.ldc 51, 2) := by decide +kernel
theorem dX12_found_7 : decode cX12_found 7 = .ok (.iload_n 1, 1) := by decide +kernel
theorem dX12_found_8 : decode cX12_found 8 = .ok (.isub, 1) := by decide +kernel
theorem dX12_found_9 : decode cX12_found 9 = .ok (.ireturn, 1) := by decide +kernel
theorem dX12_well_0 : decode cX12_well 0 = .ok (.aload_n 0, 1) := by decide +kernel
theorem dX12_well_1 : decode cX12_well 1 = .ok (.iconst 0, 1) := by decide +kernel
theorem dX12_well_2 : decode cX12_well 2 = .ok (.putfield 47, 3) := by decide +kernel
theorem dX12_well_5 : decode cX12_well 5 = .ok (.iload_n 1, 1) := by decide +kernel
theorem dX12_well_6 : decode cX12_well 6 = .ok (.ireturn, 1) := by decide +kernel
theorem dX12_row_0 : decode cX12_row 0 = .ok (.iload_n 1, 1) := by decide +kernel
set_option maxRecDepth 20000 in
theorem ggX12_row_X12_isRow : GoodIn wsX12_row wsX12_isRow := goodIn_r _ [9, 10, 11, 12, 8, 13] (by decide +kernel) (by decide +kernel)
set_option maxRecDepth 20000 in
theorem gX12_row_X12_isRow : GoodIn wsX12_row (va_wsS RX12 58 yX12_isRow wsX12_isRow) := goodIn_app (goodIn_of _ (by decide +kernel)) ggX12_row_X12_isRow
theorem dX12_row_1 : decode cX12_row 1 = .ok (.invokestatic 58, 3) := by decide +kernel
theorem dX12_row_4 : decode cX12_row 4 = .ok (.ifCond .eq 21, 3) := by decide +kernel
theorem dX12_row_25 : decode cX12_row 25 = .ok (.ldc 64, 2) := by decide +kernel
theorem dX12_row_27 : decode cX12_row 27 = .ok (.ireturn, 1) := by decide +kernel
theorem dX12_row_7 : decode cX12_row 7 = .ok (.iload_n 2, 1) := by decide +kernel
theorem dX12_row_8 : decode cX12_row 8 = .ok (.i2l, 1) := by decide +kernel
theorem dX12_row_9 : decode cX12_row 9 = .ok (.lconst 0, 1) := by decide +kernel
theorem dX12_row_10 : decode cX12_row 10 = .ok (.ldc2_w 62, 3) := by decide +kernel
set_option maxRecDepth 20000 in
theorem ggX12_row_X12_in : GoodIn wsX12_row wsX12_in := goodIn_r _ [13] (by decide +kernel) (by decide +kernel)
set_option maxRecDepth 20000 in
theorem gX12_row_X12_in : GoodIn wsX12_row (va_wsS RX12 54 yX12_in wsX12_in) := goodIn_app (goodIn_of _ (by decide +kernel)) ggX12_row_X12_in
theorem dX12_row_13 : decode cX12_row 13 = .ok (.invokestatic 54, 3) := by decide +kernel
theorem dX12_row_16 : decode cX12_row 16 = .ok (.ifCond .eq 9, 3) := by decide +kernel
theorem dX12_row_19 : decode cX12_row 19 = .ok (.iload_n 3, 1) := by decide +kernel
theorem dX12_row_20 : decode cX12_row 20 = .ok (.bipush 40, 2) := by decide +kernel
theorem dX12_row_22 : decode cX12_row 22 = .ok (.if_icmp .le 6, 3) := by decide +kernel
theorem dX12_row_28 : decode cX12_row 28 = .ok (.iload_n 3, 1) := by decide +kernel
theorem dX12_row_29 : decode cX12_row 29 = .ok (.ifCond .ge 9, 3) := by decide +kernel
theorem dX12_row_38 : decode cX12_row 38 = .ok (.aload_n 0, 1) := by decide +kernel
theorem dX12_row_39 : decode cX12_row 39 = .ok (.getfield 7, 3) := by decide +kernel
theorem dX12_row_42 : decode cX12_row 42 = .ok (.iload_n 1, 1) := by decide +kernel
theorem dX12_row_43 : decode cX12_row 43 = .ok (.iload_n 2, 1) := by decide +kernel
theorem dX12_row_44 : decode cX12_row 44 = .ok (.iastore, 1) := by decide +kernel
theorem dX12_row_45 : decode cX12_row 45 = .ok (.aload_n 0, 1) := by decide +kernel
theorem dX12_row_46 : decode cX12_row 46 = .ok (.getfield 13, 3) := by decide +kernel
theorem dX12_row_49 : decode cX12_row 49 = .ok (.iload_n 1, 1) := by decide +kernel
theorem dX12_row_50 : decode cX12_row 50 = .ok (.iload_n 3, 1) := by decide +kernel
theorem dX12_row_51 : decode cX12_row 51 = .ok (.iastore, 1) := by decide +kernel
theorem dX12_row_52 : decode cX12_row 52 = .ok (.iconst 0, 1) := by decide +kernel
theorem dX12_row_53 : decode cX12_row 53 = .ok (.istore 4, 2) := by decide +kernel
theorem dX12_row_55 : decode cX12_row 55 = .ok (.iload 4, 2) := by decide +kernel
theorem dX12_row_57 : decode cX12_row 57 = .ok (.bipush 40, 2) := by decide +kernel
theorem dX12_row_59 : decode cX12_row 59 = .ok (.if_icmp .ge 22, 3) := by decide +kernel
theorem dX12_row_81 : decode cX12_row 81 = .ok (.aload_n 0, 1) := by decide +kernel
theorem dX12_row_82 : decode cX12_row 82 = .ok (.iload_n 3, 1) := by decide +kernel
set_option maxRecDepth 20000 in
theorem ggX12_row_X12_well : GoodIn wsX12_row wsX12_well := goodIn_r _ [23, 18, 24, 25, 26, 27, 28, 29, 30, 31, 32, 33, 34, 35, 36, 37, 38, 39, 40, 41, 42, 43, 44, 45, 46, 47, 48, 49] (by decide +kernel) (by decide +kernel)
set_option maxRecDepth 20000 in
theorem gX12_row_X12_well : GoodIn wsX12_row (wsV RX12 69 RX12 yX12_well wsX12_well) := goodIn_app (goodIn_of _ (by decide +kernel)) ggX12_row_X12_well
theorem dX12_row_83 : decode cX12_row 83 = .ok (.invokevirtual 69, 3) := by decide +kernel
theorem dX12_row_86 : decode cX12_row 86 = .ok (.ireturn, 1) := by decide +kernel
theorem dX12_row_62 : decode cX12_row 62 = .ok (.aload_n 0, 1) := by decide +kernel
theorem dX12_row_63 : decode cX12_row 63 = .ok (.getfield 16, 3) := by decide +kernel
theorem dX12_row_66 : decode cX12_row 66 = .ok (.bipush 40, 2) := by decide +kernel
theorem dX12_row_68 : decode cX12_row 68 = .ok (.iload_n 1, 1) := by decide +kernel
theorem dX12_row_69 : decode cX12_row 69 = .ok (.imul, 1) := by decide +kernel
theorem dX12_row_70 : decode cX12_row 70 = .ok (.iload 4, 2) := by decide +kernel
theorem dX12_row_72 : decode cX12_row 72 = .ok (.iadd, 1) := by decide +kernel
theorem dX12_row_73 : decode cX12_row 73 = .ok (.iconst 0, 1) := by decide +kernel
theorem dX12_row_74 : decode cX12_row 74 = .ok (.iastore, 1) := by decide +kernel
theorem dX12_row_75 : decode cX12_row 75 = .ok (.iinc 4 1, 3) := by decide +kernel
theorem dX12_row_78 : decode cX12_row 78 = .ok (.goto (-23), 3) := by decide +kernel
theorem dX12_row_32 : decode cX12_row 32 = .ok (.aload_n 0, 1) := by decide +kernel
theorem dX12_row_33 : decode cX12_row 33 = .ok (.iconst 4, 1) := by decide +kernel
set_option maxRecDepth 20000 in
theorem ggX12_row_X12_found : GoodIn wsX12_row wsX12_found := goodIn_r _ [17, 18, 19, 24, 25, 26, 27, 28, 29, 30, 31, 32, 33, 34, 35, 36, 37, 38, 39, 40, 41, 42, 43, 44, 45, 46, 47, 48, 49] (by decide +kernel) (by decide +kernel)
set_option maxRecDepth 20000 in
theorem gX12_row_X12_found : GoodIn wsX12_row (wsV RX12 65 RX12 yX12_found wsX12_found) := goodIn_app (goodIn_of _ (by decide +kernel)) ggX12_row_X12_found
theorem dX12_row_34 : decode cX12_row 34 = .ok (.invokevirtual 65, 3) := by decide +kernel
theorem dX12_row_37 : decode cX12_row 37 = .ok (.ireturn, 1) := by decide +kernel
theorem dX12_set_0 : decode cX12_set 0 = .ok (.iload_n 1, 1) := by decide +kernel
set_option maxRecDepth 20000 in
theorem ggX12_set_X12_isRow : GoodIn wsX12_set wsX12_isRow := goodIn_r _ [8, 9, 10, 11, 7, 12] (by decide +kernel) (by decide +kernel)
set_option maxRecDepth 20000 in
theorem gX12_set_X12_isRow : GoodIn wsX12_set (va_wsS RX12 58 yX12_isRow wsX12_isRow) := goodIn_app (goodIn_of _ (by decide +kernel)) ggX12_set_X12_isRow
theorem dX12_set_1 : decode cX12_set 1 = .ok (.invokestatic 58, 3) := by decide +kernel
theorem dX12_set_4 : decode cX12_set 4 = .ok (.ifCond .ne 6, 3) := by decide +kernel
theorem dX12_set_10 : decode cX12_set 10 = .ok (.aload_n 0, 1) := by decide +kernel
theorem dX12_set_11 : decode cX12_set 11 = .ok (.getfield 13, 3) := by decide +kernel
theorem dX12_set_14 : decode cX12_set 14 = .ok (.iload_n 1, 1) := by decide +kernel
theorem dX12_set_15 : decode cX12_set 15 = .ok (.iaload, 1) := by decide +kernel
theorem dX12_set_16 : decode cX12_set 16 = .ok (.ifCond .ge 9, 3) := by decide +kernel
theorem dX12_set_25 : decode cX12_set 25 = .ok (.iload_n 2, 1) := by decide +kernel
theorem dX12_set_26 : decode cX12_set 26 = .ok (.i2l, 1) := by decide +kernel
theorem dX12_set_27 : decode cX12_set 27 = .ok (.lconst 0, 1) := by decide +kernel
theorem dX12_set_28 : decode cX12_set 28 = .ok (.aload_n 0, 1) := by decide +kernel
theorem dX12_set_29 : decode cX12_set 29 = .ok (.getfield 13, 3) := by decide +kernel
theorem dX12_set_32 : decode cX12_set 32 = .ok (.iload_n 1, 1) := by decide +kernel
theorem dX12_set_33 : decode cX12_set 33 = .ok (.iaload, 1) := by decide +kernel
theorem dX12_set_34 : decode cX12_set 34 = .ok (.iconst 1, 1) := by decide +kernel
theorem dX12_set_35 : decode cX12_set 35 = .ok (.isub, 1) := by decide +kernel
theorem dX12_set_36 : decode cX12_set 36 = .ok (.i2l, 1) := by decide +kernel
set_option maxRecDepth 20000 in
theorem ggX12_set_X12_in : GoodIn wsX12_set wsX12_in := goodIn_r _ [12] (by decide +kernel) (by decide +kernel)
set_option maxRecDepth 20000 in
theorem gX12_set_X12_in : GoodIn wsX12_set (va_wsS RX12 54 yX12_in wsX12_in) := goodIn_app (goodIn_of _ (by decide +kernel)) ggX12_set_X12_in
theorem dX12_set_37 : decode cX12_set 37 = .ok (.invokestatic 54, 3) := by decide +kernel
theorem dX12_set_40 : decode cX12_set 40 = .ok (.ifCond .ne 9, 3) := by decide +kernel
theorem dX12_set_49 : decode cX12_set 49 = .ok (.aload_n 0, 1) := by decide +kernel
theorem dX12_set_50 : decode cX12_set 50 = .ok (.getfield 16, 3) := by decide +kernel
theorem dX12_set_53 : decode cX12_set 53 = .ok (.bipush 40, 2) := by decide +kernel
theorem dX12_set_55 : decode cX12_set 55 = .ok (.iload_n 1, 1) := by decide +kernel
theorem dX12_set_56 : decode cX12_set 56 = .ok (.imul, 1) := by decide +kernel
theorem dX12_set_57 : decode cX12_set 57 = .ok (.iload_n 2, 1) := by decide +kernel
theorem dX12_set_58 : decode cX12_set 58 = .ok (.iadd, 1) := by decide +kernel
theorem dX12_set_59 : decode cX12_set 59 = .ok (.aload_n 0, 1) := by decide +kernel
theorem dX12_set_60 : decode cX12_set 60 = .ok (.getfield 7, 3) := by decide +kernel
theorem dX12_set_63 : decode cX12_set 63 = .ok (.iload_n 1, 1) := by decide +kernel
theorem dX12_set_64 : decode cX12_set 64 = .ok (.iaload, 1) := by decide +kernel
theorem dX12_set_65 : decode cX12_set 65 = .ok (.ifCond .ne 8, 3) := by decide +kernel
theorem dX12_set_73 : decode cX12_set 73 = .ok (.aload_n 0, 1) := by decide +kernel
theorem dX12_set_74 : decode cX12_set 74 = .ok (.getfield 7, 3) := by decide +kernel
theorem dX12_set_77 : decode cX12_set 77 = .ok (.iload_n 1, 1) := by decide +kernel
theorem dX12_set_78 : decode cX12_set 78 = .ok (.iaload, 1) := by decide +kernel
theorem dX12_set_79 : decode cX12_set 79 = .ok (.iconst 1, 1) := by decide +kernel
theorem dX12_set_80 : decode cX12_set 80 = .ok (.if_icmp .ne 8, 3) := by decide +kernel
theorem dX12_set_88 : decode cX12_set 88 = .ok (.iload_n 3, 1) := by decide +kernel
theorem dX12_set_89 : decode cX12_set 89 = .ok (.iastore, 1) := by decide +kernel
theorem dX12_set_90 : decode cX12_set 90 = .ok (.aload_n 0, 1) := by decide +kernel
theorem dX12_set_91 : decode cX12_set 91 = .ok (.aload_n 0, 1) := by decide +kernel
theorem dX12_set_92 : decode cX12_set 92 = .ok (.getfield 16, 3) := by decide +kernel
theorem dX12_set_95 : decode cX12_set 95 = .ok (.bipush 40, 2) := by decide +kernel
theorem dX12_set_97 : decode cX12_set 97 = .ok (.iload_n 1, 1) := by decide +kernel
theorem dX12_set_98 : decode cX12_set 98 = .ok (.imul, 1) := by decide +kernel
theorem dX12_set_99 : decode cX12_set 99 = .ok (.iload_n 2, 1) := by decide +kernel
theorem dX12_set_100 : decode cX12_set 100 = .ok (.iadd, 1) := by decide +kernel
theorem dX12_set_101 : decode cX12_set 101 = .ok (.iaload, 1) := by decide +kernel
set_option maxRecDepth 20000 in
theorem ggX12_set_X12_well : GoodIn wsX12_set wsX12_well := goodIn_r _ [22, 17, 23, 24, 25, 26, 27, 28, 29, 30, 31, 32, 33, 34, 35, 36, 37, 38, 39, 40, 41, 42, 43, 44, 45, 46, 47, 48] (by decide +kernel) (by decide +kernel)
set_option maxRecDepth 20000 in
theorem gX12_set_X12_well : GoodIn wsX12_set (wsV RX12 69 RX12 yX12_well wsX12_well) := goodIn_app (goodIn_of _ (by decide +kernel)) ggX12_set_X12_well
theorem dX12_set_102 : decode cX12_set 102 = .ok (.invokevirtual 69, 3) := by decide +kernel
theorem dX12_set_105 : decode cX12_set 105 = .ok (.ireturn, 1) := by decide +kernel
theorem dX12_set_83 : decode cX12_set 83 = .ok (.iload_n 3, 1) := by decide +kernel
theorem dX12_set_84 : decode cX12_set 84 = .ok (.i2s, 1) := by decide +kernel
theorem dX12_set_85 : decode cX12_set 85 = .ok (.goto 4, 3) := by decide +kernel
theorem dX12_set_68 : decode cX12_set 68 = .ok (.iload_n 3, 1) := by decide +kernel
theorem dX12_set_69 : decode cX12_set 69 = .ok (.i2b, 1) := by decide +kernel
theorem dX12_set_70 : decode cX12_set 70 = .ok (.goto 19, 3) := by decide +kernel
theorem dX12_set_43 : decode cX12_set 43 = .ok (.aload_n 0, 1) := by decide +kernel
theorem dX12_set_44 : decode cX12_set 44 = .ok (.iconst 2, 1) := by decide +kernel
set_option maxRecDepth 20000 in
theorem ggX12_set_X12_found : GoodIn wsX12_set wsX12_found := goodIn_r _ [16, 17, 18, 23, 24, 25, 26, 27, 28, 29, 30, 31, 32, 33, 34, 35, 36, 37, 38, 39, 40, 41, 42, 43, 44, 45, 46, 47, 48] (by decide +kernel) (by decide +kernel)
set_option maxRecDepth 20000 in
theorem gX12_set_X12_found : GoodIn wsX12_set (wsV RX12 65 RX12 yX12_found wsX12_found) := goodIn_app (goodIn_of _ (by decide +kernel)) ggX12_set_X12_found
theorem dX12_set_45 : decode cX12_set 45 = .ok (.invokevirtual 65, 3) := by decide +kernel
theorem dX12_set_48 : decode cX12_set 48 = .ok (.ireturn, 1) := by decide +kernel
theorem dX12_set_19 : decode cX12_set 19 = .ok (.aload_n 0, 1) := by decide +kernel
theorem dX12_set_20 : decode cX12_set 20 = .ok (.iconst 1, 1) := by decide +kernel
theorem dX12_set_21 : decode cX12_set 21 = .ok (.invokevirtual 65, 3) := by decide +kernel
theorem dX12_set_24 : decode cX12_set 24 = .ok (.ireturn, 1) := by decide +kernel
theorem dX12_set_7 : decode cX12_set 7 = .ok (.ldc 64, 2) := by decide +kernel
theorem dX12_set_9 : decode cX12_set 9 = .ok (.ireturn, 1) := by decide +kernel
theorem dX12_drop_0 : decode cX12_drop 0 = .ok (.iload_n 1, 1) := by decide +kernel
set_option maxRecDepth 20000 in
theorem ggX12_drop_X12_isRow : GoodIn wsX12_drop wsX12_isRow := goodIn_r _ [6, 7, 8, 9, 5, 10] (by decide +kernel) (by decide +kernel)
set_option maxRecDepth 20000 in
theorem gX12_drop_X12_isRow : GoodIn wsX12_drop (va_wsS RX12 58 yX12_isRow wsX12_isRow) := goodIn_app (goodIn_of _ (by decide +kernel)) ggX12_drop_X12_isRow
theorem dX12_drop_1 : decode cX12_drop 1 = .ok (.invokestatic 58, 3) := by decide +kernel
theorem dX12_drop_4 : decode cX12_drop 4 = .ok (.ifCond .ne 6, 3) := by decide +kernel
theorem dX12_drop_10 : decode cX12_drop 10 = .ok (.aload_n 0, 1) := by decide +kernel
theorem dX12_drop_11 : decode cX12_drop 11 = .ok (.getfield 13, 3) := by decide +kernel
theorem dX12_drop_14 : decode cX12_drop 14 = .ok (.iload_n 1, 1) := by decide +kernel
theorem dX12_drop_15 : decode cX12_drop 15 = .ok (.iaload, 1) := by decide +kernel
theorem dX12_drop_16 : decode cX12_drop 16 = .ok (.ifCond .ge 9, 3) := by decide +kernel
theorem dX12_drop_25 : decode cX12_drop 25 = .ok (.aload_n 0, 1) := by decide +kernel
theorem dX12_drop_26 : decode cX12_drop 26 = .ok (.getfield 13, 3) := by decide +kernel
theorem dX12_drop_29 : decode cX12_drop 29 = .ok (.iload_n 1, 1) := by decide +kernel
theorem dX12_drop_30 : decode cX12_drop 30 = .ok (.iaload, 1) := by decide +kernel
theorem dX12_drop_31 : decode cX12_drop 31 = .ok (.istore_n 2, 1) := by decide +kernel
theorem dX12_drop_32 : decode cX12_drop 32 = .ok (.aload_n 0, 1) := by decide +kernel
theorem dX12_drop_33 : decode cX12_drop 33 = .ok (.getfield 13, 3) := by decide +kernel
theorem dX12_drop_36 : decode cX12_drop 36 = .ok (.iload_n 1, 1) := by decide +kernel
theorem dX12_drop_37 : decode cX12_drop 37 = .ok (.iconst (-1), 1) := by decide +kernel
theorem dX12_drop_38 : decode cX12_drop 38 = .ok (.iastore, 1) := by decide +kernel
theorem dX12_drop_39 : decode cX12_drop 39 = .ok (.aload_n 0, 1) := by decide +kernel
theorem dX12_drop_40 : decode cX12_drop 40 = .ok (.iload_n 2, 1) := by decide +kernel
set_option maxRecDepth 20000 in
theorem ggX12_drop_X12_well : GoodIn wsX12_drop wsX12_well := goodIn_r _ [20, 15, 21, 22, 23, 24, 25, 26, 27, 28, 29, 30, 31, 32, 33, 34, 35, 36, 37, 38, 39, 40, 41, 42, 43, 44, 45, 46] (by decide +kernel) (by decide +kernel)
set_option maxRecDepth 20000 in
theorem gX12_drop_X12_well : GoodIn wsX12_drop (wsV RX12 69 RX12 yX12_well wsX12_well) := goodIn_app (goodIn_of _ (by decide +kernel)) ggX12_drop_X12_well
theorem dX12_drop_41 : decode cX12_drop 41 = .ok (.invokevirtual 69, 3) := by decide +kernel
theorem dX12_drop_44 : decode cX12_drop 44 = .ok (.ireturn, 1) := by decide +kernel
theorem dX12_drop_19 : decode cX12_drop 19 = .ok (.aload_n 0, 1) := by decide +kernel
theorem dX12_drop_20 : decode cX12_drop 20 = .ok (.iconst 1, 1) := by decide +kernel
set_option maxRecDepth 20000 in
theorem ggX12_drop_X12_found : GoodIn wsX12_drop wsX12_found := goodIn_r _ [14, 15, 16, 21, 22, 23, 24, 25, 26, 27, 28, 29, 30, 31, 32, 33, 34, 35, 36, 37, 38, 39, 40, 41, 42, 43, 44, 45, 46] (by decide +kernel) (by decide +kernel)
set_option maxRecDepth 20000 in
theorem gX12_drop_X12_found : GoodIn wsX12_drop (wsV RX12 65 RX12 yX12_found wsX12_found) := goodIn_app (goodIn_of _ (by decide +kernel)) ggX12_drop_X12_found
theorem dX12_drop_21 : decode cX12_drop 21 = .ok (.invokevirtual 65, 3) := by decide +kernel
theorem dX12_drop_24 : decode cX12_drop 24 = .ok (.ireturn, 1) := by decide +kernel
theorem dX12_drop_7 : decode cX12_drop 7 = .ok (.ldc 64, 2) := by decide +kernel
theorem dX12_drop_9 : decode cX12_drop 9 = .ok (.ireturn, 1) := by decide +kernel
theorem dX12_fault_0 : decode cX12_fault 0 = .ok (.aload_n 0, 1) := by decide +kernel
theorem dX12_fault_1 : decode cX12_fault 1 = .ok (.getfield 118, 3) := by decide +kernel
theorem dX12_fault_4 : decode cX12_fault 4 = .ok (.ireturn, 1) := by decide +kernel
theorem dX12_status_0 : decode cX12_status 0 = .ok (.aload_n 0, 1) := by decide +kernel
theorem dX12_status_1 : decode cX12_status 1 = .ok (.getfield 47, 3) := by decide +kernel
theorem dX12_status_4 : decode cX12_status 4 = .ok (.ireturn, 1) := by decide +kernel
theorem dX12_isPerson_0 : decode cX12_isPerson 0 = .ok (.iload_n 1, 1) := by decide +kernel
theorem dX12_isPerson_1 : decode cX12_isPerson 1 = .ok (.i2l, 1) := by decide +kernel
theorem dX12_isPerson_2 : decode cX12_isPerson 2 = .ok (.lconst 0, 1) := by decide +kernel
theorem dX12_isPerson_3 : decode cX12_isPerson 3 = .ok (.aload_n 0, 1) := by decide +kernel
theorem dX12_isPerson_4 : decode cX12_isPerson 4 = .ok (.getfield 22, 3) := by decide +kernel
theorem dX12_isPerson_7 : decode cX12_isPerson 7 = .ok (.iconst 4, 1) := by decide +kernel
theorem dX12_isPerson_8 : decode cX12_isPerson 8 = .ok (.iaload, 1) := by decide +kernel
theorem dX12_isPerson_9 : decode cX12_isPerson 9 = .ok (.iconst 1, 1) := by decide +kernel
theorem dX12_isPerson_10 : decode cX12_isPerson 10 = .ok (.isub, 1) := by decide +kernel
theorem dX12_isPerson_11 : decode cX12_isPerson 11 = .ok (.i2l, 1) := by decide +kernel
set_option maxRecDepth 20000 in
theorem ggX12_isPerson_X12_in : GoodIn wsX12_isPerson wsX12_in := goodIn_r _ [5] (by decide +kernel) (by decide +kernel)
set_option maxRecDepth 20000 in
theorem gX12_isPerson_X12_in : GoodIn wsX12_isPerson (va_wsS RX12 54 yX12_in wsX12_in) := goodIn_app (goodIn_of _ (by decide +kernel)) ggX12_isPerson_X12_in
theorem dX12_isPerson_12 : decode cX12_isPerson 12 = .ok (.invokestatic 54, 3) := by decide +kernel
theorem dX12_isPerson_15 : decode cX12_isPerson 15 = .ok (.ireturn, 1) := by decide +kernel
theorem dX12_areTwo_0 : decode cX12_areTwo 0 = .ok (.aload_n 0, 1) := by decide +kernel
theorem dX12_areTwo_1 : decode cX12_areTwo 1 = .ok (.iload_n 1, 1) := by decide +kernel
set_option maxRecDepth 20000 in
theorem ggX12_areTwo_X12_isPerson : GoodIn wsX12_areTwo wsX12_isPerson := goodIn_r _ [5, 6, 7, 8, 4, 9, 10, 11, 12, 13, 14, 15, 16, 17, 18, 19, 20, 21, 22, 23, 24, 25, 26, 27, 28, 29, 30, 31, 32, 33, 34, 35] (by decide +kernel) (by decide +kernel)
set_option maxRecDepth 20000 in
theorem gX12_areTwo_X12_isPerson : GoodIn wsX12_areTwo (wsV RX12 217 RX12 yX12_isPerson wsX12_isPerson) := goodIn_app (goodIn_of _ (by decide +kernel)) ggX12_areTwo_X12_isPerson
theorem dX12_areTwo_2 : decode cX12_areTwo 2 = .ok (.invokevirtual 217, 3) := by decide +kernel
theorem dX12_areTwo_5 : decode cX12_areTwo 5 = .ok (.ifCond .eq 20, 3) := by decide +kernel
theorem dX12_areTwo_25 : decode cX12_areTwo 25 = .ok (.iconst 0, 1) := by decide +kernel
theorem dX12_areTwo_26 : decode cX12_areTwo 26 = .ok (.ireturn, 1) := by decide +kernel
theorem dX12_areTwo_8 : decode cX12_areTwo 8 = .ok (.aload_n 0, 1) := by decide +kernel
theorem dX12_areTwo_9 : decode cX12_areTwo 9 = .ok (.iload_n 2, 1) := by decide +kernel
theorem dX12_areTwo_10 : decode cX12_areTwo 10 = .ok (.invokevirtual 217, 3) := by decide +kernel
theorem dX12_areTwo_13 : decode cX12_areTwo 13 = .ok (.ifCond .eq 12, 3) := by decide +kernel
theorem dX12_areTwo_16 : decode cX12_areTwo 16 = .ok (.iload_n 1, 1) := by decide +kernel
theorem dX12_areTwo_17 : decode cX12_areTwo 17 = .ok (.iload_n 2, 1) := by decide +kernel
theorem dX12_areTwo_18 : decode cX12_areTwo 18 = .ok (.if_icmp .eq 7, 3) := by decide +kernel
theorem dX12_areTwo_21 : decode cX12_areTwo 21 = .ok (.iconst 1, 1) := by decide +kernel
theorem dX12_areTwo_22 : decode cX12_areTwo 22 = .ok (.goto 4, 3) := by decide +kernel
theorem dX12_kind_0 : decode cX12_kind 0 = .ok (.aload_n 0, 1) := by decide +kernel
theorem dX12_kind_1 : decode cX12_kind 1 = .ok (.iload_n 1, 1) := by decide +kernel
set_option maxRecDepth 20000 in
theorem ggX12_kind_X12_isPerson : GoodIn wsX12_kind wsX12_isPerson := goodIn_r _ [7, 1, 8, 9, 6, 10, 11, 12, 13, 14, 15, 16, 17, 18, 19, 20, 21, 22, 23, 24, 25, 26, 27, 28, 29, 30, 31, 32, 33, 34, 35, 36] (by decide +kernel) (by decide +kernel)
set_option maxRecDepth 20000 in
theorem gX12_kind_X12_isPerson : GoodIn wsX12_kind (wsV RX12 217 RX12 yX12_isPerson wsX12_isPerson) := goodIn_app (goodIn_of _ (by decide +kernel)) ggX12_kind_X12_isPerson
theorem dX12_kind_2 : decode cX12_kind 2 = .ok (.invokevirtual 217, 3) := by decide +kernel
theorem dX12_kind_5 : decode cX12_kind 5 = .ok (.ifCond .eq 14, 3) := by decide +kernel
theorem dX12_kind_19 : decode cX12_kind 19 = .ok (.ldc 64, 2) := by decide +kernel
theorem dX12_kind_21 : decode cX12_kind 21 = .ok (.ireturn, 1) := by decide +kernel
theorem dX12_kind_8 : decode cX12_kind 8 = .ok (.aload_n 0, 1) := by decide +kernel
theorem dX12_kind_9 : decode cX12_kind 9 = .ok (.getfield 22, 3) := by decide +kernel
theorem dX12_kind_12 : decode cX12_kind 12 = .ok (.iconst 5, 1) := by decide +kernel
theorem dX12_kind_13 : decode cX12_kind 13 = .ok (.iload_n 1, 1) := by decide +kernel
theorem dX12_kind_14 : decode cX12_kind 14 = .ok (.iadd, 1) := by decide +kernel
theorem dX12_kind_15 : decode cX12_kind 15 = .ok (.iaload, 1) := by decide +kernel
theorem dX12_kind_16 : decode cX12_kind 16 = .ok (.goto 5, 3) := by decide +kernel
theorem dX12_isOf_0 : decode cX12_isOf 0 = .ok (.iload_n 1, 1) := by decide +kernel
theorem dX12_isOf_1 : decode cX12_isOf 1 = .ok (.ifCond .eq 33, 3) := by decide +kernel
theorem dX12_isOf_34 : decode cX12_isOf 34 = .ok (.iconst 1, 1) := by decide +kernel
theorem dX12_isOf_35 : decode cX12_isOf 35 = .ok (.goto 4, 3) := by decide +kernel
theorem dX12_isOf_39 : decode cX12_isOf 39 = .ok (.ireturn, 1) := by decide +kernel
theorem dX12_isOf_4 : decode cX12_isOf 4 = .ok (.iload_n 0, 1) := by decide +kernel
theorem dX12_isOf_5 : decode cX12_isOf 5 = .ok (.iload_n 1, 1) := by decide +kernel
theorem dX12_isOf_6 : decode cX12_isOf 6 = .ok (.if_icmp .eq 28, 3) := by decide +kernel
theorem dX12_isOf_9 : decode cX12_isOf 9 = .ok (.iload_n 1, 1) := by decide +kernel
theorem dX12_isOf_10 : decode cX12_isOf 10 = .ok (.iconst 1, 1) := by decide +kernel
theorem dX12_isOf_11 : decode cX12_isOf 11 = .ok (.if_icmp .ne 13, 3) := by decide +kernel
theorem dX12_isOf_24 : decode cX12_isOf 24 = .ok (.iload_n 1, 1) := by decide +kernel
theorem dX12_isOf_25 : decode cX12_isOf 25 = .ok (.iconst 4, 1) := by decide +kernel
theorem dX12_isOf_26 : decode cX12_isOf 26 = .ok (.if_icmp .ne 12, 3) := by decide +kernel
theorem dX12_isOf_38 : decode cX12_isOf 38 = .ok (.iconst 0, 1) := by decide +kernel
theorem dX12_isOf_29 : decode cX12_isOf 29 = .ok (.iload_n 0, 1) := by decide +kernel
theorem dX12_isOf_30 : decode cX12_isOf 30 = .ok (.iconst 5, 1) := by decide +kernel
theorem dX12_isOf_31 : decode cX12_isOf 31 = .ok (.if_icmp .ne 7, 3) := by decide +kernel
theorem dX12_isOf_14 : decode cX12_isOf 14 = .ok (.iload_n 0, 1) := by decide +kernel
theorem dX12_isOf_15 : decode cX12_isOf 15 = .ok (.iconst 2, 1) := by decide +kernel
theorem dX12_isOf_16 : decode cX12_isOf 16 = .ok (.if_icmp .eq 18, 3) := by decide +kernel
theorem dX12_isOf_19 : decode cX12_isOf 19 = .ok (.iload_n 0, 1) := by decide +kernel
theorem dX12_isOf_20 : decode cX12_isOf 20 = .ok (.iconst 3, 1) := by decide +kernel
theorem dX12_isOf_21 : decode cX12_isOf 21 = .ok (.if_icmp .eq 13, 3) := by decide +kernel
theorem dX12_as_0 : decode cX12_as 0 = .ok (.aload_n 0, 1) := by decide +kernel
theorem dX12_as_1 : decode cX12_as 1 = .ok (.iload_n 1, 1) := by decide +kernel
set_option maxRecDepth 20000 in
theorem ggX12_as_X12_isPerson : GoodIn wsX12_as wsX12_isPerson := goodIn_r _ [8, 3, 9, 10, 7, 11, 25, 26, 27, 28, 29, 30, 31, 32, 33, 34, 35, 36, 37, 38, 39, 40, 41, 42, 43, 44, 45, 46, 47, 48, 49, 50] (by decide +kernel) (by decide +kernel)
set_option maxRecDepth 20000 in
theorem gX12_as_X12_isPerson : GoodIn wsX12_as (wsV RX12 217 RX12 yX12_isPerson wsX12_isPerson) := goodIn_app (goodIn_of _ (by decide +kernel)) ggX12_as_X12_isPerson
theorem dX12_as_2 : decode cX12_as 2 = .ok (.invokevirtual 217, 3) := by decide +kernel
theorem dX12_as_5 : decode cX12_as 5 = .ok (.ifCond .eq 15, 3) := by decide +kernel
theorem dX12_as_20 : decode cX12_as 20 = .ok (.ldc 64, 2) := by decide +kernel
theorem dX12_as_22 : decode cX12_as 22 = .ok (.ireturn, 1) := by decide +kernel
theorem dX12_as_8 : decode cX12_as 8 = .ok (.iload_n 2, 1) := by decide +kernel
theorem dX12_as_9 : decode cX12_as 9 = .ok (.i2l, 1) := by decide +kernel
theorem dX12_as_10 : decode cX12_as 10 = .ok (.lconst 0, 1) := by decide +kernel
theorem dX12_as_11 : decode cX12_as 11 = .ok (.ldc2_w 257, 3) := by decide +kernel
set_option maxRecDepth 20000 in
theorem ggX12_as_X12_in : GoodIn wsX12_as wsX12_in := goodIn_r _ [11] (by decide +kernel) (by decide +kernel)
set_option maxRecDepth 20000 in
theorem gX12_as_X12_in : GoodIn wsX12_as (va_wsS RX12 54 yX12_in wsX12_in) := goodIn_app (goodIn_of _ (by decide +kernel)) ggX12_as_X12_in
theorem dX12_as_14 : decode cX12_as 14 = .ok (.invokestatic 54, 3) := by decide +kernel
theorem dX12_as_17 : decode cX12_as 17 = .ok (.ifCond .ne 6, 3) := by decide +kernel
theorem dX12_as_23 : decode cX12_as 23 = .ok (.aload_n 0, 1) := by decide +kernel
theorem dX12_as_24 : decode cX12_as 24 = .ok (.getfield 22, 3) := by decide +kernel
theorem dX12_as_27 : decode cX12_as 27 = .ok (.iconst 5, 1) := by decide +kernel
theorem dX12_as_28 : decode cX12_as 28 = .ok (.iload_n 1, 1) := by decide +kernel
theorem dX12_as_29 : decode cX12_as 29 = .ok (.iadd, 1) := by decide +kernel
theorem dX12_as_30 : decode cX12_as 30 = .ok (.iaload, 1) := by decide +kernel
theorem dX12_as_31 : decode cX12_as 31 = .ok (.iload_n 2, 1) := by decide +kernel
set_option maxRecDepth 20000 in
theorem ggX12_as_X12_isOf : GoodIn wsX12_as wsX12_isOf := goodIn_r _ [14] (by decide +kernel) (by decide +kernel)
set_option maxRecDepth 20000 in
theorem gX12_as_X12_isOf : GoodIn wsX12_as (va_wsS RX12 259 yX12_isOf wsX12_isOf) := goodIn_app (goodIn_of _ (by decide +kernel)) ggX12_as_X12_isOf
theorem dX12_as_32 : decode cX12_as 32 = .ok (.invokestatic 259, 3) := by decide +kernel
theorem dX12_as_35 : decode cX12_as 35 = .ok (.ifCond .eq 11, 3) := by decide +kernel
theorem dX12_as_46 : decode cX12_as 46 = .ok (.aload_n 0, 1) := by decide +kernel
theorem dX12_as_47 : decode cX12_as 47 = .ok (.iconst 3, 1) := by decide +kernel
set_option maxRecDepth 20000 in
theorem ggX12_as_X12_found : GoodIn wsX12_as wsX12_found := goodIn_r _ [23, 19, 24, 25, 26, 27, 28, 29, 30, 31, 32, 33, 34, 35, 36, 37, 38, 39, 40, 41, 42, 43, 44, 45, 46, 47, 48, 49, 50] (by decide +kernel) (by decide +kernel)
set_option maxRecDepth 20000 in
theorem gX12_as_X12_found : GoodIn wsX12_as (wsV RX12 65 RX12 yX12_found wsX12_found) := goodIn_app (goodIn_of _ (by decide +kernel)) ggX12_as_X12_found
theorem dX12_as_48 : decode cX12_as 48 = .ok (.invokevirtual 65, 3) := by decide +kernel
theorem dX12_as_51 : decode cX12_as 51 = .ok (.ireturn, 1) := by decide +kernel
theorem dX12_as_38 : decode cX12_as 38 = .ok (.aload_n 0, 1) := by decide +kernel
theorem dX12_as_39 : decode cX12_as 39 = .ok (.iload_n 1, 1) := by decide +kernel
set_option maxRecDepth 20000 in
theorem ggX12_as_X12_well : GoodIn wsX12_as wsX12_well := goodIn_r _ [18, 19, 25, 26, 27, 28, 29, 30, 31, 32, 33, 34, 35, 36, 37, 38, 39, 40, 41, 42, 43, 44, 45, 46, 47, 48, 49, 50] (by decide +kernel) (by decide +kernel)
set_option maxRecDepth 20000 in
theorem gX12_as_X12_well : GoodIn wsX12_as (wsV RX12 69 RX12 yX12_well wsX12_well) := goodIn_app (goodIn_of _ (by decide +kernel)) ggX12_as_X12_well
theorem dX12_as_40 : decode cX12_as 40 = .ok (.invokevirtual 69, 3) := by decide +kernel
theorem dX12_as_43 : decode cX12_as 43 = .ok (.goto 8, 3) := by decide +kernel
theorem dX12_trace_0 : decode cX12_trace 0 = .ok (.iload_n 1, 1) := by decide +kernel
theorem dX12_trace_1 : decode cX12_trace 1 = .ok (.i2l, 1) := by decide +kernel
theorem dX12_trace_2 : decode cX12_trace 2 = .ok (.lconst 0, 1) := by decide +kernel
theorem dX12_trace_3 : decode cX12_trace 3 = .ok (.aload_n 0, 1) := by decide +kernel
theorem dX12_trace_4 : decode cX12_trace 4 = .ok (.getfield 264, 3) := by decide +kernel
theorem dX12_trace_7 : decode cX12_trace 7 = .ok (.iconst 1, 1) := by decide +kernel
theorem dX12_trace_8 : decode cX12_trace 8 = .ok (.isub, 1) := by decide +kernel
theorem dX12_trace_9 : decode cX12_trace 9 = .ok (.i2l, 1) := by decide +kernel
set_option maxRecDepth 20000 in
theorem ggX12_trace_X12_in : GoodIn wsX12_trace wsX12_in := goodIn_r _ [7] (by decide +kernel) (by decide +kernel)
set_option maxRecDepth 20000 in
theorem gX12_trace_X12_in : GoodIn wsX12_trace (va_wsS RX12 54 yX12_in wsX12_in) := goodIn_app (goodIn_of _ (by decide +kernel)) ggX12_trace_X12_in
theorem dX12_trace_10 : decode cX12_trace 10 = .ok (.invokestatic 54, 3) := by decide +kernel
theorem dX12_trace_13 : decode cX12_trace 13 = .ok (.ifCond .eq 12, 3) := by decide +kernel
theorem dX12_trace_25 : decode cX12_trace 25 = .ok (.ldc 239, 2) := by decide +kernel
theorem dX12_trace_27 : decode cX12_trace 27 = .ok (.ireturn, 1) := by decide +kernel
theorem dX12_trace_16 : decode cX12_trace 16 = .ok (.aload_n 0, 1) := by decide +kernel
theorem dX12_trace_17 : decode cX12_trace 17 = .ok (.getfield 35, 3) := by decide +kernel
theorem dX12_trace_20 : decode cX12_trace 20 = .ok (.iload_n 1, 1) := by decide +kernel
theorem dX12_trace_21 : decode cX12_trace 21 = .ok (.iaload, 1) := by decide +kernel
theorem dX12_trace_22 : decode cX12_trace 22 = .ok (.goto 5, 3) := by decide +kernel
set_option maxRecDepth 100000 in
set_option maxHeartbeats 4000000 in
theorem c_X12_found {E : XE} {B N : Nat} {v : Nat → va_E} {F : Nat → Int} {V what : Int} (hc0 : Cel N v 161 (oM B F V)) : gM yX12_found wsX12_found ({ frames := 0, cells := 0, slots := 0, locals := 0 }) E B N v [.ref (B + 161), .int (zI what)] (po0 N (fun ρ v' => ρ = some (.int (zI (-1000010 - what))) ∧ (va_up v 161 (oM B (va_up F 3 what) V)) = v')) := by
  refine x_met (nm := "found") (by decide +kernel) rfl (Nat.le_of_ble_eq_true rfl) rfl (fun Γ K KR hnL hnm => ?_)
  show XW Γ N v [(0, .ref (B + 161)), (1, .int (zI what))] 0 0 0 []
  refine x_v (cel_pad hc0) ?_
  refine x_aload_n (pc := 0) 0 K rfl rfl dX12_found_0 ?_
  refine x_iload_n (pc := 1) 1 K rfl rfl dX12_found_1 ?_
  refine x_put (pc := 2) (C := RX12) (T := TX12) (n := 26) (ci := 11) (idx := 47) (ref := "BorderBedsModel") (ty := .int)  K (cel_self hc0.1) rfl (by decide +kernel) tyX12 tyX12_ok nmX12 3 (by decide) (by decide +kernel) rfl rfl (by decide +kernel) rfl rfl (Nat.le_of_ble_eq_true rfl) dX12_found_2 ?_
  refine x_v (w := (va_up v 161 (oM B (va_up F 3 what) V))) (up_at0).symm ?_
  refine x_ldc (pc := 5) (x := (-1000010)) (-1000010) K (by decide) (by decide +kernel) dX12_found_5 ?_
  refine x_iload_n (pc := 7) 1 K rfl rfl dX12_found_7 ?_
  refine x_isub (pc := 8) K dX12_found_8 ?_
  refine x_iret (pc := 9) K KR (by omega) (Nat.le_of_ble_eq_true rfl) (Nat.le_of_ble_eq_true rfl) dX12_found_9 ?_
  exact ⟨rfl, rfl, rfl⟩

set_option maxRecDepth 100000 in
set_option maxHeartbeats 4000000 in
theorem c_X12_well {E : XE} {B N : Nat} {v : Nat → va_E} {F : Nat → Int} {V x : Int} (hc0 : Cel N v 161 (oM B F V)) : gM yX12_well wsX12_well ({ frames := 0, cells := 0, slots := 0, locals := 0 }) E B N v [.ref (B + 161), .int (zI x)] (po0 N (fun ρ v' => ρ = some (.int (zI x)) ∧ (va_up v 161 (oM B (va_up F 3 0) V)) = v')) := by
  refine x_met (nm := "well") (by decide +kernel) rfl (Nat.le_of_ble_eq_true rfl) rfl (fun Γ K KR hnL hnm => ?_)
  show XW Γ N v [(0, .ref (B + 161)), (1, .int (zI x))] 0 0 0 []
  refine x_v (cel_pad hc0) ?_
  refine x_aload_n (pc := 0) 0 K rfl rfl dX12_well_0 ?_
  refine x_iconst (pc := 1) K dX12_well_1 ?_
  refine x_put (pc := 2) (C := RX12) (T := TX12) (n := 26) (ci := 11) (idx := 47) (ref := "BorderBedsModel") (ty := .int)  K (cel_self hc0.1) rfl (by decide +kernel) tyX12 tyX12_ok nmX12 3 (by decide) (by decide +kernel) rfl rfl (by decide +kernel) rfl rfl (Nat.le_of_ble_eq_true rfl) dX12_well_2 ?_
  refine x_v (w := (va_up v 161 (oM B (va_up F 3 0) V))) (up_at0).symm ?_
  refine x_iload_n (pc := 5) 1 K rfl rfl dX12_well_5 ?_
  refine x_iret (pc := 6) K KR (by omega) (Nat.le_of_ble_eq_true rfl) (Nat.le_of_ble_eq_true rfl) dX12_well_6 ?_
  exact ⟨rfl, rfl, rfl⟩

set_option maxRecDepth 100000 in
set_option maxHeartbeats 4000000 in
theorem c_X12_row {E : XE} {B N : Nat} {v : Nat → va_E} {F la sz it : Nat → Int} {V r lane n : Int} (hc0 : Cel N v 161 (oM B F V)) (hc1 : Cel N v 162 (iarr E 8 la)) (hc2 : Cel N v 163 (iarr E 8 sz)) (hc3 : Cel N v 164 (iarr E 320 it)) (hq0 : (-2147483648 ≤ r ∧ r ≤ 2147483647)) (hq1 : (-2147483648 ≤ lane ∧ lane ≤ 2147483647)) (hq2 : (-2147483648 ≤ n ∧ n ≤ 2147483647)) : gM yX12_row wsX12_row ({ frames := 2, cells := 0, slots := 0, locals := 45 }) E B N v [.ref (B + 161), .int (zI r), .int (zI lane), .int (zI n)] (po0 N (fun ρ v' => ∃ (res : Int), ∃ (F2 : Nat → Int), ∃ (la2 : Nat → Int), ∃ (sz2 : Nat → Int), ∃ (it2 : Nat → Int), ((¬ (0 ≤ r ∧ r ≤ 7 ∧ 0 ≤ lane ∧ lane ≤ 2 ∧ n ≤ 40) ∧ res = -1000001 ∧ F2 = F ∧ la2 = la ∧ sz2 = sz ∧ it2 = it) ∨ ((0 ≤ r ∧ r ≤ 7 ∧ 0 ≤ lane ∧ lane ≤ 2 ∧ n < 0) ∧ res = -1000014 ∧ F2 = va_up F 3 4 ∧ la2 = la ∧ sz2 = sz ∧ it2 = it) ∨ ((0 ≤ r ∧ r ≤ 7 ∧ 0 ≤ lane ∧ lane ≤ 2 ∧ 0 ≤ n ∧ n ≤ 40) ∧ res = n ∧ F2 = va_up F 3 0 ∧ la2 = va_up la r.toNat lane ∧ sz2 = va_up sz r.toNat n ∧ it2 = clrA it r.toNat 40)) ∧ ρ = some (.int (zI res)) ∧ (va_up (va_up (va_up (va_up v 161 (oM B F2 V)) 162 (iarr E 8 la2)) 163 (iarr E 8 sz2)) 164 (iarr E 320 it2)) = v')) := by
  refine x_met (nm := "row") (by decide +kernel) rfl (Nat.le_of_ble_eq_true rfl) rfl (fun Γ K KR hnL hnm => ?_)
  show XW Γ N v [(0, .ref (B + 161)), (1, .int (zI r)), (2, .int (zI lane)), (3, .int (zI n))] 0 0 0 []
  refine x_v (cel_pad hc0) ?_
  refine x_v (cel_pad (cel_ne hc1 (by decide))) ?_
  refine x_v (cel_pad (cel_ne (cel_ne hc2 (by decide)) (by decide))) ?_
  refine x_v (cel_pad (cel_ne (cel_ne (cel_ne hc3 (by decide)) (by decide)) (by decide))) ?_
  refine x_iload_n (pc := 0) 1 K rfl rfl dX12_row_0 ?_
  refine x_callS (pc := 1) (As := [.int (zI r)]) K (c_X12_isRow (E := E) (B := B) (N := N)    (by omega)) gX12_row_X12_isRow rfl (na := 1) (by decide +kernel) rfl ⟨(Nat.le_of_ble_eq_true rfl), (Nat.le_of_ble_eq_true rfl)⟩ (st := []) rfl (Nat.le_of_ble_eq_true rfl) ⟨(Nat.le_of_ble_eq_true rfl), (Nat.le_of_ble_eq_true rfl)⟩ dX12_row_1 (fun r1 N1 w1 hpo1 hN1 => ?_)
  obtain ⟨rfl, rfl, rfl⟩ := hpo1
  refine x_st (st' := [.int (zI (bI (0 ≤ r ∧ r ≤ 7)))]) rfl ?_
  have hrg1 := bI_rng (0 ≤ r ∧ r ≤ 7)
  refine x_if_eq (pc := 4) (tgt := 25) K (by omega) dX12_row_4 (by decide) (fun h_4 => ?_) (fun h_4 => ?_)
  · skip
    have h_4 := bI_t h_4
    refine x_ldc (pc := 25) (x := (-1000001)) (-1000001) K (by decide) (by decide +kernel) dX12_row_25 ?_
    refine x_iret (pc := 27) K KR (by omega) (Nat.le_of_ble_eq_true rfl) (Nat.le_of_ble_eq_true rfl) dX12_row_27 ?_
    exact ⟨rfl, (-1000001), F, la, sz, it, (by first | exact Or.inl ⟨(by first | rfl | omega | assumption | (simp only [Int.toNat_natCast]; omega)), (by first | rfl | omega | assumption | (simp only [Int.toNat_natCast]; omega)), (by first | rfl | omega | assumption | (simp only [Int.toNat_natCast]; omega)), (by first | rfl | omega | assumption | (simp only [Int.toNat_natCast]; omega)), (by first | rfl | omega | assumption | (simp only [Int.toNat_natCast]; omega)), (by first | rfl | omega | assumption | (simp only [Int.toNat_natCast]; omega))⟩ | exact Or.inr (Or.inl ⟨(by first | rfl | omega | assumption | (simp only [Int.toNat_natCast]; omega)), (by first | rfl | omega | assumption | (simp only [Int.toNat_natCast]; omega)), (by first | rfl | omega | assumption | (simp only [Int.toNat_natCast]; omega)), (by first | rfl | omega | assumption | (simp only [Int.toNat_natCast]; omega)), (by first | rfl | omega | assumption | (simp only [Int.toNat_natCast]; omega)), (by first | rfl | omega | assumption | (simp only [Int.toNat_natCast]; omega))⟩) | exact Or.inr (Or.inr (⟨(by first | rfl | omega | assumption | (simp only [Int.toNat_natCast]; omega)), (by first | rfl | omega | assumption | (simp only [Int.toNat_natCast]; omega)), (by first | rfl | omega | assumption | (simp only [Int.toNat_natCast]; omega)), (by first | rfl | omega | assumption | (simp only [Int.toNat_natCast]; omega)), (by first | rfl | omega | assumption | (simp only [Int.toNat_natCast]; omega)), (by first | rfl | omega | assumption | (simp only [Int.toNat_natCast]; omega))⟩))), rfl, rfl⟩
  · skip
    have h_4 := bI_f h_4
    refine x_iload_n (pc := 7) 2 K rfl rfl dX12_row_7 ?_
    refine x_i2l (pc := 8) K (by omega) dX12_row_8 ?_
    refine x_lconst (pc := 9) (0) K (by decide) dX12_row_9 ?_
    refine x_ldc2 (pc := 10) (x := (2)) (2) K (by decide) (by decide +kernel) dX12_row_10 ?_
    refine x_callS (pc := 13) (As := [.long (zL lane), .long (zL 0), .long (zL 2)]) K (c_X12_in (E := E) (B := B) (N := N)    (by omega) (by omega) (by omega)) gX12_row_X12_in rfl (na := 3) (by decide +kernel) rfl ⟨(Nat.le_of_ble_eq_true rfl), (Nat.le_of_ble_eq_true rfl)⟩ (st := []) rfl (Nat.le_of_ble_eq_true rfl) ⟨(Nat.le_of_ble_eq_true rfl), (Nat.le_of_ble_eq_true rfl)⟩ dX12_row_13 (fun r13 N13 w13 hpo13 hN13 => ?_)
    obtain ⟨rfl, rfl, rfl⟩ := hpo13
    refine x_st (st' := [.int (zI (bI (0 ≤ lane ∧ lane ≤ 2)))]) rfl ?_
    have hrg13 := bI_rng (0 ≤ lane ∧ lane ≤ 2)
    refine x_if_eq (pc := 16) (tgt := 25) K (by omega) dX12_row_16 (by decide) (fun h_16 => ?_) (fun h_16 => ?_)
    · skip
      have h_16 := bI_t h_16
      refine x_ldc (pc := 25) (x := (-1000001)) (-1000001) K (by decide) (by decide +kernel) dX12_row_25 ?_
      refine x_iret (pc := 27) K KR (by omega) (Nat.le_of_ble_eq_true rfl) (Nat.le_of_ble_eq_true rfl) dX12_row_27 ?_
      exact ⟨rfl, (-1000001), F, la, sz, it, (by first | exact Or.inl ⟨(by first | rfl | omega | assumption | (simp only [Int.toNat_natCast]; omega)), (by first | rfl | omega | assumption | (simp only [Int.toNat_natCast]; omega)), (by first | rfl | omega | assumption | (simp only [Int.toNat_natCast]; omega)), (by first | rfl | omega | assumption | (simp only [Int.toNat_natCast]; omega)), (by first | rfl | omega | assumption | (simp only [Int.toNat_natCast]; omega)), (by first | rfl | omega | assumption | (simp only [Int.toNat_natCast]; omega))⟩ | exact Or.inr (Or.inl ⟨(by first | rfl | omega | assumption | (simp only [Int.toNat_natCast]; omega)), (by first | rfl | omega | assumption | (simp only [Int.toNat_natCast]; omega)), (by first | rfl | omega | assumption | (simp only [Int.toNat_natCast]; omega)), (by first | rfl | omega | assumption | (simp only [Int.toNat_natCast]; omega)), (by first | rfl | omega | assumption | (simp only [Int.toNat_natCast]; omega)), (by first | rfl | omega | assumption | (simp only [Int.toNat_natCast]; omega))⟩) | exact Or.inr (Or.inr (⟨(by first | rfl | omega | assumption | (simp only [Int.toNat_natCast]; omega)), (by first | rfl | omega | assumption | (simp only [Int.toNat_natCast]; omega)), (by first | rfl | omega | assumption | (simp only [Int.toNat_natCast]; omega)), (by first | rfl | omega | assumption | (simp only [Int.toNat_natCast]; omega)), (by first | rfl | omega | assumption | (simp only [Int.toNat_natCast]; omega)), (by first | rfl | omega | assumption | (simp only [Int.toNat_natCast]; omega))⟩))), rfl, rfl⟩
    · skip
      have h_16 := bI_f h_16
      refine x_iload_n (pc := 19) 3 K rfl rfl dX12_row_19 ?_
      refine x_bipush (pc := 20) K (by decide) dX12_row_20 ?_
      refine x_icmp_le (pc := 22) (tgt := 28) K (by omega) (by decide) dX12_row_22 (by decide) (fun h_22 => ?_) (fun h_22 => ?_)
      · skip
        refine x_iload_n (pc := 28) 3 K rfl rfl dX12_row_28 ?_
        refine x_if_ge (pc := 29) (tgt := 38) K (by omega) dX12_row_29 (by decide) (fun h_29 => ?_) (fun h_29 => ?_)
        · skip
          obtain ⟨rr, rfl⟩ : ∃ rr : Nat, r = (rr : Int) := ⟨r.toNat, by omega⟩
          refine x_aload_n (pc := 38) 0 K rfl rfl dX12_row_38 ?_
          refine x_get (pc := 39) (C := RX12) (T := TX12) (n := 26) (ci := 11) (idx := 7) (ref := "BorderBedsModel") (x := .ref (B + 162))  K (cel_ne (cel_ne (cel_ne (cel_self hc0.1) (by decide)) (by decide)) (by decide)) rfl (by decide +kernel) 0 (by decide) (by decide +kernel) rfl rfl dX12_row_39 ?_
          refine x_iload_n (pc := 42) 1 K rfl rfl dX12_row_42 ?_
          refine x_iload_n (pc := 43) 2 K rfl rfl dX12_row_43 ?_
          refine x_iast (pc := 44) rr K (cel_ne (cel_ne (cel_self hc1.1) (by decide)) (by decide)) rfl (by omega) (by decide) dX12_row_44 ?_
          refine x_v (w := (va_up (va_up (va_up (va_up v 161 (oM B F V)) 162 (iarr E 8 (va_up la rr lane))) 163 (iarr E 8 sz)) 164 (iarr E 320 it))) (up_at2 (by decide) (by decide)).symm ?_
          refine x_aload_n (pc := 45) 0 K rfl rfl dX12_row_45 ?_
          refine x_get (pc := 46) (C := RX12) (T := TX12) (n := 26) (ci := 11) (idx := 13) (ref := "BorderBedsModel") (x := .ref (B + 163))  K (cel_ne (cel_ne (cel_ne (cel_self hc0.1) (by decide)) (by decide)) (by decide)) rfl (by decide +kernel) 1 (by decide) (by decide +kernel) rfl rfl dX12_row_46 ?_
          refine x_iload_n (pc := 49) 1 K rfl rfl dX12_row_49 ?_
          refine x_iload_n (pc := 50) 3 K rfl rfl dX12_row_50 ?_
          refine x_iast (pc := 51) rr K (cel_ne (cel_self hc2.1) (by decide)) rfl (by omega) (by decide) dX12_row_51 ?_
          refine x_v (w := (va_up (va_up (va_up (va_up v 161 (oM B F V)) 162 (iarr E 8 (va_up la rr lane))) 163 (iarr E 8 (va_up sz rr n))) 164 (iarr E 320 it))) (up_at1 (by decide)).symm ?_
          refine x_iconst (pc := 52) K dX12_row_52 ?_
          refine x_istore (pc := 53) K (L' := [(4, .int (zI 0)), (0, .ref (B + 161)), (1, .int (zI (rr : Int))), (2, .int (zI lane)), (3, .int (zI n))]) hnL (by decide) rfl dX12_row_53 ?_
          have LOOP55 : ∀ (n_55 : Nat) (k : Nat) (it3 : Nat → Int), (k ≤ 40) → (it3 = clrA it rr k) → (40 - k) < n_55 → XW Γ N (va_up (va_up (va_up (va_up v 161 (oM B F V)) 162 (iarr E 8 (va_up la rr lane))) 163 (iarr E 8 (va_up sz rr n))) 164 (iarr E 320 it3)) [(0, .ref (B + 161)), (1, .int (zI (rr : Int))), (2, .int (zI lane)), (3, .int (zI n)), (4, .int (zI (k : Int)))] 0 0 55 [] := by
            intro n_55
            induction n_55 with
            | zero =>
              intro k it3 hi55_0 hi55_1 hm_55
              exfalso; omega
            | succ n_55 ih55 =>
              intro k it3 hi55_0 hi55_1 hm_55
              refine x_iload (pc := 55) 4 K rfl dX12_row_55 ?_
              refine x_bipush (pc := 57) K (by decide) dX12_row_57 ?_
              refine x_icmp_ge (pc := 59) (tgt := 81) K (by omega) (by decide) dX12_row_59 (by decide) (fun h_59 => ?_) (fun h_59 => ?_)
              · skip
                have hk40 : k = 40 := by omega
                rw [hk40] at hi55_1
                refine x_aload_n (pc := 81) 0 K rfl rfl dX12_row_81 ?_
                refine x_iload_n (pc := 82) 3 K rfl rfl dX12_row_82 ?_
                refine x_callV (pc := 83) (C := RX12) (T := TX12) (n := 26) (ci := 11) (As := [.int (zI n)]) K (c_X12_well (E := E) (B := B) (N := N)   (cel_ne (cel_ne (cel_ne (cel_self hc0.1) (by decide)) (by decide)) (by decide)) ) gX12_row_X12_well rfl (na := 1) (by decide +kernel) rfl ⟨(Nat.le_of_ble_eq_true rfl), (Nat.le_of_ble_eq_true rfl)⟩ (cel_ne (cel_ne (cel_ne (cel_self hc0.1) (by decide)) (by decide)) (by decide)) rfl (st := []) rfl (Nat.le_of_ble_eq_true rfl) ⟨(Nat.le_of_ble_eq_true rfl), (Nat.le_of_ble_eq_true rfl)⟩ dX12_row_83 (fun r83 N83 w83 hpo83 hN83 => ?_)
                obtain ⟨rfl, rfl, rfl⟩ := hpo83
                refine x_v (w := (va_up (va_up (va_up (va_up v 161 (oM B (va_up F 3 0) V)) 162 (iarr E 8 (va_up la rr lane))) 163 (iarr E 8 (va_up sz rr n))) 164 (iarr E 320 it3))) (up_at3 (by decide) (by decide) (by decide)).symm ?_
                refine x_st (st' := [.int (zI n)]) rfl ?_
                refine x_iret (pc := 86) K KR (by omega) (Nat.le_of_ble_eq_true rfl) (Nat.le_of_ble_eq_true rfl) dX12_row_86 ?_
                exact ⟨rfl, n, (va_up F 3 0), (va_up la rr lane), (va_up sz rr n), it3, (by first | exact Or.inl ⟨(by first | rfl | omega | assumption | (simp only [Int.toNat_natCast]; omega)), (by first | rfl | omega | assumption | (simp only [Int.toNat_natCast]; omega)), (by first | rfl | omega | assumption | (simp only [Int.toNat_natCast]; omega)), (by first | rfl | omega | assumption | (simp only [Int.toNat_natCast]; omega)), (by first | rfl | omega | assumption | (simp only [Int.toNat_natCast]; omega)), (by first | rfl | omega | assumption | (simp only [Int.toNat_natCast]; omega))⟩ | exact Or.inr (Or.inl ⟨(by first | rfl | omega | assumption | (simp only [Int.toNat_natCast]; omega)), (by first | rfl | omega | assumption | (simp only [Int.toNat_natCast]; omega)), (by first | rfl | omega | assumption | (simp only [Int.toNat_natCast]; omega)), (by first | rfl | omega | assumption | (simp only [Int.toNat_natCast]; omega)), (by first | rfl | omega | assumption | (simp only [Int.toNat_natCast]; omega)), (by first | rfl | omega | assumption | (simp only [Int.toNat_natCast]; omega))⟩) | exact Or.inr (Or.inr (⟨(by first | rfl | omega | assumption | (simp only [Int.toNat_natCast]; omega)), (by first | rfl | omega | assumption | (simp only [Int.toNat_natCast]; omega)), (by first | rfl | omega | assumption | (simp only [Int.toNat_natCast]; omega)), (by first | rfl | omega | assumption | (simp only [Int.toNat_natCast]; omega)), (by first | rfl | omega | assumption | (simp only [Int.toNat_natCast]; omega)), (by first | rfl | omega | assumption | (simp only [Int.toNat_natCast]; omega))⟩))), rfl, rfl⟩
              · skip
                refine x_aload_n (pc := 62) 0 K rfl rfl dX12_row_62 ?_
                refine x_get (pc := 63) (C := RX12) (T := TX12) (n := 26) (ci := 11) (idx := 16) (ref := "BorderBedsModel") (x := .ref (B + 164))  K (cel_ne (cel_ne (cel_ne (cel_self hc0.1) (by decide)) (by decide)) (by decide)) rfl (by decide +kernel) 2 (by decide) (by decide +kernel) rfl rfl dX12_row_63 ?_
                refine x_bipush (pc := 66) K (by decide) dX12_row_66 ?_
                refine x_iload_n (pc := 68) 1 K rfl rfl dX12_row_68 ?_
                refine x_imul (pc := 69) K dX12_row_69 ?_
                refine x_iload (pc := 70) 4 K rfl dX12_row_70 ?_
                refine x_iadd (pc := 72) K dX12_row_72 ?_
                refine x_iconst (pc := 73) K dX12_row_73 ?_
                refine x_iast (pc := 74) ((40 * rr) + k) K (cel_self hc3.1) (by omega) (by omega) (by decide) dX12_row_74 ?_
                refine x_v (w := (va_up (va_up (va_up (va_up v 161 (oM B F V)) 162 (iarr E 8 (va_up la rr lane))) 163 (iarr E 8 (va_up sz rr n))) 164 (iarr E 320 (va_up it3 ((40 * rr) + k) 0)))) (up_at0).symm ?_
                refine x_iinc (pc := 75) (L' := [(4, .int (zI ((k : Int) + 1))), (0, .ref (B + 161)), (1, .int (zI (rr : Int))), (2, .int (zI lane)), (3, .int (zI n))]) 4 K hnL rfl (by decide) rfl dX12_row_75 ?_
                refine x_goto (pc := 78) (tgt := 55) K dX12_row_78 (by decide) ?_
                refine x_sub (L' := [(0, .ref (B + 161)), (1, .int (zI (rr : Int))), (2, .int (zI lane)), (3, .int (zI n)), (4, .int (zI ((k : Int) + 1)))]) [1, 2, 3, 4, 0] rfl ?_
                exact ih55 (k + 1) (va_up it3 ((40 * rr) + k) 0) (by omega) (by rw [hi55_1]; exact clrA_s it rr k) (by omega)
          refine x_sub (L' := [(0, .ref (B + 161)), (1, .int (zI (rr : Int))), (2, .int (zI lane)), (3, .int (zI n)), (4, .int (zI 0))]) [1, 2, 3, 4, 0] rfl ?_
          exact LOOP55 (_) 0 it (by omega) (by exact (clrA_0 it rr).symm) (Nat.lt_succ_self _)
        · skip
          refine x_aload_n (pc := 32) 0 K rfl rfl dX12_row_32 ?_
          refine x_iconst (pc := 33) K dX12_row_33 ?_
          refine x_callV (pc := 34) (C := RX12) (T := TX12) (n := 26) (ci := 11) (As := [.int (zI 4)]) K (c_X12_found (E := E) (B := B) (N := N)   (cel_ne (cel_ne (cel_ne (cel_self hc0.1) (by decide)) (by decide)) (by decide)) ) gX12_row_X12_found rfl (na := 1) (by decide +kernel) rfl ⟨(Nat.le_of_ble_eq_true rfl), (Nat.le_of_ble_eq_true rfl)⟩ (cel_ne (cel_ne (cel_ne (cel_self hc0.1) (by decide)) (by decide)) (by decide)) rfl (st := []) rfl (Nat.le_of_ble_eq_true rfl) ⟨(Nat.le_of_ble_eq_true rfl), (Nat.le_of_ble_eq_true rfl)⟩ dX12_row_34 (fun r34 N34 w34 hpo34 hN34 => ?_)
          obtain ⟨rfl, rfl, rfl⟩ := hpo34
          refine x_v (w := (va_up (va_up (va_up (va_up v 161 (oM B (va_up F 3 4) V)) 162 (iarr E 8 la)) 163 (iarr E 8 sz)) 164 (iarr E 320 it))) (up_at3 (by decide) (by decide) (by decide)).symm ?_
          refine x_st (st' := [.int (zI (-1000010 - 4))]) rfl ?_
          refine x_iret (pc := 37) K KR (by omega) (Nat.le_of_ble_eq_true rfl) (Nat.le_of_ble_eq_true rfl) dX12_row_37 ?_
          exact ⟨rfl, (-1000010 - 4), (va_up F 3 4), la, sz, it, (by first | exact Or.inl ⟨(by first | rfl | omega | assumption | (simp only [Int.toNat_natCast]; omega)), (by first | rfl | omega | assumption | (simp only [Int.toNat_natCast]; omega)), (by first | rfl | omega | assumption | (simp only [Int.toNat_natCast]; omega)), (by first | rfl | omega | assumption | (simp only [Int.toNat_natCast]; omega)), (by first | rfl | omega | assumption | (simp only [Int.toNat_natCast]; omega)), (by first | rfl | omega | assumption | (simp only [Int.toNat_natCast]; omega))⟩ | exact Or.inr (Or.inl ⟨(by first | rfl | omega | assumption | (simp only [Int.toNat_natCast]; omega)), (by first | rfl | omega | assumption | (simp only [Int.toNat_natCast]; omega)), (by first | rfl | omega | assumption | (simp only [Int.toNat_natCast]; omega)), (by first | rfl | omega | assumption | (simp only [Int.toNat_natCast]; omega)), (by first | rfl | omega | assumption | (simp only [Int.toNat_natCast]; omega)), (by first | rfl | omega | assumption | (simp only [Int.toNat_natCast]; omega))⟩) | exact Or.inr (Or.inr (⟨(by first | rfl | omega | assumption | (simp only [Int.toNat_natCast]; omega)), (by first | rfl | omega | assumption | (simp only [Int.toNat_natCast]; omega)), (by first | rfl | omega | assumption | (simp only [Int.toNat_natCast]; omega)), (by first | rfl | omega | assumption | (simp only [Int.toNat_natCast]; omega)), (by first | rfl | omega | assumption | (simp only [Int.toNat_natCast]; omega)), (by first | rfl | omega | assumption | (simp only [Int.toNat_natCast]; omega))⟩))), rfl, rfl⟩
      · skip
        refine x_ldc (pc := 25) (x := (-1000001)) (-1000001) K (by decide) (by decide +kernel) dX12_row_25 ?_
        refine x_iret (pc := 27) K KR (by omega) (Nat.le_of_ble_eq_true rfl) (Nat.le_of_ble_eq_true rfl) dX12_row_27 ?_
        exact ⟨rfl, (-1000001), F, la, sz, it, (by first | exact Or.inl ⟨(by first | rfl | omega | assumption | (simp only [Int.toNat_natCast]; omega)), (by first | rfl | omega | assumption | (simp only [Int.toNat_natCast]; omega)), (by first | rfl | omega | assumption | (simp only [Int.toNat_natCast]; omega)), (by first | rfl | omega | assumption | (simp only [Int.toNat_natCast]; omega)), (by first | rfl | omega | assumption | (simp only [Int.toNat_natCast]; omega)), (by first | rfl | omega | assumption | (simp only [Int.toNat_natCast]; omega))⟩ | exact Or.inr (Or.inl ⟨(by first | rfl | omega | assumption | (simp only [Int.toNat_natCast]; omega)), (by first | rfl | omega | assumption | (simp only [Int.toNat_natCast]; omega)), (by first | rfl | omega | assumption | (simp only [Int.toNat_natCast]; omega)), (by first | rfl | omega | assumption | (simp only [Int.toNat_natCast]; omega)), (by first | rfl | omega | assumption | (simp only [Int.toNat_natCast]; omega)), (by first | rfl | omega | assumption | (simp only [Int.toNat_natCast]; omega))⟩) | exact Or.inr (Or.inr (⟨(by first | rfl | omega | assumption | (simp only [Int.toNat_natCast]; omega)), (by first | rfl | omega | assumption | (simp only [Int.toNat_natCast]; omega)), (by first | rfl | omega | assumption | (simp only [Int.toNat_natCast]; omega)), (by first | rfl | omega | assumption | (simp only [Int.toNat_natCast]; omega)), (by first | rfl | omega | assumption | (simp only [Int.toNat_natCast]; omega)), (by first | rfl | omega | assumption | (simp only [Int.toNat_natCast]; omega))⟩))), rfl, rfl⟩

set_option maxRecDepth 100000 in
set_option maxHeartbeats 4000000 in
theorem c_X12_set {E : XE} {B N : Nat} {v : Nat → va_E} {F la sz it : Nat → Int} {V r i w : Int} (hc0 : Cel N v 161 (oM B F V)) (hc1 : Cel N v 162 (iarr E 8 la)) (hc2 : Cel N v 163 (iarr E 8 sz)) (hc3 : Cel N v 164 (iarr E 320 it)) (hq0 : (-2147483648 ≤ r ∧ r ≤ 2147483647)) (hq1 : (-2147483648 ≤ i ∧ i ≤ 2147483647)) (hq2 : (-2147483648 ≤ w ∧ w ≤ 2147483647)) (hq3 : ∀ k, k < 8 → -1 ≤ sz k ∧ sz k ≤ 40) (hq4 : ∀ k, k < 8 → 0 ≤ la k ∧ la k ≤ 2) : gM yX12_set wsX12_set ({ frames := 2, cells := 0, slots := 0, locals := 45 }) E B N v [.ref (B + 161), .int (zI r), .int (zI i), .int (zI w)] (po0 N (fun ρ v' => ∃ (res : Int), ∃ (F2 : Nat → Int), ∃ (it2 : Nat → Int), ((¬ (0 ≤ r ∧ r ≤ 7) ∧ res = -1000001 ∧ F2 = F ∧ it2 = it) ∨ ((0 ≤ r ∧ r ≤ 7 ∧ sz r.toNat < 0) ∧ res = -1000011 ∧ F2 = va_up F 3 1 ∧ it2 = it) ∨ ((0 ≤ r ∧ r ≤ 7 ∧ 0 ≤ sz r.toNat ∧ ¬ (0 ≤ i ∧ i ≤ sz r.toNat - 1)) ∧ res = -1000012 ∧ F2 = va_up F 3 2 ∧ it2 = it) ∨ ((0 ≤ r ∧ r ≤ 7 ∧ 0 ≤ i ∧ i ≤ sz r.toNat - 1) ∧ res = narA (la r.toNat) w ∧ F2 = va_up F 3 0 ∧ it2 = va_up it (40 * r.toNat + i.toNat) (narA (la r.toNat) w))) ∧ ρ = some (.int (zI res)) ∧ (va_up (va_up v 161 (oM B F2 V)) 164 (iarr E 320 it2)) = v')) := by
  refine x_met (nm := "set") (by decide +kernel) rfl (Nat.le_of_ble_eq_true rfl) rfl (fun Γ K KR hnL hnm => ?_)
  show XW Γ N v [(0, .ref (B + 161)), (1, .int (zI r)), (2, .int (zI i)), (3, .int (zI w))] 0 0 0 []
  refine x_v (cel_pad hc0) ?_
  refine x_v (cel_pad (cel_ne hc3 (by decide))) ?_
  refine x_iload_n (pc := 0) 1 K rfl rfl dX12_set_0 ?_
  refine x_callS (pc := 1) (As := [.int (zI r)]) K (c_X12_isRow (E := E) (B := B) (N := N)    (by omega)) gX12_set_X12_isRow rfl (na := 1) (by decide +kernel) rfl ⟨(Nat.le_of_ble_eq_true rfl), (Nat.le_of_ble_eq_true rfl)⟩ (st := []) rfl (Nat.le_of_ble_eq_true rfl) ⟨(Nat.le_of_ble_eq_true rfl), (Nat.le_of_ble_eq_true rfl)⟩ dX12_set_1 (fun r1 N1 w1 hpo1 hN1 => ?_)
  obtain ⟨rfl, rfl, rfl⟩ := hpo1
  refine x_st (st' := [.int (zI (bI (0 ≤ r ∧ r ≤ 7)))]) rfl ?_
  have hrg1 := bI_rng (0 ≤ r ∧ r ≤ 7)
  refine x_if_ne (pc := 4) (tgt := 10) K (by omega) dX12_set_4 (by decide) (fun h_4 => ?_) (fun h_4 => ?_)
  · skip
    have h_4 := bI_f h_4
    obtain ⟨rr, rfl⟩ : ∃ rr : Nat, r = (rr : Int) := ⟨r.toNat, by omega⟩
    have b15 := hq3 rr (by omega)
    have b64 := hq4 rr (by omega)
    refine x_aload_n (pc := 10) 0 K rfl rfl dX12_set_10 ?_
    refine x_get (pc := 11) (C := RX12) (T := TX12) (n := 26) (ci := 11) (idx := 13) (ref := "BorderBedsModel") (x := .ref (B + 163))  K (cel_ne (cel_self hc0.1) (by decide)) rfl (by decide +kernel) 1 (by decide) (by decide +kernel) rfl rfl dX12_set_11 ?_
    refine x_iload_n (pc := 14) 1 K rfl rfl dX12_set_14 ?_
    refine x_iald (pc := 15) rr K (cel_ne (cel_ne hc2 (by decide)) (by decide)) rfl (by omega) (by decide) dX12_set_15 ?_
    refine x_if_ge (pc := 16) (tgt := 25) K (by omega) dX12_set_16 (by decide) (fun h_16 => ?_) (fun h_16 => ?_)
    · skip
      refine x_iload_n (pc := 25) 2 K rfl rfl dX12_set_25 ?_
      refine x_i2l (pc := 26) K (by omega) dX12_set_26 ?_
      refine x_lconst (pc := 27) (0) K (by decide) dX12_set_27 ?_
      refine x_aload_n (pc := 28) 0 K rfl rfl dX12_set_28 ?_
      refine x_get (pc := 29) (C := RX12) (T := TX12) (n := 26) (ci := 11) (idx := 13) (ref := "BorderBedsModel") (x := .ref (B + 163))  K (cel_ne (cel_self hc0.1) (by decide)) rfl (by decide +kernel) 1 (by decide) (by decide +kernel) rfl rfl dX12_set_29 ?_
      refine x_iload_n (pc := 32) 1 K rfl rfl dX12_set_32 ?_
      refine x_iald (pc := 33) rr K (cel_ne (cel_ne hc2 (by decide)) (by decide)) rfl (by omega) (by decide) dX12_set_33 ?_
      refine x_iconst (pc := 34) K dX12_set_34 ?_
      refine x_isub (pc := 35) K dX12_set_35 ?_
      refine x_i2l (pc := 36) K (by omega) dX12_set_36 ?_
      refine x_callS (pc := 37) (As := [.long (zL i), .long (zL 0), .long (zL ((sz rr) - 1))]) K (c_X12_in (E := E) (B := B) (N := N)    (by omega) (by omega) (by omega)) gX12_set_X12_in rfl (na := 3) (by decide +kernel) rfl ⟨(Nat.le_of_ble_eq_true rfl), (Nat.le_of_ble_eq_true rfl)⟩ (st := []) rfl (Nat.le_of_ble_eq_true rfl) ⟨(Nat.le_of_ble_eq_true rfl), (Nat.le_of_ble_eq_true rfl)⟩ dX12_set_37 (fun r37 N37 w37 hpo37 hN37 => ?_)
      obtain ⟨rfl, rfl, rfl⟩ := hpo37
      refine x_st (st' := [.int (zI (bI (0 ≤ i ∧ i ≤ ((sz rr) - 1))))]) rfl ?_
      have hrg37 := bI_rng (0 ≤ i ∧ i ≤ ((sz rr) - 1))
      refine x_if_ne (pc := 40) (tgt := 49) K (by omega) dX12_set_40 (by decide) (fun h_40 => ?_) (fun h_40 => ?_)
      · skip
        have h_40 := bI_f h_40
        obtain ⟨ii, rfl⟩ : ∃ ii : Nat, i = (ii : Int) := ⟨i.toNat, by omega⟩
        refine x_aload_n (pc := 49) 0 K rfl rfl dX12_set_49 ?_
        refine x_get (pc := 50) (C := RX12) (T := TX12) (n := 26) (ci := 11) (idx := 16) (ref := "BorderBedsModel") (x := .ref (B + 164))  K (cel_ne (cel_self hc0.1) (by decide)) rfl (by decide +kernel) 2 (by decide) (by decide +kernel) rfl rfl dX12_set_50 ?_
        refine x_bipush (pc := 53) K (by decide) dX12_set_53 ?_
        refine x_iload_n (pc := 55) 1 K rfl rfl dX12_set_55 ?_
        refine x_imul (pc := 56) K dX12_set_56 ?_
        refine x_iload_n (pc := 57) 2 K rfl rfl dX12_set_57 ?_
        refine x_iadd (pc := 58) K dX12_set_58 ?_
        refine x_aload_n (pc := 59) 0 K rfl rfl dX12_set_59 ?_
        refine x_get (pc := 60) (C := RX12) (T := TX12) (n := 26) (ci := 11) (idx := 7) (ref := "BorderBedsModel") (x := .ref (B + 162))  K (cel_ne (cel_self hc0.1) (by decide)) rfl (by decide +kernel) 0 (by decide) (by decide +kernel) rfl rfl dX12_set_60 ?_
        refine x_iload_n (pc := 63) 1 K rfl rfl dX12_set_63 ?_
        refine x_iald (pc := 64) rr K (cel_ne (cel_ne hc1 (by decide)) (by decide)) rfl (by omega) (by decide) dX12_set_64 ?_
        refine x_if_ne (pc := 65) (tgt := 73) K (by omega) dX12_set_65 (by decide) (fun h_65 => ?_) (fun h_65 => ?_)
        · skip
          refine x_aload_n (pc := 73) 0 K rfl rfl dX12_set_73 ?_
          refine x_get (pc := 74) (C := RX12) (T := TX12) (n := 26) (ci := 11) (idx := 7) (ref := "BorderBedsModel") (x := .ref (B + 162))  K (cel_ne (cel_self hc0.1) (by decide)) rfl (by decide +kernel) 0 (by decide) (by decide +kernel) rfl rfl dX12_set_74 ?_
          refine x_iload_n (pc := 77) 1 K rfl rfl dX12_set_77 ?_
          refine x_iald (pc := 78) rr K (cel_ne (cel_ne hc1 (by decide)) (by decide)) rfl (by omega) (by decide) dX12_set_78 ?_
          refine x_iconst (pc := 79) K dX12_set_79 ?_
          refine x_icmp_ne (pc := 80) (tgt := 88) K (by omega) (by decide) dX12_set_80 (by decide) (fun h_80 => ?_) (fun h_80 => ?_)
          · skip
            refine x_iload_n (pc := 88) 3 K rfl rfl dX12_set_88 ?_
            refine x_st (st' := [.int (zI (narA (la rr) w)), .int (zI ((40 * (rr : Int)) + (ii : Int))), .ref (B + 164)]) (by unfold narA; first | rw [if_pos (show la rr = 0 by omega)] | rw [if_neg (show ¬ la rr = 0 by omega), if_pos (show la rr = 1 by omega)] | rw [if_neg (show ¬ la rr = 0 by omega), if_neg (show ¬ la rr = 1 by omega)]) ?_
            refine x_iast (pc := 89) ((40 * rr) + ii) K (cel_self hc3.1) (by omega) (by omega) (by decide) dX12_set_89 ?_
            refine x_v (w := (va_up (va_up v 161 (oM B F V)) 164 (iarr E 320 (va_up it ((40 * rr) + ii) (narA (la rr) w))))) (up_at0).symm ?_
            refine x_aload_n (pc := 90) 0 K rfl rfl dX12_set_90 ?_
            refine x_aload_n (pc := 91) 0 K rfl rfl dX12_set_91 ?_
            refine x_get (pc := 92) (C := RX12) (T := TX12) (n := 26) (ci := 11) (idx := 16) (ref := "BorderBedsModel") (x := .ref (B + 164))  K (cel_ne (cel_self hc0.1) (by decide)) rfl (by decide +kernel) 2 (by decide) (by decide +kernel) rfl rfl dX12_set_92 ?_
            refine x_bipush (pc := 95) K (by decide) dX12_set_95 ?_
            refine x_iload_n (pc := 97) 1 K rfl rfl dX12_set_97 ?_
            refine x_imul (pc := 98) K dX12_set_98 ?_
            refine x_iload_n (pc := 99) 2 K rfl rfl dX12_set_99 ?_
            refine x_iadd (pc := 100) K dX12_set_100 ?_
            refine x_iald (pc := 101) ((40 * rr) + ii) K (cel_self hc3.1) (by omega) (by omega) (by decide) dX12_set_101 ?_
            refine x_st (st' := [.int (zI (narA (la rr) w)), .ref (B + 161)]) (by rw [va_up_self]) ?_
            refine x_callV (pc := 102) (C := RX12) (T := TX12) (n := 26) (ci := 11) (As := [.int (zI (narA (la rr) w))]) K (c_X12_well (E := E) (B := B) (N := N)   (cel_ne (cel_self hc0.1) (by decide)) ) gX12_set_X12_well rfl (na := 1) (by decide +kernel) rfl ⟨(Nat.le_of_ble_eq_true rfl), (Nat.le_of_ble_eq_true rfl)⟩ (cel_ne (cel_self hc0.1) (by decide)) rfl (st := []) rfl (Nat.le_of_ble_eq_true rfl) ⟨(Nat.le_of_ble_eq_true rfl), (Nat.le_of_ble_eq_true rfl)⟩ dX12_set_102 (fun r102 N102 w102 hpo102 hN102 => ?_)
            obtain ⟨rfl, rfl, rfl⟩ := hpo102
            refine x_v (w := (va_up (va_up v 161 (oM B (va_up F 3 0) V)) 164 (iarr E 320 (va_up it ((40 * rr) + ii) (narA (la rr) w))))) (up_at1 (by decide)).symm ?_
            refine x_st (st' := [.int (zI (narA (la rr) w))]) rfl ?_
            refine x_iret (pc := 105) K KR (by omega) (Nat.le_of_ble_eq_true rfl) (Nat.le_of_ble_eq_true rfl) dX12_set_105 ?_
            exact ⟨rfl, (narA (la rr) w), (va_up F 3 0), (va_up it ((40 * rr) + ii) (narA (la rr) w)), (by first | exact Or.inl ⟨(by first | rfl | omega | assumption | (simp only [Int.toNat_natCast]; omega)), (by first | rfl | omega | assumption | (simp only [Int.toNat_natCast]; omega)), (by first | rfl | omega | assumption | (simp only [Int.toNat_natCast]; omega)), (by first | rfl | omega | assumption | (simp only [Int.toNat_natCast]; omega))⟩ | exact Or.inr (Or.inl ⟨(by first | rfl | omega | assumption | (simp only [Int.toNat_natCast]; omega)), (by first | rfl | omega | assumption | (simp only [Int.toNat_natCast]; omega)), (by first | rfl | omega | assumption | (simp only [Int.toNat_natCast]; omega)), (by first | rfl | omega | assumption | (simp only [Int.toNat_natCast]; omega))⟩) | exact Or.inr (Or.inr (Or.inl ⟨(by first | rfl | omega | assumption | (simp only [Int.toNat_natCast]; omega)), (by first | rfl | omega | assumption | (simp only [Int.toNat_natCast]; omega)), (by first | rfl | omega | assumption | (simp only [Int.toNat_natCast]; omega)), (by first | rfl | omega | assumption | (simp only [Int.toNat_natCast]; omega))⟩)) | exact Or.inr (Or.inr (Or.inr (⟨(by first | rfl | omega | assumption | (simp only [Int.toNat_natCast]; omega)), (by first | rfl | omega | assumption | (simp only [Int.toNat_natCast]; omega)), (by first | rfl | omega | assumption | (simp only [Int.toNat_natCast]; omega)), (by first | rfl | omega | assumption | (simp only [Int.toNat_natCast]; omega))⟩)))), rfl, rfl⟩
          · skip
            refine x_iload_n (pc := 83) 3 K rfl rfl dX12_set_83 ?_
            refine x_i2s (pc := 84) K dX12_set_84 ?_
            refine x_goto (pc := 85) (tgt := 89) K dX12_set_85 (by decide) ?_
            refine x_st (st' := [.int (zI (narA (la rr) w)), .int (zI ((40 * (rr : Int)) + (ii : Int))), .ref (B + 164)]) (by unfold narA; first | rw [if_pos (show la rr = 0 by omega)] | rw [if_neg (show ¬ la rr = 0 by omega), if_pos (show la rr = 1 by omega)] | rw [if_neg (show ¬ la rr = 0 by omega), if_neg (show ¬ la rr = 1 by omega)]) ?_
            refine x_iast (pc := 89) ((40 * rr) + ii) K (cel_self hc3.1) (by omega) (by omega) (by decide) dX12_set_89 ?_
            refine x_v (w := (va_up (va_up v 161 (oM B F V)) 164 (iarr E 320 (va_up it ((40 * rr) + ii) (narA (la rr) w))))) (up_at0).symm ?_
            refine x_aload_n (pc := 90) 0 K rfl rfl dX12_set_90 ?_
            refine x_aload_n (pc := 91) 0 K rfl rfl dX12_set_91 ?_
            refine x_get (pc := 92) (C := RX12) (T := TX12) (n := 26) (ci := 11) (idx := 16) (ref := "BorderBedsModel") (x := .ref (B + 164))  K (cel_ne (cel_self hc0.1) (by decide)) rfl (by decide +kernel) 2 (by decide) (by decide +kernel) rfl rfl dX12_set_92 ?_
            refine x_bipush (pc := 95) K (by decide) dX12_set_95 ?_
            refine x_iload_n (pc := 97) 1 K rfl rfl dX12_set_97 ?_
            refine x_imul (pc := 98) K dX12_set_98 ?_
            refine x_iload_n (pc := 99) 2 K rfl rfl dX12_set_99 ?_
            refine x_iadd (pc := 100) K dX12_set_100 ?_
            refine x_iald (pc := 101) ((40 * rr) + ii) K (cel_self hc3.1) (by omega) (by omega) (by decide) dX12_set_101 ?_
            refine x_st (st' := [.int (zI (narA (la rr) w)), .ref (B + 161)]) (by rw [va_up_self]) ?_
            refine x_callV (pc := 102) (C := RX12) (T := TX12) (n := 26) (ci := 11) (As := [.int (zI (narA (la rr) w))]) K (c_X12_well (E := E) (B := B) (N := N)   (cel_ne (cel_self hc0.1) (by decide)) ) gX12_set_X12_well rfl (na := 1) (by decide +kernel) rfl ⟨(Nat.le_of_ble_eq_true rfl), (Nat.le_of_ble_eq_true rfl)⟩ (cel_ne (cel_self hc0.1) (by decide)) rfl (st := []) rfl (Nat.le_of_ble_eq_true rfl) ⟨(Nat.le_of_ble_eq_true rfl), (Nat.le_of_ble_eq_true rfl)⟩ dX12_set_102 (fun r102 N102 w102 hpo102 hN102 => ?_)
            obtain ⟨rfl, rfl, rfl⟩ := hpo102
            refine x_v (w := (va_up (va_up v 161 (oM B (va_up F 3 0) V)) 164 (iarr E 320 (va_up it ((40 * rr) + ii) (narA (la rr) w))))) (up_at1 (by decide)).symm ?_
            refine x_st (st' := [.int (zI (narA (la rr) w))]) rfl ?_
            refine x_iret (pc := 105) K KR (by omega) (Nat.le_of_ble_eq_true rfl) (Nat.le_of_ble_eq_true rfl) dX12_set_105 ?_
            exact ⟨rfl, (narA (la rr) w), (va_up F 3 0), (va_up it ((40 * rr) + ii) (narA (la rr) w)), (by first | exact Or.inl ⟨(by first | rfl | omega | assumption | (simp only [Int.toNat_natCast]; omega)), (by first | rfl | omega | assumption | (simp only [Int.toNat_natCast]; omega)), (by first | rfl | omega | assumption | (simp only [Int.toNat_natCast]; omega)), (by first | rfl | omega | assumption | (simp only [Int.toNat_natCast]; omega))⟩ | exact Or.inr (Or.inl ⟨(by first | rfl | omega | assumption | (simp only [Int.toNat_natCast]; omega)), (by first | rfl | omega | assumption | (simp only [Int.toNat_natCast]; omega)), (by first | rfl | omega | assumption | (simp only [Int.toNat_natCast]; omega)), (by first | rfl | omega | assumption | (simp only [Int.toNat_natCast]; omega))⟩) | exact Or.inr (Or.inr (Or.inl ⟨(by first | rfl | omega | assumption | (simp only [Int.toNat_natCast]; omega)), (by first | rfl | omega | assumption | (simp only [Int.toNat_natCast]; omega)), (by first | rfl | omega | assumption | (simp only [Int.toNat_natCast]; omega)), (by first | rfl | omega | assumption | (simp only [Int.toNat_natCast]; omega))⟩)) | exact Or.inr (Or.inr (Or.inr (⟨(by first | rfl | omega | assumption | (simp only [Int.toNat_natCast]; omega)), (by first | rfl | omega | assumption | (simp only [Int.toNat_natCast]; omega)), (by first | rfl | omega | assumption | (simp only [Int.toNat_natCast]; omega)), (by first | rfl | omega | assumption | (simp only [Int.toNat_natCast]; omega))⟩)))), rfl, rfl⟩
        · skip
          refine x_iload_n (pc := 68) 3 K rfl rfl dX12_set_68 ?_
          refine x_i2b (pc := 69) K dX12_set_69 ?_
          refine x_goto (pc := 70) (tgt := 89) K dX12_set_70 (by decide) ?_
          refine x_st (st' := [.int (zI (narA (la rr) w)), .int (zI ((40 * (rr : Int)) + (ii : Int))), .ref (B + 164)]) (by unfold narA; first | rw [if_pos (show la rr = 0 by omega)] | rw [if_neg (show ¬ la rr = 0 by omega), if_pos (show la rr = 1 by omega)] | rw [if_neg (show ¬ la rr = 0 by omega), if_neg (show ¬ la rr = 1 by omega)]) ?_
          refine x_iast (pc := 89) ((40 * rr) + ii) K (cel_self hc3.1) (by omega) (by omega) (by decide) dX12_set_89 ?_
          refine x_v (w := (va_up (va_up v 161 (oM B F V)) 164 (iarr E 320 (va_up it ((40 * rr) + ii) (narA (la rr) w))))) (up_at0).symm ?_
          refine x_aload_n (pc := 90) 0 K rfl rfl dX12_set_90 ?_
          refine x_aload_n (pc := 91) 0 K rfl rfl dX12_set_91 ?_
          refine x_get (pc := 92) (C := RX12) (T := TX12) (n := 26) (ci := 11) (idx := 16) (ref := "BorderBedsModel") (x := .ref (B + 164))  K (cel_ne (cel_self hc0.1) (by decide)) rfl (by decide +kernel) 2 (by decide) (by decide +kernel) rfl rfl dX12_set_92 ?_
          refine x_bipush (pc := 95) K (by decide) dX12_set_95 ?_
          refine x_iload_n (pc := 97) 1 K rfl rfl dX12_set_97 ?_
          refine x_imul (pc := 98) K dX12_set_98 ?_
          refine x_iload_n (pc := 99) 2 K rfl rfl dX12_set_99 ?_
          refine x_iadd (pc := 100) K dX12_set_100 ?_
          refine x_iald (pc := 101) ((40 * rr) + ii) K (cel_self hc3.1) (by omega) (by omega) (by decide) dX12_set_101 ?_
          refine x_st (st' := [.int (zI (narA (la rr) w)), .ref (B + 161)]) (by rw [va_up_self]) ?_
          refine x_callV (pc := 102) (C := RX12) (T := TX12) (n := 26) (ci := 11) (As := [.int (zI (narA (la rr) w))]) K (c_X12_well (E := E) (B := B) (N := N)   (cel_ne (cel_self hc0.1) (by decide)) ) gX12_set_X12_well rfl (na := 1) (by decide +kernel) rfl ⟨(Nat.le_of_ble_eq_true rfl), (Nat.le_of_ble_eq_true rfl)⟩ (cel_ne (cel_self hc0.1) (by decide)) rfl (st := []) rfl (Nat.le_of_ble_eq_true rfl) ⟨(Nat.le_of_ble_eq_true rfl), (Nat.le_of_ble_eq_true rfl)⟩ dX12_set_102 (fun r102 N102 w102 hpo102 hN102 => ?_)
          obtain ⟨rfl, rfl, rfl⟩ := hpo102
          refine x_v (w := (va_up (va_up v 161 (oM B (va_up F 3 0) V)) 164 (iarr E 320 (va_up it ((40 * rr) + ii) (narA (la rr) w))))) (up_at1 (by decide)).symm ?_
          refine x_st (st' := [.int (zI (narA (la rr) w))]) rfl ?_
          refine x_iret (pc := 105) K KR (by omega) (Nat.le_of_ble_eq_true rfl) (Nat.le_of_ble_eq_true rfl) dX12_set_105 ?_
          exact ⟨rfl, (narA (la rr) w), (va_up F 3 0), (va_up it ((40 * rr) + ii) (narA (la rr) w)), (by first | exact Or.inl ⟨(by first | rfl | omega | assumption | (simp only [Int.toNat_natCast]; omega)), (by first | rfl | omega | assumption | (simp only [Int.toNat_natCast]; omega)), (by first | rfl | omega | assumption | (simp only [Int.toNat_natCast]; omega)), (by first | rfl | omega | assumption | (simp only [Int.toNat_natCast]; omega))⟩ | exact Or.inr (Or.inl ⟨(by first | rfl | omega | assumption | (simp only [Int.toNat_natCast]; omega)), (by first | rfl | omega | assumption | (simp only [Int.toNat_natCast]; omega)), (by first | rfl | omega | assumption | (simp only [Int.toNat_natCast]; omega)), (by first | rfl | omega | assumption | (simp only [Int.toNat_natCast]; omega))⟩) | exact Or.inr (Or.inr (Or.inl ⟨(by first | rfl | omega | assumption | (simp only [Int.toNat_natCast]; omega)), (by first | rfl | omega | assumption | (simp only [Int.toNat_natCast]; omega)), (by first | rfl | omega | assumption | (simp only [Int.toNat_natCast]; omega)), (by first | rfl | omega | assumption | (simp only [Int.toNat_natCast]; omega))⟩)) | exact Or.inr (Or.inr (Or.inr (⟨(by first | rfl | omega | assumption | (simp only [Int.toNat_natCast]; omega)), (by first | rfl | omega | assumption | (simp only [Int.toNat_natCast]; omega)), (by first | rfl | omega | assumption | (simp only [Int.toNat_natCast]; omega)), (by first | rfl | omega | assumption | (simp only [Int.toNat_natCast]; omega))⟩)))), rfl, rfl⟩
      · skip
        have h_40 := bI_t h_40
        refine x_aload_n (pc := 43) 0 K rfl rfl dX12_set_43 ?_
        refine x_iconst (pc := 44) K dX12_set_44 ?_
        refine x_callV (pc := 45) (C := RX12) (T := TX12) (n := 26) (ci := 11) (As := [.int (zI 2)]) K (c_X12_found (E := E) (B := B) (N := N)   (cel_ne (cel_self hc0.1) (by decide)) ) gX12_set_X12_found rfl (na := 1) (by decide +kernel) rfl ⟨(Nat.le_of_ble_eq_true rfl), (Nat.le_of_ble_eq_true rfl)⟩ (cel_ne (cel_self hc0.1) (by decide)) rfl (st := []) rfl (Nat.le_of_ble_eq_true rfl) ⟨(Nat.le_of_ble_eq_true rfl), (Nat.le_of_ble_eq_true rfl)⟩ dX12_set_45 (fun r45 N45 w45 hpo45 hN45 => ?_)
        obtain ⟨rfl, rfl, rfl⟩ := hpo45
        refine x_v (w := (va_up (va_up v 161 (oM B (va_up F 3 2) V)) 164 (iarr E 320 it))) (up_at1 (by decide)).symm ?_
        refine x_st (st' := [.int (zI (-1000010 - 2))]) rfl ?_
        refine x_iret (pc := 48) K KR (by omega) (Nat.le_of_ble_eq_true rfl) (Nat.le_of_ble_eq_true rfl) dX12_set_48 ?_
        exact ⟨rfl, (-1000010 - 2), (va_up F 3 2), it, (by first | exact Or.inl ⟨(by first | rfl | omega | assumption | (simp only [Int.toNat_natCast]; omega)), (by first | rfl | omega | assumption | (simp only [Int.toNat_natCast]; omega)), (by first | rfl | omega | assumption | (simp only [Int.toNat_natCast]; omega)), (by first | rfl | omega | assumption | (simp only [Int.toNat_natCast]; omega))⟩ | exact Or.inr (Or.inl ⟨(by first | rfl | omega | assumption | (simp only [Int.toNat_natCast]; omega)), (by first | rfl | omega | assumption | (simp only [Int.toNat_natCast]; omega)), (by first | rfl | omega | assumption | (simp only [Int.toNat_natCast]; omega)), (by first | rfl | omega | assumption | (simp only [Int.toNat_natCast]; omega))⟩) | exact Or.inr (Or.inr (Or.inl ⟨(by first | rfl | omega | assumption | (simp only [Int.toNat_natCast]; omega)), (by first | rfl | omega | assumption | (simp only [Int.toNat_natCast]; omega)), (by first | rfl | omega | assumption | (simp only [Int.toNat_natCast]; omega)), (by first | rfl | omega | assumption | (simp only [Int.toNat_natCast]; omega))⟩)) | exact Or.inr (Or.inr (Or.inr (⟨(by first | rfl | omega | assumption | (simp only [Int.toNat_natCast]; omega)), (by first | rfl | omega | assumption | (simp only [Int.toNat_natCast]; omega)), (by first | rfl | omega | assumption | (simp only [Int.toNat_natCast]; omega)), (by first | rfl | omega | assumption | (simp only [Int.toNat_natCast]; omega))⟩)))), rfl, rfl⟩
    · skip
      refine x_aload_n (pc := 19) 0 K rfl rfl dX12_set_19 ?_
      refine x_iconst (pc := 20) K dX12_set_20 ?_
      refine x_callV (pc := 21) (C := RX12) (T := TX12) (n := 26) (ci := 11) (As := [.int (zI 1)]) K (c_X12_found (E := E) (B := B) (N := N)   (cel_ne (cel_self hc0.1) (by decide)) ) gX12_set_X12_found rfl (na := 1) (by decide +kernel) rfl ⟨(Nat.le_of_ble_eq_true rfl), (Nat.le_of_ble_eq_true rfl)⟩ (cel_ne (cel_self hc0.1) (by decide)) rfl (st := []) rfl (Nat.le_of_ble_eq_true rfl) ⟨(Nat.le_of_ble_eq_true rfl), (Nat.le_of_ble_eq_true rfl)⟩ dX12_set_21 (fun r21 N21 w21 hpo21 hN21 => ?_)
      obtain ⟨rfl, rfl, rfl⟩ := hpo21
      refine x_v (w := (va_up (va_up v 161 (oM B (va_up F 3 1) V)) 164 (iarr E 320 it))) (up_at1 (by decide)).symm ?_
      refine x_st (st' := [.int (zI (-1000010 - 1))]) rfl ?_
      refine x_iret (pc := 24) K KR (by omega) (Nat.le_of_ble_eq_true rfl) (Nat.le_of_ble_eq_true rfl) dX12_set_24 ?_
      exact ⟨rfl, (-1000010 - 1), (va_up F 3 1), it, (by first | exact Or.inl ⟨(by first | rfl | omega | assumption | (simp only [Int.toNat_natCast]; omega)), (by first | rfl | omega | assumption | (simp only [Int.toNat_natCast]; omega)), (by first | rfl | omega | assumption | (simp only [Int.toNat_natCast]; omega)), (by first | rfl | omega | assumption | (simp only [Int.toNat_natCast]; omega))⟩ | exact Or.inr (Or.inl ⟨(by first | rfl | omega | assumption | (simp only [Int.toNat_natCast]; omega)), (by first | rfl | omega | assumption | (simp only [Int.toNat_natCast]; omega)), (by first | rfl | omega | assumption | (simp only [Int.toNat_natCast]; omega)), (by first | rfl | omega | assumption | (simp only [Int.toNat_natCast]; omega))⟩) | exact Or.inr (Or.inr (Or.inl ⟨(by first | rfl | omega | assumption | (simp only [Int.toNat_natCast]; omega)), (by first | rfl | omega | assumption | (simp only [Int.toNat_natCast]; omega)), (by first | rfl | omega | assumption | (simp only [Int.toNat_natCast]; omega)), (by first | rfl | omega | assumption | (simp only [Int.toNat_natCast]; omega))⟩)) | exact Or.inr (Or.inr (Or.inr (⟨(by first | rfl | omega | assumption | (simp only [Int.toNat_natCast]; omega)), (by first | rfl | omega | assumption | (simp only [Int.toNat_natCast]; omega)), (by first | rfl | omega | assumption | (simp only [Int.toNat_natCast]; omega)), (by first | rfl | omega | assumption | (simp only [Int.toNat_natCast]; omega))⟩)))), rfl, rfl⟩
  · skip
    have h_4 := bI_t h_4
    refine x_ldc (pc := 7) (x := (-1000001)) (-1000001) K (by decide) (by decide +kernel) dX12_set_7 ?_
    refine x_iret (pc := 9) K KR (by omega) (Nat.le_of_ble_eq_true rfl) (Nat.le_of_ble_eq_true rfl) dX12_set_9 ?_
    exact ⟨rfl, (-1000001), F, it, (by first | exact Or.inl ⟨(by first | rfl | omega | assumption | (simp only [Int.toNat_natCast]; omega)), (by first | rfl | omega | assumption | (simp only [Int.toNat_natCast]; omega)), (by first | rfl | omega | assumption | (simp only [Int.toNat_natCast]; omega)), (by first | rfl | omega | assumption | (simp only [Int.toNat_natCast]; omega))⟩ | exact Or.inr (Or.inl ⟨(by first | rfl | omega | assumption | (simp only [Int.toNat_natCast]; omega)), (by first | rfl | omega | assumption | (simp only [Int.toNat_natCast]; omega)), (by first | rfl | omega | assumption | (simp only [Int.toNat_natCast]; omega)), (by first | rfl | omega | assumption | (simp only [Int.toNat_natCast]; omega))⟩) | exact Or.inr (Or.inr (Or.inl ⟨(by first | rfl | omega | assumption | (simp only [Int.toNat_natCast]; omega)), (by first | rfl | omega | assumption | (simp only [Int.toNat_natCast]; omega)), (by first | rfl | omega | assumption | (simp only [Int.toNat_natCast]; omega)), (by first | rfl | omega | assumption | (simp only [Int.toNat_natCast]; omega))⟩)) | exact Or.inr (Or.inr (Or.inr (⟨(by first | rfl | omega | assumption | (simp only [Int.toNat_natCast]; omega)), (by first | rfl | omega | assumption | (simp only [Int.toNat_natCast]; omega)), (by first | rfl | omega | assumption | (simp only [Int.toNat_natCast]; omega)), (by first | rfl | omega | assumption | (simp only [Int.toNat_natCast]; omega))⟩)))), rfl, rfl⟩

set_option maxRecDepth 100000 in
set_option maxHeartbeats 4000000 in
theorem c_X12_drop {E : XE} {B N : Nat} {v : Nat → va_E} {F sz : Nat → Int} {V r : Int} (hc0 : Cel N v 161 (oM B F V)) (hc1 : Cel N v 163 (iarr E 8 sz)) (hq0 : (-2147483648 ≤ r ∧ r ≤ 2147483647)) (hq1 : ∀ k, k < 8 → -1 ≤ sz k ∧ sz k ≤ 40) : gM yX12_drop wsX12_drop ({ frames := 2, cells := 0, slots := 0, locals := 45 }) E B N v [.ref (B + 161), .int (zI r)] (po0 N (fun ρ v' => ∃ (res : Int), ∃ (F2 : Nat → Int), ∃ (sz2 : Nat → Int), ((¬ (0 ≤ r ∧ r ≤ 7) ∧ res = -1000001 ∧ F2 = F ∧ sz2 = sz) ∨ ((0 ≤ r ∧ r ≤ 7 ∧ sz r.toNat < 0) ∧ res = -1000011 ∧ F2 = va_up F 3 1 ∧ sz2 = sz) ∨ ((0 ≤ r ∧ r ≤ 7 ∧ 0 ≤ sz r.toNat) ∧ res = sz r.toNat ∧ F2 = va_up F 3 0 ∧ sz2 = va_up sz r.toNat (-1))) ∧ ρ = some (.int (zI res)) ∧ (va_up (va_up v 161 (oM B F2 V)) 163 (iarr E 8 sz2)) = v')) := by
  refine x_met (nm := "drop") (by decide +kernel) rfl (Nat.le_of_ble_eq_true rfl) rfl (fun Γ K KR hnL hnm => ?_)
  show XW Γ N v [(0, .ref (B + 161)), (1, .int (zI r))] 0 0 0 []
  refine x_v (cel_pad hc0) ?_
  refine x_v (cel_pad (cel_ne hc1 (by decide))) ?_
  refine x_iload_n (pc := 0) 1 K rfl rfl dX12_drop_0 ?_
  refine x_callS (pc := 1) (As := [.int (zI r)]) K (c_X12_isRow (E := E) (B := B) (N := N)    (by omega)) gX12_drop_X12_isRow rfl (na := 1) (by decide +kernel) rfl ⟨(Nat.le_of_ble_eq_true rfl), (Nat.le_of_ble_eq_true rfl)⟩ (st := []) rfl (Nat.le_of_ble_eq_true rfl) ⟨(Nat.le_of_ble_eq_true rfl), (Nat.le_of_ble_eq_true rfl)⟩ dX12_drop_1 (fun r1 N1 w1 hpo1 hN1 => ?_)
  obtain ⟨rfl, rfl, rfl⟩ := hpo1
  refine x_st (st' := [.int (zI (bI (0 ≤ r ∧ r ≤ 7)))]) rfl ?_
  have hrg1 := bI_rng (0 ≤ r ∧ r ≤ 7)
  refine x_if_ne (pc := 4) (tgt := 10) K (by omega) dX12_drop_4 (by decide) (fun h_4 => ?_) (fun h_4 => ?_)
  · skip
    have h_4 := bI_f h_4
    obtain ⟨rr, rfl⟩ : ∃ rr : Nat, r = (rr : Int) := ⟨r.toNat, by omega⟩
    have b15 := hq1 rr (by omega)
    refine x_aload_n (pc := 10) 0 K rfl rfl dX12_drop_10 ?_
    refine x_get (pc := 11) (C := RX12) (T := TX12) (n := 26) (ci := 11) (idx := 13) (ref := "BorderBedsModel") (x := .ref (B + 163))  K (cel_ne (cel_self hc0.1) (by decide)) rfl (by decide +kernel) 1 (by decide) (by decide +kernel) rfl rfl dX12_drop_11 ?_
    refine x_iload_n (pc := 14) 1 K rfl rfl dX12_drop_14 ?_
    refine x_iald (pc := 15) rr K (cel_self hc1.1) rfl (by omega) (by decide) dX12_drop_15 ?_
    refine x_if_ge (pc := 16) (tgt := 25) K (by omega) dX12_drop_16 (by decide) (fun h_16 => ?_) (fun h_16 => ?_)
    · skip
      refine x_aload_n (pc := 25) 0 K rfl rfl dX12_drop_25 ?_
      refine x_get (pc := 26) (C := RX12) (T := TX12) (n := 26) (ci := 11) (idx := 13) (ref := "BorderBedsModel") (x := .ref (B + 163))  K (cel_ne (cel_self hc0.1) (by decide)) rfl (by decide +kernel) 1 (by decide) (by decide +kernel) rfl rfl dX12_drop_26 ?_
      refine x_iload_n (pc := 29) 1 K rfl rfl dX12_drop_29 ?_
      refine x_iald (pc := 30) rr K (cel_self hc1.1) rfl (by omega) (by decide) dX12_drop_30 ?_
      refine x_nm (fun z1 hz1 => ?_)
      refine x_istore_n (pc := 31) K (L' := [(2, .int (zI z1)), (0, .ref (B + 161)), (1, .int (zI (rr : Int)))]) hnL rfl (by decide) rfl dX12_drop_31 ?_
      refine x_aload_n (pc := 32) 1 K rfl rfl dX12_drop_32 ?_
      refine x_get (pc := 33) (C := RX12) (T := TX12) (n := 26) (ci := 11) (idx := 13) (ref := "BorderBedsModel") (x := .ref (B + 163))  K (cel_ne (cel_self hc0.1) (by decide)) rfl (by decide +kernel) 1 (by decide) (by decide +kernel) rfl rfl dX12_drop_33 ?_
      refine x_iload_n (pc := 36) 2 K rfl rfl dX12_drop_36 ?_
      refine x_iconst (pc := 37) K dX12_drop_37 ?_
      refine x_iast (pc := 38) rr K (cel_self hc1.1) rfl (by omega) (by decide) dX12_drop_38 ?_
      refine x_v (w := (va_up (va_up v 161 (oM B F V)) 163 (iarr E 8 (va_up sz rr (-1))))) (up_at0).symm ?_
      refine x_aload_n (pc := 39) 1 K rfl rfl dX12_drop_39 ?_
      refine x_iload_n (pc := 40) 0 K rfl rfl dX12_drop_40 ?_
      refine x_callV (pc := 41) (C := RX12) (T := TX12) (n := 26) (ci := 11) (As := [.int (zI z1)]) K (c_X12_well (E := E) (B := B) (N := N)   (cel_ne (cel_self hc0.1) (by decide)) ) gX12_drop_X12_well rfl (na := 1) (by decide +kernel) rfl ⟨(Nat.le_of_ble_eq_true rfl), (Nat.le_of_ble_eq_true rfl)⟩ (cel_ne (cel_self hc0.1) (by decide)) rfl (st := []) rfl (Nat.le_of_ble_eq_true rfl) ⟨(Nat.le_of_ble_eq_true rfl), (Nat.le_of_ble_eq_true rfl)⟩ dX12_drop_41 (fun r41 N41 w41 hpo41 hN41 => ?_)
      obtain ⟨rfl, rfl, rfl⟩ := hpo41
      refine x_v (w := (va_up (va_up v 161 (oM B (va_up F 3 0) V)) 163 (iarr E 8 (va_up sz rr (-1))))) (up_at1 (by decide)).symm ?_
      refine x_st (st' := [.int (zI z1)]) rfl ?_
      refine x_iret (pc := 44) K KR (by omega) (Nat.le_of_ble_eq_true rfl) (Nat.le_of_ble_eq_true rfl) dX12_drop_44 ?_
      exact ⟨rfl, z1, (va_up F 3 0), (va_up sz rr (-1)), (by first | exact Or.inl ⟨(by first | rfl | omega | assumption | (simp only [Int.toNat_natCast]; omega)), (by first | rfl | omega | assumption | (simp only [Int.toNat_natCast]; omega)), (by first | rfl | omega | assumption | (simp only [Int.toNat_natCast]; omega)), (by first | rfl | omega | assumption | (simp only [Int.toNat_natCast]; omega))⟩ | exact Or.inr (Or.inl ⟨(by first | rfl | omega | assumption | (simp only [Int.toNat_natCast]; omega)), (by first | rfl | omega | assumption | (simp only [Int.toNat_natCast]; omega)), (by first | rfl | omega | assumption | (simp only [Int.toNat_natCast]; omega)), (by first | rfl | omega | assumption | (simp only [Int.toNat_natCast]; omega))⟩) | exact Or.inr (Or.inr (⟨(by first | rfl | omega | assumption | (simp only [Int.toNat_natCast]; omega)), (by first | rfl | omega | assumption | (simp only [Int.toNat_natCast]; omega)), (by first | rfl | omega | assumption | (simp only [Int.toNat_natCast]; omega)), (by first | rfl | omega | assumption | (simp only [Int.toNat_natCast]; omega))⟩))), rfl, rfl⟩
    · skip
      refine x_aload_n (pc := 19) 0 K rfl rfl dX12_drop_19 ?_
      refine x_iconst (pc := 20) K dX12_drop_20 ?_
      refine x_callV (pc := 21) (C := RX12) (T := TX12) (n := 26) (ci := 11) (As := [.int (zI 1)]) K (c_X12_found (E := E) (B := B) (N := N)   (cel_ne (cel_self hc0.1) (by decide)) ) gX12_drop_X12_found rfl (na := 1) (by decide +kernel) rfl ⟨(Nat.le_of_ble_eq_true rfl), (Nat.le_of_ble_eq_true rfl)⟩ (cel_ne (cel_self hc0.1) (by decide)) rfl (st := []) rfl (Nat.le_of_ble_eq_true rfl) ⟨(Nat.le_of_ble_eq_true rfl), (Nat.le_of_ble_eq_true rfl)⟩ dX12_drop_21 (fun r21 N21 w21 hpo21 hN21 => ?_)
      obtain ⟨rfl, rfl, rfl⟩ := hpo21
      refine x_v (w := (va_up (va_up v 161 (oM B (va_up F 3 1) V)) 163 (iarr E 8 sz))) (up_at1 (by decide)).symm ?_
      refine x_st (st' := [.int (zI (-1000010 - 1))]) rfl ?_
      refine x_iret (pc := 24) K KR (by omega) (Nat.le_of_ble_eq_true rfl) (Nat.le_of_ble_eq_true rfl) dX12_drop_24 ?_
      exact ⟨rfl, (-1000010 - 1), (va_up F 3 1), sz, (by first | exact Or.inl ⟨(by first | rfl | omega | assumption | (simp only [Int.toNat_natCast]; omega)), (by first | rfl | omega | assumption | (simp only [Int.toNat_natCast]; omega)), (by first | rfl | omega | assumption | (simp only [Int.toNat_natCast]; omega)), (by first | rfl | omega | assumption | (simp only [Int.toNat_natCast]; omega))⟩ | exact Or.inr (Or.inl ⟨(by first | rfl | omega | assumption | (simp only [Int.toNat_natCast]; omega)), (by first | rfl | omega | assumption | (simp only [Int.toNat_natCast]; omega)), (by first | rfl | omega | assumption | (simp only [Int.toNat_natCast]; omega)), (by first | rfl | omega | assumption | (simp only [Int.toNat_natCast]; omega))⟩) | exact Or.inr (Or.inr (⟨(by first | rfl | omega | assumption | (simp only [Int.toNat_natCast]; omega)), (by first | rfl | omega | assumption | (simp only [Int.toNat_natCast]; omega)), (by first | rfl | omega | assumption | (simp only [Int.toNat_natCast]; omega)), (by first | rfl | omega | assumption | (simp only [Int.toNat_natCast]; omega))⟩))), rfl, rfl⟩
  · skip
    have h_4 := bI_t h_4
    refine x_ldc (pc := 7) (x := (-1000001)) (-1000001) K (by decide) (by decide +kernel) dX12_drop_7 ?_
    refine x_iret (pc := 9) K KR (by omega) (Nat.le_of_ble_eq_true rfl) (Nat.le_of_ble_eq_true rfl) dX12_drop_9 ?_
    exact ⟨rfl, (-1000001), F, sz, (by first | exact Or.inl ⟨(by first | rfl | omega | assumption | (simp only [Int.toNat_natCast]; omega)), (by first | rfl | omega | assumption | (simp only [Int.toNat_natCast]; omega)), (by first | rfl | omega | assumption | (simp only [Int.toNat_natCast]; omega)), (by first | rfl | omega | assumption | (simp only [Int.toNat_natCast]; omega))⟩ | exact Or.inr (Or.inl ⟨(by first | rfl | omega | assumption | (simp only [Int.toNat_natCast]; omega)), (by first | rfl | omega | assumption | (simp only [Int.toNat_natCast]; omega)), (by first | rfl | omega | assumption | (simp only [Int.toNat_natCast]; omega)), (by first | rfl | omega | assumption | (simp only [Int.toNat_natCast]; omega))⟩) | exact Or.inr (Or.inr (⟨(by first | rfl | omega | assumption | (simp only [Int.toNat_natCast]; omega)), (by first | rfl | omega | assumption | (simp only [Int.toNat_natCast]; omega)), (by first | rfl | omega | assumption | (simp only [Int.toNat_natCast]; omega)), (by first | rfl | omega | assumption | (simp only [Int.toNat_natCast]; omega))⟩))), rfl, rfl⟩

set_option maxRecDepth 100000 in
set_option maxHeartbeats 4000000 in
theorem c_X12_fault {E : XE} {B N : Nat} {v : Nat → va_E} {F : Nat → Int} {V : Int} (hc0 : Cel N v 161 (oM B F V)) : gM yX12_fault wsX12_fault ({ frames := 0, cells := 0, slots := 0, locals := 0 }) E B N v [.ref (B + 161)] (po0 N (fun ρ v' => ρ = some (.int (zI (F 6))) ∧ v = v')) := by
  refine x_met (nm := "fault") (by decide +kernel) rfl (Nat.le_of_ble_eq_true rfl) rfl (fun Γ K KR hnL hnm => ?_)
  show XW Γ N v [(0, .ref (B + 161))] 0 0 0 []
  refine x_aload_n (pc := 0) 0 K rfl rfl dX12_fault_0 ?_
  refine x_get (pc := 1) (C := RX12) (T := TX12) (n := 26) (ci := 11) (idx := 118) (ref := "BorderBedsModel") (x := .int (zI (F 6)))  K hc0 rfl (by decide +kernel) 6 (by decide) (by decide +kernel) rfl rfl dX12_fault_1 ?_
  refine x_iret (pc := 4) K KR (by omega) (Nat.le_of_ble_eq_true rfl) (Nat.le_of_ble_eq_true rfl) dX12_fault_4 ?_
  exact ⟨rfl, rfl, rfl⟩

set_option maxRecDepth 100000 in
set_option maxHeartbeats 4000000 in
theorem c_X12_status {E : XE} {B N : Nat} {v : Nat → va_E} {F : Nat → Int} {V : Int} (hc0 : Cel N v 161 (oM B F V)) : gM yX12_status wsX12_status ({ frames := 0, cells := 0, slots := 0, locals := 0 }) E B N v [.ref (B + 161)] (po0 N (fun ρ v' => ρ = some (.int (zI (F 3))) ∧ v = v')) := by
  refine x_met (nm := "status") (by decide +kernel) rfl (Nat.le_of_ble_eq_true rfl) rfl (fun Γ K KR hnL hnm => ?_)
  show XW Γ N v [(0, .ref (B + 161))] 0 0 0 []
  refine x_aload_n (pc := 0) 0 K rfl rfl dX12_status_0 ?_
  refine x_get (pc := 1) (C := RX12) (T := TX12) (n := 26) (ci := 11) (idx := 47) (ref := "BorderBedsModel") (x := .int (zI (F 3)))  K hc0 rfl (by decide +kernel) 3 (by decide) (by decide +kernel) rfl rfl dX12_status_1 ?_
  refine x_iret (pc := 4) K KR (by omega) (Nat.le_of_ble_eq_true rfl) (Nat.le_of_ble_eq_true rfl) dX12_status_4 ?_
  exact ⟨rfl, rfl, rfl⟩

set_option maxRecDepth 100000 in
set_option maxHeartbeats 4000000 in
theorem c_X12_isPerson {E : XE} {B N : Nat} {v : Nat → va_E} {F a : Nat → Int} {V x : Int} (hc0 : Cel N v 161 (oM B F V)) (hc1 : Cel N v 166 (iarr E 138 a)) (hq0 : (-2147483648 ≤ x ∧ x ≤ 2147483647)) (hq1 : 0 ≤ a 4 ∧ a 4 ≤ 5) : gM yX12_isPerson wsX12_isPerson ({ frames := 1, cells := 0, slots := 0, locals := 25 }) E B N v [.ref (B + 161), .int (zI x)] (po0 N (fun ρ v' => ρ = some (.int (zI (bI (0 ≤ x ∧ x ≤ a 4 - 1)))) ∧ v = v')) := by
  refine x_met (nm := "isPerson") (by decide +kernel) rfl (Nat.le_of_ble_eq_true rfl) rfl (fun Γ K KR hnL hnm => ?_)
  show XW Γ N v [(0, .ref (B + 161)), (1, .int (zI x))] 0 0 0 []
  refine x_iload_n (pc := 0) 1 K rfl rfl dX12_isPerson_0 ?_
  refine x_i2l (pc := 1) K (by omega) dX12_isPerson_1 ?_
  refine x_lconst (pc := 2) (0) K (by decide) dX12_isPerson_2 ?_
  refine x_aload_n (pc := 3) 0 K rfl rfl dX12_isPerson_3 ?_
  refine x_get (pc := 4) (C := RX12) (T := TX12) (n := 26) (ci := 11) (idx := 22) (ref := "BorderBedsModel") (x := .ref (B + 166))  K hc0 rfl (by decide +kernel) 8 (by decide) (by decide +kernel) rfl rfl dX12_isPerson_4 ?_
  refine x_iconst (pc := 7) K dX12_isPerson_7 ?_
  refine x_iald (pc := 8) 4 K hc1 rfl (by omega) (by decide) dX12_isPerson_8 ?_
  refine x_iconst (pc := 9) K dX12_isPerson_9 ?_
  refine x_isub (pc := 10) K dX12_isPerson_10 ?_
  refine x_i2l (pc := 11) K (by omega) dX12_isPerson_11 ?_
  refine x_callS (pc := 12) (As := [.long (zL x), .long (zL 0), .long (zL ((a 4) - 1))]) K (c_X12_in (E := E) (B := B) (N := N)    (by omega) (by omega) (by omega)) gX12_isPerson_X12_in rfl (na := 3) (by decide +kernel) rfl ⟨(Nat.le_of_ble_eq_true rfl), (Nat.le_of_ble_eq_true rfl)⟩ (st := []) rfl (Nat.le_of_ble_eq_true rfl) ⟨(Nat.le_of_ble_eq_true rfl), (Nat.le_of_ble_eq_true rfl)⟩ dX12_isPerson_12 (fun r12 N12 w12 hpo12 hN12 => ?_)
  obtain ⟨rfl, rfl, rfl⟩ := hpo12
  refine x_st (st' := [.int (zI (bI (0 ≤ x ∧ x ≤ ((a 4) - 1))))]) rfl ?_
  have hrg12 := bI_rng (0 ≤ x ∧ x ≤ ((a 4) - 1))
  refine x_zret (pc := 15) K KR (by omega) (Nat.le_of_ble_eq_true rfl) (Nat.le_of_ble_eq_true rfl) (nb_ok (by omega)) dX12_isPerson_15 ?_
  exact ⟨rfl, rfl, rfl⟩

set_option maxRecDepth 100000 in
set_option maxHeartbeats 4000000 in
theorem c_X12_areTwo {E : XE} {B N : Nat} {v : Nat → va_E} {F a : Nat → Int} {V x y : Int} (hc0 : Cel N v 161 (oM B F V)) (hc1 : Cel N v 166 (iarr E 138 a)) (hq0 : (-2147483648 ≤ x ∧ x ≤ 2147483647)) (hq1 : (-2147483648 ≤ y ∧ y ≤ 2147483647)) (hq2 : 0 ≤ a 4 ∧ a 4 ≤ 5) : gM yX12_areTwo wsX12_areTwo ({ frames := 2, cells := 0, slots := 0, locals := 46 }) E B N v [.ref (B + 161), .int (zI x), .int (zI y)] (po0 N (fun ρ v' => ρ = some (.int (zI (bI ((0 ≤ x ∧ x ≤ a 4 - 1) ∧ (0 ≤ y ∧ y ≤ a 4 - 1) ∧ x ≠ y)))) ∧ v = v')) := by
  refine x_met (nm := "areTwo") (by decide +kernel) rfl (Nat.le_of_ble_eq_true rfl) rfl (fun Γ K KR hnL hnm => ?_)
  show XW Γ N v [(0, .ref (B + 161)), (1, .int (zI x)), (2, .int (zI y))] 0 0 0 []
  refine x_aload_n (pc := 0) 0 K rfl rfl dX12_areTwo_0 ?_
  refine x_iload_n (pc := 1) 1 K rfl rfl dX12_areTwo_1 ?_
  refine x_callV (pc := 2) (C := RX12) (T := TX12) (n := 26) (ci := 11) (As := [.int (zI x)]) K (c_X12_isPerson (E := E) (B := B) (N := N)   hc0 hc1 (by omega) (by omega)) gX12_areTwo_X12_isPerson rfl (na := 1) (by decide +kernel) rfl ⟨(Nat.le_of_ble_eq_true rfl), (Nat.le_of_ble_eq_true rfl)⟩ hc0 rfl (st := []) rfl (Nat.le_of_ble_eq_true rfl) ⟨(Nat.le_of_ble_eq_true rfl), (Nat.le_of_ble_eq_true rfl)⟩ dX12_areTwo_2 (fun r2 N2 w2 hpo2 hN2 => ?_)
  obtain ⟨rfl, rfl, rfl⟩ := hpo2
  refine x_st (st' := [.int (zI (bI (0 ≤ x ∧ x ≤ a 4 - 1)))]) rfl ?_
  have hrg2 := bI_rng (0 ≤ x ∧ x ≤ a 4 - 1)
  refine x_if_eq (pc := 5) (tgt := 25) K (by omega) dX12_areTwo_5 (by decide) (fun h_5 => ?_) (fun h_5 => ?_)
  · skip
    have h_5 := bI_t h_5
    refine x_iconst (pc := 25) K dX12_areTwo_25 ?_
    refine x_zret (pc := 26) K KR (by omega) (Nat.le_of_ble_eq_true rfl) (Nat.le_of_ble_eq_true rfl) rfl dX12_areTwo_26 ?_
    exact ⟨rfl, ri (by unfold bI; split <;> omega), rfl⟩
  · skip
    have h_5 := bI_f h_5
    refine x_aload_n (pc := 8) 0 K rfl rfl dX12_areTwo_8 ?_
    refine x_iload_n (pc := 9) 2 K rfl rfl dX12_areTwo_9 ?_
    refine x_callV (pc := 10) (C := RX12) (T := TX12) (n := 26) (ci := 11) (As := [.int (zI y)]) K (c_X12_isPerson (E := E) (B := B) (N := N)   hc0 hc1 (by omega) (by omega)) gX12_areTwo_X12_isPerson rfl (na := 1) (by decide +kernel) rfl ⟨(Nat.le_of_ble_eq_true rfl), (Nat.le_of_ble_eq_true rfl)⟩ hc0 rfl (st := []) rfl (Nat.le_of_ble_eq_true rfl) ⟨(Nat.le_of_ble_eq_true rfl), (Nat.le_of_ble_eq_true rfl)⟩ dX12_areTwo_10 (fun r10 N10 w10 hpo10 hN10 => ?_)
    obtain ⟨rfl, rfl, rfl⟩ := hpo10
    refine x_st (st' := [.int (zI (bI (0 ≤ y ∧ y ≤ a 4 - 1)))]) rfl ?_
    have hrg10 := bI_rng (0 ≤ y ∧ y ≤ a 4 - 1)
    refine x_if_eq (pc := 13) (tgt := 25) K (by omega) dX12_areTwo_13 (by decide) (fun h_13 => ?_) (fun h_13 => ?_)
    · skip
      have h_13 := bI_t h_13
      refine x_iconst (pc := 25) K dX12_areTwo_25 ?_
      refine x_zret (pc := 26) K KR (by omega) (Nat.le_of_ble_eq_true rfl) (Nat.le_of_ble_eq_true rfl) rfl dX12_areTwo_26 ?_
      exact ⟨rfl, ri (by unfold bI; split <;> omega), rfl⟩
    · skip
      have h_13 := bI_f h_13
      refine x_iload_n (pc := 16) 1 K rfl rfl dX12_areTwo_16 ?_
      refine x_iload_n (pc := 17) 2 K rfl rfl dX12_areTwo_17 ?_
      refine x_icmp_eq (pc := 18) (tgt := 25) K (by omega) (by omega) dX12_areTwo_18 (by decide) (fun h_18 => ?_) (fun h_18 => ?_)
      · skip
        refine x_iconst (pc := 25) K dX12_areTwo_25 ?_
        refine x_zret (pc := 26) K KR (by omega) (Nat.le_of_ble_eq_true rfl) (Nat.le_of_ble_eq_true rfl) rfl dX12_areTwo_26 ?_
        exact ⟨rfl, ri (by unfold bI; split <;> omega), rfl⟩
      · skip
        refine x_iconst (pc := 21) K dX12_areTwo_21 ?_
        refine x_goto (pc := 22) (tgt := 26) K dX12_areTwo_22 (by decide) ?_
        refine x_zret (pc := 26) K KR (by omega) (Nat.le_of_ble_eq_true rfl) (Nat.le_of_ble_eq_true rfl) rfl dX12_areTwo_26 ?_
        exact ⟨rfl, ri (by unfold bI; split <;> omega), rfl⟩

set_option maxRecDepth 100000 in
set_option maxHeartbeats 4000000 in
theorem c_X12_kind {E : XE} {B N : Nat} {v : Nat → va_E} {F a : Nat → Int} {V x : Int} (hc0 : Cel N v 161 (oM B F V)) (hc1 : Cel N v 166 (iarr E 138 a)) (hq0 : (-2147483648 ≤ x ∧ x ≤ 2147483647)) (hq1 : 0 ≤ a 4 ∧ a 4 ≤ 5) : gM yX12_kind wsX12_kind ({ frames := 2, cells := 0, slots := 0, locals := 46 }) E B N v [.ref (B + 161), .int (zI x)] (po0 N (fun ρ v' => ∃ (res : Int), ((¬ (0 ≤ x ∧ x ≤ a 4 - 1) ∧ res = -1000001) ∨ ((0 ≤ x ∧ x ≤ a 4 - 1) ∧ res = a (5 + x.toNat))) ∧ ρ = some (.int (zI res)) ∧ v = v')) := by
  refine x_met (nm := "kind") (by decide +kernel) rfl (Nat.le_of_ble_eq_true rfl) rfl (fun Γ K KR hnL hnm => ?_)
  show XW Γ N v [(0, .ref (B + 161)), (1, .int (zI x))] 0 0 0 []
  refine x_aload_n (pc := 0) 0 K rfl rfl dX12_kind_0 ?_
  refine x_iload_n (pc := 1) 1 K rfl rfl dX12_kind_1 ?_
  refine x_callV (pc := 2) (C := RX12) (T := TX12) (n := 26) (ci := 11) (As := [.int (zI x)]) K (c_X12_isPerson (E := E) (B := B) (N := N)   hc0 hc1 (by omega) (by omega)) gX12_kind_X12_isPerson rfl (na := 1) (by decide +kernel) rfl ⟨(Nat.le_of_ble_eq_true rfl), (Nat.le_of_ble_eq_true rfl)⟩ hc0 rfl (st := []) rfl (Nat.le_of_ble_eq_true rfl) ⟨(Nat.le_of_ble_eq_true rfl), (Nat.le_of_ble_eq_true rfl)⟩ dX12_kind_2 (fun r2 N2 w2 hpo2 hN2 => ?_)
  obtain ⟨rfl, rfl, rfl⟩ := hpo2
  refine x_st (st' := [.int (zI (bI (0 ≤ x ∧ x ≤ a 4 - 1)))]) rfl ?_
  have hrg2 := bI_rng (0 ≤ x ∧ x ≤ a 4 - 1)
  refine x_if_eq (pc := 5) (tgt := 19) K (by omega) dX12_kind_5 (by decide) (fun h_5 => ?_) (fun h_5 => ?_)
  · skip
    have h_5 := bI_t h_5
    refine x_ldc (pc := 19) (x := (-1000001)) (-1000001) K (by decide) (by decide +kernel) dX12_kind_19 ?_
    refine x_iret (pc := 21) K KR (by omega) (Nat.le_of_ble_eq_true rfl) (Nat.le_of_ble_eq_true rfl) dX12_kind_21 ?_
    exact ⟨rfl, (-1000001), (by first | exact Or.inl ⟨(by first | rfl | omega | assumption | (simp only [Int.toNat_natCast]; omega)), (by first | rfl | omega | assumption | (simp only [Int.toNat_natCast]; omega))⟩ | exact Or.inr (⟨(by first | rfl | omega | assumption | (simp only [Int.toNat_natCast]; omega)), (by first | rfl | omega | assumption | (simp only [Int.toNat_natCast]; omega))⟩)), rfl, rfl⟩
  · skip
    have h_5 := bI_f h_5
    obtain ⟨xx, rfl⟩ : ∃ xx : Nat, x = (xx : Int) := ⟨x.toNat, by omega⟩
    refine x_aload_n (pc := 8) 0 K rfl rfl dX12_kind_8 ?_
    refine x_get (pc := 9) (C := RX12) (T := TX12) (n := 26) (ci := 11) (idx := 22) (ref := "BorderBedsModel") (x := .ref (B + 166))  K hc0 rfl (by decide +kernel) 8 (by decide) (by decide +kernel) rfl rfl dX12_kind_9 ?_
    refine x_iconst (pc := 12) K dX12_kind_12 ?_
    refine x_iload_n (pc := 13) 1 K rfl rfl dX12_kind_13 ?_
    refine x_iadd (pc := 14) K dX12_kind_14 ?_
    refine x_iald (pc := 15) (5 + xx) K hc1 (by omega) (by omega) (by decide) dX12_kind_15 ?_
    refine x_goto (pc := 16) (tgt := 21) K dX12_kind_16 (by decide) ?_
    refine x_iret (pc := 21) K KR (by omega) (Nat.le_of_ble_eq_true rfl) (Nat.le_of_ble_eq_true rfl) dX12_kind_21 ?_
    exact ⟨rfl, (a (5 + xx)), (by first | exact Or.inl ⟨(by first | rfl | omega | assumption | (simp only [Int.toNat_natCast]; omega)), (by first | rfl | omega | assumption | (simp only [Int.toNat_natCast]; omega))⟩ | exact Or.inr (⟨(by first | rfl | omega | assumption | (simp only [Int.toNat_natCast]; omega)), (by first | rfl | omega | assumption | (simp only [Int.toNat_natCast]; omega))⟩)), rfl, rfl⟩

set_option maxRecDepth 100000 in
set_option maxHeartbeats 4000000 in
theorem c_X12_isOf {E : XE} {B N : Nat} {v : Nat → va_E} {o k : Int} (hq0 : (-2147483648 ≤ o ∧ o ≤ 2147483647)) (hq1 : (-2147483648 ≤ k ∧ k ≤ 2147483647)) : gM yX12_isOf wsX12_isOf ({ frames := 0, cells := 0, slots := 0, locals := 0 }) E B N v [.int (zI o), .int (zI k)] (po0 N (fun ρ v' => ρ = some (.int (zI (bI (ofA o k)))) ∧ v = v')) := by
  refine x_met (nm := "isOf") (by decide +kernel) rfl (Nat.le_of_ble_eq_true rfl) rfl (fun Γ K KR hnL hnm => ?_)
  show XW Γ N v [(0, .int (zI o)), (1, .int (zI k))] 0 0 0 []
  refine x_iload_n (pc := 0) 1 K rfl rfl dX12_isOf_0 ?_
  refine x_if_eq (pc := 1) (tgt := 34) K (by omega) dX12_isOf_1 (by decide) (fun h_1 => ?_) (fun h_1 => ?_)
  · skip
    refine x_iconst (pc := 34) K dX12_isOf_34 ?_
    refine x_goto (pc := 35) (tgt := 39) K dX12_isOf_35 (by decide) ?_
    refine x_zret (pc := 39) K KR (by omega) (Nat.le_of_ble_eq_true rfl) (Nat.le_of_ble_eq_true rfl) rfl dX12_isOf_39 ?_
    exact ⟨rfl, ri (by unfold bI ofA; split <;> omega), rfl⟩
  · skip
    refine x_iload_n (pc := 4) 0 K rfl rfl dX12_isOf_4 ?_
    refine x_iload_n (pc := 5) 1 K rfl rfl dX12_isOf_5 ?_
    refine x_icmp_eq (pc := 6) (tgt := 34) K (by omega) (by omega) dX12_isOf_6 (by decide) (fun h_6 => ?_) (fun h_6 => ?_)
    · skip
      refine x_iconst (pc := 34) K dX12_isOf_34 ?_
      refine x_goto (pc := 35) (tgt := 39) K dX12_isOf_35 (by decide) ?_
      refine x_zret (pc := 39) K KR (by omega) (Nat.le_of_ble_eq_true rfl) (Nat.le_of_ble_eq_true rfl) rfl dX12_isOf_39 ?_
      exact ⟨rfl, ri (by unfold bI ofA; split <;> omega), rfl⟩
    · skip
      refine x_iload_n (pc := 9) 1 K rfl rfl dX12_isOf_9 ?_
      refine x_iconst (pc := 10) K dX12_isOf_10 ?_
      refine x_icmp_ne (pc := 11) (tgt := 24) K (by omega) (by decide) dX12_isOf_11 (by decide) (fun h_11 => ?_) (fun h_11 => ?_)
      · skip
        refine x_iload_n (pc := 24) 1 K rfl rfl dX12_isOf_24 ?_
        refine x_iconst (pc := 25) K dX12_isOf_25 ?_
        refine x_icmp_ne (pc := 26) (tgt := 38) K (by omega) (by decide) dX12_isOf_26 (by decide) (fun h_26 => ?_) (fun h_26 => ?_)
        · skip
          refine x_iconst (pc := 38) K dX12_isOf_38 ?_
          refine x_zret (pc := 39) K KR (by omega) (Nat.le_of_ble_eq_true rfl) (Nat.le_of_ble_eq_true rfl) rfl dX12_isOf_39 ?_
          exact ⟨rfl, ri (by unfold bI ofA; split <;> omega), rfl⟩
        · skip
          refine x_iload_n (pc := 29) 0 K rfl rfl dX12_isOf_29 ?_
          refine x_iconst (pc := 30) K dX12_isOf_30 ?_
          refine x_icmp_ne (pc := 31) (tgt := 38) K (by omega) (by decide) dX12_isOf_31 (by decide) (fun h_31 => ?_) (fun h_31 => ?_)
          · skip
            refine x_iconst (pc := 38) K dX12_isOf_38 ?_
            refine x_zret (pc := 39) K KR (by omega) (Nat.le_of_ble_eq_true rfl) (Nat.le_of_ble_eq_true rfl) rfl dX12_isOf_39 ?_
            exact ⟨rfl, ri (by unfold bI ofA; split <;> omega), rfl⟩
          · skip
            refine x_iconst (pc := 34) K dX12_isOf_34 ?_
            refine x_goto (pc := 35) (tgt := 39) K dX12_isOf_35 (by decide) ?_
            refine x_zret (pc := 39) K KR (by omega) (Nat.le_of_ble_eq_true rfl) (Nat.le_of_ble_eq_true rfl) rfl dX12_isOf_39 ?_
            exact ⟨rfl, ri (by unfold bI ofA; split <;> omega), rfl⟩
      · skip
        refine x_iload_n (pc := 14) 0 K rfl rfl dX12_isOf_14 ?_
        refine x_iconst (pc := 15) K dX12_isOf_15 ?_
        refine x_icmp_eq (pc := 16) (tgt := 34) K (by omega) (by decide) dX12_isOf_16 (by decide) (fun h_16 => ?_) (fun h_16 => ?_)
        · skip
          refine x_iconst (pc := 34) K dX12_isOf_34 ?_
          refine x_goto (pc := 35) (tgt := 39) K dX12_isOf_35 (by decide) ?_
          refine x_zret (pc := 39) K KR (by omega) (Nat.le_of_ble_eq_true rfl) (Nat.le_of_ble_eq_true rfl) rfl dX12_isOf_39 ?_
          exact ⟨rfl, ri (by unfold bI ofA; split <;> omega), rfl⟩
        · skip
          refine x_iload_n (pc := 19) 0 K rfl rfl dX12_isOf_19 ?_
          refine x_iconst (pc := 20) K dX12_isOf_20 ?_
          refine x_icmp_eq (pc := 21) (tgt := 34) K (by omega) (by decide) dX12_isOf_21 (by decide) (fun h_21 => ?_) (fun h_21 => ?_)
          · skip
            refine x_iconst (pc := 34) K dX12_isOf_34 ?_
            refine x_goto (pc := 35) (tgt := 39) K dX12_isOf_35 (by decide) ?_
            refine x_zret (pc := 39) K KR (by omega) (Nat.le_of_ble_eq_true rfl) (Nat.le_of_ble_eq_true rfl) rfl dX12_isOf_39 ?_
            exact ⟨rfl, ri (by unfold bI ofA; split <;> omega), rfl⟩
          · skip
            refine x_iload_n (pc := 24) 1 K rfl rfl dX12_isOf_24 ?_
            refine x_iconst (pc := 25) K dX12_isOf_25 ?_
            refine x_icmp_ne (pc := 26) (tgt := 38) K (by omega) (by decide) dX12_isOf_26 (by decide) (fun h_26 => ?_) (fun h_26 => ?_)
            · skip
              refine x_iconst (pc := 38) K dX12_isOf_38 ?_
              refine x_zret (pc := 39) K KR (by omega) (Nat.le_of_ble_eq_true rfl) (Nat.le_of_ble_eq_true rfl) rfl dX12_isOf_39 ?_
              exact ⟨rfl, ri (by unfold bI ofA; split <;> omega), rfl⟩
            · skip
              refine x_iload_n (pc := 29) 0 K rfl rfl dX12_isOf_29 ?_
              refine x_iconst (pc := 30) K dX12_isOf_30 ?_
              refine x_icmp_ne (pc := 31) (tgt := 38) K (by omega) (by decide) dX12_isOf_31 (by decide) (fun h_31 => ?_) (fun h_31 => ?_)
              · skip
                refine x_iconst (pc := 38) K dX12_isOf_38 ?_
                refine x_zret (pc := 39) K KR (by omega) (Nat.le_of_ble_eq_true rfl) (Nat.le_of_ble_eq_true rfl) rfl dX12_isOf_39 ?_
                exact ⟨rfl, ri (by unfold bI ofA; split <;> omega), rfl⟩
              · skip
                refine x_iconst (pc := 34) K dX12_isOf_34 ?_
                refine x_goto (pc := 35) (tgt := 39) K dX12_isOf_35 (by decide) ?_
                refine x_zret (pc := 39) K KR (by omega) (Nat.le_of_ble_eq_true rfl) (Nat.le_of_ble_eq_true rfl) rfl dX12_isOf_39 ?_
                exact ⟨rfl, ri (by unfold bI ofA; split <;> omega), rfl⟩

set_option maxRecDepth 100000 in
set_option maxHeartbeats 4000000 in
theorem c_X12_as {E : XE} {B N : Nat} {v : Nat → va_E} {F a : Nat → Int} {V x k : Int} (hc0 : Cel N v 161 (oM B F V)) (hc1 : Cel N v 166 (iarr E 138 a)) (hq0 : (-2147483648 ≤ x ∧ x ≤ 2147483647)) (hq1 : (-2147483648 ≤ k ∧ k ≤ 2147483647)) (hq2 : 0 ≤ a 4 ∧ a 4 ≤ 5) (hq3 : ∀ i, i < 5 → 0 ≤ a (5 + i) ∧ a (5 + i) ≤ 5) : gM yX12_as wsX12_as ({ frames := 2, cells := 0, slots := 0, locals := 46 }) E B N v [.ref (B + 161), .int (zI x), .int (zI k)] (po0 N (fun ρ v' => ∃ (res : Int), ∃ (F2 : Nat → Int), ((¬ ((0 ≤ x ∧ x ≤ a 4 - 1) ∧ 0 ≤ k ∧ k ≤ 5) ∧ res = -1000001 ∧ F2 = F) ∨ ((((0 ≤ x ∧ x ≤ a 4 - 1) ∧ 0 ≤ k ∧ k ≤ 5) ∧ ¬ ofA (a (5 + x.toNat)) k) ∧ res = -1000013 ∧ F2 = va_up F 3 3) ∨ ((((0 ≤ x ∧ x ≤ a 4 - 1) ∧ 0 ≤ k ∧ k ≤ 5) ∧ ofA (a (5 + x.toNat)) k) ∧ res = x ∧ F2 = va_up F 3 0)) ∧ ρ = some (.int (zI res)) ∧ (va_up v 161 (oM B F2 V)) = v')) := by
  refine x_met (nm := "as") (by decide +kernel) rfl (Nat.le_of_ble_eq_true rfl) rfl (fun Γ K KR hnL hnm => ?_)
  show XW Γ N v [(0, .ref (B + 161)), (1, .int (zI x)), (2, .int (zI k))] 0 0 0 []
  refine x_v (cel_pad hc0) ?_
  refine x_aload_n (pc := 0) 0 K rfl rfl dX12_as_0 ?_
  refine x_iload_n (pc := 1) 1 K rfl rfl dX12_as_1 ?_
  refine x_callV (pc := 2) (C := RX12) (T := TX12) (n := 26) (ci := 11) (As := [.int (zI x)]) K (c_X12_isPerson (E := E) (B := B) (N := N)   (cel_self hc0.1) (cel_ne hc1 (by decide)) (by omega) (by omega)) gX12_as_X12_isPerson rfl (na := 1) (by decide +kernel) rfl ⟨(Nat.le_of_ble_eq_true rfl), (Nat.le_of_ble_eq_true rfl)⟩ (cel_self hc0.1) rfl (st := []) rfl (Nat.le_of_ble_eq_true rfl) ⟨(Nat.le_of_ble_eq_true rfl), (Nat.le_of_ble_eq_true rfl)⟩ dX12_as_2 (fun r2 N2 w2 hpo2 hN2 => ?_)
  obtain ⟨rfl, rfl, rfl⟩ := hpo2
  refine x_st (st' := [.int (zI (bI (0 ≤ x ∧ x ≤ a 4 - 1)))]) rfl ?_
  have hrg2 := bI_rng (0 ≤ x ∧ x ≤ a 4 - 1)
  refine x_if_eq (pc := 5) (tgt := 20) K (by omega) dX12_as_5 (by decide) (fun h_5 => ?_) (fun h_5 => ?_)
  · skip
    have h_5 := bI_t h_5
    refine x_ldc (pc := 20) (x := (-1000001)) (-1000001) K (by decide) (by decide +kernel) dX12_as_20 ?_
    refine x_iret (pc := 22) K KR (by omega) (Nat.le_of_ble_eq_true rfl) (Nat.le_of_ble_eq_true rfl) dX12_as_22 ?_
    exact ⟨rfl, (-1000001), F, (by first | exact Or.inl ⟨by omega, rfl, rfl⟩ | exact Or.inr (Or.inl ⟨⟨by omega, h_35⟩, by omega, rfl⟩) | exact Or.inr (Or.inr ⟨⟨by omega, h_35⟩, rfl, rfl⟩)), rfl, rfl⟩
  · skip
    have h_5 := bI_f h_5
    refine x_iload_n (pc := 8) 2 K rfl rfl dX12_as_8 ?_
    refine x_i2l (pc := 9) K (by omega) dX12_as_9 ?_
    refine x_lconst (pc := 10) (0) K (by decide) dX12_as_10 ?_
    refine x_ldc2 (pc := 11) (x := (5)) (5) K (by decide) (by decide +kernel) dX12_as_11 ?_
    refine x_callS (pc := 14) (As := [.long (zL k), .long (zL 0), .long (zL 5)]) K (c_X12_in (E := E) (B := B) (N := N)    (by omega) (by omega) (by omega)) gX12_as_X12_in rfl (na := 3) (by decide +kernel) rfl ⟨(Nat.le_of_ble_eq_true rfl), (Nat.le_of_ble_eq_true rfl)⟩ (st := []) rfl (Nat.le_of_ble_eq_true rfl) ⟨(Nat.le_of_ble_eq_true rfl), (Nat.le_of_ble_eq_true rfl)⟩ dX12_as_14 (fun r14 N14 w14 hpo14 hN14 => ?_)
    obtain ⟨rfl, rfl, rfl⟩ := hpo14
    refine x_st (st' := [.int (zI (bI (0 ≤ k ∧ k ≤ 5)))]) rfl ?_
    have hrg14 := bI_rng (0 ≤ k ∧ k ≤ 5)
    refine x_if_ne (pc := 17) (tgt := 23) K (by omega) dX12_as_17 (by decide) (fun h_17 => ?_) (fun h_17 => ?_)
    · skip
      have h_17 := bI_f h_17
      obtain ⟨xx, rfl⟩ : ∃ xx : Nat, x = (xx : Int) := ⟨x.toNat, by omega⟩
      have b30 := hq3 xx (by omega)
      refine x_aload_n (pc := 23) 0 K rfl rfl dX12_as_23 ?_
      refine x_get (pc := 24) (C := RX12) (T := TX12) (n := 26) (ci := 11) (idx := 22) (ref := "BorderBedsModel") (x := .ref (B + 166))  K (cel_self hc0.1) rfl (by decide +kernel) 8 (by decide) (by decide +kernel) rfl rfl dX12_as_24 ?_
      refine x_iconst (pc := 27) K dX12_as_27 ?_
      refine x_iload_n (pc := 28) 1 K rfl rfl dX12_as_28 ?_
      refine x_iadd (pc := 29) K dX12_as_29 ?_
      refine x_iald (pc := 30) (5 + xx) K (cel_ne hc1 (by decide)) (by omega) (by omega) (by decide) dX12_as_30 ?_
      refine x_iload_n (pc := 31) 2 K rfl rfl dX12_as_31 ?_
      refine x_callS (pc := 32) (As := [.int (zI (a (5 + xx))), .int (zI k)]) K (c_X12_isOf (E := E) (B := B) (N := N)    (by omega) (by omega)) gX12_as_X12_isOf rfl (na := 2) (by decide +kernel) rfl ⟨(Nat.le_of_ble_eq_true rfl), (Nat.le_of_ble_eq_true rfl)⟩ (st := []) rfl (Nat.le_of_ble_eq_true rfl) ⟨(Nat.le_of_ble_eq_true rfl), (Nat.le_of_ble_eq_true rfl)⟩ dX12_as_32 (fun r32 N32 w32 hpo32 hN32 => ?_)
      obtain ⟨rfl, rfl, rfl⟩ := hpo32
      refine x_st (st' := [.int (zI (bI (ofA (a (5 + xx)) k)))]) rfl ?_
      have hrg32 := bI_rng (ofA (a (5 + xx)) k)
      refine x_if_eq (pc := 35) (tgt := 46) K (by omega) dX12_as_35 (by decide) (fun h_35 => ?_) (fun h_35 => ?_)
      · skip
        have h_35 := bI_t h_35
        refine x_aload_n (pc := 46) 0 K rfl rfl dX12_as_46 ?_
        refine x_iconst (pc := 47) K dX12_as_47 ?_
        refine x_callV (pc := 48) (C := RX12) (T := TX12) (n := 26) (ci := 11) (As := [.int (zI 3)]) K (c_X12_found (E := E) (B := B) (N := N)   (cel_self hc0.1) ) gX12_as_X12_found rfl (na := 1) (by decide +kernel) rfl ⟨(Nat.le_of_ble_eq_true rfl), (Nat.le_of_ble_eq_true rfl)⟩ (cel_self hc0.1) rfl (st := []) rfl (Nat.le_of_ble_eq_true rfl) ⟨(Nat.le_of_ble_eq_true rfl), (Nat.le_of_ble_eq_true rfl)⟩ dX12_as_48 (fun r48 N48 w48 hpo48 hN48 => ?_)
        obtain ⟨rfl, rfl, rfl⟩ := hpo48
        refine x_v (w := (va_up v 161 (oM B (va_up F 3 3) V))) (up_at0).symm ?_
        refine x_st (st' := [.int (zI (-1000010 - 3))]) rfl ?_
        refine x_iret (pc := 51) K KR (by omega) (Nat.le_of_ble_eq_true rfl) (Nat.le_of_ble_eq_true rfl) dX12_as_51 ?_
        exact ⟨rfl, (-1000010 - 3), (va_up F 3 3), (by first | exact Or.inl ⟨by omega, rfl, rfl⟩ | exact Or.inr (Or.inl ⟨⟨by omega, h_35⟩, by omega, rfl⟩) | exact Or.inr (Or.inr ⟨⟨by omega, h_35⟩, rfl, rfl⟩)), rfl, rfl⟩
      · skip
        have h_35 := bI_f h_35
        refine x_aload_n (pc := 38) 0 K rfl rfl dX12_as_38 ?_
        refine x_iload_n (pc := 39) 1 K rfl rfl dX12_as_39 ?_
        refine x_callV (pc := 40) (C := RX12) (T := TX12) (n := 26) (ci := 11) (As := [.int (zI (xx : Int))]) K (c_X12_well (E := E) (B := B) (N := N)   (cel_self hc0.1) ) gX12_as_X12_well rfl (na := 1) (by decide +kernel) rfl ⟨(Nat.le_of_ble_eq_true rfl), (Nat.le_of_ble_eq_true rfl)⟩ (cel_self hc0.1) rfl (st := []) rfl (Nat.le_of_ble_eq_true rfl) ⟨(Nat.le_of_ble_eq_true rfl), (Nat.le_of_ble_eq_true rfl)⟩ dX12_as_40 (fun r40 N40 w40 hpo40 hN40 => ?_)
        obtain ⟨rfl, rfl, rfl⟩ := hpo40
        refine x_v (w := (va_up v 161 (oM B (va_up F 3 0) V))) (up_at0).symm ?_
        refine x_st (st' := [.int (zI (xx : Int))]) rfl ?_
        refine x_goto (pc := 43) (tgt := 51) K dX12_as_43 (by decide) ?_
        refine x_iret (pc := 51) K KR (by omega) (Nat.le_of_ble_eq_true rfl) (Nat.le_of_ble_eq_true rfl) dX12_as_51 ?_
        exact ⟨rfl, (xx : Int), (va_up F 3 0), (by first | exact Or.inl ⟨by omega, rfl, rfl⟩ | exact Or.inr (Or.inl ⟨⟨by omega, h_35⟩, by omega, rfl⟩) | exact Or.inr (Or.inr ⟨⟨by omega, h_35⟩, rfl, rfl⟩)), rfl, rfl⟩
    · skip
      have h_17 := bI_t h_17
      refine x_ldc (pc := 20) (x := (-1000001)) (-1000001) K (by decide) (by decide +kernel) dX12_as_20 ?_
      refine x_iret (pc := 22) K KR (by omega) (Nat.le_of_ble_eq_true rfl) (Nat.le_of_ble_eq_true rfl) dX12_as_22 ?_
      exact ⟨rfl, (-1000001), F, (by first | exact Or.inl ⟨by omega, rfl, rfl⟩ | exact Or.inr (Or.inl ⟨⟨by omega, h_35⟩, by omega, rfl⟩) | exact Or.inr (Or.inr ⟨⟨by omega, h_35⟩, rfl, rfl⟩)), rfl, rfl⟩

set_option maxRecDepth 100000 in
set_option maxHeartbeats 4000000 in
theorem c_X12_trace {E : XE} {B N : Nat} {v : Nat → va_E} {F tr : Nat → Int} {V i : Int} (hc0 : Cel N v 161 (oM B F V)) (hc1 : Cel N v 170 (iarr E 16 tr)) (hq0 : (-2147483648 ≤ i ∧ i ≤ 2147483647)) (hq1 : 0 ≤ F 13 ∧ F 13 ≤ 16) : gM yX12_trace wsX12_trace ({ frames := 1, cells := 0, slots := 0, locals := 25 }) E B N v [.ref (B + 161), .int (zI i)] (po0 N (fun ρ v' => ∃ (res : Int), ((¬ (0 ≤ i ∧ i ≤ F 13 - 1) ∧ res = -1000000) ∨ ((0 ≤ i ∧ i ≤ F 13 - 1) ∧ res = tr i.toNat)) ∧ ρ = some (.int (zI res)) ∧ v = v')) := by
  refine x_met (nm := "trace") (by decide +kernel) rfl (Nat.le_of_ble_eq_true rfl) rfl (fun Γ K KR hnL hnm => ?_)
  show XW Γ N v [(0, .ref (B + 161)), (1, .int (zI i))] 0 0 0 []
  refine x_iload_n (pc := 0) 1 K rfl rfl dX12_trace_0 ?_
  refine x_i2l (pc := 1) K (by omega) dX12_trace_1 ?_
  refine x_lconst (pc := 2) (0) K (by decide) dX12_trace_2 ?_
  refine x_aload_n (pc := 3) 0 K rfl rfl dX12_trace_3 ?_
  refine x_get (pc := 4) (C := RX12) (T := TX12) (n := 26) (ci := 11) (idx := 264) (ref := "BorderBedsModel") (x := .int (zI (F 13)))  K hc0 rfl (by decide +kernel) 13 (by decide) (by decide +kernel) rfl rfl dX12_trace_4 ?_
  refine x_iconst (pc := 7) K dX12_trace_7 ?_
  refine x_isub (pc := 8) K dX12_trace_8 ?_
  refine x_i2l (pc := 9) K (by omega) dX12_trace_9 ?_
  refine x_callS (pc := 10) (As := [.long (zL i), .long (zL 0), .long (zL ((F 13) - 1))]) K (c_X12_in (E := E) (B := B) (N := N)    (by omega) (by omega) (by omega)) gX12_trace_X12_in rfl (na := 3) (by decide +kernel) rfl ⟨(Nat.le_of_ble_eq_true rfl), (Nat.le_of_ble_eq_true rfl)⟩ (st := []) rfl (Nat.le_of_ble_eq_true rfl) ⟨(Nat.le_of_ble_eq_true rfl), (Nat.le_of_ble_eq_true rfl)⟩ dX12_trace_10 (fun r10 N10 w10 hpo10 hN10 => ?_)
  obtain ⟨rfl, rfl, rfl⟩ := hpo10
  refine x_st (st' := [.int (zI (bI (0 ≤ i ∧ i ≤ ((F 13) - 1))))]) rfl ?_
  have hrg10 := bI_rng (0 ≤ i ∧ i ≤ ((F 13) - 1))
  refine x_if_eq (pc := 13) (tgt := 25) K (by omega) dX12_trace_13 (by decide) (fun h_13 => ?_) (fun h_13 => ?_)
  · skip
    have h_13 := bI_t h_13
    refine x_ldc (pc := 25) (x := (-1000000)) (-1000000) K (by decide) (by decide +kernel) dX12_trace_25 ?_
    refine x_iret (pc := 27) K KR (by omega) (Nat.le_of_ble_eq_true rfl) (Nat.le_of_ble_eq_true rfl) dX12_trace_27 ?_
    exact ⟨rfl, (-1000000), (by first | exact Or.inl ⟨(by first | rfl | omega | assumption | (simp only [Int.toNat_natCast]; omega)), (by first | rfl | omega | assumption | (simp only [Int.toNat_natCast]; omega))⟩ | exact Or.inr (⟨(by first | rfl | omega | assumption | (simp only [Int.toNat_natCast]; omega)), (by first | rfl | omega | assumption | (simp only [Int.toNat_natCast]; omega))⟩)), rfl, rfl⟩
  · skip
    have h_13 := bI_f h_13
    obtain ⟨ii, rfl⟩ : ∃ ii : Nat, i = (ii : Int) := ⟨i.toNat, by omega⟩
    refine x_aload_n (pc := 16) 0 K rfl rfl dX12_trace_16 ?_
    refine x_get (pc := 17) (C := RX12) (T := TX12) (n := 26) (ci := 11) (idx := 35) (ref := "BorderBedsModel") (x := .ref (B + 170))  K hc0 rfl (by decide +kernel) 14 (by decide) (by decide +kernel) rfl rfl dX12_trace_17 ?_
    refine x_iload_n (pc := 20) 1 K rfl rfl dX12_trace_20 ?_
    refine x_iald (pc := 21) ii K hc1 rfl (by omega) (by decide) dX12_trace_21 ?_
    refine x_goto (pc := 22) (tgt := 27) K dX12_trace_22 (by decide) ?_
    refine x_iret (pc := 27) K KR (by omega) (Nat.le_of_ble_eq_true rfl) (Nat.le_of_ble_eq_true rfl) dX12_trace_27 ?_
    exact ⟨rfl, (tr ii), (by first | exact Or.inl ⟨(by first | rfl | omega | assumption | (simp only [Int.toNat_natCast]; omega)), (by first | rfl | omega | assumption | (simp only [Int.toNat_natCast]; omega))⟩ | exact Or.inr (⟨(by first | rfl | omega | assumption | (simp only [Int.toNat_natCast]; omega)), (by first | rfl | omega | assumption | (simp only [Int.toNat_natCast]; omega))⟩)), rfl, rfl⟩
