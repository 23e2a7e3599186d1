theorem dX12_bestOn_0 : decode cX12_bestOn 0 = .ok (.ldc 239, 2) := by decide +kernel
theorem dX12_bestOn_2 : decode cX12_bestOn 2 = .ok (.istore_n 3, 1) := by decide +kernel
theorem dX12_bestOn_3 : decode cX12_bestOn 3 = .ok (.iconst 0, 1) := by decide +kernel
theorem dX12_bestOn_4 : decode cX12_bestOn 4 = .ok (.istore 4, 2) := by decide +kernel
theorem dX12_bestOn_6 : decode cX12_bestOn 6 = .ok (.aload_n 1, 1) := by decide +kernel
theorem dX12_bestOn_7 : decode cX12_bestOn 7 = .ok (.bipush 10, 2) := by decide +kernel
theorem dX12_bestOn_9 : decode cX12_bestOn 9 = .ok (.iload_n 2, 1) := by decide +kernel
theorem dX12_bestOn_10 : decode cX12_bestOn 10 = .ok (.iadd, 1) := by decide +kernel
theorem dX12_bestOn_11 : decode cX12_bestOn 11 = .ok (.iaload, 1) := by decide +kernel
theorem dX12_bestOn_12 : decode cX12_bestOn 12 = .ok (.istore 5, 2) := by decide +kernel
theorem dX12_bestOn_14 : decode cX12_bestOn 14 = .ok (.iconst 0, 1) := by decide +kernel
theorem dX12_bestOn_15 : decode cX12_bestOn 15 = .ok (.istore 6, 2) := by decide +kernel
theorem dX12_bestOn_17 : decode cX12_bestOn 17 = .ok (.iload 6, 2) := by decide +kernel
theorem dX12_bestOn_19 : decode cX12_bestOn 19 = .ok (.bipush 48, 2) := by decide +kernel
theorem dX12_bestOn_21 : decode cX12_bestOn 21 = .ok (.if_icmp .ge 109, 3) := by decide +kernel
theorem dX12_bestOn_130 : decode cX12_bestOn 130 = .ok (.iload_n 3, 1) := by decide +kernel
theorem dX12_bestOn_131 : decode cX12_bestOn 131 = .ok (.ireturn, 1) := by decide +kernel
theorem dX12_bestOn_24 : decode cX12_bestOn 24 = .ok (.aload_n 1, 1) := by decide +kernel
theorem dX12_bestOn_25 : decode cX12_bestOn 25 = .ok (.iload_n 2, 1) := by decide +kernel
theorem dX12_bestOn_26 : decode cX12_bestOn 26 = .ok (.iload 6, 2) := by decide +kernel
set_option maxRecDepth 20000 in
theorem ggX12_bestOn_X12_mayCross : GoodIn wsX12_bestOn wsX12_mayCross := goodIn_r _ [7, 8, 9, 6, 10, 11, 12, 13] (by decide +kernel) (by decide +kernel)
set_option maxRecDepth 20000 in
theorem gX12_bestOn_X12_mayCross : GoodIn wsX12_bestOn (va_wsS RX12 223 yX12_mayCross wsX12_mayCross) := goodIn_app (goodIn_of _ (by decide +kernel)) ggX12_bestOn_X12_mayCross
theorem dX12_bestOn_28 : decode cX12_bestOn 28 = .ok (.invokestatic 223, 3) := by decide +kernel
theorem dX12_bestOn_31 : decode cX12_bestOn 31 = .ok (.ifCond .ne 6, 3) := by decide +kernel
theorem dX12_bestOn_37 : decode cX12_bestOn 37 = .ok (.aload_n 1, 1) := by decide +kernel
theorem dX12_bestOn_38 : decode cX12_bestOn 38 = .ok (.iconst 0, 1) := by decide +kernel
theorem dX12_bestOn_39 : decode cX12_bestOn 39 = .ok (.aload_n 0, 1) := by decide +kernel
theorem dX12_bestOn_40 : decode cX12_bestOn 40 = .ok (.getfield 44, 3) := by decide +kernel
theorem dX12_bestOn_43 : decode cX12_bestOn 43 = .ok (.iconst 0, 1) := by decide +kernel
set_option maxRecDepth 20000 in
theorem ggX12_bestOn_X12_copies : GoodIn wsX12_bestOn wsX12_copies := goodIn_r _ [16] (by decide +kernel) (by decide +kernel)
set_option maxRecDepth 20000 in
theorem gX12_bestOn_X12_copies : GoodIn wsX12_bestOn (va_wsS RX12 193 yX12_copies wsX12_copies) := goodIn_app (goodIn_of _ (by decide +kernel)) ggX12_bestOn_X12_copies
theorem dX12_bestOn_44 : decode cX12_bestOn 44 = .ok (.invokestatic 193, 3) := by decide +kernel
theorem dX12_bestOn_47 : decode cX12_bestOn 47 = .ok (.aload_n 0, 1) := by decide +kernel
theorem dX12_bestOn_48 : decode cX12_bestOn 48 = .ok (.getfield 44, 3) := by decide +kernel
theorem dX12_bestOn_51 : decode cX12_bestOn 51 = .ok (.iload_n 2, 1) := by decide +kernel
theorem dX12_bestOn_52 : decode cX12_bestOn 52 = .ok (.iload 6, 2) := by decide +kernel
set_option maxRecDepth 20000 in
theorem ggX12_bestOn_X12_crosses : GoodIn wsX12_bestOn wsX12_crosses := goodIn_r _ [19, 20, 21, 6, 22, 23, 24, 25] (by decide +kernel) (by decide +kernel)
set_option maxRecDepth 20000 in
theorem gX12_bestOn_X12_crosses : GoodIn wsX12_bestOn (va_wsS RX12 231 yX12_crosses wsX12_crosses) := goodIn_app (goodIn_of _ (by decide +kernel)) ggX12_bestOn_X12_crosses
theorem dX12_bestOn_54 : decode cX12_bestOn 54 = .ok (.invokestatic 231, 3) := by decide +kernel
theorem dX12_bestOn_57 : decode cX12_bestOn 57 = .ok (.aload_n 0, 1) := by decide +kernel
theorem dX12_bestOn_58 : decode cX12_bestOn 58 = .ok (.getfield 44, 3) := by decide +kernel
theorem dX12_bestOn_61 : decode cX12_bestOn 61 = .ok (.iload 5, 2) := by decide +kernel
set_option maxRecDepth 20000 in
theorem ggX12_bestOn_X12_lead : GoodIn wsX12_bestOn wsX12_lead := goodIn_r _ [28, 29, 30, 6, 31, 11, 12, 13] (by decide +kernel) (by decide +kernel)
set_option maxRecDepth 20000 in
theorem gX12_bestOn_X12_lead : GoodIn wsX12_bestOn (va_wsS RX12 236 yX12_lead wsX12_lead) := goodIn_app (goodIn_of _ (by decide +kernel)) ggX12_bestOn_X12_lead
theorem dX12_bestOn_63 : decode cX12_bestOn 63 = .ok (.invokestatic 236, 3) := by decide +kernel
theorem dX12_bestOn_66 : decode cX12_bestOn 66 = .ok (.istore 7, 2) := by decide +kernel
theorem dX12_bestOn_68 : decode cX12_bestOn 68 = .ok (.aload_n 0, 1) := by decide +kernel
theorem dX12_bestOn_69 : decode cX12_bestOn 69 = .ok (.getfield 44, 3) := by decide +kernel
theorem dX12_bestOn_72 : decode cX12_bestOn 72 = .ok (.iload 5, 2) := by decide +kernel
theorem dX12_bestOn_74 : decode cX12_bestOn 74 = .ok (.iconst 0, 1) := by decide +kernel
set_option maxRecDepth 20000 in
theorem ggX12_bestOn_X12_sum : GoodIn wsX12_bestOn wsX12_sum := goodIn_r _ [31, 11, 12, 6, 13] (by decide +kernel) (by decide +kernel)
set_option maxRecDepth 20000 in
theorem gX12_bestOn_X12_sum : GoodIn wsX12_bestOn (va_wsS RX12 211 yX12_sum wsX12_sum) := goodIn_app (goodIn_of _ (by decide +kernel)) ggX12_bestOn_X12_sum
theorem dX12_bestOn_75 : decode cX12_bestOn 75 = .ok (.invokestatic 211, 3) := by decide +kernel
theorem dX12_bestOn_78 : decode cX12_bestOn 78 = .ok (.istore 8, 2) := by decide +kernel
theorem dX12_bestOn_80 : decode cX12_bestOn 80 = .ok (.iload_n 3, 1) := by decide +kernel
theorem dX12_bestOn_81 : decode cX12_bestOn 81 = .ok (.ldc 239, 2) := by decide +kernel
theorem dX12_bestOn_83 : decode cX12_bestOn 83 = .ok (.if_icmp .eq 28, 3) := by decide +kernel
theorem dX12_bestOn_111 : decode cX12_bestOn 111 = .ok (.iload 6, 2) := by decide +kernel
theorem dX12_bestOn_113 : decode cX12_bestOn 113 = .ok (.istore_n 3, 1) := by decide +kernel
theorem dX12_bestOn_114 : decode cX12_bestOn 114 = .ok (.aload_n 0, 1) := by decide +kernel
theorem dX12_bestOn_115 : decode cX12_bestOn 115 = .ok (.iload 7, 2) := by decide +kernel
theorem dX12_bestOn_117 : decode cX12_bestOn 117 = .ok (.putfield 240, 3) := by decide +kernel
theorem dX12_bestOn_120 : decode cX12_bestOn 120 = .ok (.iload 8, 2) := by decide +kernel
theorem dX12_bestOn_122 : decode cX12_bestOn 122 = .ok (.istore 4, 2) := by decide +kernel
theorem dX12_bestOn_124 : decode cX12_bestOn 124 = .ok (.iinc 6 1, 3) := by decide +kernel
theorem dX12_bestOn_127 : decode cX12_bestOn 127 = .ok (.goto (-110), 3) := by decide +kernel
theorem dX12_bestOn_86 : decode cX12_bestOn 86 = .ok (.iload 7, 2) := by decide +kernel
theorem dX12_bestOn_88 : decode cX12_bestOn 88 = .ok (.aload_n 0, 1) := by decide +kernel
theorem dX12_bestOn_89 : decode cX12_bestOn 89 = .ok (.getfield 240, 3) := by decide +kernel
theorem dX12_bestOn_92 : decode cX12_bestOn 92 = .ok (.if_icmp .gt 19, 3) := by decide +kernel
theorem dX12_bestOn_95 : decode cX12_bestOn 95 = .ok (.iload 7, 2) := by decide +kernel
theorem dX12_bestOn_97 : decode cX12_bestOn 97 = .ok (.aload_n 0, 1) := by decide +kernel
theorem dX12_bestOn_98 : decode cX12_bestOn 98 = .ok (.getfield 240, 3) := by decide +kernel
theorem dX12_bestOn_101 : decode cX12_bestOn 101 = .ok (.if_icmp .ne 23, 3) := by decide +kernel
theorem dX12_bestOn_104 : decode cX12_bestOn 104 = .ok (.iload 8, 2) := by decide +kernel
theorem dX12_bestOn_106 : decode cX12_bestOn 106 = .ok (.iload 4, 2) := by decide +kernel
theorem dX12_bestOn_108 : decode cX12_bestOn 108 = .ok (.if_icmp .le 16, 3) := by decide +kernel
theorem dX12_bestOn_34 : decode cX12_bestOn 34 = .ok (.goto 90, 3) := by decide +kernel
theorem dX12_best_0 : decode cX12_best 0 = .ok (.aload_n 0, 1) := by decide +kernel
theorem dX12_best_1 : decode cX12_best 1 = .ok (.iload_n 1, 1) := by decide +kernel
set_option maxRecDepth 20000 in
theorem ggX12_best_X12_isPerson : GoodIn wsX12_best wsX12_isPerson := goodIn_r _ [9, 2, 10, 11, 8, 12, 45, 46, 47, 48, 49, 50, 51, 52, 53, 54, 55, 56, 57, 58, 59, 60, 61, 62, 63, 64, 65, 66, 67, 68, 69, 70] (by decide +kernel) (by decide +kernel)
set_option maxRecDepth 20000 in
theorem gX12_best_X12_isPerson : GoodIn wsX12_best (wsV RX12 217 RX12 yX12_isPerson wsX12_isPerson) := goodIn_app (goodIn_of _ (by decide +kernel)) ggX12_best_X12_isPerson
theorem dX12_best_2 : decode cX12_best 2 = .ok (.invokevirtual 217, 3) := by decide +kernel
theorem dX12_best_5 : decode cX12_best 5 = .ok (.ifCond .eq 13, 3) := by decide +kernel
theorem dX12_best_18 : decode cX12_best 18 = .ok (.ldc 64, 2) := by decide +kernel
theorem dX12_best_20 : decode cX12_best 20 = .ok (.ireturn, 1) := by decide +kernel
theorem dX12_best_8 : decode cX12_best 8 = .ok (.iload_n 2, 1) := by decide +kernel
theorem dX12_best_9 : decode cX12_best 9 = .ok (.i2l, 1) := by decide +kernel
theorem dX12_best_10 : decode cX12_best 10 = .ok (.lconst 0, 1) := by decide +kernel
theorem dX12_best_11 : decode cX12_best 11 = .ok (.lconst 1, 1) := by decide +kernel
set_option maxRecDepth 20000 in
theorem ggX12_best_X12_in : GoodIn wsX12_best wsX12_in := goodIn_r _ [12] (by decide +kernel) (by decide +kernel)
set_option maxRecDepth 20000 in
theorem gX12_best_X12_in : GoodIn wsX12_best (va_wsS RX12 54 yX12_in wsX12_in) := goodIn_app (goodIn_of _ (by decide +kernel)) ggX12_best_X12_in
theorem dX12_best_12 : decode cX12_best 12 = .ok (.invokestatic 54, 3) := by decide +kernel
theorem dX12_best_15 : decode cX12_best 15 = .ok (.ifCond .ne 6, 3) := by decide +kernel
theorem dX12_best_21 : decode cX12_best 21 = .ok (.aload_n 0, 1) := by decide +kernel
theorem dX12_best_22 : decode cX12_best 22 = .ok (.aload_n 0, 1) := by decide +kernel
theorem dX12_best_23 : decode cX12_best 23 = .ok (.getfield 22, 3) := by decide +kernel
theorem dX12_best_26 : decode cX12_best 26 = .ok (.iload_n 1, 1) := by decide +kernel
set_option maxRecDepth 20000 in
theorem ggX12_best_X12_bestOn : GoodIn wsX12_best wsX12_bestOn := goodIn_r _ [16, 3, 17, 4, 18, 19, 8, 20, 21, 22, 23, 24, 25, 26, 27, 28, 29, 30, 31, 32, 33, 34, 35, 36, 37, 38, 39, 40, 41, 42, 43, 44, 45, 46, 47, 48, 49, 50, 51, 52, 53, 54, 55, 56, 57, 58, 59, 60, 61, 62, 63, 64, 65, 66, 67, 68, 69, 70] (by decide +kernel) (by decide +kernel)
set_option maxRecDepth 20000 in
theorem gX12_best_X12_bestOn : GoodIn wsX12_best (wsV RX12 243 RX12 yX12_bestOn wsX12_bestOn) := goodIn_app (goodIn_of _ (by decide +kernel)) ggX12_best_X12_bestOn
theorem dX12_best_27 : decode cX12_best 27 = .ok (.invokevirtual 243, 3) := by decide +kernel
theorem dX12_best_30 : decode cX12_best 30 = .ok (.istore_n 3, 1) := by decide +kernel
theorem dX12_best_31 : decode cX12_best 31 = .ok (.iload_n 3, 1) := by decide +kernel
theorem dX12_best_32 : decode cX12_best 32 = .ok (.ldc 239, 2) := by decide +kernel
theorem dX12_best_34 : decode cX12_best 34 = .ok (.if_icmp .eq 7, 3) := by decide +kernel
theorem dX12_best_41 : decode cX12_best 41 = .ok (.iload_n 3, 1) := by decide +kernel
theorem dX12_best_42 : decode cX12_best 42 = .ok (.goto 7, 3) := by decide +kernel
theorem dX12_best_49 : decode cX12_best 49 = .ok (.ireturn, 1) := by decide +kernel
theorem dX12_best_37 : decode cX12_best 37 = .ok (.iload_n 2, 1) := by decide +kernel
theorem dX12_best_38 : decode cX12_best 38 = .ok (.ifCond .ne 7, 3) := by decide +kernel
theorem dX12_best_45 : decode cX12_best 45 = .ok (.aload_n 0, 1) := by decide +kernel
theorem dX12_best_46 : decode cX12_best 46 = .ok (.getfield 240, 3) := by decide +kernel
theorem dX12_land_0 : decode cX12_land 0 = .ok (.aload_n 0, 1) := by decide +kernel
theorem dX12_land_1 : decode cX12_land 1 = .ok (.getfield 186, 3) := by decide +kernel
theorem dX12_land_4 : decode cX12_land 4 = .ok (.ifCond .ne 6, 3) := by decide +kernel
theorem dX12_land_10 : decode cX12_land 10 = .ok (.iload_n 1, 1) := by decide +kernel
theorem dX12_land_11 : decode cX12_land 11 = .ok (.i2l, 1) := by decide +kernel
theorem dX12_land_12 : decode cX12_land 12 = .ok (.lconst 0, 1) := by decide +kernel
theorem dX12_land_13 : decode cX12_land 13 = .ok (.lconst 1, 1) := by decide +kernel
set_option maxRecDepth 20000 in
theorem ggX12_land_X12_in : GoodIn wsX12_land wsX12_in := goodIn_r _ [9] (by decide +kernel) (by decide +kernel)
set_option maxRecDepth 20000 in
theorem gX12_land_X12_in : GoodIn wsX12_land (va_wsS RX12 54 yX12_in wsX12_in) := goodIn_app (goodIn_of _ (by decide +kernel)) ggX12_land_X12_in
theorem dX12_land_14 : decode cX12_land 14 = .ok (.invokestatic 54, 3) := by decide +kernel
theorem dX12_land_17 : decode cX12_land 17 = .ok (.ifCond .eq 15, 3) := by decide +kernel
theorem dX12_land_32 : decode cX12_land 32 = .ok (.ldc 64, 2) := by decide +kernel
theorem dX12_land_34 : decode cX12_land 34 = .ok (.ireturn, 1) := by decide +kernel
theorem dX12_land_20 : decode cX12_land 20 = .ok (.iload_n 2, 1) := by decide +kernel
theorem dX12_land_21 : decode cX12_land 21 = .ok (.i2l, 1) := by decide +kernel
theorem dX12_land_22 : decode cX12_land 22 = .ok (.lconst 0, 1) := by decide +kernel
theorem dX12_land_23 : decode cX12_land 23 = .ok (.ldc2_w 62, 3) := by decide +kernel
theorem dX12_land_26 : decode cX12_land 26 = .ok (.invokestatic 54, 3) := by decide +kernel
theorem dX12_land_29 : decode cX12_land 29 = .ok (.ifCond .ne 6, 3) := by decide +kernel
theorem dX12_land_35 : decode cX12_land 35 = .ok (.iload_n 2, 1) := by decide +kernel
theorem dX12_land_36 : decode cX12_land 36 = .ok (.iconst 2, 1) := by decide +kernel
theorem dX12_land_37 : decode cX12_land 37 = .ok (.if_icmp .ne 14, 3) := by decide +kernel
theorem dX12_land_51 : decode cX12_land 51 = .ok (.aload_n 0, 1) := by decide +kernel
theorem dX12_land_52 : decode cX12_land 52 = .ok (.getfield 22, 3) := by decide +kernel
theorem dX12_land_55 : decode cX12_land 55 = .ok (.iload_n 1, 1) := by decide +kernel
theorem dX12_land_56 : decode cX12_land 56 = .ok (.iload_n 2, 1) := by decide +kernel
set_option maxRecDepth 20000 in
theorem ggX12_land_X12_sum : GoodIn wsX12_land wsX12_sum := goodIn_r _ [15, 16, 17, 8, 18] (by decide +kernel) (by decide +kernel)
set_option maxRecDepth 20000 in
theorem gX12_land_X12_sum : GoodIn wsX12_land (va_wsS RX12 211 yX12_sum wsX12_sum) := goodIn_app (goodIn_of _ (by decide +kernel)) ggX12_land_X12_sum
theorem dX12_land_57 : decode cX12_land 57 = .ok (.invokestatic 211, 3) := by decide +kernel
theorem dX12_land_60 : decode cX12_land 60 = .ok (.ireturn, 1) := by decide +kernel
theorem dX12_land_40 : decode cX12_land 40 = .ok (.aload_n 0, 1) := by decide +kernel
theorem dX12_land_41 : decode cX12_land 41 = .ok (.getfield 22, 3) := by decide +kernel
theorem dX12_land_44 : decode cX12_land 44 = .ok (.iload_n 1, 1) := by decide +kernel
set_option maxRecDepth 20000 in
theorem ggX12_land_X12_lead : GoodIn wsX12_land wsX12_lead := goodIn_r _ [12, 13, 14, 8, 15, 16, 17, 18] (by decide +kernel) (by decide +kernel)
set_option maxRecDepth 20000 in
theorem gX12_land_X12_lead : GoodIn wsX12_land (va_wsS RX12 236 yX12_lead wsX12_lead) := goodIn_app (goodIn_of _ (by decide +kernel)) ggX12_land_X12_lead
theorem dX12_land_45 : decode cX12_land 45 = .ok (.invokestatic 236, 3) := by decide +kernel
theorem dX12_land_48 : decode cX12_land 48 = .ok (.goto 12, 3) := by decide +kernel
theorem dX12_land_7 : decode cX12_land 7 = .ok (.ldc 227, 2) := by decide +kernel
theorem dX12_land_9 : decode cX12_land 9 = .ok (.ireturn, 1) := by decide +kernel
theorem dX12_person_0 : decode cX12_person 0 = .ok (.aload_n 0, 1) := by decide +kernel
theorem dX12_person_1 : decode cX12_person 1 = .ok (.iload_n 1, 1) := by decide +kernel
set_option maxRecDepth 20000 in
theorem ggX12_person_X12_isPerson : GoodIn wsX12_person wsX12_isPerson := goodIn_r _ [8, 3, 9, 10, 7, 11, 21, 22, 23, 24, 25, 26, 27, 28, 29, 30, 31, 32, 33, 34, 35, 36, 37, 38, 39, 40, 41, 42, 43, 44, 45, 46] (by decide +kernel) (by decide +kernel)
set_option maxRecDepth 20000 in
theorem gX12_person_X12_isPerson : GoodIn wsX12_person (wsV RX12 217 RX12 yX12_isPerson wsX12_isPerson) := goodIn_app (goodIn_of _ (by decide +kernel)) ggX12_person_X12_isPerson
theorem dX12_person_2 : decode cX12_person 2 = .ok (.invokevirtual 217, 3) := by decide +kernel
theorem dX12_person_5 : decode cX12_person 5 = .ok (.ifCond .eq 15, 3) := by decide +kernel
theorem dX12_person_20 : decode cX12_person 20 = .ok (.ldc 64, 2) := by decide +kernel
theorem dX12_person_22 : decode cX12_person 22 = .ok (.ireturn, 1) := by decide +kernel
theorem dX12_person_8 : decode cX12_person 8 = .ok (.iload_n 2, 1) := by decide +kernel
theorem dX12_person_9 : decode cX12_person 9 = .ok (.i2l, 1) := by decide +kernel
theorem dX12_person_10 : decode cX12_person 10 = .ok (.lconst 0, 1) := by decide +kernel
theorem dX12_person_11 : decode cX12_person 11 = .ok (.ldc2_w 234, 3) := by decide +kernel
set_option maxRecDepth 20000 in
theorem ggX12_person_X12_in : GoodIn wsX12_person wsX12_in := goodIn_r _ [11] (by decide +kernel) (by decide +kernel)
set_option maxRecDepth 20000 in
theorem gX12_person_X12_in : GoodIn wsX12_person (va_wsS RX12 54 yX12_in wsX12_in) := goodIn_app (goodIn_of _ (by decide +kernel)) ggX12_person_X12_in
theorem dX12_person_14 : decode cX12_person 14 = .ok (.invokestatic 54, 3) := by decide +kernel
theorem dX12_person_17 : decode cX12_person 17 = .ok (.ifCond .ne 6, 3) := by decide +kernel
theorem dX12_person_23 : decode cX12_person 23 = .ok (.iconst 0, 1) := by decide +kernel
theorem dX12_person_24 : decode cX12_person 24 = .ok (.istore_n 3, 1) := by decide +kernel
theorem dX12_person_25 : decode cX12_person 25 = .ok (.iconst 0, 1) := by decide +kernel
theorem dX12_person_26 : decode cX12_person 26 = .ok (.istore 4, 2) := by decide +kernel
theorem dX12_person_28 : decode cX12_person 28 = .ok (.iload 4, 2) := by decide +kernel
theorem dX12_person_30 : decode cX12_person 30 = .ok (.bipush 48, 2) := by decide +kernel
theorem dX12_person_32 : decode cX12_person 32 = .ok (.if_icmp .ge 30, 3) := by decide +kernel
theorem dX12_person_62 : decode cX12_person 62 = .ok (.iload_n 2, 1) := by decide +kernel
theorem dX12_person_63 : decode cX12_person 63 = .ok (.ifCond .ne 15, 3) := by decide +kernel
theorem dX12_person_78 : decode cX12_person 78 = .ok (.iload_n 2, 1) := by decide +kernel
theorem dX12_person_79 : decode cX12_person 79 = .ok (.iconst 1, 1) := by decide +kernel
theorem dX12_person_80 : decode cX12_person 80 = .ok (.if_icmp .ne 15, 3) := by decide +kernel
theorem dX12_person_95 : decode cX12_person 95 = .ok (.iload_n 2, 1) := by decide +kernel
theorem dX12_person_96 : decode cX12_person 96 = .ok (.iconst 2, 1) := by decide +kernel
theorem dX12_person_97 : decode cX12_person 97 = .ok (.if_icmp .ne 15, 3) := by decide +kernel
theorem dX12_person_112 : decode cX12_person 112 = .ok (.iload_n 3, 1) := by decide +kernel
theorem dX12_person_113 : decode cX12_person 113 = .ok (.ireturn, 1) := by decide +kernel
theorem dX12_person_100 : decode cX12_person 100 = .ok (.aload_n 0, 1) := by decide +kernel
theorem dX12_person_101 : decode cX12_person 101 = .ok (.getfield 22, 3) := by decide +kernel
theorem dX12_person_104 : decode cX12_person 104 = .ok (.bipush 20, 2) := by decide +kernel
theorem dX12_person_106 : decode cX12_person 106 = .ok (.iload_n 1, 1) := by decide +kernel
theorem dX12_person_107 : decode cX12_person 107 = .ok (.iadd, 1) := by decide +kernel
theorem dX12_person_108 : decode cX12_person 108 = .ok (.iaload, 1) := by decide +kernel
theorem dX12_person_109 : decode cX12_person 109 = .ok (.goto 4, 3) := by decide +kernel
theorem dX12_person_83 : decode cX12_person 83 = .ok (.aload_n 0, 1) := by decide +kernel
theorem dX12_person_84 : decode cX12_person 84 = .ok (.getfield 22, 3) := by decide +kernel
theorem dX12_person_87 : decode cX12_person 87 = .ok (.bipush 15, 2) := by decide +kernel
theorem dX12_person_89 : decode cX12_person 89 = .ok (.iload_n 1, 1) := by decide +kernel
theorem dX12_person_90 : decode cX12_person 90 = .ok (.iadd, 1) := by decide +kernel
theorem dX12_person_91 : decode cX12_person 91 = .ok (.iaload, 1) := by decide +kernel
theorem dX12_person_92 : decode cX12_person 92 = .ok (.goto 21, 3) := by decide +kernel
theorem dX12_person_66 : decode cX12_person 66 = .ok (.aload_n 0, 1) := by decide +kernel
theorem dX12_person_67 : decode cX12_person 67 = .ok (.getfield 22, 3) := by decide +kernel
theorem dX12_person_70 : decode cX12_person 70 = .ok (.bipush 10, 2) := by decide +kernel
theorem dX12_person_72 : decode cX12_person 72 = .ok (.iload_n 1, 1) := by decide +kernel
theorem dX12_person_73 : decode cX12_person 73 = .ok (.iadd, 1) := by decide +kernel
theorem dX12_person_74 : decode cX12_person 74 = .ok (.iaload, 1) := by decide +kernel
theorem dX12_person_75 : decode cX12_person 75 = .ok (.goto 38, 3) := by decide +kernel
theorem dX12_person_35 : decode cX12_person 35 = .ok (.iload_n 3, 1) := by decide +kernel
theorem dX12_person_36 : decode cX12_person 36 = .ok (.aload_n 0, 1) := by decide +kernel
theorem dX12_person_37 : decode cX12_person 37 = .ok (.getfield 22, 3) := by decide +kernel
theorem dX12_person_40 : decode cX12_person 40 = .ok (.iload_n 1, 1) := by decide +kernel
theorem dX12_person_41 : decode cX12_person 41 = .ok (.iload 4, 2) := by decide +kernel
set_option maxRecDepth 20000 in
theorem ggX12_person_X12_mayCross : GoodIn wsX12_person wsX12_mayCross := goodIn_r _ [14, 15, 16, 7, 17, 18, 19, 20] (by decide +kernel) (by decide +kernel)
set_option maxRecDepth 20000 in
theorem gX12_person_X12_mayCross : GoodIn wsX12_person (va_wsS RX12 223 yX12_mayCross wsX12_mayCross) := goodIn_app (goodIn_of _ (by decide +kernel)) ggX12_person_X12_mayCross
theorem dX12_person_43 : decode cX12_person 43 = .ok (.invokestatic 223, 3) := by decide +kernel
theorem dX12_person_46 : decode cX12_person 46 = .ok (.ifCond .eq 7, 3) := by decide +kernel
theorem dX12_person_53 : decode cX12_person 53 = .ok (.iconst 0, 1) := by decide +kernel
theorem dX12_person_54 : decode cX12_person 54 = .ok (.iadd, 1) := by decide +kernel
theorem dX12_person_55 : decode cX12_person 55 = .ok (.istore_n 3, 1) := by decide +kernel
theorem dX12_person_56 : decode cX12_person 56 = .ok (.iinc 4 1, 3) := by decide +kernel
theorem dX12_person_59 : decode cX12_person 59 = .ok (.goto (-31), 3) := by decide +kernel
theorem dX12_person_49 : decode cX12_person 49 = .ok (.iconst 1, 1) := by decide +kernel
theorem dX12_person_50 : decode cX12_person 50 = .ok (.goto 4, 3) := by decide +kernel
theorem dX12_remember_0 : decode cX12_remember 0 = .ok (.aload_n 0, 1) := by decide +kernel
theorem dX12_remember_1 : decode cX12_remember 1 = .ok (.getfield 190, 3) := by decide +kernel
theorem dX12_remember_4 : decode cX12_remember 4 = .ok (.bipush 24, 2) := by decide +kernel
theorem dX12_remember_6 : decode cX12_remember 6 = .ok (.if_icmp .ne 44, 3) := by decide +kernel
theorem dX12_remember_50 : decode cX12_remember 50 = .ok (.aload_n 0, 1) := by decide +kernel
theorem dX12_remember_51 : decode cX12_remember 51 = .ok (.getfield 22, 3) := by decide +kernel
theorem dX12_remember_54 : decode cX12_remember 54 = .ok (.iconst 0, 1) := by decide +kernel
theorem dX12_remember_55 : decode cX12_remember 55 = .ok (.aload_n 0, 1) := by decide +kernel
theorem dX12_remember_56 : decode cX12_remember 56 = .ok (.getfield 25, 3) := by decide +kernel
theorem dX12_remember_59 : decode cX12_remember 59 = .ok (.sipush 138, 3) := by decide +kernel
theorem dX12_remember_62 : decode cX12_remember 62 = .ok (.aload_n 0, 1) := by decide +kernel
theorem dX12_remember_63 : decode cX12_remember 63 = .ok (.getfield 190, 3) := by decide +kernel
theorem dX12_remember_66 : decode cX12_remember 66 = .ok (.imul, 1) := by decide +kernel
set_option maxRecDepth 20000 in
theorem ggX12_remember_X12_copies : GoodIn wsX12_remember wsX12_copies := goodIn_r _ [7] (by decide +kernel) (by decide +kernel)
set_option maxRecDepth 20000 in
theorem gX12_remember_X12_copies : GoodIn wsX12_remember (va_wsS RX12 193 yX12_copies wsX12_copies) := goodIn_app (goodIn_of _ (by decide +kernel)) ggX12_remember_X12_copies
theorem dX12_remember_67 : decode cX12_remember 67 = .ok (.invokestatic 193, 3) := by decide +kernel
theorem dX12_remember_70 : decode cX12_remember 70 = .ok (.aload_n 0, 1) := by decide +kernel
theorem dX12_remember_71 : decode cX12_remember 71 = .ok (.dup, 1) := by decide +kernel
theorem dX12_remember_72 : decode cX12_remember 72 = .ok (.getfield 190, 3) := by decide +kernel
theorem dX12_remember_75 : decode cX12_remember 75 = .ok (.iconst 1, 1) := by decide +kernel
theorem dX12_remember_76 : decode cX12_remember 76 = .ok (.iadd, 1) := by decide +kernel
theorem dX12_remember_77 : decode cX12_remember 77 = .ok (.putfield 190, 3) := by decide +kernel
theorem dX12_remember_80 : decode cX12_remember 80 = .ok (.return_, 1) := by decide +kernel
theorem dX12_remember_9 : decode cX12_remember 9 = .ok (.iconst 0, 1) := by decide +kernel
theorem dX12_remember_10 : decode cX12_remember 10 = .ok (.istore_n 1, 1) := by decide +kernel
theorem dX12_remember_11 : decode cX12_remember 11 = .ok (.iload_n 1, 1) := by decide +kernel
theorem dX12_remember_12 : decode cX12_remember 12 = .ok (.sipush 3174, 3) := by decide +kernel
theorem dX12_remember_15 : decode cX12_remember 15 = .ok (.if_icmp .ge 25, 3) := by decide +kernel
theorem dX12_remember_40 : decode cX12_remember 40 = .ok (.aload_n 0, 1) := by decide +kernel
theorem dX12_remember_41 : decode cX12_remember 41 = .ok (.dup, 1) := by decide +kernel
theorem dX12_remember_42 : decode cX12_remember 42 = .ok (.getfield 190, 3) := by decide +kernel
theorem dX12_remember_45 : decode cX12_remember 45 = .ok (.iconst 1, 1) := by decide +kernel
theorem dX12_remember_46 : decode cX12_remember 46 = .ok (.isub, 1) := by decide +kernel
theorem dX12_remember_47 : decode cX12_remember 47 = .ok (.putfield 190, 3) := by decide +kernel
theorem dX12_remember_18 : decode cX12_remember 18 = .ok (.aload_n 0, 1) := by decide +kernel
theorem dX12_remember_19 : decode cX12_remember 19 = .ok (.getfield 25, 3) := by decide +kernel
theorem dX12_remember_22 : decode cX12_remember 22 = .ok (.iload_n 1, 1) := by decide +kernel
theorem dX12_remember_23 : decode cX12_remember 23 = .ok (.aload_n 0, 1) := by decide +kernel
theorem dX12_remember_24 : decode cX12_remember 24 = .ok (.getfield 25, 3) := by decide +kernel
theorem dX12_remember_27 : decode cX12_remember 27 = .ok (.iload_n 1, 1) := by decide +kernel
theorem dX12_remember_28 : decode cX12_remember 28 = .ok (.sipush 138, 3) := by decide +kernel
theorem dX12_remember_31 : decode cX12_remember 31 = .ok (.iadd, 1) := by decide +kernel
theorem dX12_remember_32 : decode cX12_remember 32 = .ok (.iaload, 1) := by decide +kernel
theorem dX12_remember_33 : decode cX12_remember 33 = .ok (.iastore, 1) := by decide +kernel
theorem dX12_remember_34 : decode cX12_remember 34 = .ok (.iinc 1 1, 3) := by decide +kernel
theorem dX12_remember_37 : decode cX12_remember 37 = .ok (.goto (-26), 3) := by decide +kernel
theorem dX12_cross_0 : decode cX12_cross 0 = .ok (.aload_n 0, 1) := by decide +kernel
theorem dX12_cross_1 : decode cX12_cross 1 = .ok (.iload_n 1, 1) := by decide +kernel
set_option maxRecDepth 20000 in
theorem ggX12_cross_X12_isPerson : GoodIn wsX12_cross wsX12_isPerson := goodIn_r _ [8, 2, 9, 10, 7, 11, 43, 44, 45, 46, 47, 48, 49, 50, 51, 52, 53, 54, 55, 56, 57, 58, 59, 60, 61, 62, 63, 64, 65, 66, 67, 68] (by decide +kernel) (by decide +kernel)
set_option maxRecDepth 20000 in
theorem gX12_cross_X12_isPerson : GoodIn wsX12_cross (wsV RX12 217 RX12 yX12_isPerson wsX12_isPerson) := goodIn_app (goodIn_of _ (by decide +kernel)) ggX12_cross_X12_isPerson
theorem dX12_cross_2 : decode cX12_cross 2 = .ok (.invokevirtual 217, 3) := by decide +kernel
theorem dX12_cross_5 : decode cX12_cross 5 = .ok (.ifCond .eq 10, 3) := by decide +kernel
theorem dX12_cross_15 : decode cX12_cross 15 = .ok (.ldc 64, 2) := by decide +kernel
theorem dX12_cross_17 : decode cX12_cross 17 = .ok (.ireturn, 1) := by decide +kernel
theorem dX12_cross_8 : decode cX12_cross 8 = .ok (.iload_n 2, 1) := by decide +kernel
set_option maxRecDepth 20000 in
theorem ggX12_cross_X12_isCell : GoodIn wsX12_cross wsX12_isCell := goodIn_r _ [14, 15, 9, 10, 7, 11] (by decide +kernel) (by decide +kernel)
set_option maxRecDepth 20000 in
theorem gX12_cross_X12_isCell : GoodIn wsX12_cross (va_wsS RX12 220 yX12_isCell wsX12_isCell) := goodIn_app (goodIn_of _ (by decide +kernel)) ggX12_cross_X12_isCell
theorem dX12_cross_9 : decode cX12_cross 9 = .ok (.invokestatic 220, 3) := by decide +kernel
theorem dX12_cross_12 : decode cX12_cross 12 = .ok (.ifCond .ne 6, 3) := by decide +kernel
theorem dX12_cross_18 : decode cX12_cross 18 = .ok (.aload_n 0, 1) := by decide +kernel
theorem dX12_cross_19 : decode cX12_cross 19 = .ok (.getfield 22, 3) := by decide +kernel
theorem dX12_cross_22 : decode cX12_cross 22 = .ok (.iload_n 1, 1) := by decide +kernel
theorem dX12_cross_23 : decode cX12_cross 23 = .ok (.iload_n 2, 1) := by decide +kernel
set_option maxRecDepth 20000 in
theorem ggX12_cross_X12_mayCross : GoodIn wsX12_cross wsX12_mayCross := goodIn_r _ [18, 19, 20, 7, 21, 22, 23, 24] (by decide +kernel) (by decide +kernel)
set_option maxRecDepth 20000 in
theorem gX12_cross_X12_mayCross : GoodIn wsX12_cross (va_wsS RX12 223 yX12_mayCross wsX12_mayCross) := goodIn_app (goodIn_of _ (by decide +kernel)) ggX12_cross_X12_mayCross
theorem dX12_cross_24 : decode cX12_cross 24 = .ok (.invokestatic 223, 3) := by decide +kernel
theorem dX12_cross_27 : decode cX12_cross 27 = .ok (.ifCond .ne 6, 3) := by decide +kernel
theorem dX12_cross_33 : decode cX12_cross 33 = .ok (.aload_n 0, 1) := by decide +kernel
set_option maxRecDepth 20000 in
theorem ggX12_cross_X12_remember : GoodIn wsX12_cross wsX12_remember := goodIn_r _ [28, 29, 30, 2, 31, 32, 7, 33, 43, 44, 45, 46, 47, 48, 49, 50, 51, 52, 53, 54, 55, 56, 57, 58, 59, 60, 61, 62, 63, 64, 65, 66, 67, 68] (by decide +kernel) (by decide +kernel)
set_option maxRecDepth 20000 in
theorem gX12_cross_X12_remember : GoodIn wsX12_cross (wsV RX12 228 RX12 yX12_remember wsX12_remember) := goodIn_app (goodIn_of _ (by decide +kernel)) ggX12_cross_X12_remember
theorem dX12_cross_34 : decode cX12_cross 34 = .ok (.invokevirtual 228, 3) := by decide +kernel
theorem dX12_cross_37 : decode cX12_cross 37 = .ok (.aload_n 0, 1) := by decide +kernel
theorem dX12_cross_38 : decode cX12_cross 38 = .ok (.getfield 22, 3) := by decide +kernel
theorem dX12_cross_41 : decode cX12_cross 41 = .ok (.iload_n 1, 1) := by decide +kernel
theorem dX12_cross_42 : decode cX12_cross 42 = .ok (.iload_n 2, 1) := by decide +kernel
set_option maxRecDepth 20000 in
theorem ggX12_cross_X12_crosses : GoodIn wsX12_cross wsX12_crosses := goodIn_r _ [36, 37, 38, 7, 39, 40, 41, 42] (by decide +kernel) (by decide +kernel)
set_option maxRecDepth 20000 in
theorem gX12_cross_X12_crosses : GoodIn wsX12_cross (va_wsS RX12 231 yX12_crosses wsX12_crosses) := goodIn_app (goodIn_of _ (by decide +kernel)) ggX12_cross_X12_crosses
theorem dX12_cross_43 : decode cX12_cross 43 = .ok (.invokestatic 231, 3) := by decide +kernel
theorem dX12_cross_46 : decode cX12_cross 46 = .ok (.aload_n 0, 1) := by decide +kernel
theorem dX12_cross_47 : decode cX12_cross 47 = .ok (.getfield 22, 3) := by decide +kernel
theorem dX12_cross_50 : decode cX12_cross 50 = .ok (.bipush 121, 2) := by decide +kernel
theorem dX12_cross_52 : decode cX12_cross 52 = .ok (.iaload, 1) := by decide +kernel
theorem dX12_cross_53 : decode cX12_cross 53 = .ok (.ireturn, 1) := by decide +kernel
theorem dX12_cross_30 : decode cX12_cross 30 = .ok (.ldc 227, 2) := by decide +kernel
theorem dX12_cross_32 : decode cX12_cross 32 = .ok (.ireturn, 1) := by decide +kernel
theorem dX12_undo_0 : decode cX12_undo 0 = .ok (.aload_n 0, 1) := by decide +kernel
theorem dX12_undo_1 : decode cX12_undo 1 = .ok (.getfield 190, 3) := by decide +kernel
theorem dX12_undo_4 : decode cX12_undo 4 = .ok (.ifCond .ne 6, 3) := by decide +kernel
theorem dX12_undo_10 : decode cX12_undo 10 = .ok (.aload_n 0, 1) := by decide +kernel
theorem dX12_undo_11 : decode cX12_undo 11 = .ok (.dup, 1) := by decide +kernel
theorem dX12_undo_12 : decode cX12_undo 12 = .ok (.getfield 190, 3) := by decide +kernel
theorem dX12_undo_15 : decode cX12_undo 15 = .ok (.iconst 1, 1) := by decide +kernel
theorem dX12_undo_16 : decode cX12_undo 16 = .ok (.isub, 1) := by decide +kernel
theorem dX12_undo_17 : decode cX12_undo 17 = .ok (.putfield 190, 3) := by decide +kernel
theorem dX12_undo_20 : decode cX12_undo 20 = .ok (.aload_n 0, 1) := by decide +kernel
theorem dX12_undo_21 : decode cX12_undo 21 = .ok (.getfield 25, 3) := by decide +kernel
theorem dX12_undo_24 : decode cX12_undo 24 = .ok (.sipush 138, 3) := by decide +kernel
theorem dX12_undo_27 : decode cX12_undo 27 = .ok (.aload_n 0, 1) := by decide +kernel
theorem dX12_undo_28 : decode cX12_undo 28 = .ok (.getfield 190, 3) := by decide +kernel
theorem dX12_undo_31 : decode cX12_undo 31 = .ok (.imul, 1) := by decide +kernel
theorem dX12_undo_32 : decode cX12_undo 32 = .ok (.aload_n 0, 1) := by decide +kernel
theorem dX12_undo_33 : decode cX12_undo 33 = .ok (.getfield 22, 3) := by decide +kernel
theorem dX12_undo_36 : decode cX12_undo 36 = .ok (.iconst 0, 1) := by decide +kernel
set_option maxRecDepth 20000 in
theorem ggX12_undo_X12_copies : GoodIn wsX12_undo wsX12_copies := goodIn_r _ [8] (by decide +kernel) (by decide +kernel)
set_option maxRecDepth 20000 in
theorem gX12_undo_X12_copies : GoodIn wsX12_undo (va_wsS RX12 193 yX12_copies wsX12_copies) := goodIn_app (goodIn_of _ (by decide +kernel)) ggX12_undo_X12_copies
theorem dX12_undo_37 : decode cX12_undo 37 = .ok (.invokestatic 193, 3) := by decide +kernel
theorem dX12_undo_40 : decode cX12_undo 40 = .ok (.aload_n 0, 1) := by decide +kernel
theorem dX12_undo_41 : decode cX12_undo 41 = .ok (.getfield 190, 3) := by decide +kernel
theorem dX12_undo_44 : decode cX12_undo 44 = .ok (.ireturn, 1) := by decide +kernel
theorem dX12_undo_7 : decode cX12_undo 7 = .ok (.ldc 227, 2) := by decide +kernel
theorem dX12_undo_9 : decode cX12_undo 9 = .ok (.ireturn, 1) := by decide +kernel
theorem dX12_image_0 : decode cX12_image 0 = .ok (.iload_n 1, 1) := by decide +kernel
theorem dX12_image_1 : decode cX12_image 1 = .ok (.i2l, 1) := by decide +kernel
theorem dX12_image_2 : decode cX12_image 2 = .ok (.lconst 0, 1) := by decide +kernel
theorem dX12_image_3 : decode cX12_image 3 = .ok (.lconst 1, 1) := by decide +kernel
set_option maxRecDepth 20000 in
theorem ggX12_image_X12_in : GoodIn wsX12_image wsX12_in := goodIn_r _ [10] (by decide +kernel) (by decide +kernel)
set_option maxRecDepth 20000 in
theorem gX12_image_X12_in : GoodIn wsX12_image (va_wsS RX12 54 yX12_in wsX12_in) := goodIn_app (goodIn_of _ (by decide +kernel)) ggX12_image_X12_in
theorem dX12_image_4 : decode cX12_image 4 = .ok (.invokestatic 54, 3) := by decide +kernel
theorem dX12_image_7 : decode cX12_image 7 = .ok (.ifCond .ne 6, 3) := by decide +kernel
theorem dX12_image_13 : decode cX12_image 13 = .ok (.aload_n 0, 1) := by decide +kernel
theorem dX12_image_14 : decode cX12_image 14 = .ok (.getfield 186, 3) := by decide +kernel
theorem dX12_image_17 : decode cX12_image 17 = .ok (.ifCond .ne 6, 3) := by decide +kernel
theorem dX12_image_23 : decode cX12_image 23 = .ok (.aload_n 0, 1) := by decide +kernel
theorem dX12_image_24 : decode cX12_image 24 = .ok (.getfield 22, 3) := by decide +kernel
theorem dX12_image_27 : decode cX12_image 27 = .ok (.iconst 0, 1) := by decide +kernel
theorem dX12_image_28 : decode cX12_image 28 = .ok (.aload_n 0, 1) := by decide +kernel
theorem dX12_image_29 : decode cX12_image 29 = .ok (.getfield 28, 3) := by decide +kernel
theorem dX12_image_32 : decode cX12_image 32 = .ok (.sipush 138, 3) := by decide +kernel
theorem dX12_image_35 : decode cX12_image 35 = .ok (.iload_n 1, 1) := by decide +kernel
theorem dX12_image_36 : decode cX12_image 36 = .ok (.imul, 1) := by decide +kernel
set_option maxRecDepth 20000 in
theorem ggX12_image_X12_copies : GoodIn wsX12_image wsX12_copies := goodIn_r _ [13] (by decide +kernel) (by decide +kernel)
set_option maxRecDepth 20000 in
theorem gX12_image_X12_copies : GoodIn wsX12_image (va_wsS RX12 193 yX12_copies wsX12_copies) := goodIn_app (goodIn_of _ (by decide +kernel)) ggX12_image_X12_copies
theorem dX12_image_37 : decode cX12_image 37 = .ok (.invokestatic 193, 3) := by decide +kernel
theorem dX12_image_40 : decode cX12_image 40 = .ok (.aload_n 0, 1) := by decide +kernel
theorem dX12_image_41 : decode cX12_image 41 = .ok (.getfield 31, 3) := by decide +kernel
theorem dX12_image_44 : decode cX12_image 44 = .ok (.iload_n 1, 1) := by decide +kernel
theorem dX12_image_45 : decode cX12_image 45 = .ok (.iconst 1, 1) := by decide +kernel
theorem dX12_image_46 : decode cX12_image 46 = .ok (.bastore, 1) := by decide +kernel
theorem dX12_image_47 : decode cX12_image 47 = .ok (.iconst 1, 1) := by decide +kernel
theorem dX12_image_48 : decode cX12_image 48 = .ok (.ireturn, 1) := by decide +kernel
theorem dX12_image_20 : decode cX12_image 20 = .ok (.ldc 227, 2) := by decide +kernel
theorem dX12_image_22 : decode cX12_image 22 = .ok (.ireturn, 1) := by decide +kernel
theorem dX12_image_10 : decode cX12_image 10 = .ok (.ldc 64, 2) := by decide +kernel
theorem dX12_image_12 : decode cX12_image 12 = .ok (.ireturn, 1) := by decide +kernel
theorem dX12_restore_0 : decode cX12_restore 0 = .ok (.iload_n 1, 1) := by decide +kernel
theorem dX12_restore_1 : decode cX12_restore 1 = .ok (.i2l, 1) := by decide +kernel
theorem dX12_restore_2 : decode cX12_restore 2 = .ok (.lconst 0, 1) := by decide +kernel
theorem dX12_restore_3 : decode cX12_restore 3 = .ok (.lconst 1, 1) := by decide +kernel
set_option maxRecDepth 20000 in
theorem ggX12_restore_X12_in : GoodIn wsX12_restore wsX12_in := goodIn_r _ [10] (by decide +kernel) (by decide +kernel)
set_option maxRecDepth 20000 in
theorem gX12_restore_X12_in : GoodIn wsX12_restore (va_wsS RX12 54 yX12_in wsX12_in) := goodIn_app (goodIn_of _ (by decide +kernel)) ggX12_restore_X12_in
theorem dX12_restore_4 : decode cX12_restore 4 = .ok (.invokestatic 54, 3) := by decide +kernel
theorem dX12_restore_7 : decode cX12_restore 7 = .ok (.ifCond .ne 6, 3) := by decide +kernel
theorem dX12_restore_13 : decode cX12_restore 13 = .ok (.aload_n 0, 1) := by decide +kernel
theorem dX12_restore_14 : decode cX12_restore 14 = .ok (.getfield 31, 3) := by decide +kernel
theorem dX12_restore_17 : decode cX12_restore 17 = .ok (.iload_n 1, 1) := by decide +kernel
theorem dX12_restore_18 : decode cX12_restore 18 = .ok (.baload, 1) := by decide +kernel
theorem dX12_restore_19 : decode cX12_restore 19 = .ok (.ifCond .ne 6, 3) := by decide +kernel
theorem dX12_restore_25 : decode cX12_restore 25 = .ok (.aload_n 0, 1) := by decide +kernel
theorem dX12_restore_26 : decode cX12_restore 26 = .ok (.getfield 28, 3) := by decide +kernel
theorem dX12_restore_29 : decode cX12_restore 29 = .ok (.sipush 138, 3) := by decide +kernel
theorem dX12_restore_32 : decode cX12_restore 32 = .ok (.iload_n 1, 1) := by decide +kernel
theorem dX12_restore_33 : decode cX12_restore 33 = .ok (.imul, 1) := by decide +kernel
theorem dX12_restore_34 : decode cX12_restore 34 = .ok (.aload_n 0, 1) := by decide +kernel
theorem dX12_restore_35 : decode cX12_restore 35 = .ok (.getfield 22, 3) := by decide +kernel
theorem dX12_restore_38 : decode cX12_restore 38 = .ok (.iconst 0, 1) := by decide +kernel
set_option maxRecDepth 20000 in
theorem ggX12_restore_X12_copies : GoodIn wsX12_restore wsX12_copies := goodIn_r _ [13] (by decide +kernel) (by decide +kernel)
set_option maxRecDepth 20000 in
theorem gX12_restore_X12_copies : GoodIn wsX12_restore (va_wsS RX12 193 yX12_copies wsX12_copies) := goodIn_app (goodIn_of _ (by decide +kernel)) ggX12_restore_X12_copies
theorem dX12_restore_39 : decode cX12_restore 39 = .ok (.invokestatic 193, 3) := by decide +kernel
theorem dX12_restore_42 : decode cX12_restore 42 = .ok (.aload_n 0, 1) := by decide +kernel
theorem dX12_restore_43 : decode cX12_restore 43 = .ok (.iconst 0, 1) := by decide +kernel
theorem dX12_restore_44 : decode cX12_restore 44 = .ok (.putfield 190, 3) := by decide +kernel
theorem dX12_restore_47 : decode cX12_restore 47 = .ok (.iconst 1, 1) := by decide +kernel
theorem dX12_restore_48 : decode cX12_restore 48 = .ok (.ireturn, 1) := by decide +kernel
theorem dX12_restore_22 : decode cX12_restore 22 = .ok (.ldc 227, 2) := by decide +kernel
theorem dX12_restore_24 : decode cX12_restore 24 = .ok (.ireturn, 1) := by decide +kernel
theorem dX12_restore_10 : decode cX12_restore 10 = .ok (.ldc 64, 2) := by decide +kernel
theorem dX12_restore_12 : decode cX12_restore 12 = .ok (.ireturn, 1) := by decide +kernel
set_option maxRecDepth 100000 in
set_option maxHeartbeats 4000000 in
theorem c_X12_bestOn {E : XE} {B N : Nat} {v : Nat → va_E} {d who : Nat} {F f p t : Nat → Int} {V : Int} {l : Cor} {who_i : Int} (ha_who : who_i = (who : Int)) (hc0 : Cel N v 161 (oM B F V)) (hc1 : Cel N v d (iarr E 138 f)) (hc2 : Cel N v 173 (iarr E 138 t)) (hq0 : PR f p l) (hq1 : POk p) (hq2 : CorOk l) (hq3 : (l.length : Int) ≤ p 2) (hq4 : who < 5) (hq5 : d ≠ 161 ∧ d ≠ 173) : gM yX12_bestOn wsX12_bestOn ({ frames := 3, cells := 0, slots := 0, locals := 74 }) E B N v [.ref (B + 161), .ref (B + d), .int (zI who_i)] (po0 N (fun ρ v' => ∃ (res : Int), ∃ (bl : Int), ∃ (t2 : Nat → Int), (∃ m : Int, bestR (bestF p l who 48) res bl m) ∧ (-1000000 ≤ res ∧ res ≤ 47 ∧ (res = -1000000 ∨ (0 ≤ res ∧ -1000000 ≤ bl ∧ bl ≤ 1000000))) ∧ ρ = some (.int (zI res)) ∧ (va_up (va_up v 161 (oM B (va_up F 25 bl) V)) 173 (iarr E 138 t2)) = v')) := by
  subst ha_who
  refine x_met (nm := "bestOn") (by decide +kernel) rfl (Nat.le_of_ble_eq_true rfl) rfl (fun Γ K KR hnL hnm => ?_)
  show XW Γ N v [(0, .ref (B + 161)), (1, .ref (B + d)), (2, .int (zI (who : Int)))] 0 0 0 []
  have hw := (hq1.2.2.2.2.2.1 who hq4)
  have hkp := hq1.2.2.1
  have hl6 : l.length ≤ 6 := by omega
  refine x_v (cel_pad hc0) ?_
  refine x_v (cel_pad (cel_ne hc2 (by decide))) ?_
  refine x_ldc (pc := 0) (x := (-1000000)) (-1000000) K (by decide) (by decide +kernel) dX12_bestOn_0 ?_
  refine x_istore_n (pc := 2) K (L' := [(3, .int (zI (-1000000))), (0, .ref (B + 161)), (1, .ref (B + d)), (2, .int (zI (who : Int)))]) hnL rfl (by decide) rfl dX12_bestOn_2 ?_
  refine x_iconst (pc := 3) K dX12_bestOn_3 ?_
  refine x_istore (pc := 4) K (L' := [(4, .int (zI 0)), (3, .int (zI (-1000000))), (0, .ref (B + 161)), (1, .ref (B + d)), (2, .int (zI (who : Int)))]) hnL (by decide) rfl dX12_bestOn_4 ?_
  refine x_aload_n (pc := 6) 3 K rfl rfl dX12_bestOn_6 ?_
  refine x_bipush (pc := 7) K (by decide) dX12_bestOn_7 ?_
  refine x_iload_n (pc := 9) 4 K rfl rfl dX12_bestOn_9 ?_
  refine x_iadd (pc := 10) K dX12_bestOn_10 ?_
  refine x_iald (pc := 11) (10 + who) K (cel_ne (cel_ne hc1 (by omega)) (by omega)) (by omega) (by omega) (by decide) dX12_bestOn_11 ?_
  have e11 := hq0.1 (10 + who) (by omega)
  refine x_nm (fun z1 hz1 => ?_)
  refine x_istore (pc := 12) K (L' := [(5, .int (zI z1)), (4, .int (zI 0)), (3, .int (zI (-1000000))), (0, .ref (B + 161)), (1, .ref (B + d)), (2, .int (zI (who : Int)))]) hnL (by decide) rfl dX12_bestOn_12 ?_
  refine x_iconst (pc := 14) K dX12_bestOn_14 ?_
  refine x_istore (pc := 15) K (L' := [(6, .int (zI 0)), (5, .int (zI z1)), (4, .int (zI 0)), (3, .int (zI (-1000000))), (0, .ref (B + 161)), (1, .ref (B + d)), (2, .int (zI (who : Int)))]) hnL (by decide) rfl dX12_bestOn_15 ?_
  have LOOP17 : ∀ (n_17 : Nat) (b : Int) (m : Int) (k : Nat) (ld : Int) (x : Nat → Int), (k ≤ 48) → (bestR (bestF p l who k) b ld m) → (-1000000 ≤ b ∧ b ≤ 47 ∧ (b = -1000000 ∨ (0 ≤ b ∧ -1000000 ≤ ld ∧ ld ≤ 1000000)) ∧ 0 ≤ m ∧ m ≤ 1000000) → (48 - k) < n_17 → XW Γ N (va_up (va_up v 161 (oM B (va_up F 25 ld) V)) 173 (iarr E 138 x)) [(0, .ref (B + 161)), (1, .ref (B + d)), (2, .int (zI (who : Int))), (3, .int (zI b)), (4, .int (zI m)), (5, .int (zI z1)), (6, .int (zI (k : Int)))] 0 0 17 [] := by
    intro n_17
    induction n_17 with
    | zero =>
      intro b m k ld x hi17_0 hi17_1 hi17_2 hm_17
      exfalso; omega
    | succ n_17 ih17 =>
      intro b m k ld x hi17_0 hi17_1 hi17_2 hm_17
      refine x_iload (pc := 17) 6 K rfl dX12_bestOn_17 ?_
      refine x_bipush (pc := 19) K (by decide) dX12_bestOn_19 ?_
      refine x_icmp_ge (pc := 21) (tgt := 130) K (by omega) (by decide) dX12_bestOn_21 (by decide) (fun h_21 => ?_) (fun h_21 => ?_)
      · skip
        refine x_iload_n (pc := 130) 3 K rfl rfl dX12_bestOn_130 ?_
        refine x_iret (pc := 131) K KR (by omega) (Nat.le_of_ble_eq_true rfl) (Nat.le_of_ble_eq_true rfl) dX12_bestOn_131 ?_
        have hk : k = 48 := by omega
        rw [hk] at hi17_1
        exact ⟨rfl, b, ld, x, ⟨m, hi17_1⟩, (by omega), rfl, rfl⟩
      · skip
        refine x_aload_n (pc := 24) 1 K rfl rfl dX12_bestOn_24 ?_
        refine x_iload_n (pc := 25) 2 K rfl rfl dX12_bestOn_25 ?_
        refine x_iload (pc := 26) 6 K rfl dX12_bestOn_26 ?_
        refine x_callS (pc := 28) (As := [.ref (B + d), .int (zI (who : Int)), .int (zI (k : Int))]) K (c_X12_mayCross (E := E) (B := B) (N := N) (who := who) (cell := k) rfl rfl (cel_ne (cel_ne hc1 (by omega)) (by omega)) hq0 hq1 hq2 (by omega) (by omega) (by omega)) gX12_bestOn_X12_mayCross rfl (na := 3) (by decide +kernel) rfl ⟨(Nat.le_of_ble_eq_true rfl), (Nat.le_of_ble_eq_true rfl)⟩ (st := []) rfl (Nat.le_of_ble_eq_true rfl) ⟨(Nat.le_of_ble_eq_true rfl), (Nat.le_of_ble_eq_true rfl)⟩ dX12_bestOn_28 (fun r28 N28 w28 hpo28 hN28 => ?_)
        obtain ⟨rfl, rfl, rfl⟩ := hpo28
        refine x_st (st' := [.int (zI (mayI p l who k))]) rfl ?_
        have hrg28 := mayI_rng p l who k
        refine x_if_ne (pc := 31) (tgt := 37) K (by omega) dX12_bestOn_31 (by decide) (fun h_31 => ?_) (fun h_31 => ?_)
        · skip
          have h_31 := mayI_t h_31
          have hmay := mayI_1 h_31
          have hok := crossA_ok (kind := p (5 + who)) (keeps := p 2) hq2 (show k ≤ 47 by omega)
          have hcl := crossA_len (kind := p (5 + who)) (cell := k) hq3 hkp
          have hpr := cpI_PR (g := x) (PR_0 hq0) (by omega)
          refine x_aload_n (pc := 37) 1 K rfl rfl dX12_bestOn_37 ?_
          refine x_iconst (pc := 38) K dX12_bestOn_38 ?_
          refine x_aload_n (pc := 39) 0 K rfl rfl dX12_bestOn_39 ?_
          refine x_get (pc := 40) (C := RX12) (T := TX12) (n := 26) (ci := 11) (idx := 44) (ref := "BorderBedsModel") (x := .ref (B + 173))  K (cel_ne (cel_self hc0.1) (by decide)) rfl (by decide +kernel) 24 (by decide) (by decide +kernel) rfl rfl dX12_bestOn_40 ?_
          refine x_iconst (pc := 43) K dX12_bestOn_43 ?_
          refine x_callS (pc := 44) (As := [.ref (B + d), .int (zI 0), .ref (B + 173), .int (zI 0)]) K (c_X12_copies (E := E) (B := B) (N := N) (i := 0) (j := 0) rfl rfl (cel_ne (cel_ne hc1 (by omega)) (by omega)) (cel_self hc2.1) (by omega) (by omega) (by omega)) gX12_bestOn_X12_copies rfl (na := 4) (by decide +kernel) rfl ⟨(Nat.le_of_ble_eq_true rfl), (Nat.le_of_ble_eq_true rfl)⟩ (st := []) rfl (Nat.le_of_ble_eq_true rfl) ⟨(Nat.le_of_ble_eq_true rfl), (Nat.le_of_ble_eq_true rfl)⟩ dX12_bestOn_44 (fun r44 N44 w44 hpo44 hN44 => ?_)
          obtain ⟨rfl, rfl, rfl⟩ := hpo44
          refine x_v (w := (va_up (va_up v 161 (oM B (va_up F 25 ld) V)) 173 (iarr E 138 (cpI f x 0 0 138)))) (up_at0).symm ?_
          refine x_st (st' := []) rfl ?_
          refine x_aload_n (pc := 47) 0 K rfl rfl dX12_bestOn_47 ?_
          refine x_get (pc := 48) (C := RX12) (T := TX12) (n := 26) (ci := 11) (idx := 44) (ref := "BorderBedsModel") (x := .ref (B + 173))  K (cel_ne (cel_self hc0.1) (by decide)) rfl (by decide +kernel) 24 (by decide) (by decide +kernel) rfl rfl dX12_bestOn_48 ?_
          refine x_iload_n (pc := 51) 2 K rfl rfl dX12_bestOn_51 ?_
          refine x_iload (pc := 52) 6 K rfl dX12_bestOn_52 ?_
          refine x_callS (pc := 54) (As := [.ref (B + 173), .int (zI (who : Int)), .int (zI (k : Int))]) K (c_X12_crosses (E := E) (B := B) (N := N) (who := who) (cell := k) rfl rfl (cel_self hc2.1) hpr hq1 hq2 (by omega) (by omega) (by omega)) gX12_bestOn_X12_crosses rfl (na := 3) (by decide +kernel) rfl ⟨(Nat.le_of_ble_eq_true rfl), (Nat.le_of_ble_eq_true rfl)⟩ (st := []) rfl (Nat.le_of_ble_eq_true rfl) ⟨(Nat.le_of_ble_eq_true rfl), (Nat.le_of_ble_eq_true rfl)⟩ dX12_bestOn_54 (fun r54 N54 w54 hpo54 hN54 => ?_)
          obtain ⟨rfl, g_54, hp54_0, rfl, rfl⟩ := hpo54
          refine x_v (w := (va_up (va_up v 161 (oM B (va_up F 25 ld) V)) 173 (iarr E 138 g_54))) (up_at0).symm ?_
          refine x_st (st' := []) rfl ?_
          refine x_aload_n (pc := 57) 0 K rfl rfl dX12_bestOn_57 ?_
          refine x_get (pc := 58) (C := RX12) (T := TX12) (n := 26) (ci := 11) (idx := 44) (ref := "BorderBedsModel") (x := .ref (B + 173))  K (cel_ne (cel_self hc0.1) (by decide)) rfl (by decide +kernel) 24 (by decide) (by decide +kernel) rfl rfl dX12_bestOn_58 ?_
          refine x_iload (pc := 61) 5 K rfl dX12_bestOn_61 ?_
          refine x_callS (pc := 63) (As := [.ref (B + 173), .int (zI z1)]) K (c_X12_lead (E := E) (B := B) (N := N) (p := p) (l := (crossA (p (5 + who)) (p 2) k l))  (cel_self hc2.1) hp54_0 hq1 hok (by omega) (by omega)) gX12_bestOn_X12_lead rfl (na := 2) (by decide +kernel) rfl ⟨(Nat.le_of_ble_eq_true rfl), (Nat.le_of_ble_eq_true rfl)⟩ (st := []) rfl (Nat.le_of_ble_eq_true rfl) ⟨(Nat.le_of_ble_eq_true rfl), (Nat.le_of_ble_eq_true rfl)⟩ dX12_bestOn_63 (fun r63 N63 w63 hpo63 hN63 => ?_)
          obtain ⟨rfl, rfl, rfl⟩ := hpo63
          refine x_st (st' := [.int (zI (leadA p (crossA (p (5 + who)) (p 2) k l) z1))]) rfl ?_
          have hr63 := leadA_rng (l := (crossA (p (5 + who)) (p 2) k l)) (land := p (10 + who)) hq1
          refine x_nm (fun z2 hz2 => ?_)
          refine x_istore (pc := 66) K (L' := [(7, .int (zI z2)), (0, .ref (B + 161)), (1, .ref (B + d)), (2, .int (zI (who : Int))), (3, .int (zI b)), (4, .int (zI m)), (5, .int (zI z1)), (6, .int (zI (k : Int)))]) hnL (by decide) rfl dX12_bestOn_66 ?_
          rw [hz1, e11] at hz2
          refine x_aload_n (pc := 68) 1 K rfl rfl dX12_bestOn_68 ?_
          refine x_get (pc := 69) (C := RX12) (T := TX12) (n := 26) (ci := 11) (idx := 44) (ref := "BorderBedsModel") (x := .ref (B + 173))  K (cel_ne (cel_self hc0.1) (by decide)) rfl (by decide +kernel) 24 (by decide) (by decide +kernel) rfl rfl dX12_bestOn_69 ?_
          refine x_iload (pc := 72) 6 K rfl dX12_bestOn_72 ?_
          refine x_iconst (pc := 74) K dX12_bestOn_74 ?_
          refine x_callS (pc := 75) (As := [.ref (B + 173), .int (zI z1), .int (zI 0)]) K (c_X12_sum (E := E) (B := B) (N := N) (p := p) (l := (crossA (p (5 + who)) (p 2) k l))  (cel_self hc2.1) hp54_0 hq1 hok (by omega) (by omega) (by omega)) gX12_bestOn_X12_sum rfl (na := 3) (by decide +kernel) rfl ⟨(Nat.le_of_ble_eq_true rfl), (Nat.le_of_ble_eq_true rfl)⟩ (st := []) rfl (Nat.le_of_ble_eq_true rfl) ⟨(Nat.le_of_ble_eq_true rfl), (Nat.le_of_ble_eq_true rfl)⟩ dX12_bestOn_75 (fun r75 N75 w75 hpo75 hN75 => ?_)
          obtain ⟨rfl, rfl, rfl⟩ := hpo75
          refine x_st (st' := [.int (zI (sumA p (crossA (p (5 + who)) (p 2) k l) z1 0 48))]) rfl ?_
          have hr75 := sumA_rng (l := (crossA (p (5 + who)) (p 2) k l)) (land := p (10 + who)) (what := 0) hq1 (Nat.le_refl 48)
          refine x_nm (fun z3 hz3 => ?_)
          refine x_istore (pc := 78) K (L' := [(8, .int (zI z3)), (7, .int (zI z2)), (0, .ref (B + 161)), (1, .ref (B + d)), (2, .int (zI (who : Int))), (3, .int (zI b)), (4, .int (zI m)), (5, .int (zI z1)), (6, .int (zI (k : Int)))]) hnL (by decide) rfl dX12_bestOn_78 ?_
          rw [hz1, e11] at hz3
          refine x_iload_n (pc := 80) 5 K rfl rfl dX12_bestOn_80 ?_
          refine x_ldc (pc := 81) (x := (-1000000)) (-1000000) K (by decide) (by decide +kernel) dX12_bestOn_81 ?_
          refine x_icmp_eq (pc := 83) (tgt := 111) K (by omega) (by decide) dX12_bestOn_83 (by decide) (fun h_83 => ?_) (fun h_83 => ?_)
          · skip
            refine x_iload (pc := 111) 8 K rfl dX12_bestOn_111 ?_
            refine x_istore_n (pc := 113) K (L' := [(3, .int (zI (k : Int))), (8, .int (zI z3)), (7, .int (zI z2)), (0, .ref (B + 161)), (1, .ref (B + d)), (2, .int (zI (who : Int))), (4, .int (zI m)), (5, .int (zI z1)), (6, .int (zI (k : Int)))]) hnL rfl (by decide) rfl dX12_bestOn_113 ?_
            refine x_aload_n (pc := 114) 3 K rfl rfl dX12_bestOn_114 ?_
            refine x_iload (pc := 115) 2 K rfl dX12_bestOn_115 ?_
            refine x_put (pc := 117) (C := RX12) (T := TX12) (n := 26) (ci := 11) (idx := 240) (ref := "BorderBedsModel") (ty := .int)  K (cel_ne (cel_self hc0.1) (by decide)) rfl (by decide +kernel) tyX12 tyX12_ok nmX12 25 (by decide) (by decide +kernel) rfl rfl (by decide +kernel) rfl rfl (Nat.le_of_ble_eq_true rfl) dX12_bestOn_117 ?_
            refine x_v (w := (va_up (va_up v 161 (oM B (va_up F 25 z2) V)) 173 (iarr E 138 g_54))) (up_at1 (by decide)).symm ?_
            refine x_iload (pc := 120) 1 K rfl dX12_bestOn_120 ?_
            refine x_istore (pc := 122) K (L' := [(4, .int (zI z3)), (3, .int (zI (k : Int))), (8, .int (zI z3)), (7, .int (zI z2)), (0, .ref (B + 161)), (1, .ref (B + d)), (2, .int (zI (who : Int))), (5, .int (zI z1)), (6, .int (zI (k : Int)))]) hnL (by decide) rfl dX12_bestOn_122 ?_
            refine x_iinc (pc := 124) (L' := [(6, .int (zI ((k : Int) + 1))), (4, .int (zI z3)), (3, .int (zI (k : Int))), (8, .int (zI z3)), (7, .int (zI z2)), (0, .ref (B + 161)), (1, .ref (B + d)), (2, .int (zI (who : Int))), (5, .int (zI z1))]) 8 K hnL rfl (by decide) rfl dX12_bestOn_124 ?_
            refine x_goto (pc := 127) (tgt := 17) K dX12_bestOn_127 (by decide) ?_
            refine x_sub (L' := [(0, .ref (B + 161)), (1, .ref (B + d)), (2, .int (zI (who : Int))), (3, .int (zI (k : Int))), (4, .int (zI z3)), (5, .int (zI z1)), (6, .int (zI ((k : Int) + 1)))]) [5, 6, 7, 2, 1, 8, 0] rfl ?_
            exact ih17 (k : Int) z3 (k + 1) z2 g_54 (by omega) (by first | (rw [hz2, hz3]; exact bestR_new hi17_1 hmay (by rw [← hz2, ← hz3]; omega)) | exact bestR_old hi17_1 (by rw [← hz2, ← hz3]; omega)) (by omega) (by omega)
          · skip
            refine x_iload (pc := 86) 1 K rfl dX12_bestOn_86 ?_
            refine x_aload_n (pc := 88) 2 K rfl rfl dX12_bestOn_88 ?_
            refine x_get (pc := 89) (C := RX12) (T := TX12) (n := 26) (ci := 11) (idx := 240) (ref := "BorderBedsModel") (x := .int (zI ld))  K (cel_ne (cel_self hc0.1) (by decide)) rfl (by decide +kernel) 25 (by decide) (by decide +kernel) rfl rfl dX12_bestOn_89 ?_
            refine x_icmp_gt (pc := 92) (tgt := 111) K (by omega) (by omega) dX12_bestOn_92 (by decide) (fun h_92 => ?_) (fun h_92 => ?_)
            · skip
              refine x_iload (pc := 111) 8 K rfl dX12_bestOn_111 ?_
              refine x_istore_n (pc := 113) K (L' := [(3, .int (zI (k : Int))), (8, .int (zI z3)), (7, .int (zI z2)), (0, .ref (B + 161)), (1, .ref (B + d)), (2, .int (zI (who : Int))), (4, .int (zI m)), (5, .int (zI z1)), (6, .int (zI (k : Int)))]) hnL rfl (by decide) rfl dX12_bestOn_113 ?_
              refine x_aload_n (pc := 114) 3 K rfl rfl dX12_bestOn_114 ?_
              refine x_iload (pc := 115) 2 K rfl dX12_bestOn_115 ?_
              refine x_put (pc := 117) (C := RX12) (T := TX12) (n := 26) (ci := 11) (idx := 240) (ref := "BorderBedsModel") (ty := .int)  K (cel_ne (cel_self hc0.1) (by decide)) rfl (by decide +kernel) tyX12 tyX12_ok nmX12 25 (by decide) (by decide +kernel) rfl rfl (by decide +kernel) rfl rfl (Nat.le_of_ble_eq_true rfl) dX12_bestOn_117 ?_
              refine x_v (w := (va_up (va_up v 161 (oM B (va_up F 25 z2) V)) 173 (iarr E 138 g_54))) (up_at1 (by decide)).symm ?_
              refine x_iload (pc := 120) 1 K rfl dX12_bestOn_120 ?_
              refine x_istore (pc := 122) K (L' := [(4, .int (zI z3)), (3, .int (zI (k : Int))), (8, .int (zI z3)), (7, .int (zI z2)), (0, .ref (B + 161)), (1, .ref (B + d)), (2, .int (zI (who : Int))), (5, .int (zI z1)), (6, .int (zI (k : Int)))]) hnL (by decide) rfl dX12_bestOn_122 ?_
              refine x_iinc (pc := 124) (L' := [(6, .int (zI ((k : Int) + 1))), (4, .int (zI z3)), (3, .int (zI (k : Int))), (8, .int (zI z3)), (7, .int (zI z2)), (0, .ref (B + 161)), (1, .ref (B + d)), (2, .int (zI (who : Int))), (5, .int (zI z1))]) 8 K hnL rfl (by decide) rfl dX12_bestOn_124 ?_
              refine x_goto (pc := 127) (tgt := 17) K dX12_bestOn_127 (by decide) ?_
              refine x_sub (L' := [(0, .ref (B + 161)), (1, .ref (B + d)), (2, .int (zI (who : Int))), (3, .int (zI (k : Int))), (4, .int (zI z3)), (5, .int (zI z1)), (6, .int (zI ((k : Int) + 1)))]) [5, 6, 7, 2, 1, 8, 0] rfl ?_
              exact ih17 (k : Int) z3 (k + 1) z2 g_54 (by omega) (by first | (rw [hz2, hz3]; exact bestR_new hi17_1 hmay (by rw [← hz2, ← hz3]; omega)) | exact bestR_old hi17_1 (by rw [← hz2, ← hz3]; omega)) (by omega) (by omega)
            · skip
              refine x_iload (pc := 95) 1 K rfl dX12_bestOn_95 ?_
              refine x_aload_n (pc := 97) 2 K rfl rfl dX12_bestOn_97 ?_
              refine x_get (pc := 98) (C := RX12) (T := TX12) (n := 26) (ci := 11) (idx := 240) (ref := "BorderBedsModel") (x := .int (zI ld))  K (cel_ne (cel_self hc0.1) (by decide)) rfl (by decide +kernel) 25 (by decide) (by decide +kernel) rfl rfl dX12_bestOn_98 ?_
              refine x_icmp_ne (pc := 101) (tgt := 124) K (by omega) (by omega) dX12_bestOn_101 (by decide) (fun h_101 => ?_) (fun h_101 => ?_)
              · skip
                refine x_iinc (pc := 124) (L' := [(6, .int (zI ((k : Int) + 1))), (8, .int (zI z3)), (7, .int (zI z2)), (0, .ref (B + 161)), (1, .ref (B + d)), (2, .int (zI (who : Int))), (3, .int (zI b)), (4, .int (zI m)), (5, .int (zI z1))]) 8 K hnL rfl (by decide) rfl dX12_bestOn_124 ?_
                refine x_goto (pc := 127) (tgt := 17) K dX12_bestOn_127 (by decide) ?_
                refine x_sub (L' := [(0, .ref (B + 161)), (1, .ref (B + d)), (2, .int (zI (who : Int))), (3, .int (zI b)), (4, .int (zI m)), (5, .int (zI z1)), (6, .int (zI ((k : Int) + 1)))]) [3, 4, 5, 6, 7, 8, 0] rfl ?_
                exact ih17 b m (k + 1) ld g_54 (by omega) (by first | (rw [hz2, hz3]; exact bestR_new hi17_1 hmay (by rw [← hz2, ← hz3]; omega)) | exact bestR_old hi17_1 (by rw [← hz2, ← hz3]; omega)) (by omega) (by omega)
              · skip
                refine x_iload (pc := 104) 0 K rfl dX12_bestOn_104 ?_
                refine x_iload (pc := 106) 6 K rfl dX12_bestOn_106 ?_
                refine x_icmp_le (pc := 108) (tgt := 124) K (by omega) (by omega) dX12_bestOn_108 (by decide) (fun h_108 => ?_) (fun h_108 => ?_)
                · skip
                  refine x_iinc (pc := 124) (L' := [(6, .int (zI ((k : Int) + 1))), (8, .int (zI z3)), (7, .int (zI z2)), (0, .ref (B + 161)), (1, .ref (B + d)), (2, .int (zI (who : Int))), (3, .int (zI b)), (4, .int (zI m)), (5, .int (zI z1))]) 8 K hnL rfl (by decide) rfl dX12_bestOn_124 ?_
                  refine x_goto (pc := 127) (tgt := 17) K dX12_bestOn_127 (by decide) ?_
                  refine x_sub (L' := [(0, .ref (B + 161)), (1, .ref (B + d)), (2, .int (zI (who : Int))), (3, .int (zI b)), (4, .int (zI m)), (5, .int (zI z1)), (6, .int (zI ((k : Int) + 1)))]) [3, 4, 5, 6, 7, 8, 0] rfl ?_
                  exact ih17 b m (k + 1) ld g_54 (by omega) (by first | (rw [hz2, hz3]; exact bestR_new hi17_1 hmay (by rw [← hz2, ← hz3]; omega)) | exact bestR_old hi17_1 (by rw [← hz2, ← hz3]; omega)) (by omega) (by omega)
                · skip
                  refine x_iload (pc := 111) 8 K rfl dX12_bestOn_111 ?_
                  refine x_istore_n (pc := 113) K (L' := [(3, .int (zI (k : Int))), (8, .int (zI z3)), (7, .int (zI z2)), (0, .ref (B + 161)), (1, .ref (B + d)), (2, .int (zI (who : Int))), (4, .int (zI m)), (5, .int (zI z1)), (6, .int (zI (k : Int)))]) hnL rfl (by decide) rfl dX12_bestOn_113 ?_
                  refine x_aload_n (pc := 114) 3 K rfl rfl dX12_bestOn_114 ?_
                  refine x_iload (pc := 115) 2 K rfl dX12_bestOn_115 ?_
                  refine x_put (pc := 117) (C := RX12) (T := TX12) (n := 26) (ci := 11) (idx := 240) (ref := "BorderBedsModel") (ty := .int)  K (cel_ne (cel_self hc0.1) (by decide)) rfl (by decide +kernel) tyX12 tyX12_ok nmX12 25 (by decide) (by decide +kernel) rfl rfl (by decide +kernel) rfl rfl (Nat.le_of_ble_eq_true rfl) dX12_bestOn_117 ?_
                  refine x_v (w := (va_up (va_up v 161 (oM B (va_up F 25 z2) V)) 173 (iarr E 138 g_54))) (up_at1 (by decide)).symm ?_
                  refine x_iload (pc := 120) 1 K rfl dX12_bestOn_120 ?_
                  refine x_istore (pc := 122) K (L' := [(4, .int (zI z3)), (3, .int (zI (k : Int))), (8, .int (zI z3)), (7, .int (zI z2)), (0, .ref (B + 161)), (1, .ref (B + d)), (2, .int (zI (who : Int))), (5, .int (zI z1)), (6, .int (zI (k : Int)))]) hnL (by decide) rfl dX12_bestOn_122 ?_
                  refine x_iinc (pc := 124) (L' := [(6, .int (zI ((k : Int) + 1))), (4, .int (zI z3)), (3, .int (zI (k : Int))), (8, .int (zI z3)), (7, .int (zI z2)), (0, .ref (B + 161)), (1, .ref (B + d)), (2, .int (zI (who : Int))), (5, .int (zI z1))]) 8 K hnL rfl (by decide) rfl dX12_bestOn_124 ?_
                  refine x_goto (pc := 127) (tgt := 17) K dX12_bestOn_127 (by decide) ?_
                  refine x_sub (L' := [(0, .ref (B + 161)), (1, .ref (B + d)), (2, .int (zI (who : Int))), (3, .int (zI (k : Int))), (4, .int (zI z3)), (5, .int (zI z1)), (6, .int (zI ((k : Int) + 1)))]) [5, 6, 7, 2, 1, 8, 0] rfl ?_
                  exact ih17 (k : Int) z3 (k + 1) z2 g_54 (by omega) (by first | (rw [hz2, hz3]; exact bestR_new hi17_1 hmay (by rw [← hz2, ← hz3]; omega)) | exact bestR_old hi17_1 (by rw [← hz2, ← hz3]; omega)) (by omega) (by omega)
        · skip
          have h_31 := mayI_f h_31
          have hmay := mayI_0 h_31
          refine x_goto (pc := 34) (tgt := 124) K dX12_bestOn_34 (by decide) ?_
          refine x_iinc (pc := 124) (L' := [(6, .int (zI ((k : Int) + 1))), (0, .ref (B + 161)), (1, .ref (B + d)), (2, .int (zI (who : Int))), (3, .int (zI b)), (4, .int (zI m)), (5, .int (zI z1))]) 6 K hnL rfl (by decide) rfl dX12_bestOn_124 ?_
          refine x_goto (pc := 127) (tgt := 17) K dX12_bestOn_127 (by decide) ?_
          refine x_sub (L' := [(0, .ref (B + 161)), (1, .ref (B + d)), (2, .int (zI (who : Int))), (3, .int (zI b)), (4, .int (zI m)), (5, .int (zI z1)), (6, .int (zI ((k : Int) + 1)))]) [1, 2, 3, 4, 5, 6, 0] rfl ?_
          exact ih17 b m (k + 1) ld x (by omega) (by exact bestR_no hi17_1 hmay) (by omega) (by omega)
  refine x_sub (L' := [(0, .ref (B + 161)), (1, .ref (B + d)), (2, .int (zI (who : Int))), (3, .int (zI (-1000000))), (4, .int (zI 0)), (5, .int (zI z1)), (6, .int (zI 0))]) [4, 5, 6, 3, 2, 1, 0] rfl ?_
  exact LOOP17 (_) (-1000000) 0 0 (F 25) t (by omega) (by exact Or.inl ⟨rfl, rfl⟩) (by omega) (Nat.lt_succ_self _)

set_option maxRecDepth 100000 in
set_option maxHeartbeats 4000000 in
theorem c_X12_best {E : XE} {B N : Nat} {v : Nat → va_E} {F a p t : Nat → Int} {V x what : Int} {l : Cor} (hc0 : Cel N v 161 (oM B F V)) (hc1 : Cel N v 166 (iarr E 138 a)) (hc2 : Cel N v 173 (iarr E 138 t)) (hq0 : PR a p l) (hq1 : POk p) (hq2 : CorOk l) (hq3 : (l.length : Int) ≤ p 2) (hq4 : (-2147483648 ≤ x ∧ x ≤ 2147483647)) (hq5 : (-2147483648 ≤ what ∧ what ≤ 2147483647)) : gM yX12_best wsX12_best ({ frames := 4, cells := 0, slots := 0, locals := 102 }) E B N v [.ref (B + 161), .int (zI x), .int (zI what)] (po0 N (fun ρ v' => ∃ (res : Int), ∃ (bl : Int), ∃ (t2 : Nat → Int), ((¬ ((0 ≤ x ∧ x ≤ p 4 - 1) ∧ 0 ≤ what ∧ what ≤ 1) ∧ res = -1000001) ∨ (((0 ≤ x ∧ x ≤ p 4 - 1) ∧ 0 ≤ what ∧ what ≤ 1) ∧ res = bestW (bestF p l x.toNat 48) what)) ∧ ρ = some (.int (zI res)) ∧ (va_up (va_up v 161 (oM B (va_up F 25 bl) V)) 173 (iarr E 138 t2)) = v')) := by
  refine x_met (nm := "best") (by decide +kernel) rfl (Nat.le_of_ble_eq_true rfl) rfl (fun Γ K KR hnL hnm => ?_)
  show XW Γ N v [(0, .ref (B + 161)), (1, .int (zI x)), (2, .int (zI what))] 0 0 0 []
  have h4 := hq0.1 4 (by omega)
  have hp4 := hq1.2.2.2.2.1
  refine x_v (cel_pad hc0) ?_
  refine x_v (cel_pad (cel_ne hc2 (by decide))) ?_
  refine x_aload_n (pc := 0) 0 K rfl rfl dX12_best_0 ?_
  refine x_iload_n (pc := 1) 1 K rfl rfl dX12_best_1 ?_
  refine x_callV (pc := 2) (C := RX12) (T := TX12) (n := 26) (ci := 11) (As := [.int (zI x)]) K (c_X12_isPerson (E := E) (B := B) (N := N)   (cel_ne (cel_self hc0.1) (by decide)) (cel_ne (cel_ne hc1 (by decide)) (by decide)) (by omega) (by omega)) gX12_best_X12_isPerson rfl (na := 1) (by decide +kernel) rfl ⟨(Nat.le_of_ble_eq_true rfl), (Nat.le_of_ble_eq_true rfl)⟩ (cel_ne (cel_self hc0.1) (by decide)) rfl (st := []) rfl (Nat.le_of_ble_eq_true rfl) ⟨(Nat.le_of_ble_eq_true rfl), (Nat.le_of_ble_eq_true rfl)⟩ dX12_best_2 (fun r2 N2 w2 hpo2 hN2 => ?_)
  obtain ⟨rfl, rfl, rfl⟩ := hpo2
  refine x_st (st' := [.int (zI (bI (0 ≤ x ∧ x ≤ a 4 - 1)))]) rfl ?_
  have hrg2 := bI_rng (0 ≤ x ∧ x ≤ a 4 - 1)
  refine x_if_eq (pc := 5) (tgt := 18) K (by omega) dX12_best_5 (by decide) (fun h_5 => ?_) (fun h_5 => ?_)
  · skip
    have h_5 := bI_t h_5
    refine x_ldc (pc := 18) (x := (-1000001)) (-1000001) K (by decide) (by decide +kernel) dX12_best_18 ?_
    refine x_iret (pc := 20) K KR (by omega) (Nat.le_of_ble_eq_true rfl) (Nat.le_of_ble_eq_true rfl) dX12_best_20 ?_
    exact ⟨rfl, (-1000001), (F 25), t, (by first | exact Or.inl ⟨by omega, rfl⟩ | exact Or.inr ⟨by omega, bestW_of hb9 (by omega)⟩), rfl, rfl⟩
  · skip
    have h_5 := bI_f h_5
    refine x_iload_n (pc := 8) 2 K rfl rfl dX12_best_8 ?_
    refine x_i2l (pc := 9) K (by omega) dX12_best_9 ?_
    refine x_lconst (pc := 10) (0) K (by decide) dX12_best_10 ?_
    refine x_lconst (pc := 11) (1) K (by decide) dX12_best_11 ?_
    refine x_callS (pc := 12) (As := [.long (zL what), .long (zL 0), .long (zL 1)]) K (c_X12_in (E := E) (B := B) (N := N)    (by omega) (by omega) (by omega)) gX12_best_X12_in rfl (na := 3) (by decide +kernel) rfl ⟨(Nat.le_of_ble_eq_true rfl), (Nat.le_of_ble_eq_true rfl)⟩ (st := []) rfl (Nat.le_of_ble_eq_true rfl) ⟨(Nat.le_of_ble_eq_true rfl), (Nat.le_of_ble_eq_true rfl)⟩ dX12_best_12 (fun r12 N12 w12 hpo12 hN12 => ?_)
    obtain ⟨rfl, rfl, rfl⟩ := hpo12
    refine x_st (st' := [.int (zI (bI (0 ≤ what ∧ what ≤ 1)))]) rfl ?_
    have hrg12 := bI_rng (0 ≤ what ∧ what ≤ 1)
    refine x_if_ne (pc := 15) (tgt := 21) K (by omega) dX12_best_15 (by decide) (fun h_15 => ?_) (fun h_15 => ?_)
    · skip
      have h_15 := bI_f h_15
      obtain ⟨xx, rfl⟩ : ∃ xx : Nat, x = (xx : Int) := ⟨x.toNat, by omega⟩
      refine x_aload_n (pc := 21) 0 K rfl rfl dX12_best_21 ?_
      refine x_aload_n (pc := 22) 0 K rfl rfl dX12_best_22 ?_
      refine x_get (pc := 23) (C := RX12) (T := TX12) (n := 26) (ci := 11) (idx := 22) (ref := "BorderBedsModel") (x := .ref (B + 166))  K (cel_ne (cel_self hc0.1) (by decide)) rfl (by decide +kernel) 8 (by decide) (by decide +kernel) rfl rfl dX12_best_23 ?_
      refine x_iload_n (pc := 26) 1 K rfl rfl dX12_best_26 ?_
      refine x_callV (pc := 27) (C := RX12) (T := TX12) (n := 26) (ci := 11) (As := [.ref (B + 166), .int (zI (xx : Int))]) K (c_X12_bestOn (E := E) (B := B) (N := N) (who := xx) rfl (cel_ne (cel_self hc0.1) (by decide)) (cel_ne (cel_ne hc1 (by decide)) (by decide)) (cel_self hc2.1) hq0 hq1 hq2 hq3 (by omega) (by omega)) gX12_best_X12_bestOn rfl (na := 2) (by decide +kernel) rfl ⟨(Nat.le_of_ble_eq_true rfl), (Nat.le_of_ble_eq_true rfl)⟩ (cel_ne (cel_self hc0.1) (by decide)) rfl (st := []) rfl (Nat.le_of_ble_eq_true rfl) ⟨(Nat.le_of_ble_eq_true rfl), (Nat.le_of_ble_eq_true rfl)⟩ dX12_best_27 (fun r27 N27 w27 hpo27 hN27 => ?_)
      obtain ⟨rfl, res_27, bl_27, t2_27, hp27_0, hp27_1, rfl, rfl⟩ := hpo27
      refine x_v (congrArg (fun w => (va_up w 173 (iarr E 138 t2_27))) (show (va_up (va_up v 161 (oM B (va_up F 25 bl_27) V)) 173 (iarr E 138 t)) = _ from (up_at1 (by decide)).symm)) ?_
      refine x_v (w := (va_up (va_up v 161 (oM B (va_up F 25 bl_27) V)) 173 (iarr E 138 t2_27))) (up_at0).symm ?_
      refine x_st (st' := [.int (zI res_27)]) rfl ?_
      obtain ⟨m9, hb9⟩ := hp27_0
      refine x_istore_n (pc := 30) K (L' := [(3, .int (zI res_27)), (0, .ref (B + 161)), (1, .int (zI (xx : Int))), (2, .int (zI what))]) hnL rfl (by decide) rfl dX12_best_30 ?_
      refine x_iload_n (pc := 31) 0 K rfl rfl dX12_best_31 ?_
      refine x_ldc (pc := 32) (x := (-1000000)) (-1000000) K (by decide) (by decide +kernel) dX12_best_32 ?_
      refine x_icmp_eq (pc := 34) (tgt := 41) K (by omega) (by decide) dX12_best_34 (by decide) (fun h_34 => ?_) (fun h_34 => ?_)
      · skip
        refine x_iload_n (pc := 41) 0 K rfl rfl dX12_best_41 ?_
        refine x_goto (pc := 42) (tgt := 49) K dX12_best_42 (by decide) ?_
        refine x_iret (pc := 49) K KR (by omega) (Nat.le_of_ble_eq_true rfl) (Nat.le_of_ble_eq_true rfl) dX12_best_49 ?_
        exact ⟨rfl, res_27, bl_27, t2_27, (by first | exact Or.inl ⟨by omega, rfl⟩ | exact Or.inr ⟨by omega, bestW_of hb9 (by omega)⟩), rfl, rfl⟩
      · skip
        refine x_iload_n (pc := 37) 3 K rfl rfl dX12_best_37 ?_
        refine x_if_ne (pc := 38) (tgt := 45) K (by omega) dX12_best_38 (by decide) (fun h_38 => ?_) (fun h_38 => ?_)
        · skip
          refine x_aload_n (pc := 45) 1 K rfl rfl dX12_best_45 ?_
          refine x_get (pc := 46) (C := RX12) (T := TX12) (n := 26) (ci := 11) (idx := 240) (ref := "BorderBedsModel") (x := .int (zI bl_27))  K (cel_ne (cel_self hc0.1) (by decide)) rfl (by decide +kernel) 25 (by decide) (by decide +kernel) rfl rfl dX12_best_46 ?_
          refine x_iret (pc := 49) K KR (by omega) (Nat.le_of_ble_eq_true rfl) (Nat.le_of_ble_eq_true rfl) dX12_best_49 ?_
          exact ⟨rfl, bl_27, bl_27, t2_27, (by first | exact Or.inl ⟨by omega, rfl⟩ | exact Or.inr ⟨by omega, bestW_of hb9 (by omega)⟩), rfl, rfl⟩
        · skip
          refine x_iload_n (pc := 41) 0 K rfl rfl dX12_best_41 ?_
          refine x_goto (pc := 42) (tgt := 49) K dX12_best_42 (by decide) ?_
          refine x_iret (pc := 49) K KR (by omega) (Nat.le_of_ble_eq_true rfl) (Nat.le_of_ble_eq_true rfl) dX12_best_49 ?_
          exact ⟨rfl, res_27, bl_27, t2_27, (by first | exact Or.inl ⟨by omega, rfl⟩ | exact Or.inr ⟨by omega, bestW_of hb9 (by omega)⟩), rfl, rfl⟩
    · skip
      have h_15 := bI_t h_15
      refine x_ldc (pc := 18) (x := (-1000001)) (-1000001) K (by decide) (by decide +kernel) dX12_best_18 ?_
      refine x_iret (pc := 20) K KR (by omega) (Nat.le_of_ble_eq_true rfl) (Nat.le_of_ble_eq_true rfl) dX12_best_20 ?_
      exact ⟨rfl, (-1000001), (F 25), t, (by first | exact Or.inl ⟨by omega, rfl⟩ | exact Or.inr ⟨by omega, bestW_of hb9 (by omega)⟩), rfl, rfl⟩

set_option maxRecDepth 100000 in
set_option maxHeartbeats 4000000 in
theorem c_X12_land {E : XE} {B N : Nat} {v : Nat → va_E} {F a p : Nat → Int} {V ld what : Int} {l : Cor} (hc0 : Cel N v 161 (oM B F V)) (hc1 : Cel N v 166 (iarr E 138 a)) (hq0 : PR a p l) (hq1 : POk p) (hq2 : CorOk l) (hq3 : (l.length : Int) ≤ p 2) (hq4 : (-2147483648 ≤ ld ∧ ld ≤ 2147483647)) (hq5 : (-2147483648 ≤ what ∧ what ≤ 2147483647)) (hq6 : 0 ≤ F 7 ∧ F 7 ≤ 1) : gM yX12_land wsX12_land ({ frames := 3, cells := 0, slots := 0, locals := 74 }) E B N v [.ref (B + 161), .int (zI ld), .int (zI what)] (po0 N (fun ρ v' => ∃ (res : Int), ((F 7 = 0 ∧ res = -1000002) ∨ (F 7 = 1 ∧ ¬ (0 ≤ ld ∧ ld ≤ 1 ∧ 0 ≤ what ∧ what ≤ 2) ∧ res = -1000001) ∨ (F 7 = 1 ∧ (0 ≤ ld ∧ ld ≤ 1 ∧ 0 ≤ what ∧ what ≤ 2) ∧ res = (if what = 2 then leadA p l ld else sumA p l ld what 48))) ∧ ρ = some (.int (zI res)) ∧ v = v')) := by
  refine x_met (nm := "land") (by decide +kernel) rfl (Nat.le_of_ble_eq_true rfl) rfl (fun Γ K KR hnL hnm => ?_)
  show XW Γ N v [(0, .ref (B + 161)), (1, .int (zI ld)), (2, .int (zI what))] 0 0 0 []
  have hkp := hq1.2.2.1
  refine x_aload_n (pc := 0) 0 K rfl rfl dX12_land_0 ?_
  refine x_get (pc := 1) (C := RX12) (T := TX12) (n := 26) (ci := 11) (idx := 186) (ref := "BorderBedsModel") (x := .int (zI (F 7)))  K hc0 rfl (by decide +kernel) 7 (by decide) (by decide +kernel) rfl rfl dX12_land_1 ?_
  refine x_if_ne (pc := 4) (tgt := 10) K (by omega) dX12_land_4 (by decide) (fun h_4 => ?_) (fun h_4 => ?_)
  · skip
    refine x_iload_n (pc := 10) 1 K rfl rfl dX12_land_10 ?_
    refine x_i2l (pc := 11) K (by omega) dX12_land_11 ?_
    refine x_lconst (pc := 12) (0) K (by decide) dX12_land_12 ?_
    refine x_lconst (pc := 13) (1) K (by decide) dX12_land_13 ?_
    refine x_callS (pc := 14) (As := [.long (zL ld), .long (zL 0), .long (zL 1)]) K (c_X12_in (E := E) (B := B) (N := N)    (by omega) (by omega) (by omega)) gX12_land_X12_in rfl (na := 3) (by decide +kernel) rfl ⟨(Nat.le_of_ble_eq_true rfl), (Nat.le_of_ble_eq_true rfl)⟩ (st := []) rfl (Nat.le_of_ble_eq_true rfl) ⟨(Nat.le_of_ble_eq_true rfl), (Nat.le_of_ble_eq_true rfl)⟩ dX12_land_14 (fun r14 N14 w14 hpo14 hN14 => ?_)
    obtain ⟨rfl, rfl, rfl⟩ := hpo14
    refine x_st (st' := [.int (zI (bI (0 ≤ ld ∧ ld ≤ 1)))]) rfl ?_
    have hrg14 := bI_rng (0 ≤ ld ∧ ld ≤ 1)
    refine x_if_eq (pc := 17) (tgt := 32) K (by omega) dX12_land_17 (by decide) (fun h_17 => ?_) (fun h_17 => ?_)
    · skip
      have h_17 := bI_t h_17
      refine x_ldc (pc := 32) (x := (-1000001)) (-1000001) K (by decide) (by decide +kernel) dX12_land_32 ?_
      refine x_iret (pc := 34) K KR (by omega) (Nat.le_of_ble_eq_true rfl) (Nat.le_of_ble_eq_true rfl) dX12_land_34 ?_
      exact ⟨rfl, (-1000001), (by first | exact Or.inl ⟨by omega, rfl⟩ | exact Or.inr (Or.inl ⟨by omega, by omega, rfl⟩) | exact Or.inr (Or.inr ⟨by omega, by omega, by split <;> first | rfl | omega⟩)), rfl, rfl⟩
    · skip
      have h_17 := bI_f h_17
      refine x_iload_n (pc := 20) 2 K rfl rfl dX12_land_20 ?_
      refine x_i2l (pc := 21) K (by omega) dX12_land_21 ?_
      refine x_lconst (pc := 22) (0) K (by decide) dX12_land_22 ?_
      refine x_ldc2 (pc := 23) (x := (2)) (2) K (by decide) (by decide +kernel) dX12_land_23 ?_
      refine x_callS (pc := 26) (As := [.long (zL what), .long (zL 0), .long (zL 2)]) K (c_X12_in (E := E) (B := B) (N := N)    (by omega) (by omega) (by omega)) gX12_land_X12_in rfl (na := 3) (by decide +kernel) rfl ⟨(Nat.le_of_ble_eq_true rfl), (Nat.le_of_ble_eq_true rfl)⟩ (st := []) rfl (Nat.le_of_ble_eq_true rfl) ⟨(Nat.le_of_ble_eq_true rfl), (Nat.le_of_ble_eq_true rfl)⟩ dX12_land_26 (fun r26 N26 w26 hpo26 hN26 => ?_)
      obtain ⟨rfl, rfl, rfl⟩ := hpo26
      refine x_st (st' := [.int (zI (bI (0 ≤ what ∧ what ≤ 2)))]) rfl ?_
      have hrg26 := bI_rng (0 ≤ what ∧ what ≤ 2)
      refine x_if_ne (pc := 29) (tgt := 35) K (by omega) dX12_land_29 (by decide) (fun h_29 => ?_) (fun h_29 => ?_)
      · skip
        have h_29 := bI_f h_29
        refine x_iload_n (pc := 35) 2 K rfl rfl dX12_land_35 ?_
        refine x_iconst (pc := 36) K dX12_land_36 ?_
        refine x_icmp_ne (pc := 37) (tgt := 51) K (by omega) (by decide) dX12_land_37 (by decide) (fun h_37 => ?_) (fun h_37 => ?_)
        · skip
          refine x_aload_n (pc := 51) 0 K rfl rfl dX12_land_51 ?_
          refine x_get (pc := 52) (C := RX12) (T := TX12) (n := 26) (ci := 11) (idx := 22) (ref := "BorderBedsModel") (x := .ref (B + 166))  K hc0 rfl (by decide +kernel) 8 (by decide) (by decide +kernel) rfl rfl dX12_land_52 ?_
          refine x_iload_n (pc := 55) 1 K rfl rfl dX12_land_55 ?_
          refine x_iload_n (pc := 56) 2 K rfl rfl dX12_land_56 ?_
          refine x_callS (pc := 57) (As := [.ref (B + 166), .int (zI ld), .int (zI what)]) K (c_X12_sum (E := E) (B := B) (N := N) (p := p) (l := l)  hc1 hq0 hq1 hq2 (by omega) (by omega) (by omega)) gX12_land_X12_sum rfl (na := 3) (by decide +kernel) rfl ⟨(Nat.le_of_ble_eq_true rfl), (Nat.le_of_ble_eq_true rfl)⟩ (st := []) rfl (Nat.le_of_ble_eq_true rfl) ⟨(Nat.le_of_ble_eq_true rfl), (Nat.le_of_ble_eq_true rfl)⟩ dX12_land_57 (fun r57 N57 w57 hpo57 hN57 => ?_)
          obtain ⟨rfl, rfl, rfl⟩ := hpo57
          refine x_st (st' := [.int (zI (sumA p l ld what 48))]) rfl ?_
          refine x_iret (pc := 60) K KR (by omega) (Nat.le_of_ble_eq_true rfl) (Nat.le_of_ble_eq_true rfl) dX12_land_60 ?_
          exact ⟨rfl, (sumA p l ld what 48), (by first | exact Or.inl ⟨by omega, rfl⟩ | exact Or.inr (Or.inl ⟨by omega, by omega, rfl⟩) | exact Or.inr (Or.inr ⟨by omega, by omega, by split <;> first | rfl | omega⟩)), rfl, rfl⟩
        · skip
          refine x_aload_n (pc := 40) 0 K rfl rfl dX12_land_40 ?_
          refine x_get (pc := 41) (C := RX12) (T := TX12) (n := 26) (ci := 11) (idx := 22) (ref := "BorderBedsModel") (x := .ref (B + 166))  K hc0 rfl (by decide +kernel) 8 (by decide) (by decide +kernel) rfl rfl dX12_land_41 ?_
          refine x_iload_n (pc := 44) 1 K rfl rfl dX12_land_44 ?_
          refine x_callS (pc := 45) (As := [.ref (B + 166), .int (zI ld)]) K (c_X12_lead (E := E) (B := B) (N := N) (p := p) (l := l)  hc1 hq0 hq1 hq2 (by omega) (by omega)) gX12_land_X12_lead rfl (na := 2) (by decide +kernel) rfl ⟨(Nat.le_of_ble_eq_true rfl), (Nat.le_of_ble_eq_true rfl)⟩ (st := []) rfl (Nat.le_of_ble_eq_true rfl) ⟨(Nat.le_of_ble_eq_true rfl), (Nat.le_of_ble_eq_true rfl)⟩ dX12_land_45 (fun r45 N45 w45 hpo45 hN45 => ?_)
          obtain ⟨rfl, rfl, rfl⟩ := hpo45
          refine x_st (st' := [.int (zI (leadA p l ld))]) rfl ?_
          refine x_goto (pc := 48) (tgt := 60) K dX12_land_48 (by decide) ?_
          refine x_iret (pc := 60) K KR (by omega) (Nat.le_of_ble_eq_true rfl) (Nat.le_of_ble_eq_true rfl) dX12_land_60 ?_
          exact ⟨rfl, (leadA p l ld), (by first | exact Or.inl ⟨by omega, rfl⟩ | exact Or.inr (Or.inl ⟨by omega, by omega, rfl⟩) | exact Or.inr (Or.inr ⟨by omega, by omega, by split <;> first | rfl | omega⟩)), rfl, rfl⟩
      · skip
        have h_29 := bI_t h_29
        refine x_ldc (pc := 32) (x := (-1000001)) (-1000001) K (by decide) (by decide +kernel) dX12_land_32 ?_
        refine x_iret (pc := 34) K KR (by omega) (Nat.le_of_ble_eq_true rfl) (Nat.le_of_ble_eq_true rfl) dX12_land_34 ?_
        exact ⟨rfl, (-1000001), (by first | exact Or.inl ⟨by omega, rfl⟩ | exact Or.inr (Or.inl ⟨by omega, by omega, rfl⟩) | exact Or.inr (Or.inr ⟨by omega, by omega, by split <;> first | rfl | omega⟩)), rfl, rfl⟩
  · skip
    refine x_ldc (pc := 7) (x := (-1000002)) (-1000002) K (by decide) (by decide +kernel) dX12_land_7 ?_
    refine x_iret (pc := 9) K KR (by omega) (Nat.le_of_ble_eq_true rfl) (Nat.le_of_ble_eq_true rfl) dX12_land_9 ?_
    exact ⟨rfl, (-1000002), (by first | exact Or.inl ⟨by omega, rfl⟩ | exact Or.inr (Or.inl ⟨by omega, by omega, rfl⟩) | exact Or.inr (Or.inr ⟨by omega, by omega, by split <;> first | rfl | omega⟩)), rfl, rfl⟩

set_option maxRecDepth 100000 in
set_option maxHeartbeats 4000000 in
theorem c_X12_person {E : XE} {B N : Nat} {v : Nat → va_E} {F a p : Nat → Int} {V x what : Int} {l : Cor} (hc0 : Cel N v 161 (oM B F V)) (hc1 : Cel N v 166 (iarr E 138 a)) (hq0 : PR a p l) (hq1 : POk p) (hq2 : CorOk l) (hq3 : (l.length : Int) ≤ p 2) (hq4 : (-2147483648 ≤ x ∧ x ≤ 2147483647)) (hq5 : (-2147483648 ≤ what ∧ what ≤ 2147483647)) : gM yX12_person wsX12_person ({ frames := 2, cells := 0, slots := 0, locals := 54 }) E B N v [.ref (B + 161), .int (zI x), .int (zI what)] (po0 N (fun ρ v' => ∃ (res : Int), ((¬ ((0 ≤ x ∧ x ≤ p 4 - 1) ∧ 0 ≤ what ∧ what ≤ 3) ∧ res = -1000001) ∨ (((0 ≤ x ∧ x ≤ p 4 - 1) ∧ 0 ≤ what ∧ what ≤ 3) ∧ res = (if what = 0 then p (10 + x.toNat) else if what = 1 then p (15 + x.toNat) else if what = 2 then p (20 + x.toNat) else waysA p l x.toNat 48))) ∧ ρ = some (.int (zI res)) ∧ v = v')) := by
  refine x_met (nm := "person") (by decide +kernel) rfl (Nat.le_of_ble_eq_true rfl) rfl (fun Γ K KR hnL hnm => ?_)
  show XW Γ N v [(0, .ref (B + 161)), (1, .int (zI x)), (2, .int (zI what))] 0 0 0 []
  have h4 := hq0.1 4 (by omega)
  have hp4 := hq1.2.2.2.2.1
  have hkp := hq1.2.2.1
  refine x_aload_n (pc := 0) 0 K rfl rfl dX12_person_0 ?_
  refine x_iload_n (pc := 1) 1 K rfl rfl dX12_person_1 ?_
  refine x_callV (pc := 2) (C := RX12) (T := TX12) (n := 26) (ci := 11) (As := [.int (zI x)]) K (c_X12_isPerson (E := E) (B := B) (N := N)   hc0 hc1 (by omega) (by omega)) gX12_person_X12_isPerson rfl (na := 1) (by decide +kernel) rfl ⟨(Nat.le_of_ble_eq_true rfl), (Nat.le_of_ble_eq_true rfl)⟩ hc0 rfl (st := []) rfl (Nat.le_of_ble_eq_true rfl) ⟨(Nat.le_of_ble_eq_true rfl), (Nat.le_of_ble_eq_true rfl)⟩ dX12_person_2 (fun r2 N2 w2 hpo2 hN2 => ?_)
  obtain ⟨rfl, rfl, rfl⟩ := hpo2
  refine x_st (st' := [.int (zI (bI (0 ≤ x ∧ x ≤ a 4 - 1)))]) rfl ?_
  have hrg2 := bI_rng (0 ≤ x ∧ x ≤ a 4 - 1)
  refine x_if_eq (pc := 5) (tgt := 20) K (by omega) dX12_person_5 (by decide) (fun h_5 => ?_) (fun h_5 => ?_)
  · skip
    have h_5 := bI_t h_5
    refine x_ldc (pc := 20) (x := (-1000001)) (-1000001) K (by decide) (by decide +kernel) dX12_person_20 ?_
    refine x_iret (pc := 22) K KR (by omega) (Nat.le_of_ble_eq_true rfl) (Nat.le_of_ble_eq_true rfl) dX12_person_22 ?_
    exact ⟨rfl, (-1000001), (by first | exact Or.inl ⟨by omega, rfl⟩ | exact Or.inr ⟨by omega, by simp only [Int.toNat_natCast]; split <;> (try split) <;> (try split) <;> first | assumption | omega⟩), rfl, rfl⟩
  · skip
    have h_5 := bI_f h_5
    refine x_iload_n (pc := 8) 2 K rfl rfl dX12_person_8 ?_
    refine x_i2l (pc := 9) K (by omega) dX12_person_9 ?_
    refine x_lconst (pc := 10) (0) K (by decide) dX12_person_10 ?_
    refine x_ldc2 (pc := 11) (x := (3)) (3) K (by decide) (by decide +kernel) dX12_person_11 ?_
    refine x_callS (pc := 14) (As := [.long (zL what), .long (zL 0), .long (zL 3)]) K (c_X12_in (E := E) (B := B) (N := N)    (by omega) (by omega) (by omega)) gX12_person_X12_in rfl (na := 3) (by decide +kernel) rfl ⟨(Nat.le_of_ble_eq_true rfl), (Nat.le_of_ble_eq_true rfl)⟩ (st := []) rfl (Nat.le_of_ble_eq_true rfl) ⟨(Nat.le_of_ble_eq_true rfl), (Nat.le_of_ble_eq_true rfl)⟩ dX12_person_14 (fun r14 N14 w14 hpo14 hN14 => ?_)
    obtain ⟨rfl, rfl, rfl⟩ := hpo14
    refine x_st (st' := [.int (zI (bI (0 ≤ what ∧ what ≤ 3)))]) rfl ?_
    have hrg14 := bI_rng (0 ≤ what ∧ what ≤ 3)
    refine x_if_ne (pc := 17) (tgt := 23) K (by omega) dX12_person_17 (by decide) (fun h_17 => ?_) (fun h_17 => ?_)
    · skip
      have h_17 := bI_f h_17
      obtain ⟨xx, rfl⟩ : ∃ xx : Nat, x = (xx : Int) := ⟨x.toNat, by omega⟩
      have e10 := hq0.1 (10 + xx) (by omega)
      have e15 := hq0.1 (15 + xx) (by omega)
      have e20 := hq0.1 (20 + xx) (by omega)
      refine x_iconst (pc := 23) K dX12_person_23 ?_
      refine x_istore_n (pc := 24) K (L' := [(3, .int (zI 0)), (0, .ref (B + 161)), (1, .int (zI (xx : Int))), (2, .int (zI what))]) hnL rfl (by decide) rfl dX12_person_24 ?_
      refine x_iconst (pc := 25) K dX12_person_25 ?_
      refine x_istore (pc := 26) K (L' := [(4, .int (zI 0)), (3, .int (zI 0)), (0, .ref (B + 161)), (1, .int (zI (xx : Int))), (2, .int (zI what))]) hnL (by decide) rfl dX12_person_26 ?_
      have LOOP28 : ∀ (n_28 : Nat) (z : Int) (k : Nat), (k ≤ 48) → (z = waysA p l xx k) → (0 ≤ z ∧ z ≤ k) → (48 - k) < n_28 → XW Γ N v [(0, .ref (B + 161)), (1, .int (zI (xx : Int))), (2, .int (zI what)), (3, .int (zI z)), (4, .int (zI (k : Int)))] 0 0 28 [] := by
        intro n_28
        induction n_28 with
        | zero =>
          intro z k hi28_0 hi28_1 hi28_2 hm_28
          exfalso; omega
        | succ n_28 ih28 =>
          intro z k hi28_0 hi28_1 hi28_2 hm_28
          refine x_iload (pc := 28) 4 K rfl dX12_person_28 ?_
          refine x_bipush (pc := 30) K (by decide) dX12_person_30 ?_
          refine x_icmp_ge (pc := 32) (tgt := 62) K (by omega) (by decide) dX12_person_32 (by decide) (fun h_32 => ?_) (fun h_32 => ?_)
          · skip
            have hk48 : k = 48 := by omega
            rw [hk48] at hi28_1
            refine x_iload_n (pc := 62) 2 K rfl rfl dX12_person_62 ?_
            refine x_if_ne (pc := 63) (tgt := 78) K (by omega) dX12_person_63 (by decide) (fun h_63 => ?_) (fun h_63 => ?_)
            · skip
              refine x_iload_n (pc := 78) 2 K rfl rfl dX12_person_78 ?_
              refine x_iconst (pc := 79) K dX12_person_79 ?_
              refine x_icmp_ne (pc := 80) (tgt := 95) K (by omega) (by decide) dX12_person_80 (by decide) (fun h_80 => ?_) (fun h_80 => ?_)
              · skip
                refine x_iload_n (pc := 95) 2 K rfl rfl dX12_person_95 ?_
                refine x_iconst (pc := 96) K dX12_person_96 ?_
                refine x_icmp_ne (pc := 97) (tgt := 112) K (by omega) (by decide) dX12_person_97 (by decide) (fun h_97 => ?_) (fun h_97 => ?_)
                · skip
                  refine x_iload_n (pc := 112) 3 K rfl rfl dX12_person_112 ?_
                  refine x_iret (pc := 113) K KR (by omega) (Nat.le_of_ble_eq_true rfl) (Nat.le_of_ble_eq_true rfl) dX12_person_113 ?_
                  exact ⟨rfl, z, (by first | exact Or.inl ⟨by omega, rfl⟩ | exact Or.inr ⟨by omega, by simp only [Int.toNat_natCast]; split <;> (try split) <;> (try split) <;> first | assumption | omega⟩), rfl, rfl⟩
                · skip
                  refine x_aload_n (pc := 100) 0 K rfl rfl dX12_person_100 ?_
                  refine x_get (pc := 101) (C := RX12) (T := TX12) (n := 26) (ci := 11) (idx := 22) (ref := "BorderBedsModel") (x := .ref (B + 166))  K hc0 rfl (by decide +kernel) 8 (by decide) (by decide +kernel) rfl rfl dX12_person_101 ?_
                  refine x_bipush (pc := 104) K (by decide) dX12_person_104 ?_
                  refine x_iload_n (pc := 106) 1 K rfl rfl dX12_person_106 ?_
                  refine x_iadd (pc := 107) K dX12_person_107 ?_
                  refine x_iald (pc := 108) (20 + xx) K hc1 (by omega) (by omega) (by decide) dX12_person_108 ?_
                  refine x_goto (pc := 109) (tgt := 113) K dX12_person_109 (by decide) ?_
                  refine x_iret (pc := 113) K KR (by omega) (Nat.le_of_ble_eq_true rfl) (Nat.le_of_ble_eq_true rfl) dX12_person_113 ?_
                  exact ⟨rfl, (a (20 + xx)), (by first | exact Or.inl ⟨by omega, rfl⟩ | exact Or.inr ⟨by omega, by simp only [Int.toNat_natCast]; split <;> (try split) <;> (try split) <;> first | assumption | omega⟩), rfl, rfl⟩
              · skip
                refine x_aload_n (pc := 83) 0 K rfl rfl dX12_person_83 ?_
                refine x_get (pc := 84) (C := RX12) (T := TX12) (n := 26) (ci := 11) (idx := 22) (ref := "BorderBedsModel") (x := .ref (B + 166))  K hc0 rfl (by decide +kernel) 8 (by decide) (by decide +kernel) rfl rfl dX12_person_84 ?_
                refine x_bipush (pc := 87) K (by decide) dX12_person_87 ?_
                refine x_iload_n (pc := 89) 1 K rfl rfl dX12_person_89 ?_
                refine x_iadd (pc := 90) K dX12_person_90 ?_
                refine x_iald (pc := 91) (15 + xx) K hc1 (by omega) (by omega) (by decide) dX12_person_91 ?_
                refine x_goto (pc := 92) (tgt := 113) K dX12_person_92 (by decide) ?_
                refine x_iret (pc := 113) K KR (by omega) (Nat.le_of_ble_eq_true rfl) (Nat.le_of_ble_eq_true rfl) dX12_person_113 ?_
                exact ⟨rfl, (a (15 + xx)), (by first | exact Or.inl ⟨by omega, rfl⟩ | exact Or.inr ⟨by omega, by simp only [Int.toNat_natCast]; split <;> (try split) <;> (try split) <;> first | assumption | omega⟩), rfl, rfl⟩
            · skip
              refine x_aload_n (pc := 66) 0 K rfl rfl dX12_person_66 ?_
              refine x_get (pc := 67) (C := RX12) (T := TX12) (n := 26) (ci := 11) (idx := 22) (ref := "BorderBedsModel") (x := .ref (B + 166))  K hc0 rfl (by decide +kernel) 8 (by decide) (by decide +kernel) rfl rfl dX12_person_67 ?_
              refine x_bipush (pc := 70) K (by decide) dX12_person_70 ?_
              refine x_iload_n (pc := 72) 1 K rfl rfl dX12_person_72 ?_
              refine x_iadd (pc := 73) K dX12_person_73 ?_
              refine x_iald (pc := 74) (10 + xx) K hc1 (by omega) (by omega) (by decide) dX12_person_74 ?_
              refine x_goto (pc := 75) (tgt := 113) K dX12_person_75 (by decide) ?_
              refine x_iret (pc := 113) K KR (by omega) (Nat.le_of_ble_eq_true rfl) (Nat.le_of_ble_eq_true rfl) dX12_person_113 ?_
              exact ⟨rfl, (a (10 + xx)), (by first | exact Or.inl ⟨by omega, rfl⟩ | exact Or.inr ⟨by omega, by simp only [Int.toNat_natCast]; split <;> (try split) <;> (try split) <;> first | assumption | omega⟩), rfl, rfl⟩
          · skip
            refine x_iload_n (pc := 35) 3 K rfl rfl dX12_person_35 ?_
            refine x_aload_n (pc := 36) 0 K rfl rfl dX12_person_36 ?_
            refine x_get (pc := 37) (C := RX12) (T := TX12) (n := 26) (ci := 11) (idx := 22) (ref := "BorderBedsModel") (x := .ref (B + 166))  K hc0 rfl (by decide +kernel) 8 (by decide) (by decide +kernel) rfl rfl dX12_person_37 ?_
            refine x_iload_n (pc := 40) 1 K rfl rfl dX12_person_40 ?_
            refine x_iload (pc := 41) 4 K rfl dX12_person_41 ?_
            refine x_callS (pc := 43) (As := [.ref (B + 166), .int (zI (xx : Int)), .int (zI (k : Int))]) K (c_X12_mayCross (E := E) (B := B) (N := N) (who := xx) (cell := k) rfl rfl hc1 hq0 hq1 hq2 (by omega) (by omega) (by omega)) gX12_person_X12_mayCross rfl (na := 3) (by decide +kernel) rfl ⟨(Nat.le_of_ble_eq_true rfl), (Nat.le_of_ble_eq_true rfl)⟩ (st := [.int (zI z)]) rfl (Nat.le_of_ble_eq_true rfl) ⟨(Nat.le_of_ble_eq_true rfl), (Nat.le_of_ble_eq_true rfl)⟩ dX12_person_43 (fun r43 N43 w43 hpo43 hN43 => ?_)
            obtain ⟨rfl, rfl, rfl⟩ := hpo43
            refine x_st (st' := [.int (zI (mayI p l xx k)), .int (zI z)]) rfl ?_
            have hrg43 := mayI_rng p l xx k
            refine x_if_eq (pc := 46) (tgt := 53) K (by omega) dX12_person_46 (by decide) (fun h_46 => ?_) (fun h_46 => ?_)
            · skip
              have h_46 := mayI_f h_46
              refine x_iconst (pc := 53) K dX12_person_53 ?_
              refine x_iadd (pc := 54) K dX12_person_54 ?_
              refine x_nm (fun z1 hz1 => ?_)
              refine x_istore_n (pc := 55) K (L' := [(3, .int (zI z1)), (0, .ref (B + 161)), (1, .int (zI (xx : Int))), (2, .int (zI what)), (4, .int (zI (k : Int)))]) hnL rfl (by decide) rfl dX12_person_55 ?_
              refine x_iinc (pc := 56) (L' := [(4, .int (zI ((k : Int) + 1))), (3, .int (zI z1)), (0, .ref (B + 161)), (1, .int (zI (xx : Int))), (2, .int (zI what))]) 4 K hnL rfl (by decide) rfl dX12_person_56 ?_
              refine x_goto (pc := 59) (tgt := 28) K dX12_person_59 (by decide) ?_
              refine x_sub (L' := [(0, .ref (B + 161)), (1, .int (zI (xx : Int))), (2, .int (zI what)), (3, .int (zI z1)), (4, .int (zI ((k : Int) + 1)))]) [2, 3, 4, 1, 0] rfl ?_
              exact ih28 z1 (k + 1) (by omega) (by unfold waysA; rw [← hi28_1]; first | (rw [mayI_1 h_46]; omega) | (rw [mayI_0 h_46]; omega)) (by omega) (by omega)
            · skip
              have h_46 := mayI_t h_46
              refine x_iconst (pc := 49) K dX12_person_49 ?_
              refine x_goto (pc := 50) (tgt := 54) K dX12_person_50 (by decide) ?_
              refine x_iadd (pc := 54) K dX12_person_54 ?_
              refine x_nm (fun z2 hz2 => ?_)
              refine x_istore_n (pc := 55) K (L' := [(3, .int (zI z2)), (0, .ref (B + 161)), (1, .int (zI (xx : Int))), (2, .int (zI what)), (4, .int (zI (k : Int)))]) hnL rfl (by decide) rfl dX12_person_55 ?_
              refine x_iinc (pc := 56) (L' := [(4, .int (zI ((k : Int) + 1))), (3, .int (zI z2)), (0, .ref (B + 161)), (1, .int (zI (xx : Int))), (2, .int (zI what))]) 4 K hnL rfl (by decide) rfl dX12_person_56 ?_
              refine x_goto (pc := 59) (tgt := 28) K dX12_person_59 (by decide) ?_
              refine x_sub (L' := [(0, .ref (B + 161)), (1, .int (zI (xx : Int))), (2, .int (zI what)), (3, .int (zI z2)), (4, .int (zI ((k : Int) + 1)))]) [2, 3, 4, 1, 0] rfl ?_
              exact ih28 z2 (k + 1) (by omega) (by unfold waysA; rw [← hi28_1]; first | (rw [mayI_1 h_46]; omega) | (rw [mayI_0 h_46]; omega)) (by omega) (by omega)
      refine x_sub (L' := [(0, .ref (B + 161)), (1, .int (zI (xx : Int))), (2, .int (zI what)), (3, .int (zI 0)), (4, .int (zI 0))]) [2, 3, 4, 1, 0] rfl ?_
      exact LOOP28 (_) 0 0 (by omega) (by rfl) (by omega) (Nat.lt_succ_self _)
    · skip
      have h_17 := bI_t h_17
      refine x_ldc (pc := 20) (x := (-1000001)) (-1000001) K (by decide) (by decide +kernel) dX12_person_20 ?_
      refine x_iret (pc := 22) K KR (by omega) (Nat.le_of_ble_eq_true rfl) (Nat.le_of_ble_eq_true rfl) dX12_person_22 ?_
      exact ⟨rfl, (-1000001), (by first | exact Or.inl ⟨by omega, rfl⟩ | exact Or.inr ⟨by omega, by simp only [Int.toNat_natCast]; split <;> (try split) <;> (try split) <;> first | assumption | omega⟩), rfl, rfl⟩

set_option maxRecDepth 100000 in
set_option maxHeartbeats 4000000 in
theorem c_X12_remember {E : XE} {B N : Nat} {v : Nat → va_E} {F a bf p : Nat → Int} {V : Int} {l : Cor} {as : List Cor} (hc0 : Cel N v 161 (oM B F V)) (hc1 : Cel N v 166 (iarr E 138 a)) (hc2 : Cel N v 167 (iarr E 3312 bf)) (hq0 : PR a p l) (hq1 : POk p) (hq2 : CorOk l) (hq3 : (l.length : Int) ≤ p 2) (hq4 : AR bf p as) (hq5 : AsOk p as) (hq6 : F 9 = (as.length : Int)) : gM yX12_remember wsX12_remember ({ frames := 1, cells := 0, slots := 0, locals := 24 }) E B N v [.ref (B + 161)] (po0 N (fun ρ v' => ∃ (n2 : Int), ∃ (bf2 : Nat → Int), (AR bf2 p (pushA as l)) ∧ (n2 = ((pushA as l).length : Int)) ∧ ρ = none ∧ (va_up (va_up v 161 (oM B (va_up F 9 n2) V)) 167 (iarr E 3312 bf2)) = v')) := by
  refine x_met (nm := "remember") (by decide +kernel) rfl (Nat.le_of_ble_eq_true rfl) rfl (fun Γ K KR hnL hnm => ?_)
  show XW Γ N v [(0, .ref (B + 161))] 0 0 0 []
  have hl8 := hq5.len hq1
  have hkp := hq1.2.2.1
  have h24 := hq4.1
  refine x_v (cel_pad hc0) ?_
  refine x_v (cel_pad (cel_ne hc2 (by decide))) ?_
  refine x_aload_n (pc := 0) 0 K rfl rfl dX12_remember_0 ?_
  refine x_get (pc := 1) (C := RX12) (T := TX12) (n := 26) (ci := 11) (idx := 190) (ref := "BorderBedsModel") (x := .int (zI (F 9)))  K (cel_ne (cel_self hc0.1) (by decide)) rfl (by decide +kernel) 9 (by decide) (by decide +kernel) rfl rfl dX12_remember_1 ?_
  refine x_bipush (pc := 4) K (by decide) dX12_remember_4 ?_
  refine x_icmp_ne (pc := 6) (tgt := 50) K (by omega) (by decide) dX12_remember_6 (by decide) (fun h_6 => ?_) (fun h_6 => ?_)
  · skip
    have hpu := AR_push hq4 hl8 (by omega) hq0 (by omega)
    refine x_aload_n (pc := 50) 0 K rfl rfl dX12_remember_50 ?_
    refine x_get (pc := 51) (C := RX12) (T := TX12) (n := 26) (ci := 11) (idx := 22) (ref := "BorderBedsModel") (x := .ref (B + 166))  K (cel_ne (cel_self hc0.1) (by decide)) rfl (by decide +kernel) 8 (by decide) (by decide +kernel) rfl rfl dX12_remember_51 ?_
    refine x_iconst (pc := 54) K dX12_remember_54 ?_
    refine x_aload_n (pc := 55) 0 K rfl rfl dX12_remember_55 ?_
    refine x_get (pc := 56) (C := RX12) (T := TX12) (n := 26) (ci := 11) (idx := 25) (ref := "BorderBedsModel") (x := .ref (B + 167))  K (cel_ne (cel_self hc0.1) (by decide)) rfl (by decide +kernel) 10 (by decide) (by decide +kernel) rfl rfl dX12_remember_56 ?_
    refine x_sipush (pc := 59) K (by decide) dX12_remember_59 ?_
    refine x_aload_n (pc := 62) 0 K rfl rfl dX12_remember_62 ?_
    refine x_get (pc := 63) (C := RX12) (T := TX12) (n := 26) (ci := 11) (idx := 190) (ref := "BorderBedsModel") (x := .int (zI (F 9)))  K (cel_ne (cel_self hc0.1) (by decide)) rfl (by decide +kernel) 9 (by decide) (by decide +kernel) rfl rfl dX12_remember_63 ?_
    refine x_st (st' := [.int (zI ((as.length : Nat) : Int)), .int (zI 138), .ref (B + 167), .int (zI 0), .ref (B + 166)]) (by rw [hq6]) ?_
    refine x_imul (pc := 66) K dX12_remember_66 ?_
    refine x_callS (pc := 67) (As := [.ref (B + 166), .int (zI 0), .ref (B + 167), .int (zI (138 * ((as.length : Nat) : Int)))]) K (c_X12_copies (E := E) (B := B) (N := N) (i := 0) (j := (138 * as.length)) rfl (by omega) (cel_ne (cel_ne hc1 (by decide)) (by decide)) (cel_self hc2.1) (by omega) (by omega) (by omega)) gX12_remember_X12_copies rfl (na := 4) (by decide +kernel) rfl ⟨(Nat.le_of_ble_eq_true rfl), (Nat.le_of_ble_eq_true rfl)⟩ (st := []) rfl (Nat.le_of_ble_eq_true rfl) ⟨(Nat.le_of_ble_eq_true rfl), (Nat.le_of_ble_eq_true rfl)⟩ dX12_remember_67 (fun r67 N67 w67 hpo67 hN67 => ?_)
    obtain ⟨rfl, rfl, rfl⟩ := hpo67
    refine x_v (w := (va_up (va_up v 161 (oM B F V)) 167 (iarr E 3312 (cpI a bf 0 (138 * as.length) 138)))) (up_at0).symm ?_
    refine x_st (st' := []) rfl ?_
    refine x_aload_n (pc := 70) 0 K rfl rfl dX12_remember_70 ?_
    refine x_dup (pc := 71) K rfl dX12_remember_71 ?_
    refine x_get (pc := 72) (C := RX12) (T := TX12) (n := 26) (ci := 11) (idx := 190) (ref := "BorderBedsModel") (x := .int (zI (F 9)))  K (cel_ne (cel_self hc0.1) (by decide)) rfl (by decide +kernel) 9 (by decide) (by decide +kernel) rfl rfl dX12_remember_72 ?_
    refine x_iconst (pc := 75) K dX12_remember_75 ?_
    refine x_iadd (pc := 76) K dX12_remember_76 ?_
    refine x_put (pc := 77) (C := RX12) (T := TX12) (n := 26) (ci := 11) (idx := 190) (ref := "BorderBedsModel") (ty := .int)  K (cel_ne (cel_self hc0.1) (by decide)) rfl (by decide +kernel) tyX12 tyX12_ok nmX12 9 (by decide) (by decide +kernel) rfl rfl (by decide +kernel) rfl rfl (Nat.le_of_ble_eq_true rfl) dX12_remember_77 ?_
    refine x_v (w := (va_up (va_up v 161 (oM B (va_up F 9 ((F 9) + 1)) V)) 167 (iarr E 3312 (cpI a bf 0 (138 * as.length) 138)))) (up_at1 (by decide)).symm ?_
    refine x_vret (pc := 80) K KR (by omega) (Nat.le_of_ble_eq_true rfl) (Nat.le_of_ble_eq_true rfl) dX12_remember_80 ?_
    exact ⟨rfl, ((F 9) + 1), (cpI a bf 0 (138 * as.length) 138), (by first | (have e := hpu; unfold pushA; rw [if_pos (by omega)]; exact hpu) | (unfold pushA; rw [if_neg (by omega)]; exact hpu)), (by unfold pushA; first | (rw [if_pos (by omega)]; simp; omega) | (rw [if_neg (by omega)]; simp; omega)), rfl, rfl⟩
  · skip
    refine x_iconst (pc := 9) K dX12_remember_9 ?_
    refine x_istore_n (pc := 10) K (L' := [(1, .int (zI 0)), (0, .ref (B + 161))]) hnL rfl (by decide) rfl dX12_remember_10 ?_
    have LOOP11 : ∀ (n_11 : Nat) (k : Nat) (x : Nat → Int), (k ≤ 3174) → (x = dnA bf k) → (3174 - k) < n_11 → XW Γ N (va_up (va_up v 161 (oM B F V)) 167 (iarr E 3312 x)) [(0, .ref (B + 161)), (1, .int (zI (k : Int)))] 0 0 11 [] := by
      intro n_11
      induction n_11 with
      | zero =>
        intro k x hi11_0 hi11_1 hm_11
        exfalso; omega
      | succ n_11 ih11 =>
        intro k x hi11_0 hi11_1 hm_11
        refine x_iload_n (pc := 11) 1 K rfl rfl dX12_remember_11 ?_
        refine x_sipush (pc := 12) K (by decide) dX12_remember_12 ?_
        refine x_icmp_ge (pc := 15) (tgt := 40) K (by omega) (by decide) dX12_remember_15 (by decide) (fun h_15 => ?_) (fun h_15 => ?_)
        · skip
          have hk : k = 3174 := by omega
          rw [hk] at hi11_1
          have hd := AR_down hq4 hl8 (by omega)
          rw [← hi11_1] at hd
          have htl : as.tail.length = 23 := by simp; omega
          have hpu := AR_push hd (fun m hm => hl8 m (List.mem_of_mem_tail hm)) (by omega) hq0 (by omega)
          rw [htl] at hpu
          refine x_aload_n (pc := 40) 0 K rfl rfl dX12_remember_40 ?_
          refine x_dup (pc := 41) K rfl dX12_remember_41 ?_
          refine x_get (pc := 42) (C := RX12) (T := TX12) (n := 26) (ci := 11) (idx := 190) (ref := "BorderBedsModel") (x := .int (zI (F 9)))  K (cel_ne (cel_self hc0.1) (by decide)) rfl (by decide +kernel) 9 (by decide) (by decide +kernel) rfl rfl dX12_remember_42 ?_
          refine x_iconst (pc := 45) K dX12_remember_45 ?_
          refine x_isub (pc := 46) K dX12_remember_46 ?_
          refine x_put (pc := 47) (C := RX12) (T := TX12) (n := 26) (ci := 11) (idx := 190) (ref := "BorderBedsModel") (ty := .int)  K (cel_ne (cel_self hc0.1) (by decide)) rfl (by decide +kernel) tyX12 tyX12_ok nmX12 9 (by decide) (by decide +kernel) rfl rfl (by decide +kernel) rfl rfl (Nat.le_of_ble_eq_true rfl) dX12_remember_47 ?_
          refine x_v (w := (va_up (va_up v 161 (oM B (va_up F 9 ((F 9) - 1)) V)) 167 (iarr E 3312 x))) (up_at1 (by decide)).symm ?_
          refine x_aload_n (pc := 50) 0 K rfl rfl dX12_remember_50 ?_
          refine x_get (pc := 51) (C := RX12) (T := TX12) (n := 26) (ci := 11) (idx := 22) (ref := "BorderBedsModel") (x := .ref (B + 166))  K (cel_ne (cel_self hc0.1) (by decide)) rfl (by decide +kernel) 8 (by decide) (by decide +kernel) rfl rfl dX12_remember_51 ?_
          refine x_iconst (pc := 54) K dX12_remember_54 ?_
          refine x_aload_n (pc := 55) 0 K rfl rfl dX12_remember_55 ?_
          refine x_get (pc := 56) (C := RX12) (T := TX12) (n := 26) (ci := 11) (idx := 25) (ref := "BorderBedsModel") (x := .ref (B + 167))  K (cel_ne (cel_self hc0.1) (by decide)) rfl (by decide +kernel) 10 (by decide) (by decide +kernel) rfl rfl dX12_remember_56 ?_
          refine x_sipush (pc := 59) K (by decide) dX12_remember_59 ?_
          refine x_aload_n (pc := 62) 0 K rfl rfl dX12_remember_62 ?_
          refine x_get (pc := 63) (C := RX12) (T := TX12) (n := 26) (ci := 11) (idx := 190) (ref := "BorderBedsModel") (x := .int (zI ((F 9) - 1)))  K (cel_ne (cel_self hc0.1) (by decide)) rfl (by decide +kernel) 9 (by decide) (by decide +kernel) rfl rfl dX12_remember_63 ?_
          refine x_st (st' := [.int (zI (23 : Int)), .int (zI 138), .ref (B + 167), .int (zI 0), .ref (B + 166)]) (by rw [show (F 9 - 1) = (23 : Int) by omega]) ?_
          refine x_imul (pc := 66) K dX12_remember_66 ?_
          refine x_callS (pc := 67) (As := [.ref (B + 166), .int (zI 0), .ref (B + 167), .int (zI (138 * (23 : Int)))]) K (c_X12_copies (E := E) (B := B) (N := N) (i := 0) (j := (138 * 23)) rfl (by omega) (cel_ne (cel_ne hc1 (by decide)) (by decide)) (cel_self hc2.1) (by omega) (by omega) (by omega)) gX12_remember_X12_copies rfl (na := 4) (by decide +kernel) rfl ⟨(Nat.le_of_ble_eq_true rfl), (Nat.le_of_ble_eq_true rfl)⟩ (st := []) rfl (Nat.le_of_ble_eq_true rfl) ⟨(Nat.le_of_ble_eq_true rfl), (Nat.le_of_ble_eq_true rfl)⟩ dX12_remember_67 (fun r67 N67 w67 hpo67 hN67 => ?_)
          obtain ⟨rfl, rfl, rfl⟩ := hpo67
          refine x_v (w := (va_up (va_up v 161 (oM B (va_up F 9 ((F 9) - 1)) V)) 167 (iarr E 3312 (cpI a x 0 (138 * 23) 138)))) (up_at0).symm ?_
          refine x_st (st' := []) rfl ?_
          refine x_aload_n (pc := 70) 0 K rfl rfl dX12_remember_70 ?_
          refine x_dup (pc := 71) K rfl dX12_remember_71 ?_
          refine x_get (pc := 72) (C := RX12) (T := TX12) (n := 26) (ci := 11) (idx := 190) (ref := "BorderBedsModel") (x := .int (zI ((F 9) - 1)))  K (cel_ne (cel_self hc0.1) (by decide)) rfl (by decide +kernel) 9 (by decide) (by decide +kernel) rfl rfl dX12_remember_72 ?_
          refine x_iconst (pc := 75) K dX12_remember_75 ?_
          refine x_iadd (pc := 76) K dX12_remember_76 ?_
          refine x_put (pc := 77) (C := RX12) (T := TX12) (n := 26) (ci := 11) (idx := 190) (ref := "BorderBedsModel") (ty := .int)  K (cel_ne (cel_self hc0.1) (by decide)) rfl (by decide +kernel) tyX12 tyX12_ok nmX12 9 (by decide) (by decide +kernel) rfl rfl (by decide +kernel) rfl rfl (Nat.le_of_ble_eq_true rfl) dX12_remember_77 ?_
          refine x_v (w := (va_up (va_up v 161 (oM B (va_up F 9 (((F 9) - 1) + 1)) V)) 167 (iarr E 3312 (cpI a x 0 (138 * 23) 138)))) (up_at1 (by decide)).symm ?_
          refine x_vret (pc := 80) K KR (by omega) (Nat.le_of_ble_eq_true rfl) (Nat.le_of_ble_eq_true rfl) dX12_remember_80 ?_
          exact ⟨rfl, (((F 9) - 1) + 1), (cpI a x 0 (138 * 23) 138), (by first | (have e := hpu; unfold pushA; rw [if_pos (by omega)]; exact hpu) | (unfold pushA; rw [if_neg (by omega)]; exact hpu)), (by unfold pushA; first | (rw [if_pos (by omega)]; simp; omega) | (rw [if_neg (by omega)]; simp; omega)), rfl, rfl⟩
        · skip
          refine x_aload_n (pc := 18) 0 K rfl rfl dX12_remember_18 ?_
          refine x_get (pc := 19) (C := RX12) (T := TX12) (n := 26) (ci := 11) (idx := 25) (ref := "BorderBedsModel") (x := .ref (B + 167))  K (cel_ne (cel_self hc0.1) (by decide)) rfl (by decide +kernel) 10 (by decide) (by decide +kernel) rfl rfl dX12_remember_19 ?_
          refine x_iload_n (pc := 22) 1 K rfl rfl dX12_remember_22 ?_
          refine x_aload_n (pc := 23) 0 K rfl rfl dX12_remember_23 ?_
          refine x_get (pc := 24) (C := RX12) (T := TX12) (n := 26) (ci := 11) (idx := 25) (ref := "BorderBedsModel") (x := .ref (B + 167))  K (cel_ne (cel_self hc0.1) (by decide)) rfl (by decide +kernel) 10 (by decide) (by decide +kernel) rfl rfl dX12_remember_24 ?_
          refine x_iload_n (pc := 27) 1 K rfl rfl dX12_remember_27 ?_
          refine x_sipush (pc := 28) K (by decide) dX12_remember_28 ?_
          refine x_iadd (pc := 31) K dX12_remember_31 ?_
          refine x_iald (pc := 32) (k + 138) K (cel_self hc2.1) (by omega) (by omega) (by decide) dX12_remember_32 ?_
          refine x_iast (pc := 33) k K (cel_self hc2.1) rfl (by omega) (by decide) dX12_remember_33 ?_
          refine x_v (w := (va_up (va_up v 161 (oM B F V)) 167 (iarr E 3312 (va_up x k (x (k + 138)))))) (up_at0).symm ?_
          refine x_iinc (pc := 34) (L' := [(1, .int (zI ((k : Int) + 1))), (0, .ref (B + 161))]) 1 K hnL rfl (by decide) rfl dX12_remember_34 ?_
          refine x_goto (pc := 37) (tgt := 11) K dX12_remember_37 (by decide) ?_
          refine x_sub (L' := [(0, .ref (B + 161)), (1, .int (zI ((k : Int) + 1)))]) [1, 0] rfl ?_
          exact ih11 (k + 1) (va_up x k (x (k + 138))) (by omega) (by rw [hi11_1]; exact dnA_s bf k) (by omega)
    refine x_sub (L' := [(0, .ref (B + 161)), (1, .int (zI 0))]) [1, 0] rfl ?_
    exact LOOP11 (_) 0 bf (by omega) (by exact (dnA_0 bf).symm) (Nat.lt_succ_self _)

set_option maxRecDepth 100000 in
set_option maxHeartbeats 4000000 in
theorem c_X12_cross {E : XE} {B N : Nat} {v : Nat → va_E} {F a bf p : Nat → Int} {V x c : Int} {l : Cor} {as : List Cor} (hc0 : Cel N v 161 (oM B F V)) (hc1 : Cel N v 166 (iarr E 138 a)) (hc2 : Cel N v 167 (iarr E 3312 bf)) (hq0 : PR a p l) (hq1 : POk p) (hq2 : CorOk l) (hq3 : (l.length : Int) ≤ p 2) (hq4 : AR bf p as) (hq5 : AsOk p as) (hq6 : F 9 = (as.length : Int)) (hq7 : (-2147483648 ≤ x ∧ x ≤ 2147483647)) (hq8 : (-2147483648 ≤ c ∧ c ≤ 2147483647)) : gM yX12_cross wsX12_cross ({ frames := 3, cells := 0, slots := 0, locals := 70 }) E B N v [.ref (B + 161), .int (zI x), .int (zI c)] (po0 N (fun ρ v' => ∃ (res : Int), ∃ (n2 : Int), ∃ (a2 : Nat → Int), ∃ (bf2 : Nat → Int), ((¬ ((0 ≤ x ∧ x ≤ p 4 - 1) ∧ 0 ≤ c ∧ c ≤ 47) ∧ res = -1000001 ∧ n2 = F 9 ∧ a2 = a ∧ bf2 = bf) ∨ (((0 ≤ x ∧ x ≤ p 4 - 1) ∧ 0 ≤ c ∧ c ≤ 47) ∧ ¬ mayA p l x.toNat c.toNat ∧ res = -1000002 ∧ n2 = F 9 ∧ a2 = a ∧ bf2 = bf) ∨ (((0 ≤ x ∧ x ≤ p 4 - 1) ∧ 0 ≤ c ∧ c ≤ 47) ∧ mayA p l x.toNat c.toNat ∧ res = ((crossA (p (5 + x.toNat)) (p 2) c.toNat l).length : Int) ∧ n2 = ((pushA as l).length : Int) ∧ PR a2 p (crossA (p (5 + x.toNat)) (p 2) c.toNat l) ∧ AR bf2 p (pushA as l))) ∧ ρ = some (.int (zI res)) ∧ (va_up (va_up (va_up v 161 (oM B (va_up F 9 n2) V)) 166 (iarr E 138 a2)) 167 (iarr E 3312 bf2)) = v')) := by
  refine x_met (nm := "cross") (by decide +kernel) rfl (Nat.le_of_ble_eq_true rfl) rfl (fun Γ K KR hnL hnm => ?_)
  show XW Γ N v [(0, .ref (B + 161)), (1, .int (zI x)), (2, .int (zI c))] 0 0 0 []
  have h4 := hq0.1 4 (by omega)
  have hp4 := hq1.2.2.2.2.1
  have hkp := hq1.2.2.1
  refine x_v (cel_pad hc0) ?_
  refine x_v (cel_pad (cel_ne hc1 (by decide))) ?_
  refine x_v (cel_pad (cel_ne (cel_ne hc2 (by decide)) (by decide))) ?_
  refine x_aload_n (pc := 0) 0 K rfl rfl dX12_cross_0 ?_
  refine x_iload_n (pc := 1) 1 K rfl rfl dX12_cross_1 ?_
  refine x_callV (pc := 2) (C := RX12) (T := TX12) (n := 26) (ci := 11) (As := [.int (zI x)]) K (c_X12_isPerson (E := E) (B := B) (N := N)   (cel_ne (cel_ne (cel_self hc0.1) (by decide)) (by decide)) (cel_ne (cel_self hc1.1) (by decide)) (by omega) (by omega)) gX12_cross_X12_isPerson rfl (na := 1) (by decide +kernel) rfl ⟨(Nat.le_of_ble_eq_true rfl), (Nat.le_of_ble_eq_true rfl)⟩ (cel_ne (cel_ne (cel_self hc0.1) (by decide)) (by decide)) rfl (st := []) rfl (Nat.le_of_ble_eq_true rfl) ⟨(Nat.le_of_ble_eq_true rfl), (Nat.le_of_ble_eq_true rfl)⟩ dX12_cross_2 (fun r2 N2 w2 hpo2 hN2 => ?_)
  obtain ⟨rfl, rfl, rfl⟩ := hpo2
  refine x_st (st' := [.int (zI (bI (0 ≤ x ∧ x ≤ a 4 - 1)))]) rfl ?_
  have hrg2 := bI_rng (0 ≤ x ∧ x ≤ a 4 - 1)
  refine x_if_eq (pc := 5) (tgt := 15) K (by omega) dX12_cross_5 (by decide) (fun h_5 => ?_) (fun h_5 => ?_)
  · skip
    have h_5 := bI_t h_5
    refine x_ldc (pc := 15) (x := (-1000001)) (-1000001) K (by decide) (by decide +kernel) dX12_cross_15 ?_
    refine x_iret (pc := 17) K KR (by omega) (Nat.le_of_ble_eq_true rfl) (Nat.le_of_ble_eq_true rfl) dX12_cross_17 ?_
    exact ⟨rfl, (-1000001), (F 9), a, bf, (by first | exact Or.inl ⟨by omega, rfl, rfl, rfl, rfl⟩ | exact Or.inr (Or.inl ⟨by omega, h_27, rfl, rfl, rfl, rfl⟩) | exact Or.inr (Or.inr ⟨by omega, h_27, e52, hp34_1, hp43_0, hp34_0⟩)), rfl, rfl⟩
  · skip
    have h_5 := bI_f h_5
    refine x_iload_n (pc := 8) 2 K rfl rfl dX12_cross_8 ?_
    refine x_callS (pc := 9) (As := [.int (zI c)]) K (c_X12_isCell (E := E) (B := B) (N := N)    (by omega)) gX12_cross_X12_isCell rfl (na := 1) (by decide +kernel) rfl ⟨(Nat.le_of_ble_eq_true rfl), (Nat.le_of_ble_eq_true rfl)⟩ (st := []) rfl (Nat.le_of_ble_eq_true rfl) ⟨(Nat.le_of_ble_eq_true rfl), (Nat.le_of_ble_eq_true rfl)⟩ dX12_cross_9 (fun r9 N9 w9 hpo9 hN9 => ?_)
    obtain ⟨rfl, rfl, rfl⟩ := hpo9
    refine x_st (st' := [.int (zI (bI (0 ≤ c ∧ c ≤ 47)))]) rfl ?_
    have hrg9 := bI_rng (0 ≤ c ∧ c ≤ 47)
    refine x_if_ne (pc := 12) (tgt := 18) K (by omega) dX12_cross_12 (by decide) (fun h_12 => ?_) (fun h_12 => ?_)
    · skip
      have h_12 := bI_f h_12
      obtain ⟨xx, rfl⟩ : ∃ xx : Nat, x = (xx : Int) := ⟨x.toNat, by omega⟩
      obtain ⟨cc, rfl⟩ : ∃ cc : Nat, c = (cc : Int) := ⟨c.toNat, by omega⟩
      refine x_aload_n (pc := 18) 0 K rfl rfl dX12_cross_18 ?_
      refine x_get (pc := 19) (C := RX12) (T := TX12) (n := 26) (ci := 11) (idx := 22) (ref := "BorderBedsModel") (x := .ref (B + 166))  K (cel_ne (cel_ne (cel_self hc0.1) (by decide)) (by decide)) rfl (by decide +kernel) 8 (by decide) (by decide +kernel) rfl rfl dX12_cross_19 ?_
      refine x_iload_n (pc := 22) 1 K rfl rfl dX12_cross_22 ?_
      refine x_iload_n (pc := 23) 2 K rfl rfl dX12_cross_23 ?_
      refine x_callS (pc := 24) (As := [.ref (B + 166), .int (zI (xx : Int)), .int (zI (cc : Int))]) K (c_X12_mayCross (E := E) (B := B) (N := N) (p := p) (l := l) (who := xx) (cell := cc) rfl rfl (cel_ne (cel_self hc1.1) (by decide)) hq0 hq1 hq2 (by omega) (by omega) (by omega)) gX12_cross_X12_mayCross rfl (na := 3) (by decide +kernel) rfl ⟨(Nat.le_of_ble_eq_true rfl), (Nat.le_of_ble_eq_true rfl)⟩ (st := []) rfl (Nat.le_of_ble_eq_true rfl) ⟨(Nat.le_of_ble_eq_true rfl), (Nat.le_of_ble_eq_true rfl)⟩ dX12_cross_24 (fun r24 N24 w24 hpo24 hN24 => ?_)
      obtain ⟨rfl, rfl, rfl⟩ := hpo24
      refine x_st (st' := [.int (zI (mayI p l xx cc))]) rfl ?_
      have hrg24 := mayI_rng p l xx cc
      refine x_if_ne (pc := 27) (tgt := 33) K (by omega) dX12_cross_27 (by decide) (fun h_27 => ?_) (fun h_27 => ?_)
      · skip
        have h_27 := mayI_t h_27
        refine x_aload_n (pc := 33) 0 K rfl rfl dX12_cross_33 ?_
        refine x_callV (pc := 34) (C := RX12) (T := TX12) (n := 26) (ci := 11) (As := []) K (c_X12_remember (E := E) (B := B) (N := N) (p := p) (l := l)  (cel_ne (cel_ne (cel_self hc0.1) (by decide)) (by decide)) (cel_ne (cel_self hc1.1) (by decide)) (cel_self hc2.1) hq0 hq1 hq2 hq3 hq4 hq5 (by omega)) gX12_cross_X12_remember rfl (na := 0) (by decide +kernel) rfl ⟨(Nat.le_of_ble_eq_true rfl), (Nat.le_of_ble_eq_true rfl)⟩ (cel_ne (cel_ne (cel_self hc0.1) (by decide)) (by decide)) rfl (st := []) rfl (Nat.le_of_ble_eq_true rfl) ⟨(Nat.le_of_ble_eq_true rfl), (Nat.le_of_ble_eq_true rfl)⟩ dX12_cross_34 (fun r34 N34 w34 hpo34 hN34 => ?_)
        obtain ⟨rfl, n2_34, bf2_34, hp34_0, hp34_1, rfl, rfl⟩ := hpo34
        refine x_v (congrArg (fun w => (va_up w 167 (iarr E 3312 bf2_34))) (show (va_up (va_up (va_up v 161 (oM B (va_up F 9 n2_34) V)) 166 (iarr E 138 a)) 167 (iarr E 3312 bf)) = _ from (up_at2 (by decide) (by decide)).symm)) ?_
        refine x_v (w := (va_up (va_up (va_up v 161 (oM B (va_up F 9 n2_34) V)) 166 (iarr E 138 a)) 167 (iarr E 3312 bf2_34))) (up_at0).symm ?_
        refine x_st (st' := []) rfl ?_
        refine x_aload_n (pc := 37) 0 K rfl rfl dX12_cross_37 ?_
        refine x_get (pc := 38) (C := RX12) (T := TX12) (n := 26) (ci := 11) (idx := 22) (ref := "BorderBedsModel") (x := .ref (B + 166))  K (cel_ne (cel_ne (cel_self hc0.1) (by decide)) (by decide)) rfl (by decide +kernel) 8 (by decide) (by decide +kernel) rfl rfl dX12_cross_38 ?_
        refine x_iload_n (pc := 41) 1 K rfl rfl dX12_cross_41 ?_
        refine x_iload_n (pc := 42) 2 K rfl rfl dX12_cross_42 ?_
        refine x_callS (pc := 43) (As := [.ref (B + 166), .int (zI (xx : Int)), .int (zI (cc : Int))]) K (c_X12_crosses (E := E) (B := B) (N := N) (p := p) (l := l) (who := xx) (cell := cc) rfl rfl (cel_ne (cel_self hc1.1) (by decide)) hq0 hq1 hq2 (by omega) (by omega) (by omega)) gX12_cross_X12_crosses rfl (na := 3) (by decide +kernel) rfl ⟨(Nat.le_of_ble_eq_true rfl), (Nat.le_of_ble_eq_true rfl)⟩ (st := []) rfl (Nat.le_of_ble_eq_true rfl) ⟨(Nat.le_of_ble_eq_true rfl), (Nat.le_of_ble_eq_true rfl)⟩ dX12_cross_43 (fun r43 N43 w43 hpo43 hN43 => ?_)
        obtain ⟨rfl, g_43, hp43_0, rfl, rfl⟩ := hpo43
        refine x_v (w := (va_up (va_up (va_up v 161 (oM B (va_up F 9 n2_34) V)) 166 (iarr E 138 g_43)) 167 (iarr E 3312 bf2_34))) (up_at1 (by decide)).symm ?_
        refine x_st (st' := []) rfl ?_
        refine x_aload_n (pc := 46) 0 K rfl rfl dX12_cross_46 ?_
        refine x_get (pc := 47) (C := RX12) (T := TX12) (n := 26) (ci := 11) (idx := 22) (ref := "BorderBedsModel") (x := .ref (B + 166))  K (cel_ne (cel_ne (cel_self hc0.1) (by decide)) (by decide)) rfl (by decide +kernel) 8 (by decide) (by decide +kernel) rfl rfl dX12_cross_47 ?_
        refine x_bipush (pc := 50) K (by decide) dX12_cross_50 ?_
        refine x_iald (pc := 52) 121 K (cel_ne (cel_self hc1.1) (by decide)) rfl (by omega) (by decide) dX12_cross_52 ?_
        have e52 := hp43_0.2.1
        refine x_iret (pc := 53) K KR (by omega) (Nat.le_of_ble_eq_true rfl) (Nat.le_of_ble_eq_true rfl) dX12_cross_53 ?_
        exact ⟨rfl, (g_43 121), n2_34, g_43, bf2_34, (by first | exact Or.inl ⟨by omega, rfl, rfl, rfl, rfl⟩ | exact Or.inr (Or.inl ⟨by omega, h_27, rfl, rfl, rfl, rfl⟩) | exact Or.inr (Or.inr ⟨by omega, h_27, e52, hp34_1, hp43_0, hp34_0⟩)), rfl, rfl⟩
      · skip
        have h_27 := mayI_f h_27
        refine x_ldc (pc := 30) (x := (-1000002)) (-1000002) K (by decide) (by decide +kernel) dX12_cross_30 ?_
        refine x_iret (pc := 32) K KR (by omega) (Nat.le_of_ble_eq_true rfl) (Nat.le_of_ble_eq_true rfl) dX12_cross_32 ?_
        exact ⟨rfl, (-1000002), (F 9), a, bf, (by first | exact Or.inl ⟨by omega, rfl, rfl, rfl, rfl⟩ | exact Or.inr (Or.inl ⟨by omega, h_27, rfl, rfl, rfl, rfl⟩) | exact Or.inr (Or.inr ⟨by omega, h_27, e52, hp34_1, hp43_0, hp34_0⟩)), rfl, rfl⟩
    · skip
      have h_12 := bI_t h_12
      refine x_ldc (pc := 15) (x := (-1000001)) (-1000001) K (by decide) (by decide +kernel) dX12_cross_15 ?_
      refine x_iret (pc := 17) K KR (by omega) (Nat.le_of_ble_eq_true rfl) (Nat.le_of_ble_eq_true rfl) dX12_cross_17 ?_
      exact ⟨rfl, (-1000001), (F 9), a, bf, (by first | exact Or.inl ⟨by omega, rfl, rfl, rfl, rfl⟩ | exact Or.inr (Or.inl ⟨by omega, h_27, rfl, rfl, rfl, rfl⟩) | exact Or.inr (Or.inr ⟨by omega, h_27, e52, hp34_1, hp43_0, hp34_0⟩)), rfl, rfl⟩

set_option maxRecDepth 100000 in
set_option maxHeartbeats 4000000 in
theorem c_X12_undo {E : XE} {B N : Nat} {v : Nat → va_E} {F a bf p : Nat → Int} {V : Int} {l : Cor} {as : List Cor} (hc0 : Cel N v 161 (oM B F V)) (hc1 : Cel N v 166 (iarr E 138 a)) (hc2 : Cel N v 167 (iarr E 3312 bf)) (hq0 : PR a p l) (hq1 : POk p) (hq2 : CorOk l) (hq3 : (l.length : Int) ≤ p 2) (hq4 : AR bf p as) (hq5 : AsOk p as) (hq6 : F 9 = (as.length : Int)) : gM yX12_undo wsX12_undo ({ frames := 1, cells := 0, slots := 0, locals := 24 }) E B N v [.ref (B + 161)] (po0 N (fun ρ v' => ∃ (res : Int), ∃ (n2 : Int), ∃ (a2 : Nat → Int), ((as.length = 0 ∧ res = -1000002 ∧ n2 = F 9 ∧ a2 = a) ∨ (∃ h : as.length - 1 < as.length, res = ((as.length - 1 : Nat) : Int) ∧ n2 = res ∧ PR a2 p (as[as.length - 1]))) ∧ ρ = some (.int (zI res)) ∧ (va_up (va_up v 161 (oM B (va_up F 9 n2) V)) 166 (iarr E 138 a2)) = v')) := by
  refine x_met (nm := "undo") (by decide +kernel) rfl (Nat.le_of_ble_eq_true rfl) rfl (fun Γ K KR hnL hnm => ?_)
  show XW Γ N v [(0, .ref (B + 161))] 0 0 0 []
  have hl8 := hq5.len hq1
  have h24 := hq4.1
  refine x_v (cel_pad hc0) ?_
  refine x_v (cel_pad (cel_ne hc1 (by decide))) ?_
  refine x_aload_n (pc := 0) 0 K rfl rfl dX12_undo_0 ?_
  refine x_get (pc := 1) (C := RX12) (T := TX12) (n := 26) (ci := 11) (idx := 190) (ref := "BorderBedsModel") (x := .int (zI (F 9)))  K (cel_ne (cel_self hc0.1) (by decide)) rfl (by decide +kernel) 9 (by decide) (by decide +kernel) rfl rfl dX12_undo_1 ?_
  refine x_if_ne (pc := 4) (tgt := 10) K (by omega) dX12_undo_4 (by decide) (fun h_4 => ?_) (fun h_4 => ?_)
  · skip
    refine x_aload_n (pc := 10) 0 K rfl rfl dX12_undo_10 ?_
    refine x_dup (pc := 11) K rfl dX12_undo_11 ?_
    refine x_get (pc := 12) (C := RX12) (T := TX12) (n := 26) (ci := 11) (idx := 190) (ref := "BorderBedsModel") (x := .int (zI (F 9)))  K (cel_ne (cel_self hc0.1) (by decide)) rfl (by decide +kernel) 9 (by decide) (by decide +kernel) rfl rfl dX12_undo_12 ?_
    refine x_iconst (pc := 15) K dX12_undo_15 ?_
    refine x_isub (pc := 16) K dX12_undo_16 ?_
    refine x_put (pc := 17) (C := RX12) (T := TX12) (n := 26) (ci := 11) (idx := 190) (ref := "BorderBedsModel") (ty := .int)  K (cel_ne (cel_self hc0.1) (by decide)) rfl (by decide +kernel) tyX12 tyX12_ok nmX12 9 (by decide) (by decide +kernel) rfl rfl (by decide +kernel) rfl rfl (Nat.le_of_ble_eq_true rfl) dX12_undo_17 ?_
    refine x_v (w := (va_up (va_up v 161 (oM B (va_up F 9 ((F 9) - 1)) V)) 166 (iarr E 138 a))) (up_at1 (by decide)).symm ?_
    refine x_aload_n (pc := 20) 0 K rfl rfl dX12_undo_20 ?_
    refine x_get (pc := 21) (C := RX12) (T := TX12) (n := 26) (ci := 11) (idx := 25) (ref := "BorderBedsModel") (x := .ref (B + 167))  K (cel_ne (cel_self hc0.1) (by decide)) rfl (by decide +kernel) 10 (by decide) (by decide +kernel) rfl rfl dX12_undo_21 ?_
    refine x_sipush (pc := 24) K (by decide) dX12_undo_24 ?_
    refine x_aload_n (pc := 27) 0 K rfl rfl dX12_undo_27 ?_
    refine x_get (pc := 28) (C := RX12) (T := TX12) (n := 26) (ci := 11) (idx := 190) (ref := "BorderBedsModel") (x := .int (zI ((F 9) - 1)))  K (cel_ne (cel_self hc0.1) (by decide)) rfl (by decide +kernel) 9 (by decide) (by decide +kernel) rfl rfl dX12_undo_28 ?_
    refine x_st (st' := [.int (zI (((as.length - 1) : Nat) : Int)), .int (zI 138), .ref (B + 167)]) (by rw [show (F 9 - 1) = ((as.length - 1 : Nat) : Int) by omega]) ?_
    refine x_imul (pc := 31) K dX12_undo_31 ?_
    refine x_aload_n (pc := 32) 0 K rfl rfl dX12_undo_32 ?_
    refine x_get (pc := 33) (C := RX12) (T := TX12) (n := 26) (ci := 11) (idx := 22) (ref := "BorderBedsModel") (x := .ref (B + 166))  K (cel_ne (cel_self hc0.1) (by decide)) rfl (by decide +kernel) 8 (by decide) (by decide +kernel) rfl rfl dX12_undo_33 ?_
    refine x_iconst (pc := 36) K dX12_undo_36 ?_
    refine x_callS (pc := 37) (As := [.ref (B + 167), .int (zI (138 * (((as.length - 1) : Nat) : Int))), .ref (B + 166), .int (zI 0)]) K (c_X12_copies (E := E) (B := B) (N := N) (i := (138 * (as.length - 1))) (j := 0) (by omega) rfl (cel_ne (cel_ne hc2 (by decide)) (by decide)) (cel_self hc1.1) (by omega) (by omega) (by omega)) gX12_undo_X12_copies rfl (na := 4) (by decide +kernel) rfl ⟨(Nat.le_of_ble_eq_true rfl), (Nat.le_of_ble_eq_true rfl)⟩ (st := []) rfl (Nat.le_of_ble_eq_true rfl) ⟨(Nat.le_of_ble_eq_true rfl), (Nat.le_of_ble_eq_true rfl)⟩ dX12_undo_37 (fun r37 N37 w37 hpo37 hN37 => ?_)
    obtain ⟨rfl, rfl, rfl⟩ := hpo37
    refine x_v (w := (va_up (va_up v 161 (oM B (va_up F 9 ((F 9) - 1)) V)) 166 (iarr E 138 (cpI bf a (138 * (as.length - 1)) 0 138)))) (up_at0).symm ?_
    refine x_st (st' := []) rfl ?_
    refine x_aload_n (pc := 40) 0 K rfl rfl dX12_undo_40 ?_
    refine x_get (pc := 41) (C := RX12) (T := TX12) (n := 26) (ci := 11) (idx := 190) (ref := "BorderBedsModel") (x := .int (zI ((F 9) - 1)))  K (cel_ne (cel_self hc0.1) (by decide)) rfl (by decide +kernel) 9 (by decide) (by decide +kernel) rfl rfl dX12_undo_41 ?_
    refine x_st (st' := [.int (zI (((as.length - 1) : Nat) : Int))]) (by rw [show (F 9 - 1) = ((as.length - 1 : Nat) : Int) by omega]) ?_
    refine x_iret (pc := 44) K KR (by omega) (Nat.le_of_ble_eq_true rfl) (Nat.le_of_ble_eq_true rfl) dX12_undo_44 ?_
    have hlt : as.length = 0 ∨ as.length - 1 < as.length := by omega
    exact ⟨rfl, (((as.length - 1) : Nat) : Int), ((F 9) - 1), (cpI bf a (138 * (as.length - 1)) 0 138), (by first | exact Or.inl ⟨by omega, rfl, rfl, rfl⟩ | exact Or.inr ⟨by omega, rfl, by omega, cpI_PR (hq4.2 _ (by omega)) (hl8 _ (List.getElem_mem _))⟩), rfl, rfl⟩
  · skip
    refine x_ldc (pc := 7) (x := (-1000002)) (-1000002) K (by decide) (by decide +kernel) dX12_undo_7 ?_
    refine x_iret (pc := 9) K KR (by omega) (Nat.le_of_ble_eq_true rfl) (Nat.le_of_ble_eq_true rfl) dX12_undo_9 ?_
    have hlt : as.length = 0 ∨ as.length - 1 < as.length := by omega
    exact ⟨rfl, (-1000002), (F 9), a, (by first | exact Or.inl ⟨by omega, rfl, rfl, rfl⟩ | exact Or.inr ⟨by omega, rfl, by omega, cpI_PR (hq4.2 _ (by omega)) (hl8 _ (List.getElem_mem _))⟩), rfl, rfl⟩

set_option maxRecDepth 100000 in
set_option maxHeartbeats 4000000 in
theorem c_X12_image {E : XE} {B N : Nat} {v : Nat → va_E} {F a im kp : Nat → Int} {V k : Int} (hc0 : Cel N v 161 (oM B F V)) (hc1 : Cel N v 166 (iarr E 138 a)) (hc2 : Cel N v 168 (iarr E 276 im)) (hc3 : Cel N v 169 (barr E 2 kp)) (hq0 : (-2147483648 ≤ k ∧ k ≤ 2147483647)) (hq1 : 0 ≤ F 7 ∧ F 7 ≤ 1) : gM yX12_image wsX12_image ({ frames := 1, cells := 0, slots := 0, locals := 25 }) E B N v [.ref (B + 161), .int (zI k)] (po0 N (fun ρ v' => ∃ (res : Int), ∃ (im2 : Nat → Int), ∃ (kp2 : Nat → Int), ((¬ (0 ≤ k ∧ k ≤ 1) ∧ res = -1000001 ∧ im2 = im ∧ kp2 = kp) ∨ ((0 ≤ k ∧ k ≤ 1) ∧ F 7 = 0 ∧ res = -1000002 ∧ im2 = im ∧ kp2 = kp) ∨ ((0 ≤ k ∧ k ≤ 1) ∧ F 7 = 1 ∧ res = 1 ∧ im2 = cpI a im 0 (138 * k.toNat) 138 ∧ kp2 = va_up kp k.toNat 1)) ∧ ρ = some (.int (zI res)) ∧ (va_up (va_up v 168 (iarr E 276 im2)) 169 (barr E 2 kp2)) = v')) := by
  refine x_met (nm := "image") (by decide +kernel) rfl (Nat.le_of_ble_eq_true rfl) rfl (fun Γ K KR hnL hnm => ?_)
  show XW Γ N v [(0, .ref (B + 161)), (1, .int (zI k))] 0 0 0 []
  refine x_v (cel_pad hc2) ?_
  refine x_v (cel_pad (cel_ne hc3 (by decide))) ?_
  refine x_iload_n (pc := 0) 1 K rfl rfl dX12_image_0 ?_
  refine x_i2l (pc := 1) K (by omega) dX12_image_1 ?_
  refine x_lconst (pc := 2) (0) K (by decide) dX12_image_2 ?_
  refine x_lconst (pc := 3) (1) K (by decide) dX12_image_3 ?_
  refine x_callS (pc := 4) (As := [.long (zL k), .long (zL 0), .long (zL 1)]) K (c_X12_in (E := E) (B := B) (N := N)    (by omega) (by omega) (by omega)) gX12_image_X12_in rfl (na := 3) (by decide +kernel) rfl ⟨(Nat.le_of_ble_eq_true rfl), (Nat.le_of_ble_eq_true rfl)⟩ (st := []) rfl (Nat.le_of_ble_eq_true rfl) ⟨(Nat.le_of_ble_eq_true rfl), (Nat.le_of_ble_eq_true rfl)⟩ dX12_image_4 (fun r4 N4 w4 hpo4 hN4 => ?_)
  obtain ⟨rfl, rfl, rfl⟩ := hpo4
  refine x_st (st' := [.int (zI (bI (0 ≤ k ∧ k ≤ 1)))]) rfl ?_
  have hrg4 := bI_rng (0 ≤ k ∧ k ≤ 1)
  refine x_if_ne (pc := 7) (tgt := 13) K (by omega) dX12_image_7 (by decide) (fun h_7 => ?_) (fun h_7 => ?_)
  · skip
    have h_7 := bI_f h_7
    obtain ⟨kk, rfl⟩ : ∃ kk : Nat, k = (kk : Int) := ⟨k.toNat, by omega⟩
    refine x_aload_n (pc := 13) 0 K rfl rfl dX12_image_13 ?_
    refine x_get (pc := 14) (C := RX12) (T := TX12) (n := 26) (ci := 11) (idx := 186) (ref := "BorderBedsModel") (x := .int (zI (F 7)))  K (cel_ne (cel_ne hc0 (by decide)) (by decide)) rfl (by decide +kernel) 7 (by decide) (by decide +kernel) rfl rfl dX12_image_14 ?_
    refine x_if_ne (pc := 17) (tgt := 23) K (by omega) dX12_image_17 (by decide) (fun h_17 => ?_) (fun h_17 => ?_)
    · skip
      refine x_aload_n (pc := 23) 0 K rfl rfl dX12_image_23 ?_
      refine x_get (pc := 24) (C := RX12) (T := TX12) (n := 26) (ci := 11) (idx := 22) (ref := "BorderBedsModel") (x := .ref (B + 166))  K (cel_ne (cel_ne hc0 (by decide)) (by decide)) rfl (by decide +kernel) 8 (by decide) (by decide +kernel) rfl rfl dX12_image_24 ?_
      refine x_iconst (pc := 27) K dX12_image_27 ?_
      refine x_aload_n (pc := 28) 0 K rfl rfl dX12_image_28 ?_
      refine x_get (pc := 29) (C := RX12) (T := TX12) (n := 26) (ci := 11) (idx := 28) (ref := "BorderBedsModel") (x := .ref (B + 168))  K (cel_ne (cel_ne hc0 (by decide)) (by decide)) rfl (by decide +kernel) 11 (by decide) (by decide +kernel) rfl rfl dX12_image_29 ?_
      refine x_sipush (pc := 32) K (by decide) dX12_image_32 ?_
      refine x_iload_n (pc := 35) 1 K rfl rfl dX12_image_35 ?_
      refine x_imul (pc := 36) K dX12_image_36 ?_
      refine x_callS (pc := 37) (As := [.ref (B + 166), .int (zI 0), .ref (B + 168), .int (zI (138 * (kk : Int)))]) K (c_X12_copies (E := E) (B := B) (N := N) (i := 0) (j := (138 * kk)) rfl (by omega) (cel_ne (cel_ne hc1 (by decide)) (by decide)) (cel_ne (cel_self hc2.1) (by decide)) (by omega) (by omega) (by omega)) gX12_image_X12_copies rfl (na := 4) (by decide +kernel) rfl ⟨(Nat.le_of_ble_eq_true rfl), (Nat.le_of_ble_eq_true rfl)⟩ (st := []) rfl (Nat.le_of_ble_eq_true rfl) ⟨(Nat.le_of_ble_eq_true rfl), (Nat.le_of_ble_eq_true rfl)⟩ dX12_image_37 (fun r37 N37 w37 hpo37 hN37 => ?_)
      obtain ⟨rfl, rfl, rfl⟩ := hpo37
      refine x_v (w := (va_up (va_up v 168 (iarr E 276 (cpI a im 0 (138 * kk) 138))) 169 (barr E 2 kp))) (up_at1 (by decide)).symm ?_
      refine x_st (st' := []) rfl ?_
      refine x_aload_n (pc := 40) 0 K rfl rfl dX12_image_40 ?_
      refine x_get (pc := 41) (C := RX12) (T := TX12) (n := 26) (ci := 11) (idx := 31) (ref := "BorderBedsModel") (x := .ref (B + 169))  K (cel_ne (cel_ne hc0 (by decide)) (by decide)) rfl (by decide +kernel) 12 (by decide) (by decide +kernel) rfl rfl dX12_image_41 ?_
      refine x_iload_n (pc := 44) 1 K rfl rfl dX12_image_44 ?_
      refine x_iconst (pc := 45) K dX12_image_45 ?_
      refine x_zast (pc := 46) kk K (cel_self hc3.1) rfl (by omega) (by decide) rfl dX12_image_46 ?_
      refine x_v (w := (va_up (va_up v 168 (iarr E 276 (cpI a im 0 (138 * kk) 138))) 169 (barr E 2 (va_up kp kk 1)))) (up_at0).symm ?_
      refine x_iconst (pc := 47) K dX12_image_47 ?_
      refine x_iret (pc := 48) K KR (by omega) (Nat.le_of_ble_eq_true rfl) (Nat.le_of_ble_eq_true rfl) dX12_image_48 ?_
      exact ⟨rfl, 1, (cpI a im 0 (138 * kk) 138), (va_up kp kk 1), (by first | exact Or.inl ⟨(by first | rfl | omega | assumption | (simp only [Int.toNat_natCast]; omega)), (by first | rfl | omega | assumption | (simp only [Int.toNat_natCast]; omega)), (by first | rfl | omega | assumption | (simp only [Int.toNat_natCast]; omega)), (by first | rfl | omega | assumption | (simp only [Int.toNat_natCast]; omega))⟩ | exact Or.inr (Or.inl ⟨(by first | rfl | omega | assumption | (simp only [Int.toNat_natCast]; omega)), (by first | rfl | omega | assumption | (simp only [Int.toNat_natCast]; omega)), (by first | rfl | omega | assumption | (simp only [Int.toNat_natCast]; omega)), (by first | rfl | omega | assumption | (simp only [Int.toNat_natCast]; omega)), (by first | rfl | omega | assumption | (simp only [Int.toNat_natCast]; omega))⟩) | exact Or.inr (Or.inr (⟨(by first | rfl | omega | assumption | (simp only [Int.toNat_natCast]; omega)), (by first | rfl | omega | assumption | (simp only [Int.toNat_natCast]; omega)), (by first | rfl | omega | assumption | (simp only [Int.toNat_natCast]; omega)), (by first | rfl | omega | assumption | (simp only [Int.toNat_natCast]; omega)), (by first | rfl | omega | assumption | (simp only [Int.toNat_natCast]; omega))⟩))), rfl, rfl⟩
    · skip
      refine x_ldc (pc := 20) (x := (-1000002)) (-1000002) K (by decide) (by decide +kernel) dX12_image_20 ?_
      refine x_iret (pc := 22) K KR (by omega) (Nat.le_of_ble_eq_true rfl) (Nat.le_of_ble_eq_true rfl) dX12_image_22 ?_
      exact ⟨rfl, (-1000002), im, kp, (by first | exact Or.inl ⟨(by first | rfl | omega | assumption | (simp only [Int.toNat_natCast]; omega)), (by first | rfl | omega | assumption | (simp only [Int.toNat_natCast]; omega)), (by first | rfl | omega | assumption | (simp only [Int.toNat_natCast]; omega)), (by first | rfl | omega | assumption | (simp only [Int.toNat_natCast]; omega))⟩ | exact Or.inr (Or.inl ⟨(by first | rfl | omega | assumption | (simp only [Int.toNat_natCast]; omega)), (by first | rfl | omega | assumption | (simp only [Int.toNat_natCast]; omega)), (by first | rfl | omega | assumption | (simp only [Int.toNat_natCast]; omega)), (by first | rfl | omega | assumption | (simp only [Int.toNat_natCast]; omega)), (by first | rfl | omega | assumption | (simp only [Int.toNat_natCast]; omega))⟩) | exact Or.inr (Or.inr (⟨(by first | rfl | omega | assumption | (simp only [Int.toNat_natCast]; omega)), (by first | rfl | omega | assumption | (simp only [Int.toNat_natCast]; omega)), (by first | rfl | omega | assumption | (simp only [Int.toNat_natCast]; omega)), (by first | rfl | omega | assumption | (simp only [Int.toNat_natCast]; omega)), (by first | rfl | omega | assumption | (simp only [Int.toNat_natCast]; omega))⟩))), rfl, rfl⟩
  · skip
    have h_7 := bI_t h_7
    refine x_ldc (pc := 10) (x := (-1000001)) (-1000001) K (by decide) (by decide +kernel) dX12_image_10 ?_
    refine x_iret (pc := 12) K KR (by omega) (Nat.le_of_ble_eq_true rfl) (Nat.le_of_ble_eq_true rfl) dX12_image_12 ?_
    exact ⟨rfl, (-1000001), im, kp, (by first | exact Or.inl ⟨(by first | rfl | omega | assumption | (simp only [Int.toNat_natCast]; omega)), (by first | rfl | omega | assumption | (simp only [Int.toNat_natCast]; omega)), (by first | rfl | omega | assumption | (simp only [Int.toNat_natCast]; omega)), (by first | rfl | omega | assumption | (simp only [Int.toNat_natCast]; omega))⟩ | exact Or.inr (Or.inl ⟨(by first | rfl | omega | assumption | (simp only [Int.toNat_natCast]; omega)), (by first | rfl | omega | assumption | (simp only [Int.toNat_natCast]; omega)), (by first | rfl | omega | assumption | (simp only [Int.toNat_natCast]; omega)), (by first | rfl | omega | assumption | (simp only [Int.toNat_natCast]; omega)), (by first | rfl | omega | assumption | (simp only [Int.toNat_natCast]; omega))⟩) | exact Or.inr (Or.inr (⟨(by first | rfl | omega | assumption | (simp only [Int.toNat_natCast]; omega)), (by first | rfl | omega | assumption | (simp only [Int.toNat_natCast]; omega)), (by first | rfl | omega | assumption | (simp only [Int.toNat_natCast]; omega)), (by first | rfl | omega | assumption | (simp only [Int.toNat_natCast]; omega)), (by first | rfl | omega | assumption | (simp only [Int.toNat_natCast]; omega))⟩))), rfl, rfl⟩

set_option maxRecDepth 100000 in
set_option maxHeartbeats 4000000 in
theorem c_X12_restore {E : XE} {B N : Nat} {v : Nat → va_E} {F a im kp : Nat → Int} {V k : Int} (hc0 : Cel N v 161 (oM B F V)) (hc1 : Cel N v 166 (iarr E 138 a)) (hc2 : Cel N v 168 (iarr E 276 im)) (hc3 : Cel N v 169 (barr E 2 kp)) (hq0 : (-2147483648 ≤ k ∧ k ≤ 2147483647)) (hq1 : ∀ i, i < 2 → 0 ≤ kp i ∧ kp i ≤ 1) : gM yX12_restore wsX12_restore ({ frames := 1, cells := 0, slots := 0, locals := 25 }) E B N v [.ref (B + 161), .int (zI k)] (po0 N (fun ρ v' => ∃ (res : Int), ∃ (n2 : Int), ∃ (a2 : Nat → Int), ((¬ (0 ≤ k ∧ k ≤ 1) ∧ res = -1000001 ∧ n2 = F 9 ∧ a2 = a) ∨ ((0 ≤ k ∧ k ≤ 1) ∧ kp k.toNat = 0 ∧ res = -1000002 ∧ n2 = F 9 ∧ a2 = a) ∨ ((0 ≤ k ∧ k ≤ 1) ∧ kp k.toNat = 1 ∧ res = 1 ∧ n2 = 0 ∧ a2 = cpI im a (138 * k.toNat) 0 138)) ∧ ρ = some (.int (zI res)) ∧ (va_up (va_up v 161 (oM B (va_up F 9 n2) V)) 166 (iarr E 138 a2)) = v')) := by
  refine x_met (nm := "restore") (by decide +kernel) rfl (Nat.le_of_ble_eq_true rfl) rfl (fun Γ K KR hnL hnm => ?_)
  show XW Γ N v [(0, .ref (B + 161)), (1, .int (zI k))] 0 0 0 []
  refine x_v (cel_pad hc0) ?_
  refine x_v (cel_pad (cel_ne hc1 (by decide))) ?_
  refine x_iload_n (pc := 0) 1 K rfl rfl dX12_restore_0 ?_
  refine x_i2l (pc := 1) K (by omega) dX12_restore_1 ?_
  refine x_lconst (pc := 2) (0) K (by decide) dX12_restore_2 ?_
  refine x_lconst (pc := 3) (1) K (by decide) dX12_restore_3 ?_
  refine x_callS (pc := 4) (As := [.long (zL k), .long (zL 0), .long (zL 1)]) K (c_X12_in (E := E) (B := B) (N := N)    (by omega) (by omega) (by omega)) gX12_restore_X12_in rfl (na := 3) (by decide +kernel) rfl ⟨(Nat.le_of_ble_eq_true rfl), (Nat.le_of_ble_eq_true rfl)⟩ (st := []) rfl (Nat.le_of_ble_eq_true rfl) ⟨(Nat.le_of_ble_eq_true rfl), (Nat.le_of_ble_eq_true rfl)⟩ dX12_restore_4 (fun r4 N4 w4 hpo4 hN4 => ?_)
  obtain ⟨rfl, rfl, rfl⟩ := hpo4
  refine x_st (st' := [.int (zI (bI (0 ≤ k ∧ k ≤ 1)))]) rfl ?_
  have hrg4 := bI_rng (0 ≤ k ∧ k ≤ 1)
  refine x_if_ne (pc := 7) (tgt := 13) K (by omega) dX12_restore_7 (by decide) (fun h_7 => ?_) (fun h_7 => ?_)
  · skip
    have h_7 := bI_f h_7
    obtain ⟨kk, rfl⟩ : ∃ kk : Nat, k = (kk : Int) := ⟨k.toNat, by omega⟩
    have hk9 := hq1 kk (by omega)
    refine x_aload_n (pc := 13) 0 K rfl rfl dX12_restore_13 ?_
    refine x_get (pc := 14) (C := RX12) (T := TX12) (n := 26) (ci := 11) (idx := 31) (ref := "BorderBedsModel") (x := .ref (B + 169))  K (cel_ne (cel_self hc0.1) (by decide)) rfl (by decide +kernel) 12 (by decide) (by decide +kernel) rfl rfl dX12_restore_14 ?_
    refine x_iload_n (pc := 17) 1 K rfl rfl dX12_restore_17 ?_
    refine x_zald (pc := 18) kk K (cel_ne (cel_ne hc3 (by decide)) (by decide)) rfl (by omega) (by decide) dX12_restore_18 ?_
    refine x_if_ne (pc := 19) (tgt := 25) K (by omega) dX12_restore_19 (by decide) (fun h_19 => ?_) (fun h_19 => ?_)
    · skip
      refine x_aload_n (pc := 25) 0 K rfl rfl dX12_restore_25 ?_
      refine x_get (pc := 26) (C := RX12) (T := TX12) (n := 26) (ci := 11) (idx := 28) (ref := "BorderBedsModel") (x := .ref (B + 168))  K (cel_ne (cel_self hc0.1) (by decide)) rfl (by decide +kernel) 11 (by decide) (by decide +kernel) rfl rfl dX12_restore_26 ?_
      refine x_sipush (pc := 29) K (by decide) dX12_restore_29 ?_
      refine x_iload_n (pc := 32) 1 K rfl rfl dX12_restore_32 ?_
      refine x_imul (pc := 33) K dX12_restore_33 ?_
      refine x_aload_n (pc := 34) 0 K rfl rfl dX12_restore_34 ?_
      refine x_get (pc := 35) (C := RX12) (T := TX12) (n := 26) (ci := 11) (idx := 22) (ref := "BorderBedsModel") (x := .ref (B + 166))  K (cel_ne (cel_self hc0.1) (by decide)) rfl (by decide +kernel) 8 (by decide) (by decide +kernel) rfl rfl dX12_restore_35 ?_
      refine x_iconst (pc := 38) K dX12_restore_38 ?_
      refine x_callS (pc := 39) (As := [.ref (B + 168), .int (zI (138 * (kk : Int))), .ref (B + 166), .int (zI 0)]) K (c_X12_copies (E := E) (B := B) (N := N) (i := (138 * kk)) (j := 0) (by omega) rfl (cel_ne (cel_ne hc2 (by decide)) (by decide)) (cel_self hc1.1) (by omega) (by omega) (by omega)) gX12_restore_X12_copies rfl (na := 4) (by decide +kernel) rfl ⟨(Nat.le_of_ble_eq_true rfl), (Nat.le_of_ble_eq_true rfl)⟩ (st := []) rfl (Nat.le_of_ble_eq_true rfl) ⟨(Nat.le_of_ble_eq_true rfl), (Nat.le_of_ble_eq_true rfl)⟩ dX12_restore_39 (fun r39 N39 w39 hpo39 hN39 => ?_)
      obtain ⟨rfl, rfl, rfl⟩ := hpo39
      refine x_v (w := (va_up (va_up v 161 (oM B F V)) 166 (iarr E 138 (cpI im a (138 * kk) 0 138)))) (up_at0).symm ?_
      refine x_st (st' := []) rfl ?_
      refine x_aload_n (pc := 42) 0 K rfl rfl dX12_restore_42 ?_
      refine x_iconst (pc := 43) K dX12_restore_43 ?_
      refine x_put (pc := 44) (C := RX12) (T := TX12) (n := 26) (ci := 11) (idx := 190) (ref := "BorderBedsModel") (ty := .int)  K (cel_ne (cel_self hc0.1) (by decide)) rfl (by decide +kernel) tyX12 tyX12_ok nmX12 9 (by decide) (by decide +kernel) rfl rfl (by decide +kernel) rfl rfl (Nat.le_of_ble_eq_true rfl) dX12_restore_44 ?_
      refine x_v (w := (va_up (va_up v 161 (oM B (va_up F 9 0) V)) 166 (iarr E 138 (cpI im a (138 * kk) 0 138)))) (up_at1 (by decide)).symm ?_
      refine x_iconst (pc := 47) K dX12_restore_47 ?_
      refine x_iret (pc := 48) K KR (by omega) (Nat.le_of_ble_eq_true rfl) (Nat.le_of_ble_eq_true rfl) dX12_restore_48 ?_
      exact ⟨rfl, 1, 0, (cpI im a (138 * kk) 0 138), (by first | exact Or.inl ⟨(by first | rfl | omega | assumption | (simp only [Int.toNat_natCast]; omega)), (by first | rfl | omega | assumption | (simp only [Int.toNat_natCast]; omega)), (by first | rfl | omega | assumption | (simp only [Int.toNat_natCast]; omega)), (by first | rfl | omega | assumption | (simp only [Int.toNat_natCast]; omega))⟩ | exact Or.inr (Or.inl ⟨(by first | rfl | omega | assumption | (simp only [Int.toNat_natCast]; omega)), (by first | rfl | omega | assumption | (simp only [Int.toNat_natCast]; omega)), (by first | rfl | omega | assumption | (simp only [Int.toNat_natCast]; omega)), (by first | rfl | omega | assumption | (simp only [Int.toNat_natCast]; omega)), (by first | rfl | omega | assumption | (simp only [Int.toNat_natCast]; omega))⟩) | exact Or.inr (Or.inr (⟨(by first | rfl | omega | assumption | (simp only [Int.toNat_natCast]; omega)), (by first | rfl | omega | assumption | (simp only [Int.toNat_natCast]; omega)), (by first | rfl | omega | assumption | (simp only [Int.toNat_natCast]; omega)), (by first | rfl | omega | assumption | (simp only [Int.toNat_natCast]; omega)), (by first | rfl | omega | assumption | (simp only [Int.toNat_natCast]; omega))⟩))), rfl, rfl⟩
    · skip
      refine x_ldc (pc := 22) (x := (-1000002)) (-1000002) K (by decide) (by decide +kernel) dX12_restore_22 ?_
      refine x_iret (pc := 24) K KR (by omega) (Nat.le_of_ble_eq_true rfl) (Nat.le_of_ble_eq_true rfl) dX12_restore_24 ?_
      exact ⟨rfl, (-1000002), (F 9), a, (by first | exact Or.inl ⟨(by first | rfl | omega | assumption | (simp only [Int.toNat_natCast]; omega)), (by first | rfl | omega | assumption | (simp only [Int.toNat_natCast]; omega)), (by first | rfl | omega | assumption | (simp only [Int.toNat_natCast]; omega)), (by first | rfl | omega | assumption | (simp only [Int.toNat_natCast]; omega))⟩ | exact Or.inr (Or.inl ⟨(by first | rfl | omega | assumption | (simp only [Int.toNat_natCast]; omega)), (by first | rfl | omega | assumption | (simp only [Int.toNat_natCast]; omega)), (by first | rfl | omega | assumption | (simp only [Int.toNat_natCast]; omega)), (by first | rfl | omega | assumption | (simp only [Int.toNat_natCast]; omega)), (by first | rfl | omega | assumption | (simp only [Int.toNat_natCast]; omega))⟩) | exact Or.inr (Or.inr (⟨(by first | rfl | omega | assumption | (simp only [Int.toNat_natCast]; omega)), (by first | rfl | omega | assumption | (simp only [Int.toNat_natCast]; omega)), (by first | rfl | omega | assumption | (simp only [Int.toNat_natCast]; omega)), (by first | rfl | omega | assumption | (simp only [Int.toNat_natCast]; omega)), (by first | rfl | omega | assumption | (simp only [Int.toNat_natCast]; omega))⟩))), rfl, rfl⟩
  · skip
    have h_7 := bI_t h_7
    refine x_ldc (pc := 10) (x := (-1000001)) (-1000001) K (by decide) (by decide +kernel) dX12_restore_10 ?_
    refine x_iret (pc := 12) K KR (by omega) (Nat.le_of_ble_eq_true rfl) (Nat.le_of_ble_eq_true rfl) dX12_restore_12 ?_
    exact ⟨rfl, (-1000001), (F 9), a, (by first | exact Or.inl ⟨(by first | rfl | omega | assumption | (simp only [Int.toNat_natCast]; omega)), (by first | rfl | omega | assumption | (simp only [Int.toNat_natCast]; omega)), (by first | rfl | omega | assumption | (simp only [Int.toNat_natCast]; omega)), (by first | rfl | omega | assumption | (simp only [Int.toNat_natCast]; omega))⟩ | exact Or.inr (Or.inl ⟨(by first | rfl | omega | assumption | (simp only [Int.toNat_natCast]; omega)), (by first | rfl | omega | assumption | (simp only [Int.toNat_natCast]; omega)), (by first | rfl | omega | assumption | (simp only [Int.toNat_natCast]; omega)), (by first | rfl | omega | assumption | (simp only [Int.toNat_natCast]; omega)), (by first | rfl | omega | assumption | (simp only [Int.toNat_natCast]; omega))⟩) | exact Or.inr (Or.inr (⟨(by first | rfl | omega | assumption | (simp only [Int.toNat_natCast]; omega)), (by first | rfl | omega | assumption | (simp only [Int.toNat_natCast]; omega)), (by first | rfl | omega | assumption | (simp only [Int.toNat_natCast]; omega)), (by first | rfl | omega | assumption | (simp only [Int.toNat_natCast]; omega)), (by first | rfl | omega | assumption | (simp only [Int.toNat_natCast]; omega))⟩))), rfl, rfl⟩
