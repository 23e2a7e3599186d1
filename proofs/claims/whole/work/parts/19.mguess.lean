theorem dX12_held_0 : decode cX12_held 0 = .ok (.aload_n 0, 1) := by decide +kernel
theorem dX12_held_1 : decode cX12_held 1 = .ok (.getfield 186, 3) := by decide +kernel
theorem dX12_held_4 : decode cX12_held 4 = .ok (.ifCond .ne 6, 3) := by decide +kernel
theorem dX12_held_10 : decode cX12_held 10 = .ok (.iload_n 1, 1) := by decide +kernel
theorem dX12_held_11 : decode cX12_held 11 = .ok (.i2l, 1) := by decide +kernel
theorem dX12_held_12 : decode cX12_held 12 = .ok (.lconst 0, 1) := by decide +kernel
theorem dX12_held_13 : decode cX12_held 13 = .ok (.lconst 1, 1) := by decide +kernel
set_option maxRecDepth 20000 in
theorem ggX12_held_X12_in : GoodIn wsX12_held wsX12_in := goodIn_r _ [11] (by decide +kernel) (by decide +kernel)
set_option maxRecDepth 20000 in
theorem gX12_held_X12_in : GoodIn wsX12_held (va_wsS RX12 54 yX12_in wsX12_in) := goodIn_app (goodIn_of _ (by decide +kernel)) ggX12_held_X12_in
theorem dX12_held_14 : decode cX12_held 14 = .ok (.invokestatic 54, 3) := by decide +kernel
theorem dX12_held_17 : decode cX12_held 17 = .ok (.ifCond .eq 20, 3) := by decide +kernel
theorem dX12_held_37 : decode cX12_held 37 = .ok (.ldc 64, 2) := by decide +kernel
theorem dX12_held_39 : decode cX12_held 39 = .ok (.ireturn, 1) := by decide +kernel
theorem dX12_held_20 : decode cX12_held 20 = .ok (.iload_n 2, 1) := by decide +kernel
theorem dX12_held_21 : decode cX12_held 21 = .ok (.i2l, 1) := by decide +kernel
theorem dX12_held_22 : decode cX12_held 22 = .ok (.lconst 0, 1) := by decide +kernel
theorem dX12_held_23 : decode cX12_held 23 = .ok (.ldc2_w 249, 3) := by decide +kernel
theorem dX12_held_26 : decode cX12_held 26 = .ok (.invokestatic 54, 3) := by decide +kernel
theorem dX12_held_29 : decode cX12_held 29 = .ok (.ifCond .eq 8, 3) := by decide +kernel
theorem dX12_held_32 : decode cX12_held 32 = .ok (.iload_n 3, 1) := by decide +kernel
theorem dX12_held_33 : decode cX12_held 33 = .ok (.iconst (-1), 1) := by decide +kernel
theorem dX12_held_34 : decode cX12_held 34 = .ok (.if_icmp .ge 6, 3) := by decide +kernel
theorem dX12_held_40 : decode cX12_held 40 = .ok (.iconst 0, 1) := by decide +kernel
theorem dX12_held_41 : decode cX12_held 41 = .ok (.istore 4, 2) := by decide +kernel
theorem dX12_held_43 : decode cX12_held 43 = .ok (.iconst 0, 1) := by decide +kernel
theorem dX12_held_44 : decode cX12_held 44 = .ok (.istore 5, 2) := by decide +kernel
theorem dX12_held_46 : decode cX12_held 46 = .ok (.iload 5, 2) := by decide +kernel
theorem dX12_held_48 : decode cX12_held 48 = .ok (.bipush 48, 2) := by decide +kernel
theorem dX12_held_50 : decode cX12_held 50 = .ok (.if_icmp .ge 141, 3) := by decide +kernel
theorem dX12_held_191 : decode cX12_held 191 = .ok (.iload_n 3, 1) := by decide +kernel
theorem dX12_held_192 : decode cX12_held 192 = .ok (.ifCond .ge 8, 3) := by decide +kernel
theorem dX12_held_200 : decode cX12_held 200 = .ok (.ldc 239, 2) := by decide +kernel
theorem dX12_held_202 : decode cX12_held 202 = .ok (.ireturn, 1) := by decide +kernel
theorem dX12_held_195 : decode cX12_held 195 = .ok (.iload 4, 2) := by decide +kernel
theorem dX12_held_197 : decode cX12_held 197 = .ok (.goto 5, 3) := by decide +kernel
theorem dX12_held_53 : decode cX12_held 53 = .ok (.iconst 0, 1) := by decide +kernel
theorem dX12_held_54 : decode cX12_held 54 = .ok (.istore 6, 2) := by decide +kernel
theorem dX12_held_56 : decode cX12_held 56 = .ok (.iconst 0, 1) := by decide +kernel
theorem dX12_held_57 : decode cX12_held 57 = .ok (.istore 7, 2) := by decide +kernel
theorem dX12_held_59 : decode cX12_held 59 = .ok (.iload 7, 2) := by decide +kernel
theorem dX12_held_61 : decode cX12_held 61 = .ok (.aload_n 0, 1) := by decide +kernel
theorem dX12_held_62 : decode cX12_held 62 = .ok (.getfield 22, 3) := by decide +kernel
theorem dX12_held_65 : decode cX12_held 65 = .ok (.iconst 4, 1) := by decide +kernel
theorem dX12_held_66 : decode cX12_held 66 = .ok (.iaload, 1) := by decide +kernel
theorem dX12_held_67 : decode cX12_held 67 = .ok (.if_icmp .ge 89, 3) := by decide +kernel
theorem dX12_held_156 : decode cX12_held 156 = .ok (.iload 6, 2) := by decide +kernel
theorem dX12_held_158 : decode cX12_held 158 = .ok (.ifCond .eq 12, 3) := by decide +kernel
theorem dX12_held_170 : decode cX12_held 170 = .ok (.iload 4, 2) := by decide +kernel
theorem dX12_held_172 : decode cX12_held 172 = .ok (.iload 6, 2) := by decide +kernel
theorem dX12_held_174 : decode cX12_held 174 = .ok (.ifCond .eq 7, 3) := by decide +kernel
theorem dX12_held_181 : decode cX12_held 181 = .ok (.iconst 0, 1) := by decide +kernel
theorem dX12_held_182 : decode cX12_held 182 = .ok (.iadd, 1) := by decide +kernel
theorem dX12_held_183 : decode cX12_held 183 = .ok (.istore 4, 2) := by decide +kernel
theorem dX12_held_185 : decode cX12_held 185 = .ok (.iinc 5 1, 3) := by decide +kernel
theorem dX12_held_188 : decode cX12_held 188 = .ok (.goto (-142), 3) := by decide +kernel
theorem dX12_held_177 : decode cX12_held 177 = .ok (.iconst 1, 1) := by decide +kernel
theorem dX12_held_178 : decode cX12_held 178 = .ok (.goto 4, 3) := by decide +kernel
theorem dX12_held_161 : decode cX12_held 161 = .ok (.iload 4, 2) := by decide +kernel
theorem dX12_held_163 : decode cX12_held 163 = .ok (.iload_n 3, 1) := by decide +kernel
theorem dX12_held_164 : decode cX12_held 164 = .ok (.if_icmp .ne 6, 3) := by decide +kernel
theorem dX12_held_167 : decode cX12_held 167 = .ok (.iload 5, 2) := by decide +kernel
theorem dX12_held_169 : decode cX12_held 169 = .ok (.ireturn, 1) := by decide +kernel
theorem dX12_held_70 : decode cX12_held 70 = .ok (.aload_n 0, 1) := by decide +kernel
theorem dX12_held_71 : decode cX12_held 71 = .ok (.getfield 22, 3) := by decide +kernel
theorem dX12_held_74 : decode cX12_held 74 = .ok (.bipush 10, 2) := by decide +kernel
theorem dX12_held_76 : decode cX12_held 76 = .ok (.iload 7, 2) := by decide +kernel
theorem dX12_held_78 : decode cX12_held 78 = .ok (.iadd, 1) := by decide +kernel
theorem dX12_held_79 : decode cX12_held 79 = .ok (.iaload, 1) := by decide +kernel
theorem dX12_held_80 : decode cX12_held 80 = .ok (.iload_n 1, 1) := by decide +kernel
theorem dX12_held_81 : decode cX12_held 81 = .ok (.if_icmp .eq 69, 3) := by decide +kernel
theorem dX12_held_150 : decode cX12_held 150 = .ok (.iinc 7 1, 3) := by decide +kernel
theorem dX12_held_153 : decode cX12_held 153 = .ok (.goto (-94), 3) := by decide +kernel
theorem dX12_held_84 : decode cX12_held 84 = .ok (.aload_n 0, 1) := by decide +kernel
theorem dX12_held_85 : decode cX12_held 85 = .ok (.getfield 22, 3) := by decide +kernel
theorem dX12_held_88 : decode cX12_held 88 = .ok (.iload 7, 2) := by decide +kernel
theorem dX12_held_90 : decode cX12_held 90 = .ok (.iload 5, 2) := by decide +kernel
set_option maxRecDepth 20000 in
theorem ggX12_held_X12_mayCross : GoodIn wsX12_held wsX12_mayCross := goodIn_r _ [14, 15, 16, 10, 17, 18, 19, 20] (by decide +kernel) (by decide +kernel)
set_option maxRecDepth 20000 in
theorem gX12_held_X12_mayCross : GoodIn wsX12_held (va_wsS RX12 223 yX12_mayCross wsX12_mayCross) := goodIn_app (goodIn_of _ (by decide +kernel)) ggX12_held_X12_mayCross
theorem dX12_held_92 : decode cX12_held 92 = .ok (.invokestatic 223, 3) := by decide +kernel
theorem dX12_held_95 : decode cX12_held 95 = .ok (.ifCond .ne 6, 3) := by decide +kernel
theorem dX12_held_101 : decode cX12_held 101 = .ok (.aload_n 0, 1) := by decide +kernel
theorem dX12_held_102 : decode cX12_held 102 = .ok (.getfield 22, 3) := by decide +kernel
theorem dX12_held_105 : decode cX12_held 105 = .ok (.iconst 0, 1) := by decide +kernel
theorem dX12_held_106 : decode cX12_held 106 = .ok (.aload_n 0, 1) := by decide +kernel
theorem dX12_held_107 : decode cX12_held 107 = .ok (.getfield 44, 3) := by decide +kernel
theorem dX12_held_110 : decode cX12_held 110 = .ok (.iconst 0, 1) := by decide +kernel
set_option maxRecDepth 20000 in
theorem ggX12_held_X12_copies : GoodIn wsX12_held wsX12_copies := goodIn_r _ [23] (by decide +kernel) (by decide +kernel)
set_option maxRecDepth 20000 in
theorem gX12_held_X12_copies : GoodIn wsX12_held (va_wsS RX12 193 yX12_copies wsX12_copies) := goodIn_app (goodIn_of _ (by decide +kernel)) ggX12_held_X12_copies
theorem dX12_held_111 : decode cX12_held 111 = .ok (.invokestatic 193, 3) := by decide +kernel
theorem dX12_held_114 : decode cX12_held 114 = .ok (.aload_n 0, 1) := by decide +kernel
theorem dX12_held_115 : decode cX12_held 115 = .ok (.getfield 44, 3) := by decide +kernel
theorem dX12_held_118 : decode cX12_held 118 = .ok (.iload 7, 2) := by decide +kernel
theorem dX12_held_120 : decode cX12_held 120 = .ok (.iload 5, 2) := by decide +kernel
set_option maxRecDepth 20000 in
theorem ggX12_held_X12_crosses : GoodIn wsX12_held wsX12_crosses := goodIn_r _ [26, 27, 28, 10, 29, 30, 31, 32] (by decide +kernel) (by decide +kernel)
set_option maxRecDepth 20000 in
theorem gX12_held_X12_crosses : GoodIn wsX12_held (va_wsS RX12 231 yX12_crosses wsX12_crosses) := goodIn_app (goodIn_of _ (by decide +kernel)) ggX12_held_X12_crosses
theorem dX12_held_122 : decode cX12_held 122 = .ok (.invokestatic 231, 3) := by decide +kernel
theorem dX12_held_125 : decode cX12_held 125 = .ok (.iload 6, 2) := by decide +kernel
theorem dX12_held_127 : decode cX12_held 127 = .ok (.ifCond .ne 16, 3) := by decide +kernel
theorem dX12_held_143 : decode cX12_held 143 = .ok (.iconst 1, 1) := by decide +kernel
theorem dX12_held_144 : decode cX12_held 144 = .ok (.goto 4, 3) := by decide +kernel
theorem dX12_held_148 : decode cX12_held 148 = .ok (.istore 6, 2) := by decide +kernel
theorem dX12_held_130 : decode cX12_held 130 = .ok (.aload_n 0, 1) := by decide +kernel
theorem dX12_held_131 : decode cX12_held 131 = .ok (.getfield 44, 3) := by decide +kernel
theorem dX12_held_134 : decode cX12_held 134 = .ok (.iload_n 1, 1) := by decide +kernel
theorem dX12_held_135 : decode cX12_held 135 = .ok (.iconst 1, 1) := by decide +kernel
set_option maxRecDepth 20000 in
theorem ggX12_held_X12_sum : GoodIn wsX12_held wsX12_sum := goodIn_r _ [35, 18, 19, 10, 20] (by decide +kernel) (by decide +kernel)
set_option maxRecDepth 20000 in
theorem gX12_held_X12_sum : GoodIn wsX12_held (va_wsS RX12 211 yX12_sum wsX12_sum) := goodIn_app (goodIn_of _ (by decide +kernel)) ggX12_held_X12_sum
theorem dX12_held_136 : decode cX12_held 136 = .ok (.invokestatic 211, 3) := by decide +kernel
theorem dX12_held_139 : decode cX12_held 139 = .ok (.iload_n 2, 1) := by decide +kernel
theorem dX12_held_140 : decode cX12_held 140 = .ok (.if_icmp .ge 7, 3) := by decide +kernel
theorem dX12_held_147 : decode cX12_held 147 = .ok (.iconst 0, 1) := by decide +kernel
theorem dX12_held_98 : decode cX12_held 98 = .ok (.goto 52, 3) := by decide +kernel
theorem dX12_held_7 : decode cX12_held 7 = .ok (.ldc 227, 2) := by decide +kernel
theorem dX12_held_9 : decode cX12_held 9 = .ok (.ireturn, 1) := by decide +kernel
theorem dX12_answer_0 : decode cX12_answer 0 = .ok (.aload_n 0, 1) := by decide +kernel
theorem dX12_answer_1 : decode cX12_answer 1 = .ok (.iload_n 1, 1) := by decide +kernel
theorem dX12_answer_2 : decode cX12_answer 2 = .ok (.iload_n 2, 1) := by decide +kernel
set_option maxRecDepth 20000 in
theorem ggX12_answer_X12_areTwo : GoodIn wsX12_answer wsX12_areTwo := goodIn_r _ [10, 11, 12, 13, 9, 14, 2, 15, 16, 17, 50, 51, 52, 53, 54, 55, 56, 57, 58, 59, 60, 61, 62, 63, 64, 65, 66, 67, 68, 69, 70, 71, 72, 73, 74, 75] (by decide +kernel) (by decide +kernel)
set_option maxRecDepth 20000 in
theorem gX12_answer_X12_areTwo : GoodIn wsX12_answer (wsV RX12 246 RX12 yX12_areTwo wsX12_areTwo) := goodIn_app (goodIn_of _ (by decide +kernel)) ggX12_answer_X12_areTwo
theorem dX12_answer_3 : decode cX12_answer 3 = .ok (.invokevirtual 246, 3) := by decide +kernel
theorem dX12_answer_6 : decode cX12_answer 6 = .ok (.ifCond .eq 13, 3) := by decide +kernel
theorem dX12_answer_19 : decode cX12_answer 19 = .ok (.ldc 64, 2) := by decide +kernel
theorem dX12_answer_21 : decode cX12_answer 21 = .ok (.ireturn, 1) := by decide +kernel
theorem dX12_answer_9 : decode cX12_answer 9 = .ok (.iload_n 3, 1) := by decide +kernel
theorem dX12_answer_10 : decode cX12_answer 10 = .ok (.i2l, 1) := by decide +kernel
theorem dX12_answer_11 : decode cX12_answer 11 = .ok (.lconst 0, 1) := by decide +kernel
theorem dX12_answer_12 : decode cX12_answer 12 = .ok (.lconst 1, 1) := by decide +kernel
set_option maxRecDepth 20000 in
theorem ggX12_answer_X12_in : GoodIn wsX12_answer wsX12_in := goodIn_r _ [17] (by decide +kernel) (by decide +kernel)
set_option maxRecDepth 20000 in
theorem gX12_answer_X12_in : GoodIn wsX12_answer (va_wsS RX12 54 yX12_in wsX12_in) := goodIn_app (goodIn_of _ (by decide +kernel)) ggX12_answer_X12_in
theorem dX12_answer_13 : decode cX12_answer 13 = .ok (.invokestatic 54, 3) := by decide +kernel
theorem dX12_answer_16 : decode cX12_answer 16 = .ok (.ifCond .ne 6, 3) := by decide +kernel
theorem dX12_answer_22 : decode cX12_answer 22 = .ok (.aload_n 0, 1) := by decide +kernel
theorem dX12_answer_23 : decode cX12_answer 23 = .ok (.aload_n 0, 1) := by decide +kernel
theorem dX12_answer_24 : decode cX12_answer 24 = .ok (.getfield 22, 3) := by decide +kernel
theorem dX12_answer_27 : decode cX12_answer 27 = .ok (.iload_n 1, 1) := by decide +kernel
set_option maxRecDepth 20000 in
theorem ggX12_answer_X12_bestOn : GoodIn wsX12_answer wsX12_bestOn := goodIn_r _ [21, 4, 22, 5, 23, 24, 9, 25, 26, 27, 28, 29, 30, 31, 32, 33, 34, 35, 36, 37, 38, 39, 40, 41, 42, 43, 44, 45, 46, 47, 48, 49, 50, 51, 52, 53, 54, 55, 56, 57, 58, 59, 60, 61, 62, 63, 64, 65, 66, 67, 68, 69, 70, 71, 72, 73, 74, 75] (by decide +kernel) (by decide +kernel)
set_option maxRecDepth 20000 in
theorem gX12_answer_X12_bestOn : GoodIn wsX12_answer (wsV RX12 243 RX12 yX12_bestOn wsX12_bestOn) := goodIn_app (goodIn_of _ (by decide +kernel)) ggX12_answer_X12_bestOn
theorem dX12_answer_28 : decode cX12_answer 28 = .ok (.invokevirtual 243, 3) := by decide +kernel
theorem dX12_answer_31 : decode cX12_answer 31 = .ok (.istore 4, 2) := by decide +kernel
theorem dX12_answer_33 : decode cX12_answer 33 = .ok (.aload_n 0, 1) := by decide +kernel
theorem dX12_answer_34 : decode cX12_answer 34 = .ok (.getfield 22, 3) := by decide +kernel
theorem dX12_answer_37 : decode cX12_answer 37 = .ok (.iconst 0, 1) := by decide +kernel
theorem dX12_answer_38 : decode cX12_answer 38 = .ok (.aload_n 0, 1) := by decide +kernel
theorem dX12_answer_39 : decode cX12_answer 39 = .ok (.getfield 41, 3) := by decide +kernel
theorem dX12_answer_42 : decode cX12_answer 42 = .ok (.iconst 0, 1) := by decide +kernel
set_option maxRecDepth 20000 in
theorem ggX12_answer_X12_copies : GoodIn wsX12_answer wsX12_copies := goodIn_r _ [34] (by decide +kernel) (by decide +kernel)
set_option maxRecDepth 20000 in
theorem gX12_answer_X12_copies : GoodIn wsX12_answer (va_wsS RX12 193 yX12_copies wsX12_copies) := goodIn_app (goodIn_of _ (by decide +kernel)) ggX12_answer_X12_copies
theorem dX12_answer_43 : decode cX12_answer 43 = .ok (.invokestatic 193, 3) := by decide +kernel
theorem dX12_answer_46 : decode cX12_answer 46 = .ok (.iload 4, 2) := by decide +kernel
theorem dX12_answer_48 : decode cX12_answer 48 = .ok (.ldc 239, 2) := by decide +kernel
theorem dX12_answer_50 : decode cX12_answer 50 = .ok (.if_icmp .eq 13, 3) := by decide +kernel
theorem dX12_answer_63 : decode cX12_answer 63 = .ok (.aload_n 0, 1) := by decide +kernel
theorem dX12_answer_64 : decode cX12_answer 64 = .ok (.aload_n 0, 1) := by decide +kernel
theorem dX12_answer_65 : decode cX12_answer 65 = .ok (.getfield 41, 3) := by decide +kernel
theorem dX12_answer_68 : decode cX12_answer 68 = .ok (.iload_n 2, 1) := by decide +kernel
theorem dX12_answer_69 : decode cX12_answer 69 = .ok (.invokevirtual 243, 3) := by decide +kernel
theorem dX12_answer_72 : decode cX12_answer 72 = .ok (.istore 5, 2) := by decide +kernel
theorem dX12_answer_74 : decode cX12_answer 74 = .ok (.iload 5, 2) := by decide +kernel
theorem dX12_answer_76 : decode cX12_answer 76 = .ok (.ldc 239, 2) := by decide +kernel
theorem dX12_answer_78 : decode cX12_answer 78 = .ok (.if_icmp .eq 7, 3) := by decide +kernel
theorem dX12_answer_85 : decode cX12_answer 85 = .ok (.iload 5, 2) := by decide +kernel
theorem dX12_answer_87 : decode cX12_answer 87 = .ok (.goto 7, 3) := by decide +kernel
theorem dX12_answer_94 : decode cX12_answer 94 = .ok (.ireturn, 1) := by decide +kernel
theorem dX12_answer_81 : decode cX12_answer 81 = .ok (.iload_n 3, 1) := by decide +kernel
theorem dX12_answer_82 : decode cX12_answer 82 = .ok (.ifCond .ne 8, 3) := by decide +kernel
theorem dX12_answer_90 : decode cX12_answer 90 = .ok (.aload_n 0, 1) := by decide +kernel
theorem dX12_answer_91 : decode cX12_answer 91 = .ok (.getfield 240, 3) := by decide +kernel
theorem dX12_answer_53 : decode cX12_answer 53 = .ok (.aload_n 0, 1) := by decide +kernel
theorem dX12_answer_54 : decode cX12_answer 54 = .ok (.getfield 41, 3) := by decide +kernel
theorem dX12_answer_57 : decode cX12_answer 57 = .ok (.iload_n 1, 1) := by decide +kernel
theorem dX12_answer_58 : decode cX12_answer 58 = .ok (.iload 4, 2) := by decide +kernel
set_option maxRecDepth 20000 in
theorem ggX12_answer_X12_crosses : GoodIn wsX12_answer wsX12_crosses := goodIn_r _ [37, 38, 39, 9, 40, 41, 42, 43] (by decide +kernel) (by decide +kernel)
set_option maxRecDepth 20000 in
theorem gX12_answer_X12_crosses : GoodIn wsX12_answer (va_wsS RX12 231 yX12_crosses wsX12_crosses) := goodIn_app (goodIn_of _ (by decide +kernel)) ggX12_answer_X12_crosses
theorem dX12_answer_60 : decode cX12_answer 60 = .ok (.invokestatic 231, 3) := by decide +kernel
theorem dX12_game_0 : decode cX12_game 0 = .ok (.aload_n 0, 1) := by decide +kernel
theorem dX12_game_1 : decode cX12_game 1 = .ok (.iload_n 1, 1) := by decide +kernel
theorem dX12_game_2 : decode cX12_game 2 = .ok (.iload_n 2, 1) := by decide +kernel
set_option maxRecDepth 20000 in
theorem ggX12_game_X12_areTwo : GoodIn wsX12_game wsX12_areTwo := goodIn_r _ [10, 11, 12, 13, 9, 14, 3, 15, 16, 17, 50, 51, 52, 53, 54, 55, 56, 57, 58, 59, 60, 61, 62, 63, 64, 65, 66, 67, 68, 69, 70, 71, 72, 73, 74, 75] (by decide +kernel) (by decide +kernel)
set_option maxRecDepth 20000 in
theorem gX12_game_X12_areTwo : GoodIn wsX12_game (wsV RX12 246 RX12 yX12_areTwo wsX12_areTwo) := goodIn_app (goodIn_of _ (by decide +kernel)) ggX12_game_X12_areTwo
theorem dX12_game_3 : decode cX12_game 3 = .ok (.invokevirtual 246, 3) := by decide +kernel
theorem dX12_game_6 : decode cX12_game 6 = .ok (.ifCond .eq 13, 3) := by decide +kernel
theorem dX12_game_19 : decode cX12_game 19 = .ok (.ldc 64, 2) := by decide +kernel
theorem dX12_game_21 : decode cX12_game 21 = .ok (.ireturn, 1) := by decide +kernel
theorem dX12_game_9 : decode cX12_game 9 = .ok (.iload_n 3, 1) := by decide +kernel
theorem dX12_game_10 : decode cX12_game 10 = .ok (.i2l, 1) := by decide +kernel
theorem dX12_game_11 : decode cX12_game 11 = .ok (.lconst 0, 1) := by decide +kernel
theorem dX12_game_12 : decode cX12_game 12 = .ok (.lconst 1, 1) := by decide +kernel
set_option maxRecDepth 20000 in
theorem ggX12_game_X12_in : GoodIn wsX12_game wsX12_in := goodIn_r _ [17] (by decide +kernel) (by decide +kernel)
set_option maxRecDepth 20000 in
theorem gX12_game_X12_in : GoodIn wsX12_game (va_wsS RX12 54 yX12_in wsX12_in) := goodIn_app (goodIn_of _ (by decide +kernel)) ggX12_game_X12_in
theorem dX12_game_13 : decode cX12_game 13 = .ok (.invokestatic 54, 3) := by decide +kernel
theorem dX12_game_16 : decode cX12_game 16 = .ok (.ifCond .ne 6, 3) := by decide +kernel
theorem dX12_game_22 : decode cX12_game 22 = .ok (.ldc 239, 2) := by decide +kernel
theorem dX12_game_24 : decode cX12_game 24 = .ok (.istore 4, 2) := by decide +kernel
theorem dX12_game_26 : decode cX12_game 26 = .ok (.iconst 0, 1) := by decide +kernel
theorem dX12_game_27 : decode cX12_game 27 = .ok (.istore 5, 2) := by decide +kernel
theorem dX12_game_29 : decode cX12_game 29 = .ok (.iconst (-1), 1) := by decide +kernel
theorem dX12_game_30 : decode cX12_game 30 = .ok (.istore 6, 2) := by decide +kernel
theorem dX12_game_32 : decode cX12_game 32 = .ok (.iload 6, 2) := by decide +kernel
theorem dX12_game_34 : decode cX12_game 34 = .ok (.bipush 48, 2) := by decide +kernel
theorem dX12_game_36 : decode cX12_game 36 = .ok (.if_icmp .ge 153, 3) := by decide +kernel
theorem dX12_game_189 : decode cX12_game 189 = .ok (.iload_n 3, 1) := by decide +kernel
theorem dX12_game_190 : decode cX12_game 190 = .ok (.ifCond .ne 8, 3) := by decide +kernel
theorem dX12_game_198 : decode cX12_game 198 = .ok (.iload 5, 2) := by decide +kernel
theorem dX12_game_200 : decode cX12_game 200 = .ok (.ireturn, 1) := by decide +kernel
theorem dX12_game_193 : decode cX12_game 193 = .ok (.iload 4, 2) := by decide +kernel
theorem dX12_game_195 : decode cX12_game 195 = .ok (.goto 5, 3) := by decide +kernel
theorem dX12_game_39 : decode cX12_game 39 = .ok (.iload 6, 2) := by decide +kernel
theorem dX12_game_41 : decode cX12_game 41 = .ok (.ifCond .lt 19, 3) := by decide +kernel
theorem dX12_game_60 : decode cX12_game 60 = .ok (.aload_n 0, 1) := by decide +kernel
theorem dX12_game_61 : decode cX12_game 61 = .ok (.getfield 22, 3) := by decide +kernel
theorem dX12_game_64 : decode cX12_game 64 = .ok (.iconst 0, 1) := by decide +kernel
theorem dX12_game_65 : decode cX12_game 65 = .ok (.aload_n 0, 1) := by decide +kernel
theorem dX12_game_66 : decode cX12_game 66 = .ok (.getfield 41, 3) := by decide +kernel
theorem dX12_game_69 : decode cX12_game 69 = .ok (.iconst 0, 1) := by decide +kernel
set_option maxRecDepth 20000 in
theorem ggX12_game_X12_copies : GoodIn wsX12_game wsX12_copies := goodIn_r _ [29] (by decide +kernel) (by decide +kernel)
set_option maxRecDepth 20000 in
theorem gX12_game_X12_copies : GoodIn wsX12_game (va_wsS RX12 193 yX12_copies wsX12_copies) := goodIn_app (goodIn_of _ (by decide +kernel)) ggX12_game_X12_copies
theorem dX12_game_70 : decode cX12_game 70 = .ok (.invokestatic 193, 3) := by decide +kernel
theorem dX12_game_73 : decode cX12_game 73 = .ok (.iload 6, 2) := by decide +kernel
theorem dX12_game_75 : decode cX12_game 75 = .ok (.ifCond .lt 13, 3) := by decide +kernel
theorem dX12_game_88 : decode cX12_game 88 = .ok (.aload_n 0, 1) := by decide +kernel
theorem dX12_game_89 : decode cX12_game 89 = .ok (.getfield 41, 3) := by decide +kernel
theorem dX12_game_92 : decode cX12_game 92 = .ok (.aload_n 0, 1) := by decide +kernel
theorem dX12_game_93 : decode cX12_game 93 = .ok (.getfield 22, 3) := by decide +kernel
theorem dX12_game_96 : decode cX12_game 96 = .ok (.bipush 10, 2) := by decide +kernel
theorem dX12_game_98 : decode cX12_game 98 = .ok (.iload_n 2, 1) := by decide +kernel
theorem dX12_game_99 : decode cX12_game 99 = .ok (.iadd, 1) := by decide +kernel
theorem dX12_game_100 : decode cX12_game 100 = .ok (.iaload, 1) := by decide +kernel
set_option maxRecDepth 20000 in
theorem ggX12_game_X12_lead : GoodIn wsX12_game wsX12_lead := goodIn_r _ [41, 42, 43, 9, 44, 24, 25, 26] (by decide +kernel) (by decide +kernel)
set_option maxRecDepth 20000 in
theorem gX12_game_X12_lead : GoodIn wsX12_game (va_wsS RX12 236 yX12_lead wsX12_lead) := goodIn_app (goodIn_of _ (by decide +kernel)) ggX12_game_X12_lead
theorem dX12_game_101 : decode cX12_game 101 = .ok (.invokestatic 236, 3) := by decide +kernel
theorem dX12_game_104 : decode cX12_game 104 = .ok (.istore 7, 2) := by decide +kernel
theorem dX12_game_106 : decode cX12_game 106 = .ok (.aload_n 0, 1) := by decide +kernel
theorem dX12_game_107 : decode cX12_game 107 = .ok (.aload_n 0, 1) := by decide +kernel
theorem dX12_game_108 : decode cX12_game 108 = .ok (.getfield 41, 3) := by decide +kernel
theorem dX12_game_111 : decode cX12_game 111 = .ok (.iload_n 2, 1) := by decide +kernel
set_option maxRecDepth 20000 in
theorem ggX12_game_X12_bestOn : GoodIn wsX12_game wsX12_bestOn := goodIn_r _ [48, 2, 49, 5, 18, 19, 9, 20, 21, 22, 23, 24, 25, 26, 27, 28, 29, 30, 31, 32, 33, 34, 35, 36, 37, 38, 39, 40, 41, 42, 43, 44, 50, 51, 52, 53, 54, 55, 56, 57, 58, 59, 60, 61, 62, 63, 64, 65, 66, 67, 68, 69, 70, 71, 72, 73, 74, 75] (by decide +kernel) (by decide +kernel)
set_option maxRecDepth 20000 in
theorem gX12_game_X12_bestOn : GoodIn wsX12_game (wsV RX12 243 RX12 yX12_bestOn wsX12_bestOn) := goodIn_app (goodIn_of _ (by decide +kernel)) ggX12_game_X12_bestOn
theorem dX12_game_112 : decode cX12_game 112 = .ok (.invokevirtual 243, 3) := by decide +kernel
theorem dX12_game_115 : decode cX12_game 115 = .ok (.istore 8, 2) := by decide +kernel
theorem dX12_game_117 : decode cX12_game 117 = .ok (.iload 8, 2) := by decide +kernel
theorem dX12_game_119 : decode cX12_game 119 = .ok (.ldc 239, 2) := by decide +kernel
theorem dX12_game_121 : decode cX12_game 121 = .ok (.if_icmp .eq 22, 3) := by decide +kernel
theorem dX12_game_143 : decode cX12_game 143 = .ok (.aload_n 0, 1) := by decide +kernel
theorem dX12_game_144 : decode cX12_game 144 = .ok (.getfield 41, 3) := by decide +kernel
theorem dX12_game_147 : decode cX12_game 147 = .ok (.aload_n 0, 1) := by decide +kernel
theorem dX12_game_148 : decode cX12_game 148 = .ok (.getfield 22, 3) := by decide +kernel
theorem dX12_game_151 : decode cX12_game 151 = .ok (.bipush 10, 2) := by decide +kernel
theorem dX12_game_153 : decode cX12_game 153 = .ok (.iload_n 1, 1) := by decide +kernel
theorem dX12_game_154 : decode cX12_game 154 = .ok (.iadd, 1) := by decide +kernel
theorem dX12_game_155 : decode cX12_game 155 = .ok (.iaload, 1) := by decide +kernel
theorem dX12_game_156 : decode cX12_game 156 = .ok (.invokestatic 236, 3) := by decide +kernel
theorem dX12_game_159 : decode cX12_game 159 = .ok (.istore 9, 2) := by decide +kernel
theorem dX12_game_161 : decode cX12_game 161 = .ok (.iload 4, 2) := by decide +kernel
theorem dX12_game_163 : decode cX12_game 163 = .ok (.ldc 239, 2) := by decide +kernel
theorem dX12_game_165 : decode cX12_game 165 = .ok (.if_icmp .eq 10, 3) := by decide +kernel
theorem dX12_game_175 : decode cX12_game 175 = .ok (.iload 6, 2) := by decide +kernel
theorem dX12_game_177 : decode cX12_game 177 = .ok (.istore 4, 2) := by decide +kernel
theorem dX12_game_179 : decode cX12_game 179 = .ok (.iload 9, 2) := by decide +kernel
theorem dX12_game_181 : decode cX12_game 181 = .ok (.istore 5, 2) := by decide +kernel
theorem dX12_game_183 : decode cX12_game 183 = .ok (.iinc 6 1, 3) := by decide +kernel
theorem dX12_game_186 : decode cX12_game 186 = .ok (.goto (-154), 3) := by decide +kernel
theorem dX12_game_168 : decode cX12_game 168 = .ok (.iload 9, 2) := by decide +kernel
theorem dX12_game_170 : decode cX12_game 170 = .ok (.iload 5, 2) := by decide +kernel
theorem dX12_game_172 : decode cX12_game 172 = .ok (.if_icmp .le 11, 3) := by decide +kernel
theorem dX12_game_124 : decode cX12_game 124 = .ok (.aload_n 0, 1) := by decide +kernel
theorem dX12_game_125 : decode cX12_game 125 = .ok (.getfield 240, 3) := by decide +kernel
theorem dX12_game_128 : decode cX12_game 128 = .ok (.iload 7, 2) := by decide +kernel
theorem dX12_game_130 : decode cX12_game 130 = .ok (.if_icmp .le 13, 3) := by decide +kernel
theorem dX12_game_133 : decode cX12_game 133 = .ok (.aload_n 0, 1) := by decide +kernel
theorem dX12_game_134 : decode cX12_game 134 = .ok (.getfield 41, 3) := by decide +kernel
theorem dX12_game_137 : decode cX12_game 137 = .ok (.iload_n 2, 1) := by decide +kernel
theorem dX12_game_138 : decode cX12_game 138 = .ok (.iload 8, 2) := by decide +kernel
set_option maxRecDepth 20000 in
theorem ggX12_game_X12_crosses : GoodIn wsX12_game wsX12_crosses := goodIn_r _ [32, 33, 34, 9, 35, 36, 37, 38] (by decide +kernel) (by decide +kernel)
set_option maxRecDepth 20000 in
theorem gX12_game_X12_crosses : GoodIn wsX12_game (va_wsS RX12 231 yX12_crosses wsX12_crosses) := goodIn_app (goodIn_of _ (by decide +kernel)) ggX12_game_X12_crosses
theorem dX12_game_140 : decode cX12_game 140 = .ok (.invokestatic 231, 3) := by decide +kernel
theorem dX12_game_44 : decode cX12_game 44 = .ok (.aload_n 0, 1) := by decide +kernel
theorem dX12_game_45 : decode cX12_game 45 = .ok (.getfield 22, 3) := by decide +kernel
theorem dX12_game_48 : decode cX12_game 48 = .ok (.iload_n 1, 1) := by decide +kernel
theorem dX12_game_49 : decode cX12_game 49 = .ok (.iload 6, 2) := by decide +kernel
set_option maxRecDepth 20000 in
theorem ggX12_game_X12_mayCross : GoodIn wsX12_game wsX12_mayCross := goodIn_r _ [20, 21, 22, 9, 23, 24, 25, 26] (by decide +kernel) (by decide +kernel)
set_option maxRecDepth 20000 in
theorem gX12_game_X12_mayCross : GoodIn wsX12_game (va_wsS RX12 223 yX12_mayCross wsX12_mayCross) := goodIn_app (goodIn_of _ (by decide +kernel)) ggX12_game_X12_mayCross
theorem dX12_game_51 : decode cX12_game 51 = .ok (.invokestatic 223, 3) := by decide +kernel
theorem dX12_game_54 : decode cX12_game 54 = .ok (.ifCond .ne 6, 3) := by decide +kernel
theorem dX12_game_78 : decode cX12_game 78 = .ok (.aload_n 0, 1) := by decide +kernel
theorem dX12_game_79 : decode cX12_game 79 = .ok (.getfield 41, 3) := by decide +kernel
theorem dX12_game_82 : decode cX12_game 82 = .ok (.iload_n 1, 1) := by decide +kernel
theorem dX12_game_83 : decode cX12_game 83 = .ok (.iload 6, 2) := by decide +kernel
theorem dX12_game_85 : decode cX12_game 85 = .ok (.invokestatic 231, 3) := by decide +kernel
theorem dX12_game_57 : decode cX12_game 57 = .ok (.goto 126, 3) := by decide +kernel
set_option maxRecDepth 100000 in
set_option maxHeartbeats 4000000 in
theorem c_X12_held {E : XE} {B N : Nat} {v : Nat → va_E} {F a p t : Nat → Int} {V ld n w : Int} {l : Cor} (hc0 : Cel N v 161 (oM B F V)) (hc1 : Cel N v 166 (iarr E 138 a)) (hc2 : Cel N v 173 (iarr E 138 t)) (hq0 : PR a p l) (hq1 : POk p) (hq2 : CorOk l) (hq3 : (l.length : Int) ≤ p 2) (hq4 : (-2147483648 ≤ ld ∧ ld ≤ 2147483647)) (hq5 : (-2147483648 ≤ n ∧ n ≤ 2147483647)) (hq6 : (-2147483648 ≤ w ∧ w ≤ 2147483647)) (hq7 : 0 ≤ F 7 ∧ F 7 ≤ 1) : gM yX12_held wsX12_held ({ frames := 3, cells := 0, slots := 0, locals := 70 }) E B N v [.ref (B + 161), .int (zI ld), .int (zI n), .int (zI w)] (po0 N (fun ρ v' => ∃ (res : Int), ∃ (t2 : Nat → Int), ((F 7 = 0 ∧ res = -1000002) ∨ (F 7 = 1 ∧ ¬ (0 ≤ ld ∧ ld ≤ 1 ∧ 0 ≤ n ∧ n ≤ 999 ∧ -1 ≤ w) ∧ res = -1000001) ∨ (F 7 = 1 ∧ (0 ≤ ld ∧ ld ≤ 1 ∧ 0 ≤ n ∧ n ≤ 999 ∧ -1 ≤ w) ∧ res = heldA p l ld n w (p 4).toNat)) ∧ ρ = some (.int (zI res)) ∧ (va_up v 173 (iarr E 138 t2)) = v')) := by
  refine x_met (nm := "held") (by decide +kernel) rfl (Nat.le_of_ble_eq_true rfl) rfl (fun Γ K KR hnL hnm => ?_)
  show XW Γ N v [(0, .ref (B + 161)), (1, .int (zI ld)), (2, .int (zI n)), (3, .int (zI w))] 0 0 0 []
  have h4 := hq0.1 4 (by omega)
  have hp4 := hq1.2.2.2.2.1
  have hkp := hq1.2.2.1
  refine x_v (cel_pad hc2) ?_
  refine x_aload_n (pc := 0) 0 K rfl rfl dX12_held_0 ?_
  refine x_get (pc := 1) (C := RX12) (T := TX12) (n := 26) (ci := 11) (idx := 186) (ref := "BorderBedsModel") (x := .int (zI (F 7)))  K (cel_ne hc0 (by decide)) rfl (by decide +kernel) 7 (by decide) (by decide +kernel) rfl rfl dX12_held_1 ?_
  refine x_if_ne (pc := 4) (tgt := 10) K (by omega) dX12_held_4 (by decide) (fun h_4 => ?_) (fun h_4 => ?_)
  · skip
    refine x_iload_n (pc := 10) 1 K rfl rfl dX12_held_10 ?_
    refine x_i2l (pc := 11) K (by omega) dX12_held_11 ?_
    refine x_lconst (pc := 12) (0) K (by decide) dX12_held_12 ?_
    refine x_lconst (pc := 13) (1) K (by decide) dX12_held_13 ?_
    refine x_callS (pc := 14) (As := [.long (zL ld), .long (zL 0), .long (zL 1)]) K (c_X12_in (E := E) (B := B) (N := N)    (by omega) (by omega) (by omega)) gX12_held_X12_in rfl (na := 3) (by decide +kernel) rfl ⟨(Nat.le_of_ble_eq_true rfl), (Nat.le_of_ble_eq_true rfl)⟩ (st := []) rfl (Nat.le_of_ble_eq_true rfl) ⟨(Nat.le_of_ble_eq_true rfl), (Nat.le_of_ble_eq_true rfl)⟩ dX12_held_14 (fun r14 N14 w14 hpo14 hN14 => ?_)
    obtain ⟨rfl, rfl, rfl⟩ := hpo14
    refine x_st (st' := [.int (zI (bI (0 ≤ ld ∧ ld ≤ 1)))]) rfl ?_
    have hrg14 := bI_rng (0 ≤ ld ∧ ld ≤ 1)
    refine x_if_eq (pc := 17) (tgt := 37) K (by omega) dX12_held_17 (by decide) (fun h_17 => ?_) (fun h_17 => ?_)
    · skip
      have h_17 := bI_t h_17
      refine x_ldc (pc := 37) (x := (-1000001)) (-1000001) K (by decide) (by decide +kernel) dX12_held_37 ?_
      refine x_iret (pc := 39) K KR (by omega) (Nat.le_of_ble_eq_true rfl) (Nat.le_of_ble_eq_true rfl) dX12_held_39 ?_
      exact ⟨rfl, (-1000001), t, (by first | exact Or.inl ⟨by omega, rfl⟩ | exact Or.inr (Or.inl ⟨by omega, by omega, rfl⟩) | exact Or.inr (Or.inr ⟨by omega, by omega, heldA_yes hi46_2 ⟨by omega, by omega⟩ (by omega)⟩) | exact Or.inr (Or.inr ⟨by omega, by omega, by rw [← heldA_no hi46_2]; first | (rw [if_pos (by omega)]; exact hi46_1) | rw [if_neg (by omega)]⟩)), rfl, rfl⟩
    · skip
      have h_17 := bI_f h_17
      refine x_iload_n (pc := 20) 2 K rfl rfl dX12_held_20 ?_
      refine x_i2l (pc := 21) K (by omega) dX12_held_21 ?_
      refine x_lconst (pc := 22) (0) K (by decide) dX12_held_22 ?_
      refine x_ldc2 (pc := 23) (x := (999)) (999) K (by decide) (by decide +kernel) dX12_held_23 ?_
      refine x_callS (pc := 26) (As := [.long (zL n), .long (zL 0), .long (zL 999)]) K (c_X12_in (E := E) (B := B) (N := N)    (by omega) (by omega) (by omega)) gX12_held_X12_in rfl (na := 3) (by decide +kernel) rfl ⟨(Nat.le_of_ble_eq_true rfl), (Nat.le_of_ble_eq_true rfl)⟩ (st := []) rfl (Nat.le_of_ble_eq_true rfl) ⟨(Nat.le_of_ble_eq_true rfl), (Nat.le_of_ble_eq_true rfl)⟩ dX12_held_26 (fun r26 N26 w26 hpo26 hN26 => ?_)
      obtain ⟨rfl, rfl, rfl⟩ := hpo26
      refine x_st (st' := [.int (zI (bI (0 ≤ n ∧ n ≤ 999)))]) rfl ?_
      have hrg26 := bI_rng (0 ≤ n ∧ n ≤ 999)
      refine x_if_eq (pc := 29) (tgt := 37) K (by omega) dX12_held_29 (by decide) (fun h_29 => ?_) (fun h_29 => ?_)
      · skip
        have h_29 := bI_t h_29
        refine x_ldc (pc := 37) (x := (-1000001)) (-1000001) K (by decide) (by decide +kernel) dX12_held_37 ?_
        refine x_iret (pc := 39) K KR (by omega) (Nat.le_of_ble_eq_true rfl) (Nat.le_of_ble_eq_true rfl) dX12_held_39 ?_
        exact ⟨rfl, (-1000001), t, (by first | exact Or.inl ⟨by omega, rfl⟩ | exact Or.inr (Or.inl ⟨by omega, by omega, rfl⟩) | exact Or.inr (Or.inr ⟨by omega, by omega, heldA_yes hi46_2 ⟨by omega, by omega⟩ (by omega)⟩) | exact Or.inr (Or.inr ⟨by omega, by omega, by rw [← heldA_no hi46_2]; first | (rw [if_pos (by omega)]; exact hi46_1) | rw [if_neg (by omega)]⟩)), rfl, rfl⟩
      · skip
        have h_29 := bI_f h_29
        refine x_iload_n (pc := 32) 3 K rfl rfl dX12_held_32 ?_
        refine x_iconst (pc := 33) K dX12_held_33 ?_
        refine x_icmp_ge (pc := 34) (tgt := 40) K (by omega) (by decide) dX12_held_34 (by decide) (fun h_34 => ?_) (fun h_34 => ?_)
        · skip
          refine x_iconst (pc := 40) K dX12_held_40 ?_
          refine x_istore (pc := 41) K (L' := [(4, .int (zI 0)), (0, .ref (B + 161)), (1, .int (zI ld)), (2, .int (zI n)), (3, .int (zI w))]) hnL (by decide) rfl dX12_held_41 ?_
          refine x_iconst (pc := 43) K dX12_held_43 ?_
          refine x_istore (pc := 44) K (L' := [(5, .int (zI 0)), (4, .int (zI 0)), (0, .ref (B + 161)), (1, .int (zI ld)), (2, .int (zI n)), (3, .int (zI w))]) hnL (by decide) rfl dX12_held_44 ?_
          have LOOP46 : ∀ (n_46 : Nat) (z : Int) (k : Nat) (x1 : Nat → Int), (k ≤ 48) → (z = heldC p l ld n (p 4).toNat k) → (heldW p l ld n (p 4).toNat w k = none) → (48 - k) < n_46 → XW Γ N (va_up v 173 (iarr E 138 x1)) [(0, .ref (B + 161)), (1, .int (zI ld)), (2, .int (zI n)), (3, .int (zI w)), (4, .int (zI z)), (5, .int (zI (k : Int)))] 0 0 46 [] := by
            intro n_46
            induction n_46 with
            | zero =>
              intro z k x1 hi46_0 hi46_1 hi46_2 hm_46
              exfalso; omega
            | succ n_46 ih46 =>
              intro z k x1 hi46_0 hi46_1 hi46_2 hm_46
              have hz46 := heldC_rng p l ld n (p 4).toNat k
              rw [← hi46_1] at hz46
              refine x_iload (pc := 46) 5 K rfl dX12_held_46 ?_
              refine x_bipush (pc := 48) K (by decide) dX12_held_48 ?_
              refine x_icmp_ge (pc := 50) (tgt := 191) K (by omega) (by decide) dX12_held_50 (by decide) (fun h_50 => ?_) (fun h_50 => ?_)
              · skip
                have hk48 : k = 48 := by omega
                rw [hk48] at hi46_1 hi46_2
                refine x_iload_n (pc := 191) 3 K rfl rfl dX12_held_191 ?_
                refine x_if_ge (pc := 192) (tgt := 200) K (by omega) dX12_held_192 (by decide) (fun h_192 => ?_) (fun h_192 => ?_)
                · skip
                  refine x_ldc (pc := 200) (x := (-1000000)) (-1000000) K (by decide) (by decide +kernel) dX12_held_200 ?_
                  refine x_iret (pc := 202) K KR (by omega) (Nat.le_of_ble_eq_true rfl) (Nat.le_of_ble_eq_true rfl) dX12_held_202 ?_
                  exact ⟨rfl, (-1000000), x1, (by first | exact Or.inl ⟨by omega, rfl⟩ | exact Or.inr (Or.inl ⟨by omega, by omega, rfl⟩) | exact Or.inr (Or.inr ⟨by omega, by omega, heldA_yes hi46_2 ⟨by omega, by omega⟩ (by omega)⟩) | exact Or.inr (Or.inr ⟨by omega, by omega, by rw [← heldA_no hi46_2]; first | (rw [if_pos (by omega)]; exact hi46_1) | rw [if_neg (by omega)]⟩)), rfl, rfl⟩
                · skip
                  refine x_iload (pc := 195) 4 K rfl dX12_held_195 ?_
                  refine x_goto (pc := 197) (tgt := 202) K dX12_held_197 (by decide) ?_
                  refine x_iret (pc := 202) K KR (by omega) (Nat.le_of_ble_eq_true rfl) (Nat.le_of_ble_eq_true rfl) dX12_held_202 ?_
                  exact ⟨rfl, z, x1, (by first | exact Or.inl ⟨by omega, rfl⟩ | exact Or.inr (Or.inl ⟨by omega, by omega, rfl⟩) | exact Or.inr (Or.inr ⟨by omega, by omega, heldA_yes hi46_2 ⟨by omega, by omega⟩ (by omega)⟩) | exact Or.inr (Or.inr ⟨by omega, by omega, by rw [← heldA_no hi46_2]; first | (rw [if_pos (by omega)]; exact hi46_1) | rw [if_neg (by omega)]⟩)), rfl, rfl⟩
              · skip
                refine x_iconst (pc := 53) K dX12_held_53 ?_
                refine x_istore (pc := 54) K (L' := [(6, .int (zI 0)), (0, .ref (B + 161)), (1, .int (zI ld)), (2, .int (zI n)), (3, .int (zI w)), (4, .int (zI z)), (5, .int (zI (k : Int)))]) hnL (by decide) rfl dX12_held_54 ?_
                refine x_iconst (pc := 56) K dX12_held_56 ?_
                refine x_istore (pc := 57) K (L' := [(7, .int (zI 0)), (6, .int (zI 0)), (0, .ref (B + 161)), (1, .int (zI ld)), (2, .int (zI n)), (3, .int (zI w)), (4, .int (zI z)), (5, .int (zI (k : Int)))]) hnL (by decide) rfl dX12_held_57 ?_
                have LOOP59 : ∀ (n_59 : Nat) (y : Int) (j : Nat) (x2 : Nat → Int), (j ≤ (p 4).toNat) → (y = heldI p l ld n j k) → ((p 4).toNat - j) < n_59 → XW Γ N (va_up v 173 (iarr E 138 x2)) [(0, .ref (B + 161)), (1, .int (zI ld)), (2, .int (zI n)), (3, .int (zI w)), (4, .int (zI z)), (5, .int (zI (k : Int))), (6, .int (zI y)), (7, .int (zI (j : Int)))] 0 0 59 [] := by
                  intro n_59
                  induction n_59 with
                  | zero =>
                    intro y j x2 hi59_0 hi59_1 hm_59
                    exfalso; omega
                  | succ n_59 ih59 =>
                    intro y j x2 hi59_0 hi59_1 hm_59
                    have hy59 := heldI_rng p l ld n j k
                    rw [← hi59_1] at hy59
                    refine x_iload (pc := 59) 7 K rfl dX12_held_59 ?_
                    refine x_aload_n (pc := 61) 0 K rfl rfl dX12_held_61 ?_
                    refine x_get (pc := 62) (C := RX12) (T := TX12) (n := 26) (ci := 11) (idx := 22) (ref := "BorderBedsModel") (x := .ref (B + 166))  K (cel_ne hc0 (by decide)) rfl (by decide +kernel) 8 (by decide) (by decide +kernel) rfl rfl dX12_held_62 ?_
                    refine x_iconst (pc := 65) K dX12_held_65 ?_
                    refine x_iald (pc := 66) 4 K (cel_ne hc1 (by decide)) rfl (by omega) (by decide) dX12_held_66 ?_
                    refine x_icmp_ge (pc := 67) (tgt := 156) K (by omega) (by omega) dX12_held_67 (by decide) (fun h_67 => ?_) (fun h_67 => ?_)
                    · skip
                      have hjm : j = (p 4).toNat := by omega
                      rw [hjm] at hi59_1
                      refine x_iload (pc := 156) 6 K rfl dX12_held_156 ?_
                      refine x_if_eq (pc := 158) (tgt := 170) K (by omega) dX12_held_158 (by decide) (fun h_158 => ?_) (fun h_158 => ?_)
                      · skip
                        refine x_iload (pc := 170) 4 K rfl dX12_held_170 ?_
                        refine x_iload (pc := 172) 6 K rfl dX12_held_172 ?_
                        refine x_if_eq (pc := 174) (tgt := 181) K (by omega) dX12_held_174 (by decide) (fun h_174 => ?_) (fun h_174 => ?_)
                        · skip
                          refine x_iconst (pc := 181) K dX12_held_181 ?_
                          refine x_iadd (pc := 182) K dX12_held_182 ?_
                          refine x_nm (fun z1 hz1 => ?_)
                          refine x_istore (pc := 183) K (L' := [(4, .int (zI z1)), (0, .ref (B + 161)), (1, .int (zI ld)), (2, .int (zI n)), (3, .int (zI w)), (5, .int (zI (k : Int))), (6, .int (zI y)), (7, .int (zI (j : Int)))]) hnL (by decide) rfl dX12_held_183 ?_
                          refine x_iinc (pc := 185) (L' := [(5, .int (zI ((k : Int) + 1))), (4, .int (zI z1)), (0, .ref (B + 161)), (1, .int (zI ld)), (2, .int (zI n)), (3, .int (zI w)), (6, .int (zI y)), (7, .int (zI (j : Int)))]) 5 K hnL rfl (by decide) rfl dX12_held_185 ?_
                          refine x_goto (pc := 188) (tgt := 46) K dX12_held_188 (by decide) ?_
                          refine x_sub (L' := [(0, .ref (B + 161)), (1, .int (zI ld)), (2, .int (zI n)), (3, .int (zI w)), (4, .int (zI z1)), (5, .int (zI ((k : Int) + 1)))]) [2, 3, 4, 5, 1, 0] rfl ?_
                          exact ih46 z1 (k + 1) x2 (by omega) (by show _ = heldC p l ld n (p 4).toNat k + heldI p l ld n (p 4).toNat k; omega) (by exact heldW_no hi46_2 (by omega)) (by omega)
                        · skip
                          refine x_iconst (pc := 177) K dX12_held_177 ?_
                          refine x_goto (pc := 178) (tgt := 182) K dX12_held_178 (by decide) ?_
                          refine x_iadd (pc := 182) K dX12_held_182 ?_
                          refine x_nm (fun z2 hz2 => ?_)
                          refine x_istore (pc := 183) K (L' := [(4, .int (zI z2)), (0, .ref (B + 161)), (1, .int (zI ld)), (2, .int (zI n)), (3, .int (zI w)), (5, .int (zI (k : Int))), (6, .int (zI y)), (7, .int (zI (j : Int)))]) hnL (by decide) rfl dX12_held_183 ?_
                          refine x_iinc (pc := 185) (L' := [(5, .int (zI ((k : Int) + 1))), (4, .int (zI z2)), (0, .ref (B + 161)), (1, .int (zI ld)), (2, .int (zI n)), (3, .int (zI w)), (6, .int (zI y)), (7, .int (zI (j : Int)))]) 5 K hnL rfl (by decide) rfl dX12_held_185 ?_
                          refine x_goto (pc := 188) (tgt := 46) K dX12_held_188 (by decide) ?_
                          refine x_sub (L' := [(0, .ref (B + 161)), (1, .int (zI ld)), (2, .int (zI n)), (3, .int (zI w)), (4, .int (zI z2)), (5, .int (zI ((k : Int) + 1)))]) [2, 3, 4, 5, 1, 0] rfl ?_
                          exact ih46 z2 (k + 1) x2 (by omega) (by show _ = heldC p l ld n (p 4).toNat k + heldI p l ld n (p 4).toNat k; omega) (by exact heldW_no hi46_2 (by omega)) (by omega)
                      · skip
                        refine x_iload (pc := 161) 4 K rfl dX12_held_161 ?_
                        refine x_iload_n (pc := 163) 3 K rfl rfl dX12_held_163 ?_
                        refine x_icmp_ne (pc := 164) (tgt := 170) K (by omega) (by omega) dX12_held_164 (by decide) (fun h_164 => ?_) (fun h_164 => ?_)
                        · skip
                          refine x_iload (pc := 170) 4 K rfl dX12_held_170 ?_
                          refine x_iload (pc := 172) 6 K rfl dX12_held_172 ?_
                          refine x_if_eq (pc := 174) (tgt := 181) K (by omega) dX12_held_174 (by decide) (fun h_174 => ?_) (fun h_174 => ?_)
                          · skip
                            refine x_iconst (pc := 181) K dX12_held_181 ?_
                            refine x_iadd (pc := 182) K dX12_held_182 ?_
                            refine x_nm (fun z3 hz3 => ?_)
                            refine x_istore (pc := 183) K (L' := [(4, .int (zI z3)), (0, .ref (B + 161)), (1, .int (zI ld)), (2, .int (zI n)), (3, .int (zI w)), (5, .int (zI (k : Int))), (6, .int (zI y)), (7, .int (zI (j : Int)))]) hnL (by decide) rfl dX12_held_183 ?_
                            refine x_iinc (pc := 185) (L' := [(5, .int (zI ((k : Int) + 1))), (4, .int (zI z3)), (0, .ref (B + 161)), (1, .int (zI ld)), (2, .int (zI n)), (3, .int (zI w)), (6, .int (zI y)), (7, .int (zI (j : Int)))]) 5 K hnL rfl (by decide) rfl dX12_held_185 ?_
                            refine x_goto (pc := 188) (tgt := 46) K dX12_held_188 (by decide) ?_
                            refine x_sub (L' := [(0, .ref (B + 161)), (1, .int (zI ld)), (2, .int (zI n)), (3, .int (zI w)), (4, .int (zI z3)), (5, .int (zI ((k : Int) + 1)))]) [2, 3, 4, 5, 1, 0] rfl ?_
                            exact ih46 z3 (k + 1) x2 (by omega) (by show _ = heldC p l ld n (p 4).toNat k + heldI p l ld n (p 4).toNat k; omega) (by exact heldW_no hi46_2 (by omega)) (by omega)
                          · skip
                            refine x_iconst (pc := 177) K dX12_held_177 ?_
                            refine x_goto (pc := 178) (tgt := 182) K dX12_held_178 (by decide) ?_
                            refine x_iadd (pc := 182) K dX12_held_182 ?_
                            refine x_nm (fun z4 hz4 => ?_)
                            refine x_istore (pc := 183) K (L' := [(4, .int (zI z4)), (0, .ref (B + 161)), (1, .int (zI ld)), (2, .int (zI n)), (3, .int (zI w)), (5, .int (zI (k : Int))), (6, .int (zI y)), (7, .int (zI (j : Int)))]) hnL (by decide) rfl dX12_held_183 ?_
                            refine x_iinc (pc := 185) (L' := [(5, .int (zI ((k : Int) + 1))), (4, .int (zI z4)), (0, .ref (B + 161)), (1, .int (zI ld)), (2, .int (zI n)), (3, .int (zI w)), (6, .int (zI y)), (7, .int (zI (j : Int)))]) 5 K hnL rfl (by decide) rfl dX12_held_185 ?_
                            refine x_goto (pc := 188) (tgt := 46) K dX12_held_188 (by decide) ?_
                            refine x_sub (L' := [(0, .ref (B + 161)), (1, .int (zI ld)), (2, .int (zI n)), (3, .int (zI w)), (4, .int (zI z4)), (5, .int (zI ((k : Int) + 1)))]) [2, 3, 4, 5, 1, 0] rfl ?_
                            exact ih46 z4 (k + 1) x2 (by omega) (by show _ = heldC p l ld n (p 4).toNat k + heldI p l ld n (p 4).toNat k; omega) (by exact heldW_no hi46_2 (by omega)) (by omega)
                        · skip
                          refine x_iload (pc := 167) 5 K rfl dX12_held_167 ?_
                          refine x_iret (pc := 169) K KR (by omega) (Nat.le_of_ble_eq_true rfl) (Nat.le_of_ble_eq_true rfl) dX12_held_169 ?_
                          exact ⟨rfl, (k : Int), x2, (by first | exact Or.inl ⟨by omega, rfl⟩ | exact Or.inr (Or.inl ⟨by omega, by omega, rfl⟩) | exact Or.inr (Or.inr ⟨by omega, by omega, heldA_yes hi46_2 ⟨by omega, by omega⟩ (by omega)⟩) | exact Or.inr (Or.inr ⟨by omega, by omega, by rw [← heldA_no hi46_2]; first | (rw [if_pos (by omega)]; exact hi46_1) | rw [if_neg (by omega)]⟩)), rfl, rfl⟩
                    · skip
                      have e79 := hq0.1 (10 + j) (by omega)
                      have b79 := (hq1.2.2.2.2.2.1 j (by omega)).2.1
                      refine x_aload_n (pc := 70) 0 K rfl rfl dX12_held_70 ?_
                      refine x_get (pc := 71) (C := RX12) (T := TX12) (n := 26) (ci := 11) (idx := 22) (ref := "BorderBedsModel") (x := .ref (B + 166))  K (cel_ne hc0 (by decide)) rfl (by decide +kernel) 8 (by decide) (by decide +kernel) rfl rfl dX12_held_71 ?_
                      refine x_bipush (pc := 74) K (by decide) dX12_held_74 ?_
                      refine x_iload (pc := 76) 7 K rfl dX12_held_76 ?_
                      refine x_iadd (pc := 78) K dX12_held_78 ?_
                      refine x_iald (pc := 79) (10 + j) K (cel_ne hc1 (by decide)) (by omega) (by omega) (by decide) dX12_held_79 ?_
                      refine x_iload_n (pc := 80) 1 K rfl rfl dX12_held_80 ?_
                      refine x_icmp_eq (pc := 81) (tgt := 150) K (by omega) (by omega) dX12_held_81 (by decide) (fun h_81 => ?_) (fun h_81 => ?_)
                      · skip
                        refine x_iinc (pc := 150) (L' := [(7, .int (zI ((j : Int) + 1))), (0, .ref (B + 161)), (1, .int (zI ld)), (2, .int (zI n)), (3, .int (zI w)), (4, .int (zI z)), (5, .int (zI (k : Int))), (6, .int (zI y))]) 7 K hnL rfl (by decide) rfl dX12_held_150 ?_
                        refine x_goto (pc := 153) (tgt := 59) K dX12_held_153 (by decide) ?_
                        refine x_sub (L' := [(0, .ref (B + 161)), (1, .int (zI ld)), (2, .int (zI n)), (3, .int (zI w)), (4, .int (zI z)), (5, .int (zI (k : Int))), (6, .int (zI y)), (7, .int (zI ((j : Int) + 1)))]) [1, 2, 3, 4, 5, 6, 7, 0] rfl ?_
                        exact ih59 y (j + 1) x2 (by omega) (by first | (rw [heldI_skip (Or.inl (by omega))]; exact hi59_1) | (rw [heldI_skip (Or.inr hmay)]; exact hi59_1) | (rw [← heldI_step (by omega) hmay hi59_1]; first | rw [if_pos (by omega)] | rw [if_neg (by omega)])) (by omega)
                      · skip
                        refine x_aload_n (pc := 84) 0 K rfl rfl dX12_held_84 ?_
                        refine x_get (pc := 85) (C := RX12) (T := TX12) (n := 26) (ci := 11) (idx := 22) (ref := "BorderBedsModel") (x := .ref (B + 166))  K (cel_ne hc0 (by decide)) rfl (by decide +kernel) 8 (by decide) (by decide +kernel) rfl rfl dX12_held_85 ?_
                        refine x_iload (pc := 88) 7 K rfl dX12_held_88 ?_
                        refine x_iload (pc := 90) 5 K rfl dX12_held_90 ?_
                        refine x_callS (pc := 92) (As := [.ref (B + 166), .int (zI (j : Int)), .int (zI (k : Int))]) K (c_X12_mayCross (E := E) (B := B) (N := N) (p := p) (l := l) (who := j) (cell := k) rfl rfl (cel_ne hc1 (by decide)) hq0 hq1 hq2 (by omega) (by omega) (by omega)) gX12_held_X12_mayCross rfl (na := 3) (by decide +kernel) rfl ⟨(Nat.le_of_ble_eq_true rfl), (Nat.le_of_ble_eq_true rfl)⟩ (st := []) rfl (Nat.le_of_ble_eq_true rfl) ⟨(Nat.le_of_ble_eq_true rfl), (Nat.le_of_ble_eq_true rfl)⟩ dX12_held_92 (fun r92 N92 w92 hpo92 hN92 => ?_)
                        obtain ⟨rfl, rfl, rfl⟩ := hpo92
                        refine x_st (st' := [.int (zI (mayI p l j k))]) rfl ?_
                        have hrg92 := mayI_rng p l j k
                        refine x_if_ne (pc := 95) (tgt := 101) K (by omega) dX12_held_95 (by decide) (fun h_95 => ?_) (fun h_95 => ?_)
                        · skip
                          have h_95 := mayI_t h_95
                          have hmay := mayI_1 h_95
                          have hok := crossA_ok (kind := p (5 + j)) (keeps := p 2) hq2 (show k ≤ 47 by omega)
                          have hcl := crossA_len (kind := p (5 + j)) (cell := k) hq3 hkp
                          have hpr := cpI_PR (g := x2) (PR_0 hq0) (by omega)
                          refine x_aload_n (pc := 101) 0 K rfl rfl dX12_held_101 ?_
                          refine x_get (pc := 102) (C := RX12) (T := TX12) (n := 26) (ci := 11) (idx := 22) (ref := "BorderBedsModel") (x := .ref (B + 166))  K (cel_ne hc0 (by decide)) rfl (by decide +kernel) 8 (by decide) (by decide +kernel) rfl rfl dX12_held_102 ?_
                          refine x_iconst (pc := 105) K dX12_held_105 ?_
                          refine x_aload_n (pc := 106) 0 K rfl rfl dX12_held_106 ?_
                          refine x_get (pc := 107) (C := RX12) (T := TX12) (n := 26) (ci := 11) (idx := 44) (ref := "BorderBedsModel") (x := .ref (B + 173))  K (cel_ne hc0 (by decide)) rfl (by decide +kernel) 24 (by decide) (by decide +kernel) rfl rfl dX12_held_107 ?_
                          refine x_iconst (pc := 110) K dX12_held_110 ?_
                          refine x_callS (pc := 111) (As := [.ref (B + 166), .int (zI 0), .ref (B + 173), .int (zI 0)]) K (c_X12_copies (E := E) (B := B) (N := N) (i := 0) (j := 0) rfl rfl (cel_ne hc1 (by decide)) (cel_self hc2.1) (by omega) (by omega) (by omega)) gX12_held_X12_copies rfl (na := 4) (by decide +kernel) rfl ⟨(Nat.le_of_ble_eq_true rfl), (Nat.le_of_ble_eq_true rfl)⟩ (st := []) rfl (Nat.le_of_ble_eq_true rfl) ⟨(Nat.le_of_ble_eq_true rfl), (Nat.le_of_ble_eq_true rfl)⟩ dX12_held_111 (fun r111 N111 w111 hpo111 hN111 => ?_)
                          obtain ⟨rfl, rfl, rfl⟩ := hpo111
                          refine x_v (w := (va_up v 173 (iarr E 138 (cpI a x2 0 0 138)))) (up_at0).symm ?_
                          refine x_st (st' := []) rfl ?_
                          refine x_aload_n (pc := 114) 0 K rfl rfl dX12_held_114 ?_
                          refine x_get (pc := 115) (C := RX12) (T := TX12) (n := 26) (ci := 11) (idx := 44) (ref := "BorderBedsModel") (x := .ref (B + 173))  K (cel_ne hc0 (by decide)) rfl (by decide +kernel) 24 (by decide) (by decide +kernel) rfl rfl dX12_held_115 ?_
                          refine x_iload (pc := 118) 7 K rfl dX12_held_118 ?_
                          refine x_iload (pc := 120) 5 K rfl dX12_held_120 ?_
                          refine x_callS (pc := 122) (As := [.ref (B + 173), .int (zI (j : Int)), .int (zI (k : Int))]) K (c_X12_crosses (E := E) (B := B) (N := N) (p := p) (l := l) (who := j) (cell := k) rfl rfl (cel_self hc2.1) hpr hq1 hq2 (by omega) (by omega) (by omega)) gX12_held_X12_crosses rfl (na := 3) (by decide +kernel) rfl ⟨(Nat.le_of_ble_eq_true rfl), (Nat.le_of_ble_eq_true rfl)⟩ (st := []) rfl (Nat.le_of_ble_eq_true rfl) ⟨(Nat.le_of_ble_eq_true rfl), (Nat.le_of_ble_eq_true rfl)⟩ dX12_held_122 (fun r122 N122 w122 hpo122 hN122 => ?_)
                          obtain ⟨rfl, g_122, hp122_0, rfl, rfl⟩ := hpo122
                          refine x_v (w := (va_up v 173 (iarr E 138 g_122))) (up_at0).symm ?_
                          refine x_st (st' := []) rfl ?_
                          refine x_iload (pc := 125) 6 K rfl dX12_held_125 ?_
                          refine x_if_ne (pc := 127) (tgt := 143) K (by omega) dX12_held_127 (by decide) (fun h_127 => ?_) (fun h_127 => ?_)
                          · skip
                            refine x_iconst (pc := 143) K dX12_held_143 ?_
                            refine x_goto (pc := 144) (tgt := 148) K dX12_held_144 (by decide) ?_
                            refine x_istore (pc := 148) K (L' := [(6, .int (zI 1)), (0, .ref (B + 161)), (1, .int (zI ld)), (2, .int (zI n)), (3, .int (zI w)), (4, .int (zI z)), (5, .int (zI (k : Int))), (7, .int (zI (j : Int)))]) hnL (by decide) rfl dX12_held_148 ?_
                            refine x_iinc (pc := 150) (L' := [(7, .int (zI ((j : Int) + 1))), (6, .int (zI 1)), (0, .ref (B + 161)), (1, .int (zI ld)), (2, .int (zI n)), (3, .int (zI w)), (4, .int (zI z)), (5, .int (zI (k : Int)))]) 7 K hnL rfl (by decide) rfl dX12_held_150 ?_
                            refine x_goto (pc := 153) (tgt := 59) K dX12_held_153 (by decide) ?_
                            refine x_sub (L' := [(0, .ref (B + 161)), (1, .int (zI ld)), (2, .int (zI n)), (3, .int (zI w)), (4, .int (zI z)), (5, .int (zI (k : Int))), (6, .int (zI 1)), (7, .int (zI ((j : Int) + 1)))]) [2, 3, 4, 5, 6, 7, 1, 0] rfl ?_
                            exact ih59 1 (j + 1) g_122 (by omega) (by first | (rw [heldI_skip (Or.inl (by omega))]; exact hi59_1) | (rw [heldI_skip (Or.inr hmay)]; exact hi59_1) | (rw [← heldI_step (by omega) hmay hi59_1]; first | rw [if_pos (by omega)] | rw [if_neg (by omega)])) (by omega)
                          · skip
                            refine x_aload_n (pc := 130) 0 K rfl rfl dX12_held_130 ?_
                            refine x_get (pc := 131) (C := RX12) (T := TX12) (n := 26) (ci := 11) (idx := 44) (ref := "BorderBedsModel") (x := .ref (B + 173))  K (cel_ne hc0 (by decide)) rfl (by decide +kernel) 24 (by decide) (by decide +kernel) rfl rfl dX12_held_131 ?_
                            refine x_iload_n (pc := 134) 1 K rfl rfl dX12_held_134 ?_
                            refine x_iconst (pc := 135) K dX12_held_135 ?_
                            refine x_callS (pc := 136) (As := [.ref (B + 173), .int (zI ld), .int (zI 1)]) K (c_X12_sum (E := E) (B := B) (N := N) (p := p) (l := (crossA (p (5 + j)) (p 2) k l))  (cel_self hc2.1) hp122_0 hq1 hok (by omega) (by omega) (by omega)) gX12_held_X12_sum rfl (na := 3) (by decide +kernel) rfl ⟨(Nat.le_of_ble_eq_true rfl), (Nat.le_of_ble_eq_true rfl)⟩ (st := []) rfl (Nat.le_of_ble_eq_true rfl) ⟨(Nat.le_of_ble_eq_true rfl), (Nat.le_of_ble_eq_true rfl)⟩ dX12_held_136 (fun r136 N136 w136 hpo136 hN136 => ?_)
                            obtain ⟨rfl, rfl, rfl⟩ := hpo136
                            refine x_st (st' := [.int (zI (sumA p (crossA (p (5 + j)) (p 2) k l) ld 1 48))]) rfl ?_
                            have hr136 := sumA_rng (l := (crossA (p (5 + j)) (p 2) k l)) (land := ld) (what := 1) hq1 (Nat.le_refl 48)
                            refine x_iload_n (pc := 139) 2 K rfl rfl dX12_held_139 ?_
                            refine x_icmp_ge (pc := 140) (tgt := 147) K (by omega) (by omega) dX12_held_140 (by decide) (fun h_140 => ?_) (fun h_140 => ?_)
                            · skip
                              refine x_iconst (pc := 147) K dX12_held_147 ?_
                              refine x_istore (pc := 148) K (L' := [(6, .int (zI 0)), (0, .ref (B + 161)), (1, .int (zI ld)), (2, .int (zI n)), (3, .int (zI w)), (4, .int (zI z)), (5, .int (zI (k : Int))), (7, .int (zI (j : Int)))]) hnL (by decide) rfl dX12_held_148 ?_
                              refine x_iinc (pc := 150) (L' := [(7, .int (zI ((j : Int) + 1))), (6, .int (zI 0)), (0, .ref (B + 161)), (1, .int (zI ld)), (2, .int (zI n)), (3, .int (zI w)), (4, .int (zI z)), (5, .int (zI (k : Int)))]) 7 K hnL rfl (by decide) rfl dX12_held_150 ?_
                              refine x_goto (pc := 153) (tgt := 59) K dX12_held_153 (by decide) ?_
                              refine x_sub (L' := [(0, .ref (B + 161)), (1, .int (zI ld)), (2, .int (zI n)), (3, .int (zI w)), (4, .int (zI z)), (5, .int (zI (k : Int))), (6, .int (zI 0)), (7, .int (zI ((j : Int) + 1)))]) [2, 3, 4, 5, 6, 7, 1, 0] rfl ?_
                              exact ih59 0 (j + 1) g_122 (by omega) (by first | (rw [heldI_skip (Or.inl (by omega))]; exact hi59_1) | (rw [heldI_skip (Or.inr hmay)]; exact hi59_1) | (rw [← heldI_step (by omega) hmay hi59_1]; first | rw [if_pos (by omega)] | rw [if_neg (by omega)])) (by omega)
                            · skip
                              refine x_iconst (pc := 143) K dX12_held_143 ?_
                              refine x_goto (pc := 144) (tgt := 148) K dX12_held_144 (by decide) ?_
                              refine x_istore (pc := 148) K (L' := [(6, .int (zI 1)), (0, .ref (B + 161)), (1, .int (zI ld)), (2, .int (zI n)), (3, .int (zI w)), (4, .int (zI z)), (5, .int (zI (k : Int))), (7, .int (zI (j : Int)))]) hnL (by decide) rfl dX12_held_148 ?_
                              refine x_iinc (pc := 150) (L' := [(7, .int (zI ((j : Int) + 1))), (6, .int (zI 1)), (0, .ref (B + 161)), (1, .int (zI ld)), (2, .int (zI n)), (3, .int (zI w)), (4, .int (zI z)), (5, .int (zI (k : Int)))]) 7 K hnL rfl (by decide) rfl dX12_held_150 ?_
                              refine x_goto (pc := 153) (tgt := 59) K dX12_held_153 (by decide) ?_
                              refine x_sub (L' := [(0, .ref (B + 161)), (1, .int (zI ld)), (2, .int (zI n)), (3, .int (zI w)), (4, .int (zI z)), (5, .int (zI (k : Int))), (6, .int (zI 1)), (7, .int (zI ((j : Int) + 1)))]) [2, 3, 4, 5, 6, 7, 1, 0] rfl ?_
                              exact ih59 1 (j + 1) g_122 (by omega) (by first | (rw [heldI_skip (Or.inl (by omega))]; exact hi59_1) | (rw [heldI_skip (Or.inr hmay)]; exact hi59_1) | (rw [← heldI_step (by omega) hmay hi59_1]; first | rw [if_pos (by omega)] | rw [if_neg (by omega)])) (by omega)
                        · skip
                          have h_95 := mayI_f h_95
                          have hmay := mayI_0 h_95
                          refine x_goto (pc := 98) (tgt := 150) K dX12_held_98 (by decide) ?_
                          refine x_iinc (pc := 150) (L' := [(7, .int (zI ((j : Int) + 1))), (0, .ref (B + 161)), (1, .int (zI ld)), (2, .int (zI n)), (3, .int (zI w)), (4, .int (zI z)), (5, .int (zI (k : Int))), (6, .int (zI y))]) 7 K hnL rfl (by decide) rfl dX12_held_150 ?_
                          refine x_goto (pc := 153) (tgt := 59) K dX12_held_153 (by decide) ?_
                          refine x_sub (L' := [(0, .ref (B + 161)), (1, .int (zI ld)), (2, .int (zI n)), (3, .int (zI w)), (4, .int (zI z)), (5, .int (zI (k : Int))), (6, .int (zI y)), (7, .int (zI ((j : Int) + 1)))]) [1, 2, 3, 4, 5, 6, 7, 0] rfl ?_
                          exact ih59 y (j + 1) x2 (by omega) (by first | (rw [heldI_skip (Or.inl (by omega))]; exact hi59_1) | (rw [heldI_skip (Or.inr hmay)]; exact hi59_1) | (rw [← heldI_step (by omega) hmay hi59_1]; first | rw [if_pos (by omega)] | rw [if_neg (by omega)])) (by omega)
                refine x_sub (L' := [(0, .ref (B + 161)), (1, .int (zI ld)), (2, .int (zI n)), (3, .int (zI w)), (4, .int (zI z)), (5, .int (zI (k : Int))), (6, .int (zI 0)), (7, .int (zI 0))]) [2, 3, 4, 5, 6, 7, 1, 0] rfl ?_
                exact LOOP59 (_) 0 0 x1 (by omega) (by exact (heldI_0 p l ld n k).symm) (Nat.lt_succ_self _)
          refine x_sub (L' := [(0, .ref (B + 161)), (1, .int (zI ld)), (2, .int (zI n)), (3, .int (zI w)), (4, .int (zI 0)), (5, .int (zI 0))]) [2, 3, 4, 5, 1, 0] rfl ?_
          exact LOOP46 (_) 0 0 t (by omega) (by rfl) (by rfl) (Nat.lt_succ_self _)
        · skip
          refine x_ldc (pc := 37) (x := (-1000001)) (-1000001) K (by decide) (by decide +kernel) dX12_held_37 ?_
          refine x_iret (pc := 39) K KR (by omega) (Nat.le_of_ble_eq_true rfl) (Nat.le_of_ble_eq_true rfl) dX12_held_39 ?_
          exact ⟨rfl, (-1000001), t, (by first | exact Or.inl ⟨by omega, rfl⟩ | exact Or.inr (Or.inl ⟨by omega, by omega, rfl⟩) | exact Or.inr (Or.inr ⟨by omega, by omega, heldA_yes hi46_2 ⟨by omega, by omega⟩ (by omega)⟩) | exact Or.inr (Or.inr ⟨by omega, by omega, by rw [← heldA_no hi46_2]; first | (rw [if_pos (by omega)]; exact hi46_1) | rw [if_neg (by omega)]⟩)), rfl, rfl⟩
  · skip
    refine x_ldc (pc := 7) (x := (-1000002)) (-1000002) K (by decide) (by decide +kernel) dX12_held_7 ?_
    refine x_iret (pc := 9) K KR (by omega) (Nat.le_of_ble_eq_true rfl) (Nat.le_of_ble_eq_true rfl) dX12_held_9 ?_
    exact ⟨rfl, (-1000002), t, (by first | exact Or.inl ⟨by omega, rfl⟩ | exact Or.inr (Or.inl ⟨by omega, by omega, rfl⟩) | exact Or.inr (Or.inr ⟨by omega, by omega, heldA_yes hi46_2 ⟨by omega, by omega⟩ (by omega)⟩) | exact Or.inr (Or.inr ⟨by omega, by omega, by rw [← heldA_no hi46_2]; first | (rw [if_pos (by omega)]; exact hi46_1) | rw [if_neg (by omega)]⟩)), rfl, rfl⟩

set_option maxRecDepth 100000 in
set_option maxHeartbeats 4000000 in
theorem c_X12_answer {E : XE} {B N : Nat} {v : Nat → va_E} {F a p t fi : Nat → Int} {V x y what : Int} {l : Cor} (hc0 : Cel N v 161 (oM B F V)) (hc1 : Cel N v 166 (iarr E 138 a)) (hc2 : Cel N v 173 (iarr E 138 t)) (hc3 : Cel N v 172 (iarr E 138 fi)) (hq0 : PR a p l) (hq1 : POk p) (hq2 : CorOk l) (hq3 : (l.length : Int) ≤ p 2) (hq4 : (-2147483648 ≤ x ∧ x ≤ 2147483647)) (hq5 : (-2147483648 ≤ y ∧ y ≤ 2147483647)) (hq6 : (-2147483648 ≤ what ∧ what ≤ 2147483647)) : gM yX12_answer wsX12_answer ({ frames := 4, cells := 0, slots := 0, locals := 102 }) E B N v [.ref (B + 161), .int (zI x), .int (zI y), .int (zI what)] (po0 N (fun ρ v' => ∃ (res : Int), ∃ (bl : Int), ∃ (t2 : Nat → Int), ∃ (fi2 : Nat → Int), ((¬ (((0 ≤ x ∧ x ≤ p 4 - 1) ∧ (0 ≤ y ∧ y ≤ p 4 - 1) ∧ x ≠ y) ∧ 0 ≤ what ∧ what ≤ 1) ∧ res = -1000001) ∨ ((((0 ≤ x ∧ x ≤ p 4 - 1) ∧ (0 ≤ y ∧ y ≤ p 4 - 1) ∧ x ≠ y) ∧ 0 ≤ what ∧ what ≤ 1) ∧ res = bestW (bestF p (midA p l x.toNat (bestF p l x.toNat 48)) y.toNat 48) what)) ∧ ρ = some (.int (zI res)) ∧ (va_up (va_up (va_up v 161 (oM B (va_up F 25 bl) V)) 173 (iarr E 138 t2)) 172 (iarr E 138 fi2)) = v')) := by
  refine x_met (nm := "answer") (by decide +kernel) rfl (Nat.le_of_ble_eq_true rfl) rfl (fun Γ K KR hnL hnm => ?_)
  show XW Γ N v [(0, .ref (B + 161)), (1, .int (zI x)), (2, .int (zI y)), (3, .int (zI what))] 0 0 0 []
  have h4 := hq0.1 4 (by omega)
  have hp4 := hq1.2.2.2.2.1
  have hkp := hq1.2.2.1
  have hcp := cpI_PR (g := fi) (PR_0 hq0) (by omega)
  refine x_v (cel_pad hc0) ?_
  refine x_v (cel_pad (cel_ne hc2 (by decide))) ?_
  refine x_v (cel_pad (cel_ne (cel_ne hc3 (by decide)) (by decide))) ?_
  refine x_aload_n (pc := 0) 0 K rfl rfl dX12_answer_0 ?_
  refine x_iload_n (pc := 1) 1 K rfl rfl dX12_answer_1 ?_
  refine x_iload_n (pc := 2) 2 K rfl rfl dX12_answer_2 ?_
  refine x_callV (pc := 3) (C := RX12) (T := TX12) (n := 26) (ci := 11) (As := [.int (zI x), .int (zI y)]) K (c_X12_areTwo (E := E) (B := B) (N := N)   (cel_ne (cel_ne (cel_self hc0.1) (by decide)) (by decide)) (cel_ne (cel_ne (cel_ne hc1 (by decide)) (by decide)) (by decide)) (by omega) (by omega) (by omega)) gX12_answer_X12_areTwo rfl (na := 2) (by decide +kernel) rfl ⟨(Nat.le_of_ble_eq_true rfl), (Nat.le_of_ble_eq_true rfl)⟩ (cel_ne (cel_ne (cel_self hc0.1) (by decide)) (by decide)) rfl (st := []) rfl (Nat.le_of_ble_eq_true rfl) ⟨(Nat.le_of_ble_eq_true rfl), (Nat.le_of_ble_eq_true rfl)⟩ dX12_answer_3 (fun r3 N3 w3 hpo3 hN3 => ?_)
  obtain ⟨rfl, rfl, rfl⟩ := hpo3
  refine x_st (st' := [.int (zI (bI ((0 ≤ x ∧ x ≤ a 4 - 1) ∧ (0 ≤ y ∧ y ≤ a 4 - 1) ∧ x ≠ y)))]) rfl ?_
  have hrg3 := bI_rng ((0 ≤ x ∧ x ≤ a 4 - 1) ∧ (0 ≤ y ∧ y ≤ a 4 - 1) ∧ x ≠ y)
  refine x_if_eq (pc := 6) (tgt := 19) K (by omega) dX12_answer_6 (by decide) (fun h_6 => ?_) (fun h_6 => ?_)
  · skip
    have h_6 := bI_t h_6
    refine x_ldc (pc := 19) (x := (-1000001)) (-1000001) K (by decide) (by decide +kernel) dX12_answer_19 ?_
    refine x_iret (pc := 21) K KR (by omega) (Nat.le_of_ble_eq_true rfl) (Nat.le_of_ble_eq_true rfl) dX12_answer_21 ?_
    exact ⟨rfl, (-1000001), (F 25), t, fi, (by first | exact Or.inl ⟨by omega, rfl⟩ | exact Or.inr ⟨by omega, bestW_of hb8 (by omega)⟩), rfl, rfl⟩
  · skip
    have h_6 := bI_f h_6
    refine x_iload_n (pc := 9) 3 K rfl rfl dX12_answer_9 ?_
    refine x_i2l (pc := 10) K (by omega) dX12_answer_10 ?_
    refine x_lconst (pc := 11) (0) K (by decide) dX12_answer_11 ?_
    refine x_lconst (pc := 12) (1) K (by decide) dX12_answer_12 ?_
    refine x_callS (pc := 13) (As := [.long (zL what), .long (zL 0), .long (zL 1)]) K (c_X12_in (E := E) (B := B) (N := N)    (by omega) (by omega) (by omega)) gX12_answer_X12_in rfl (na := 3) (by decide +kernel) rfl ⟨(Nat.le_of_ble_eq_true rfl), (Nat.le_of_ble_eq_true rfl)⟩ (st := []) rfl (Nat.le_of_ble_eq_true rfl) ⟨(Nat.le_of_ble_eq_true rfl), (Nat.le_of_ble_eq_true rfl)⟩ dX12_answer_13 (fun r13 N13 w13 hpo13 hN13 => ?_)
    obtain ⟨rfl, rfl, rfl⟩ := hpo13
    refine x_st (st' := [.int (zI (bI (0 ≤ what ∧ what ≤ 1)))]) rfl ?_
    have hrg13 := bI_rng (0 ≤ what ∧ what ≤ 1)
    refine x_if_ne (pc := 16) (tgt := 22) K (by omega) dX12_answer_16 (by decide) (fun h_16 => ?_) (fun h_16 => ?_)
    · skip
      have h_16 := bI_f h_16
      obtain ⟨xx, rfl⟩ : ∃ xx : Nat, x = (xx : Int) := ⟨x.toNat, by omega⟩
      obtain ⟨yy, rfl⟩ : ∃ yy : Nat, y = (yy : Int) := ⟨y.toNat, by omega⟩
      refine x_aload_n (pc := 22) 0 K rfl rfl dX12_answer_22 ?_
      refine x_aload_n (pc := 23) 0 K rfl rfl dX12_answer_23 ?_
      refine x_get (pc := 24) (C := RX12) (T := TX12) (n := 26) (ci := 11) (idx := 22) (ref := "BorderBedsModel") (x := .ref (B + 166))  K (cel_ne (cel_ne (cel_self hc0.1) (by decide)) (by decide)) rfl (by decide +kernel) 8 (by decide) (by decide +kernel) rfl rfl dX12_answer_24 ?_
      refine x_iload_n (pc := 27) 1 K rfl rfl dX12_answer_27 ?_
      refine x_callV (pc := 28) (C := RX12) (T := TX12) (n := 26) (ci := 11) (As := [.ref (B + 166), .int (zI (xx : Int))]) K (c_X12_bestOn (E := E) (B := B) (N := N) (p := p) (l := l) (who := xx) rfl (cel_ne (cel_ne (cel_self hc0.1) (by decide)) (by decide)) (cel_ne (cel_ne (cel_ne hc1 (by decide)) (by decide)) (by decide)) (cel_ne (cel_self hc2.1) (by decide)) hq0 hq1 hq2 hq3 (by omega) (by omega)) gX12_answer_X12_bestOn rfl (na := 2) (by decide +kernel) rfl ⟨(Nat.le_of_ble_eq_true rfl), (Nat.le_of_ble_eq_true rfl)⟩ (cel_ne (cel_ne (cel_self hc0.1) (by decide)) (by decide)) rfl (st := []) rfl (Nat.le_of_ble_eq_true rfl) ⟨(Nat.le_of_ble_eq_true rfl), (Nat.le_of_ble_eq_true rfl)⟩ dX12_answer_28 (fun r28 N28 w28 hpo28 hN28 => ?_)
      obtain ⟨rfl, res_28, bl_28, t2_28, hp28_0, hp28_1, rfl, rfl⟩ := hpo28
      refine x_v (congrArg (fun w => (va_up w 173 (iarr E 138 t2_28))) (show (va_up (va_up (va_up v 161 (oM B (va_up F 25 bl_28) V)) 173 (iarr E 138 t)) 172 (iarr E 138 fi)) = _ from (up_at2 (by decide) (by decide)).symm)) ?_
      refine x_v (w := (va_up (va_up (va_up v 161 (oM B (va_up F 25 bl_28) V)) 173 (iarr E 138 t2_28)) 172 (iarr E 138 fi))) (up_at1 (by decide)).symm ?_
      refine x_st (st' := [.int (zI res_28)]) rfl ?_
      obtain ⟨m9, hb9⟩ := hp28_0
      refine x_istore (pc := 31) K (L' := [(4, .int (zI res_28)), (0, .ref (B + 161)), (1, .int (zI (xx : Int))), (2, .int (zI (yy : Int))), (3, .int (zI what))]) hnL (by decide) rfl dX12_answer_31 ?_
      refine x_aload_n (pc := 33) 1 K rfl rfl dX12_answer_33 ?_
      refine x_get (pc := 34) (C := RX12) (T := TX12) (n := 26) (ci := 11) (idx := 22) (ref := "BorderBedsModel") (x := .ref (B + 166))  K (cel_ne (cel_ne (cel_self hc0.1) (by decide)) (by decide)) rfl (by decide +kernel) 8 (by decide) (by decide +kernel) rfl rfl dX12_answer_34 ?_
      refine x_iconst (pc := 37) K dX12_answer_37 ?_
      refine x_aload_n (pc := 38) 1 K rfl rfl dX12_answer_38 ?_
      refine x_get (pc := 39) (C := RX12) (T := TX12) (n := 26) (ci := 11) (idx := 41) (ref := "BorderBedsModel") (x := .ref (B + 172))  K (cel_ne (cel_ne (cel_self hc0.1) (by decide)) (by decide)) rfl (by decide +kernel) 23 (by decide) (by decide +kernel) rfl rfl dX12_answer_39 ?_
      refine x_iconst (pc := 42) K dX12_answer_42 ?_
      refine x_callS (pc := 43) (As := [.ref (B + 166), .int (zI 0), .ref (B + 172), .int (zI 0)]) K (c_X12_copies (E := E) (B := B) (N := N) (i := 0) (j := 0) rfl rfl (cel_ne (cel_ne (cel_ne hc1 (by decide)) (by decide)) (by decide)) (cel_self hc3.1) (by omega) (by omega) (by omega)) gX12_answer_X12_copies rfl (na := 4) (by decide +kernel) rfl ⟨(Nat.le_of_ble_eq_true rfl), (Nat.le_of_ble_eq_true rfl)⟩ (st := []) rfl (Nat.le_of_ble_eq_true rfl) ⟨(Nat.le_of_ble_eq_true rfl), (Nat.le_of_ble_eq_true rfl)⟩ dX12_answer_43 (fun r43 N43 w43 hpo43 hN43 => ?_)
      obtain ⟨rfl, rfl, rfl⟩ := hpo43
      refine x_v (w := (va_up (va_up (va_up v 161 (oM B (va_up F 25 bl_28) V)) 173 (iarr E 138 t2_28)) 172 (iarr E 138 (cpI a fi 0 0 138)))) (up_at0).symm ?_
      refine x_st (st' := []) rfl ?_
      refine x_iload (pc := 46) 0 K rfl dX12_answer_46 ?_
      refine x_ldc (pc := 48) (x := (-1000000)) (-1000000) K (by decide) (by decide +kernel) dX12_answer_48 ?_
      refine x_icmp_eq (pc := 50) (tgt := 63) K (by omega) (by decide) dX12_answer_50 (by decide) (fun h_50 => ?_) (fun h_50 => ?_)
      · skip
        have hmd : (midA p l xx (bestF p l xx 48)) = l := by
              rcases hb9 with ⟨h, -⟩ | ⟨c, ml, mh, -, h, -⟩
              · rw [h]; rfl
              · exfalso; omega
        have hmp : PR (cpI a fi 0 0 138) p (midA p l xx (bestF p l xx 48)) := by rw [hmd]; exact hcp
        have hmo : CorOk (midA p l xx (bestF p l xx 48)) := by rw [hmd]; exact hq2
        have hml : ((midA p l xx (bestF p l xx 48)).length : Int) ≤ p 2 := by rw [hmd]; exact hq3
        refine x_aload_n (pc := 63) 1 K rfl rfl dX12_answer_63 ?_
        refine x_aload_n (pc := 64) 1 K rfl rfl dX12_answer_64 ?_
        refine x_get (pc := 65) (C := RX12) (T := TX12) (n := 26) (ci := 11) (idx := 41) (ref := "BorderBedsModel") (x := .ref (B + 172))  K (cel_ne (cel_ne (cel_self hc0.1) (by decide)) (by decide)) rfl (by decide +kernel) 23 (by decide) (by decide +kernel) rfl rfl dX12_answer_65 ?_
        refine x_iload_n (pc := 68) 3 K rfl rfl dX12_answer_68 ?_
        refine x_callV (pc := 69) (C := RX12) (T := TX12) (n := 26) (ci := 11) (As := [.ref (B + 172), .int (zI (yy : Int))]) K (c_X12_bestOn (E := E) (B := B) (N := N) (p := p) (l := (midA p l xx (bestF p l xx 48))) (who := yy) rfl (cel_ne (cel_ne (cel_self hc0.1) (by decide)) (by decide)) (cel_self hc3.1) (cel_ne (cel_self hc2.1) (by decide)) hmp hq1 hmo hml (by omega) (by omega)) gX12_answer_X12_bestOn rfl (na := 2) (by decide +kernel) rfl ⟨(Nat.le_of_ble_eq_true rfl), (Nat.le_of_ble_eq_true rfl)⟩ (cel_ne (cel_ne (cel_self hc0.1) (by decide)) (by decide)) rfl (st := []) rfl (Nat.le_of_ble_eq_true rfl) ⟨(Nat.le_of_ble_eq_true rfl), (Nat.le_of_ble_eq_true rfl)⟩ dX12_answer_69 (fun r69 N69 w69 hpo69 hN69 => ?_)
        obtain ⟨rfl, res_69, bl_69, t2_69, hp69_0, hp69_1, rfl, rfl⟩ := hpo69
        refine x_v (congrArg (fun w => (va_up w 173 (iarr E 138 t2_69))) (show (va_up (va_up (va_up v 161 (oM B (va_up F 25 bl_69) V)) 173 (iarr E 138 t2_28)) 172 (iarr E 138 (cpI a fi 0 0 138))) = _ from (up_at2 (by decide) (by decide)).symm)) ?_
        refine x_v (w := (va_up (va_up (va_up v 161 (oM B (va_up F 25 bl_69) V)) 173 (iarr E 138 t2_69)) 172 (iarr E 138 (cpI a fi 0 0 138)))) (up_at1 (by decide)).symm ?_
        refine x_st (st' := [.int (zI res_69)]) rfl ?_
        obtain ⟨m8, hb8⟩ := hp69_0
        refine x_istore (pc := 72) K (L' := [(5, .int (zI res_69)), (4, .int (zI res_28)), (0, .ref (B + 161)), (1, .int (zI (xx : Int))), (2, .int (zI (yy : Int))), (3, .int (zI what))]) hnL (by decide) rfl dX12_answer_72 ?_
        refine x_iload (pc := 74) 0 K rfl dX12_answer_74 ?_
        refine x_ldc (pc := 76) (x := (-1000000)) (-1000000) K (by decide) (by decide +kernel) dX12_answer_76 ?_
        refine x_icmp_eq (pc := 78) (tgt := 85) K (by omega) (by decide) dX12_answer_78 (by decide) (fun h_78 => ?_) (fun h_78 => ?_)
        · skip
          refine x_iload (pc := 85) 0 K rfl dX12_answer_85 ?_
          refine x_goto (pc := 87) (tgt := 94) K dX12_answer_87 (by decide) ?_
          refine x_iret (pc := 94) K KR (by omega) (Nat.le_of_ble_eq_true rfl) (Nat.le_of_ble_eq_true rfl) dX12_answer_94 ?_
          exact ⟨rfl, res_69, bl_69, t2_69, (cpI a fi 0 0 138), (by first | exact Or.inl ⟨by omega, rfl⟩ | exact Or.inr ⟨by omega, bestW_of hb8 (by omega)⟩), rfl, rfl⟩
        · skip
          refine x_iload_n (pc := 81) 5 K rfl rfl dX12_answer_81 ?_
          refine x_if_ne (pc := 82) (tgt := 90) K (by omega) dX12_answer_82 (by decide) (fun h_82 => ?_) (fun h_82 => ?_)
          · skip
            refine x_aload_n (pc := 90) 2 K rfl rfl dX12_answer_90 ?_
            refine x_get (pc := 91) (C := RX12) (T := TX12) (n := 26) (ci := 11) (idx := 240) (ref := "BorderBedsModel") (x := .int (zI bl_69))  K (cel_ne (cel_ne (cel_self hc0.1) (by decide)) (by decide)) rfl (by decide +kernel) 25 (by decide) (by decide +kernel) rfl rfl dX12_answer_91 ?_
            refine x_iret (pc := 94) K KR (by omega) (Nat.le_of_ble_eq_true rfl) (Nat.le_of_ble_eq_true rfl) dX12_answer_94 ?_
            exact ⟨rfl, bl_69, bl_69, t2_69, (cpI a fi 0 0 138), (by first | exact Or.inl ⟨by omega, rfl⟩ | exact Or.inr ⟨by omega, bestW_of hb8 (by omega)⟩), rfl, rfl⟩
          · skip
            refine x_iload (pc := 85) 0 K rfl dX12_answer_85 ?_
            refine x_goto (pc := 87) (tgt := 94) K dX12_answer_87 (by decide) ?_
            refine x_iret (pc := 94) K KR (by omega) (Nat.le_of_ble_eq_true rfl) (Nat.le_of_ble_eq_true rfl) dX12_answer_94 ?_
            exact ⟨rfl, res_69, bl_69, t2_69, (cpI a fi 0 0 138), (by first | exact Or.inl ⟨by omega, rfl⟩ | exact Or.inr ⟨by omega, bestW_of hb8 (by omega)⟩), rfl, rfl⟩
      · skip
        obtain ⟨cc, rfl⟩ : ∃ cc : Nat, res_28 = (cc : Int) := ⟨res_28.toNat, by omega⟩
        obtain ⟨c9, hc9, hcc, hmay, hbf⟩ : ∃ c : Nat, c < 48 ∧ (cc : Int) = (c : Int) ∧ mayI p l xx c = 1 ∧ bestF p l xx 48 = some (c, bl_28, m9) := by
              rcases bestR_in hb9 with h | h
              · exfalso; omega
              · exact h
        obtain rfl : cc = c9 := by omega
        have hmd : (midA p l xx (bestF p l xx 48)) = (crossA (p (5 + xx)) (p 2) cc l) := by rw [hbf]; rfl
        have hok := crossA_ok (kind := p (5 + xx)) (keeps := p 2) hq2 (show cc ≤ 47 by omega)
        have hcl := crossA_len (kind := p (5 + xx)) (cell := cc) hq3 hkp
        refine x_aload_n (pc := 53) 1 K rfl rfl dX12_answer_53 ?_
        refine x_get (pc := 54) (C := RX12) (T := TX12) (n := 26) (ci := 11) (idx := 41) (ref := "BorderBedsModel") (x := .ref (B + 172))  K (cel_ne (cel_ne (cel_self hc0.1) (by decide)) (by decide)) rfl (by decide +kernel) 23 (by decide) (by decide +kernel) rfl rfl dX12_answer_54 ?_
        refine x_iload_n (pc := 57) 2 K rfl rfl dX12_answer_57 ?_
        refine x_iload (pc := 58) 0 K rfl dX12_answer_58 ?_
        refine x_callS (pc := 60) (As := [.ref (B + 172), .int (zI (xx : Int)), .int (zI (cc : Int))]) K (c_X12_crosses (E := E) (B := B) (N := N) (p := p) (l := l) (who := xx) (cell := cc) rfl rfl (cel_self hc3.1) hcp hq1 hq2 (by omega) (by omega) (by omega)) gX12_answer_X12_crosses rfl (na := 3) (by decide +kernel) rfl ⟨(Nat.le_of_ble_eq_true rfl), (Nat.le_of_ble_eq_true rfl)⟩ (st := []) rfl (Nat.le_of_ble_eq_true rfl) ⟨(Nat.le_of_ble_eq_true rfl), (Nat.le_of_ble_eq_true rfl)⟩ dX12_answer_60 (fun r60 N60 w60 hpo60 hN60 => ?_)
        obtain ⟨rfl, g_60, hp60_0, rfl, rfl⟩ := hpo60
        refine x_v (w := (va_up (va_up (va_up v 161 (oM B (va_up F 25 bl_28) V)) 173 (iarr E 138 t2_28)) 172 (iarr E 138 g_60))) (up_at0).symm ?_
        refine x_st (st' := []) rfl ?_
        have hmp : PR g_60 p (midA p l xx (bestF p l xx 48)) := by rw [hmd]; exact hp60_0
        have hmo : CorOk (midA p l xx (bestF p l xx 48)) := by rw [hmd]; exact hok
        have hml : ((midA p l xx (bestF p l xx 48)).length : Int) ≤ p 2 := by rw [hmd]; exact hcl
        refine x_aload_n (pc := 63) 1 K rfl rfl dX12_answer_63 ?_
        refine x_aload_n (pc := 64) 1 K rfl rfl dX12_answer_64 ?_
        refine x_get (pc := 65) (C := RX12) (T := TX12) (n := 26) (ci := 11) (idx := 41) (ref := "BorderBedsModel") (x := .ref (B + 172))  K (cel_ne (cel_ne (cel_self hc0.1) (by decide)) (by decide)) rfl (by decide +kernel) 23 (by decide) (by decide +kernel) rfl rfl dX12_answer_65 ?_
        refine x_iload_n (pc := 68) 3 K rfl rfl dX12_answer_68 ?_
        refine x_callV (pc := 69) (C := RX12) (T := TX12) (n := 26) (ci := 11) (As := [.ref (B + 172), .int (zI (yy : Int))]) K (c_X12_bestOn (E := E) (B := B) (N := N) (p := p) (l := (midA p l xx (bestF p l xx 48))) (who := yy) rfl (cel_ne (cel_ne (cel_self hc0.1) (by decide)) (by decide)) (cel_self hc3.1) (cel_ne (cel_self hc2.1) (by decide)) hmp hq1 hmo hml (by omega) (by omega)) gX12_answer_X12_bestOn rfl (na := 2) (by decide +kernel) rfl ⟨(Nat.le_of_ble_eq_true rfl), (Nat.le_of_ble_eq_true rfl)⟩ (cel_ne (cel_ne (cel_self hc0.1) (by decide)) (by decide)) rfl (st := []) rfl (Nat.le_of_ble_eq_true rfl) ⟨(Nat.le_of_ble_eq_true rfl), (Nat.le_of_ble_eq_true rfl)⟩ dX12_answer_69 (fun r69 N69 w69 hpo69 hN69 => ?_)
        obtain ⟨rfl, res_69, bl_69, t2_69, hp69_0, hp69_1, rfl, rfl⟩ := hpo69
        refine x_v (congrArg (fun w => (va_up w 173 (iarr E 138 t2_69))) (show (va_up (va_up (va_up v 161 (oM B (va_up F 25 bl_69) V)) 173 (iarr E 138 t2_28)) 172 (iarr E 138 g_60)) = _ from (up_at2 (by decide) (by decide)).symm)) ?_
        refine x_v (w := (va_up (va_up (va_up v 161 (oM B (va_up F 25 bl_69) V)) 173 (iarr E 138 t2_69)) 172 (iarr E 138 g_60))) (up_at1 (by decide)).symm ?_
        refine x_st (st' := [.int (zI res_69)]) rfl ?_
        obtain ⟨m8, hb8⟩ := hp69_0
        refine x_istore (pc := 72) K (L' := [(5, .int (zI res_69)), (4, .int (zI (cc : Int))), (0, .ref (B + 161)), (1, .int (zI (xx : Int))), (2, .int (zI (yy : Int))), (3, .int (zI what))]) hnL (by decide) rfl dX12_answer_72 ?_
        refine x_iload (pc := 74) 0 K rfl dX12_answer_74 ?_
        refine x_ldc (pc := 76) (x := (-1000000)) (-1000000) K (by decide) (by decide +kernel) dX12_answer_76 ?_
        refine x_icmp_eq (pc := 78) (tgt := 85) K (by omega) (by decide) dX12_answer_78 (by decide) (fun h_78 => ?_) (fun h_78 => ?_)
        · skip
          refine x_iload (pc := 85) 0 K rfl dX12_answer_85 ?_
          refine x_goto (pc := 87) (tgt := 94) K dX12_answer_87 (by decide) ?_
          refine x_iret (pc := 94) K KR (by omega) (Nat.le_of_ble_eq_true rfl) (Nat.le_of_ble_eq_true rfl) dX12_answer_94 ?_
          exact ⟨rfl, res_69, bl_69, t2_69, g_60, (by first | exact Or.inl ⟨by omega, rfl⟩ | exact Or.inr ⟨by omega, bestW_of hb8 (by omega)⟩), rfl, rfl⟩
        · skip
          refine x_iload_n (pc := 81) 5 K rfl rfl dX12_answer_81 ?_
          refine x_if_ne (pc := 82) (tgt := 90) K (by omega) dX12_answer_82 (by decide) (fun h_82 => ?_) (fun h_82 => ?_)
          · skip
            refine x_aload_n (pc := 90) 2 K rfl rfl dX12_answer_90 ?_
            refine x_get (pc := 91) (C := RX12) (T := TX12) (n := 26) (ci := 11) (idx := 240) (ref := "BorderBedsModel") (x := .int (zI bl_69))  K (cel_ne (cel_ne (cel_self hc0.1) (by decide)) (by decide)) rfl (by decide +kernel) 25 (by decide) (by decide +kernel) rfl rfl dX12_answer_91 ?_
            refine x_iret (pc := 94) K KR (by omega) (Nat.le_of_ble_eq_true rfl) (Nat.le_of_ble_eq_true rfl) dX12_answer_94 ?_
            exact ⟨rfl, bl_69, bl_69, t2_69, g_60, (by first | exact Or.inl ⟨by omega, rfl⟩ | exact Or.inr ⟨by omega, bestW_of hb8 (by omega)⟩), rfl, rfl⟩
          · skip
            refine x_iload (pc := 85) 0 K rfl dX12_answer_85 ?_
            refine x_goto (pc := 87) (tgt := 94) K dX12_answer_87 (by decide) ?_
            refine x_iret (pc := 94) K KR (by omega) (Nat.le_of_ble_eq_true rfl) (Nat.le_of_ble_eq_true rfl) dX12_answer_94 ?_
            exact ⟨rfl, res_69, bl_69, t2_69, g_60, (by first | exact Or.inl ⟨by omega, rfl⟩ | exact Or.inr ⟨by omega, bestW_of hb8 (by omega)⟩), rfl, rfl⟩
    · skip
      have h_16 := bI_t h_16
      refine x_ldc (pc := 19) (x := (-1000001)) (-1000001) K (by decide) (by decide +kernel) dX12_answer_19 ?_
      refine x_iret (pc := 21) K KR (by omega) (Nat.le_of_ble_eq_true rfl) (Nat.le_of_ble_eq_true rfl) dX12_answer_21 ?_
      exact ⟨rfl, (-1000001), (F 25), t, fi, (by first | exact Or.inl ⟨by omega, rfl⟩ | exact Or.inr ⟨by omega, bestW_of hb8 (by omega)⟩), rfl, rfl⟩

set_option maxRecDepth 100000 in
set_option maxHeartbeats 4000000 in
theorem c_X12_game {E : XE} {B N : Nat} {v : Nat → va_E} {F a p t fi : Nat → Int} {V x y what : Int} {l : Cor} (hc0 : Cel N v 161 (oM B F V)) (hc1 : Cel N v 166 (iarr E 138 a)) (hc2 : Cel N v 173 (iarr E 138 t)) (hc3 : Cel N v 172 (iarr E 138 fi)) (hq0 : PR a p l) (hq1 : POk p) (hq2 : CorOk l) (hq3 : (l.length : Int) ≤ p 2) (hq4 : (-2147483648 ≤ x ∧ x ≤ 2147483647)) (hq5 : (-2147483648 ≤ y ∧ y ≤ 2147483647)) (hq6 : (-2147483648 ≤ what ∧ what ≤ 2147483647)) : gM yX12_game wsX12_game ({ frames := 4, cells := 0, slots := 0, locals := 102 }) E B N v [.ref (B + 161), .int (zI x), .int (zI y), .int (zI what)] (po0 N (fun ρ v' => ∃ (res : Int), ∃ (bl : Int), ∃ (t2 : Nat → Int), ∃ (fi2 : Nat → Int), ((¬ (((0 ≤ x ∧ x ≤ p 4 - 1) ∧ (0 ≤ y ∧ y ≤ p 4 - 1) ∧ x ≠ y) ∧ 0 ≤ what ∧ what ≤ 1) ∧ res = -1000001) ∨ ((((0 ≤ x ∧ x ≤ p 4 - 1) ∧ (0 ≤ y ∧ y ≤ p 4 - 1) ∧ x ≠ y) ∧ 0 ≤ what ∧ what ≤ 1) ∧ res = gameW (gameF p l x.toNat y.toNat 49) what)) ∧ ρ = some (.int (zI res)) ∧ (va_up (va_up (va_up v 161 (oM B (va_up F 25 bl) V)) 173 (iarr E 138 t2)) 172 (iarr E 138 fi2)) = v')) := by
  refine x_met (nm := "game") (by decide +kernel) rfl (Nat.le_of_ble_eq_true rfl) rfl (fun Γ K KR hnL hnm => ?_)
  show XW Γ N v [(0, .ref (B + 161)), (1, .int (zI x)), (2, .int (zI y)), (3, .int (zI what))] 0 0 0 []
  have h4 := hq0.1 4 (by omega)
  have hp4 := hq1.2.2.2.2.1
  have hkp := hq1.2.2.1
  refine x_v (cel_pad hc0) ?_
  refine x_v (cel_pad (cel_ne hc2 (by decide))) ?_
  refine x_v (cel_pad (cel_ne (cel_ne hc3 (by decide)) (by decide))) ?_
  refine x_aload_n (pc := 0) 0 K rfl rfl dX12_game_0 ?_
  refine x_iload_n (pc := 1) 1 K rfl rfl dX12_game_1 ?_
  refine x_iload_n (pc := 2) 2 K rfl rfl dX12_game_2 ?_
  refine x_callV (pc := 3) (C := RX12) (T := TX12) (n := 26) (ci := 11) (As := [.int (zI x), .int (zI y)]) K (c_X12_areTwo (E := E) (B := B) (N := N)   (cel_ne (cel_ne (cel_self hc0.1) (by decide)) (by decide)) (cel_ne (cel_ne (cel_ne hc1 (by decide)) (by decide)) (by decide)) (by omega) (by omega) (by omega)) gX12_game_X12_areTwo rfl (na := 2) (by decide +kernel) rfl ⟨(Nat.le_of_ble_eq_true rfl), (Nat.le_of_ble_eq_true rfl)⟩ (cel_ne (cel_ne (cel_self hc0.1) (by decide)) (by decide)) rfl (st := []) rfl (Nat.le_of_ble_eq_true rfl) ⟨(Nat.le_of_ble_eq_true rfl), (Nat.le_of_ble_eq_true rfl)⟩ dX12_game_3 (fun r3 N3 w3 hpo3 hN3 => ?_)
  obtain ⟨rfl, rfl, rfl⟩ := hpo3
  refine x_st (st' := [.int (zI (bI ((0 ≤ x ∧ x ≤ a 4 - 1) ∧ (0 ≤ y ∧ y ≤ a 4 - 1) ∧ x ≠ y)))]) rfl ?_
  have hrg3 := bI_rng ((0 ≤ x ∧ x ≤ a 4 - 1) ∧ (0 ≤ y ∧ y ≤ a 4 - 1) ∧ x ≠ y)
  refine x_if_eq (pc := 6) (tgt := 19) K (by omega) dX12_game_6 (by decide) (fun h_6 => ?_) (fun h_6 => ?_)
  · skip
    have h_6 := bI_t h_6
    refine x_ldc (pc := 19) (x := (-1000001)) (-1000001) K (by decide) (by decide +kernel) dX12_game_19 ?_
    refine x_iret (pc := 21) K KR (by omega) (Nat.le_of_ble_eq_true rfl) (Nat.le_of_ble_eq_true rfl) dX12_game_21 ?_
    exact ⟨rfl, (-1000001), (F 25), t, fi, (by first | exact Or.inl ⟨by omega, rfl⟩ | exact Or.inr ⟨by omega, gameW_of hi32_2 (by omega)⟩), rfl, rfl⟩
  · skip
    have h_6 := bI_f h_6
    refine x_iload_n (pc := 9) 3 K rfl rfl dX12_game_9 ?_
    refine x_i2l (pc := 10) K (by omega) dX12_game_10 ?_
    refine x_lconst (pc := 11) (0) K (by decide) dX12_game_11 ?_
    refine x_lconst (pc := 12) (1) K (by decide) dX12_game_12 ?_
    refine x_callS (pc := 13) (As := [.long (zL what), .long (zL 0), .long (zL 1)]) K (c_X12_in (E := E) (B := B) (N := N)    (by omega) (by omega) (by omega)) gX12_game_X12_in rfl (na := 3) (by decide +kernel) rfl ⟨(Nat.le_of_ble_eq_true rfl), (Nat.le_of_ble_eq_true rfl)⟩ (st := []) rfl (Nat.le_of_ble_eq_true rfl) ⟨(Nat.le_of_ble_eq_true rfl), (Nat.le_of_ble_eq_true rfl)⟩ dX12_game_13 (fun r13 N13 w13 hpo13 hN13 => ?_)
    obtain ⟨rfl, rfl, rfl⟩ := hpo13
    refine x_st (st' := [.int (zI (bI (0 ≤ what ∧ what ≤ 1)))]) rfl ?_
    have hrg13 := bI_rng (0 ≤ what ∧ what ≤ 1)
    refine x_if_ne (pc := 16) (tgt := 22) K (by omega) dX12_game_16 (by decide) (fun h_16 => ?_) (fun h_16 => ?_)
    · skip
      have h_16 := bI_f h_16
      obtain ⟨xx, rfl⟩ : ∃ xx : Nat, x = (xx : Int) := ⟨x.toNat, by omega⟩
      obtain ⟨yy, rfl⟩ : ∃ yy : Nat, y = (yy : Int) := ⟨y.toNat, by omega⟩
      have e100 := hq0.1 (10 + yy) (by omega)
      have b100 := (hq1.2.2.2.2.2.1 yy (by omega)).2.1
      have e155 := hq0.1 (10 + xx) (by omega)
      have b155 := (hq1.2.2.2.2.2.1 xx (by omega)).2.1
      refine x_ldc (pc := 22) (x := (-1000000)) (-1000000) K (by decide) (by decide +kernel) dX12_game_22 ?_
      refine x_istore (pc := 24) K (L' := [(4, .int (zI (-1000000))), (0, .ref (B + 161)), (1, .int (zI (xx : Int))), (2, .int (zI (yy : Int))), (3, .int (zI what))]) hnL (by decide) rfl dX12_game_24 ?_
      refine x_iconst (pc := 26) K dX12_game_26 ?_
      refine x_istore (pc := 27) K (L' := [(5, .int (zI 0)), (4, .int (zI (-1000000))), (0, .ref (B + 161)), (1, .int (zI (xx : Int))), (2, .int (zI (yy : Int))), (3, .int (zI what))]) hnL (by decide) rfl dX12_game_27 ?_
      refine x_iconst (pc := 29) K dX12_game_29 ?_
      refine x_istore (pc := 30) K (L' := [(6, .int (zI (-1))), (5, .int (zI 0)), (4, .int (zI (-1000000))), (0, .ref (B + 161)), (1, .int (zI (xx : Int))), (2, .int (zI (yy : Int))), (3, .int (zI what))]) hnL (by decide) rfl dX12_game_30 ?_
      have LOOP32 : ∀ (n_32 : Nat) (b : Int) (q : Int) (c : Int) (k : Nat) (bl : Int) (x1 : Nat → Int) (x2 : Nat → Int), (c = (k : Int) - 1 ∧ k ≤ 49) → (-1000000 ≤ b ∧ b ≤ 47 ∧ -1000000 ≤ q ∧ q ≤ 1000000) → (gameR (gameF p l xx yy k) b q) → (49 - k) < n_32 → XW Γ N (va_up (va_up (va_up v 161 (oM B (va_up F 25 bl) V)) 173 (iarr E 138 x1)) 172 (iarr E 138 x2)) [(0, .ref (B + 161)), (1, .int (zI (xx : Int))), (2, .int (zI (yy : Int))), (3, .int (zI what)), (4, .int (zI b)), (5, .int (zI q)), (6, .int (zI c))] 0 0 32 [] := by
        intro n_32
        induction n_32 with
        | zero =>
          intro b q c k bl x1 x2 hi32_0 hi32_1 hi32_2 hm_32
          exfalso; omega
        | succ n_32 ih32 =>
          intro b q c k bl x1 x2 hi32_0 hi32_1 hi32_2 hm_32
          refine x_iload (pc := 32) 6 K rfl dX12_game_32 ?_
          refine x_bipush (pc := 34) K (by decide) dX12_game_34 ?_
          refine x_icmp_ge (pc := 36) (tgt := 189) K (by omega) (by decide) dX12_game_36 (by decide) (fun h_36 => ?_) (fun h_36 => ?_)
          · skip
            have hk49 : k = 49 := by omega
            rw [hk49] at hi32_2
            refine x_iload_n (pc := 189) 3 K rfl rfl dX12_game_189 ?_
            refine x_if_ne (pc := 190) (tgt := 198) K (by omega) dX12_game_190 (by decide) (fun h_190 => ?_) (fun h_190 => ?_)
            · skip
              refine x_iload (pc := 198) 5 K rfl dX12_game_198 ?_
              refine x_iret (pc := 200) K KR (by omega) (Nat.le_of_ble_eq_true rfl) (Nat.le_of_ble_eq_true rfl) dX12_game_200 ?_
              exact ⟨rfl, q, bl, x1, x2, (by first | exact Or.inl ⟨by omega, rfl⟩ | exact Or.inr ⟨by omega, gameW_of hi32_2 (by omega)⟩), rfl, rfl⟩
            · skip
              refine x_iload (pc := 193) 4 K rfl dX12_game_193 ?_
              refine x_goto (pc := 195) (tgt := 200) K dX12_game_195 (by decide) ?_
              refine x_iret (pc := 200) K KR (by omega) (Nat.le_of_ble_eq_true rfl) (Nat.le_of_ble_eq_true rfl) dX12_game_200 ?_
              exact ⟨rfl, b, bl, x1, x2, (by first | exact Or.inl ⟨by omega, rfl⟩ | exact Or.inr ⟨by omega, gameW_of hi32_2 (by omega)⟩), rfl, rfl⟩
          · skip
            refine x_iload (pc := 39) 6 K rfl dX12_game_39 ?_
            refine x_if_lt (pc := 41) (tgt := 60) K (by omega) dX12_game_41 (by decide) (fun h_41 => ?_) (fun h_41 => ?_)
            · skip
              refine x_aload_n (pc := 60) 0 K rfl rfl dX12_game_60 ?_
              refine x_get (pc := 61) (C := RX12) (T := TX12) (n := 26) (ci := 11) (idx := 22) (ref := "BorderBedsModel") (x := .ref (B + 166))  K (cel_ne (cel_ne (cel_self hc0.1) (by decide)) (by decide)) rfl (by decide +kernel) 8 (by decide) (by decide +kernel) rfl rfl dX12_game_61 ?_
              refine x_iconst (pc := 64) K dX12_game_64 ?_
              refine x_aload_n (pc := 65) 0 K rfl rfl dX12_game_65 ?_
              refine x_get (pc := 66) (C := RX12) (T := TX12) (n := 26) (ci := 11) (idx := 41) (ref := "BorderBedsModel") (x := .ref (B + 172))  K (cel_ne (cel_ne (cel_self hc0.1) (by decide)) (by decide)) rfl (by decide +kernel) 23 (by decide) (by decide +kernel) rfl rfl dX12_game_66 ?_
              refine x_iconst (pc := 69) K dX12_game_69 ?_
              refine x_callS (pc := 70) (As := [.ref (B + 166), .int (zI 0), .ref (B + 172), .int (zI 0)]) K (c_X12_copies (E := E) (B := B) (N := N) (i := 0) (j := 0) rfl rfl (cel_ne (cel_ne (cel_ne hc1 (by decide)) (by decide)) (by decide)) (cel_self hc3.1) (by omega) (by omega) (by omega)) gX12_game_X12_copies rfl (na := 4) (by decide +kernel) rfl ⟨(Nat.le_of_ble_eq_true rfl), (Nat.le_of_ble_eq_true rfl)⟩ (st := []) rfl (Nat.le_of_ble_eq_true rfl) ⟨(Nat.le_of_ble_eq_true rfl), (Nat.le_of_ble_eq_true rfl)⟩ dX12_game_70 (fun r70 N70 w70 hpo70 hN70 => ?_)
              obtain ⟨rfl, rfl, rfl⟩ := hpo70
              refine x_v (w := (va_up (va_up (va_up v 161 (oM B (va_up F 25 bl) V)) 173 (iarr E 138 x1)) 172 (iarr E 138 (cpI a x2 0 0 138)))) (up_at0).symm ?_
              refine x_st (st' := []) rfl ?_
              refine x_iload (pc := 73) 6 K rfl dX12_game_73 ?_
              refine x_if_lt (pc := 75) (tgt := 88) K (by omega) dX12_game_75 (by decide) (fun h_75 => ?_) (fun h_75 => ?_)
              · skip
                have hk0 : k = 0 := by omega
                have hmvE : (mvA p l xx k) = l := by unfold mvA; rw [if_pos hk0]
                have hsel : k = 0 ∨ mayI p l xx (k - 1) = 1 := Or.inl hk0
                have hmp : PR (cpI a x2 0 0 138) p (mvA p l xx k) := by rw [hmvE]; exact cpI_PR (PR_0 hq0) (by omega)
                have hmo : CorOk (mvA p l xx k) := by rw [hmvE]; exact hq2
                have hml : ((mvA p l xx k).length : Int) ≤ p 2 := by rw [hmvE]; exact hq3
                refine x_aload_n (pc := 88) 0 K rfl rfl dX12_game_88 ?_
                refine x_get (pc := 89) (C := RX12) (T := TX12) (n := 26) (ci := 11) (idx := 41) (ref := "BorderBedsModel") (x := .ref (B + 172))  K (cel_ne (cel_ne (cel_self hc0.1) (by decide)) (by decide)) rfl (by decide +kernel) 23 (by decide) (by decide +kernel) rfl rfl dX12_game_89 ?_
                refine x_aload_n (pc := 92) 0 K rfl rfl dX12_game_92 ?_
                refine x_get (pc := 93) (C := RX12) (T := TX12) (n := 26) (ci := 11) (idx := 22) (ref := "BorderBedsModel") (x := .ref (B + 166))  K (cel_ne (cel_ne (cel_self hc0.1) (by decide)) (by decide)) rfl (by decide +kernel) 8 (by decide) (by decide +kernel) rfl rfl dX12_game_93 ?_
                refine x_bipush (pc := 96) K (by decide) dX12_game_96 ?_
                refine x_iload_n (pc := 98) 2 K rfl rfl dX12_game_98 ?_
                refine x_iadd (pc := 99) K dX12_game_99 ?_
                refine x_iald (pc := 100) (10 + yy) K (cel_ne (cel_ne (cel_ne hc1 (by decide)) (by decide)) (by decide)) (by omega) (by omega) (by decide) dX12_game_100 ?_
                refine x_callS (pc := 101) (As := [.ref (B + 172), .int (zI (a (10 + yy)))]) K (c_X12_lead (E := E) (B := B) (N := N) (p := p) (l := (mvA p l xx k))  (cel_self hc3.1) hmp hq1 hmo (by omega) (by omega)) gX12_game_X12_lead rfl (na := 2) (by decide +kernel) rfl ⟨(Nat.le_of_ble_eq_true rfl), (Nat.le_of_ble_eq_true rfl)⟩ (st := []) rfl (Nat.le_of_ble_eq_true rfl) ⟨(Nat.le_of_ble_eq_true rfl), (Nat.le_of_ble_eq_true rfl)⟩ dX12_game_101 (fun r101 N101 w101 hpo101 hN101 => ?_)
                obtain ⟨rfl, rfl, rfl⟩ := hpo101
                refine x_st (st' := [.int (zI (leadA p (mvA p l xx k) (a (10 + yy))))]) rfl ?_
                refine x_st (st' := [.int (zI (leadA p (mvA p l xx k) (p (10 + yy))))]) (by rw [e100]) ?_
                have hr101 := leadA_rng (l := (mvA p l xx k)) (land := p (10 + yy)) hq1
                refine x_nm (fun z1 hz1 => ?_)
                refine x_istore (pc := 104) K (L' := [(7, .int (zI z1)), (0, .ref (B + 161)), (1, .int (zI (xx : Int))), (2, .int (zI (yy : Int))), (3, .int (zI what)), (4, .int (zI b)), (5, .int (zI q)), (6, .int (zI c))]) hnL (by decide) rfl dX12_game_104 ?_
                refine x_aload_n (pc := 106) 1 K rfl rfl dX12_game_106 ?_
                refine x_aload_n (pc := 107) 1 K rfl rfl dX12_game_107 ?_
                refine x_get (pc := 108) (C := RX12) (T := TX12) (n := 26) (ci := 11) (idx := 41) (ref := "BorderBedsModel") (x := .ref (B + 172))  K (cel_ne (cel_ne (cel_self hc0.1) (by decide)) (by decide)) rfl (by decide +kernel) 23 (by decide) (by decide +kernel) rfl rfl dX12_game_108 ?_
                refine x_iload_n (pc := 111) 3 K rfl rfl dX12_game_111 ?_
                refine x_callV (pc := 112) (C := RX12) (T := TX12) (n := 26) (ci := 11) (As := [.ref (B + 172), .int (zI (yy : Int))]) K (c_X12_bestOn (E := E) (B := B) (N := N) (p := p) (l := (mvA p l xx k)) (who := yy) rfl (cel_ne (cel_ne (cel_self hc0.1) (by decide)) (by decide)) (cel_self hc3.1) (cel_ne (cel_self hc2.1) (by decide)) hmp hq1 hmo hml (by omega) (by omega)) gX12_game_X12_bestOn rfl (na := 2) (by decide +kernel) rfl ⟨(Nat.le_of_ble_eq_true rfl), (Nat.le_of_ble_eq_true rfl)⟩ (cel_ne (cel_ne (cel_self hc0.1) (by decide)) (by decide)) rfl (st := []) rfl (Nat.le_of_ble_eq_true rfl) ⟨(Nat.le_of_ble_eq_true rfl), (Nat.le_of_ble_eq_true rfl)⟩ dX12_game_112 (fun r112 N112 w112 hpo112 hN112 => ?_)
                obtain ⟨rfl, res_112, bl_112, t2_112, hp112_0, hp112_1, rfl, rfl⟩ := hpo112
                refine x_v (congrArg (fun w => (va_up w 173 (iarr E 138 t2_112))) (show (va_up (va_up (va_up v 161 (oM B (va_up F 25 bl_112) V)) 173 (iarr E 138 x1)) 172 (iarr E 138 (cpI a x2 0 0 138))) = _ from (up_at2 (by decide) (by decide)).symm)) ?_
                refine x_v (w := (va_up (va_up (va_up v 161 (oM B (va_up F 25 bl_112) V)) 173 (iarr E 138 t2_112)) 172 (iarr E 138 (cpI a x2 0 0 138)))) (up_at1 (by decide)).symm ?_
                refine x_st (st' := [.int (zI res_112)]) rfl ?_
                obtain ⟨m8, hb8⟩ := hp112_0
                refine x_istore (pc := 115) K (L' := [(8, .int (zI res_112)), (7, .int (zI z1)), (0, .ref (B + 161)), (1, .int (zI (xx : Int))), (2, .int (zI (yy : Int))), (3, .int (zI what)), (4, .int (zI b)), (5, .int (zI q)), (6, .int (zI c))]) hnL (by decide) rfl dX12_game_115 ?_
                refine x_iload (pc := 117) 0 K rfl dX12_game_117 ?_
                refine x_ldc (pc := 119) (x := (-1000000)) (-1000000) K (by decide) (by decide +kernel) dX12_game_119 ?_
                refine x_icmp_eq (pc := 121) (tgt := 143) K (by omega) (by decide) dX12_game_121 (by decide) (fun h_121 => ?_) (fun h_121 => ?_)
                · skip
                  have hrE : (repA p (mvA p l xx k) yy (bestF p (mvA p l xx k) yy 48)) = (mvA p l xx k) := by 
                          rcases hb8 with ⟨h, -⟩ | ⟨c, ml, mh, -, h, -⟩
                          · rw [h]; rfl
                          · exfalso; omega
                  have hrp : PR (cpI a x2 0 0 138) p (repA p (mvA p l xx k) yy (bestF p (mvA p l xx k) yy 48)) := by rw [hrE]; exact hmp
                  have hro : CorOk (repA p (mvA p l xx k) yy (bestF p (mvA p l xx k) yy 48)) := by rw [hrE]; exact hmo
                  have hrl : ((repA p (mvA p l xx k) yy (bestF p (mvA p l xx k) yy 48)).length : Int) ≤ p 2 := by rw [hrE]; exact hml
                  refine x_aload_n (pc := 143) 2 K rfl rfl dX12_game_143 ?_
                  refine x_get (pc := 144) (C := RX12) (T := TX12) (n := 26) (ci := 11) (idx := 41) (ref := "BorderBedsModel") (x := .ref (B + 172))  K (cel_ne (cel_ne (cel_self hc0.1) (by decide)) (by decide)) rfl (by decide +kernel) 23 (by decide) (by decide +kernel) rfl rfl dX12_game_144 ?_
                  refine x_aload_n (pc := 147) 2 K rfl rfl dX12_game_147 ?_
                  refine x_get (pc := 148) (C := RX12) (T := TX12) (n := 26) (ci := 11) (idx := 22) (ref := "BorderBedsModel") (x := .ref (B + 166))  K (cel_ne (cel_ne (cel_self hc0.1) (by decide)) (by decide)) rfl (by decide +kernel) 8 (by decide) (by decide +kernel) rfl rfl dX12_game_148 ?_
                  refine x_bipush (pc := 151) K (by decide) dX12_game_151 ?_
                  refine x_iload_n (pc := 153) 3 K rfl rfl dX12_game_153 ?_
                  refine x_iadd (pc := 154) K dX12_game_154 ?_
                  refine x_iald (pc := 155) (10 + xx) K (cel_ne (cel_ne (cel_ne hc1 (by decide)) (by decide)) (by decide)) (by omega) (by omega) (by decide) dX12_game_155 ?_
                  refine x_callS (pc := 156) (As := [.ref (B + 172), .int (zI (a (10 + xx)))]) K (c_X12_lead (E := E) (B := B) (N := N) (p := p) (l := (repA p (mvA p l xx k) yy (bestF p (mvA p l xx k) yy 48)))  (cel_self hc3.1) hrp hq1 hro (by omega) (by omega)) gX12_game_X12_lead rfl (na := 2) (by decide +kernel) rfl ⟨(Nat.le_of_ble_eq_true rfl), (Nat.le_of_ble_eq_true rfl)⟩ (st := []) rfl (Nat.le_of_ble_eq_true rfl) ⟨(Nat.le_of_ble_eq_true rfl), (Nat.le_of_ble_eq_true rfl)⟩ dX12_game_156 (fun r156 N156 w156 hpo156 hN156 => ?_)
                  obtain ⟨rfl, rfl, rfl⟩ := hpo156
                  refine x_st (st' := [.int (zI (leadA p (repA p (mvA p l xx k) yy (bestF p (mvA p l xx k) yy 48)) (a (10 + xx))))]) rfl ?_
                  refine x_st (st' := [.int (zI (leadA p (repA p (mvA p l xx k) yy (bestF p (mvA p l xx k) yy 48)) (p (10 + xx))))]) (by rw [e155]) ?_
                  have hr156 := leadA_rng (l := (repA p (mvA p l xx k) yy (bestF p (mvA p l xx k) yy 48))) (land := p (10 + xx)) hq1
                  refine x_nm (fun z2 hz2 => ?_)
                  refine x_istore (pc := 159) K (L' := [(9, .int (zI z2)), (8, .int (zI res_112)), (7, .int (zI z1)), (0, .ref (B + 161)), (1, .int (zI (xx : Int))), (2, .int (zI (yy : Int))), (3, .int (zI what)), (4, .int (zI b)), (5, .int (zI q)), (6, .int (zI c))]) hnL (by decide) rfl dX12_game_159 ?_
                  refine x_iload (pc := 161) 7 K rfl dX12_game_161 ?_
                  refine x_ldc (pc := 163) (x := (-1000000)) (-1000000) K (by decide) (by decide +kernel) dX12_game_163 ?_
                  refine x_icmp_eq (pc := 165) (tgt := 175) K (by omega) (by decide) dX12_game_165 (by decide) (fun h_165 => ?_) (fun h_165 => ?_)
                  · skip
                    refine x_iload (pc := 175) 9 K rfl dX12_game_175 ?_
                    refine x_istore (pc := 177) K (L' := [(4, .int (zI c)), (9, .int (zI z2)), (8, .int (zI res_112)), (7, .int (zI z1)), (0, .ref (B + 161)), (1, .int (zI (xx : Int))), (2, .int (zI (yy : Int))), (3, .int (zI what)), (5, .int (zI q)), (6, .int (zI c))]) hnL (by decide) rfl dX12_game_177 ?_
                    refine x_iload (pc := 179) 1 K rfl dX12_game_179 ?_
                    refine x_istore (pc := 181) K (L' := [(5, .int (zI z2)), (4, .int (zI c)), (9, .int (zI z2)), (8, .int (zI res_112)), (7, .int (zI z1)), (0, .ref (B + 161)), (1, .int (zI (xx : Int))), (2, .int (zI (yy : Int))), (3, .int (zI what)), (6, .int (zI c))]) hnL (by decide) rfl dX12_game_181 ?_
                    refine x_iinc (pc := 183) (L' := [(6, .int (zI (c + 1))), (5, .int (zI z2)), (4, .int (zI c)), (9, .int (zI z2)), (8, .int (zI res_112)), (7, .int (zI z1)), (0, .ref (B + 161)), (1, .int (zI (xx : Int))), (2, .int (zI (yy : Int))), (3, .int (zI what))]) 9 K hnL rfl (by decide) rfl dX12_game_183 ?_
                    refine x_goto (pc := 186) (tgt := 32) K dX12_game_186 (by decide) ?_
                    refine x_sub (L' := [(0, .ref (B + 161)), (1, .int (zI (xx : Int))), (2, .int (zI (yy : Int))), (3, .int (zI what)), (4, .int (zI c)), (5, .int (zI z2)), (6, .int (zI (c + 1)))]) [6, 7, 8, 9, 2, 1, 0] rfl ?_
                    exact ih32 c z2 (c + 1) (k + 1) bl_112 t2_112 (cpI a x2 0 0 138) (by omega) (by omega) (by first | exact gameR_new2 hi32_2 hsel (by omega) hz2 (by omega) | exact gameR_old2 hi32_2 hsel hz2 (by omega)) (by omega)
                  · skip
                    refine x_iload (pc := 168) 0 K rfl dX12_game_168 ?_
                    refine x_iload (pc := 170) 8 K rfl dX12_game_170 ?_
                    refine x_icmp_le (pc := 172) (tgt := 183) K (by omega) (by omega) dX12_game_172 (by decide) (fun h_172 => ?_) (fun h_172 => ?_)
                    · skip
                      refine x_iinc (pc := 183) (L' := [(6, .int (zI (c + 1))), (9, .int (zI z2)), (8, .int (zI res_112)), (7, .int (zI z1)), (0, .ref (B + 161)), (1, .int (zI (xx : Int))), (2, .int (zI (yy : Int))), (3, .int (zI what)), (4, .int (zI b)), (5, .int (zI q))]) 9 K hnL rfl (by decide) rfl dX12_game_183 ?_
                      refine x_goto (pc := 186) (tgt := 32) K dX12_game_186 (by decide) ?_
                      refine x_sub (L' := [(0, .ref (B + 161)), (1, .int (zI (xx : Int))), (2, .int (zI (yy : Int))), (3, .int (zI what)), (4, .int (zI b)), (5, .int (zI q)), (6, .int (zI (c + 1)))]) [4, 5, 6, 7, 8, 9, 0] rfl ?_
                      exact ih32 b q (c + 1) (k + 1) bl_112 t2_112 (cpI a x2 0 0 138) (by omega) (by omega) (by first | exact gameR_new2 hi32_2 hsel (by omega) hz2 (by omega) | exact gameR_old2 hi32_2 hsel hz2 (by omega)) (by omega)
                    · skip
                      refine x_iload (pc := 175) 9 K rfl dX12_game_175 ?_
                      refine x_istore (pc := 177) K (L' := [(4, .int (zI c)), (9, .int (zI z2)), (8, .int (zI res_112)), (7, .int (zI z1)), (0, .ref (B + 161)), (1, .int (zI (xx : Int))), (2, .int (zI (yy : Int))), (3, .int (zI what)), (5, .int (zI q)), (6, .int (zI c))]) hnL (by decide) rfl dX12_game_177 ?_
                      refine x_iload (pc := 179) 1 K rfl dX12_game_179 ?_
                      refine x_istore (pc := 181) K (L' := [(5, .int (zI z2)), (4, .int (zI c)), (9, .int (zI z2)), (8, .int (zI res_112)), (7, .int (zI z1)), (0, .ref (B + 161)), (1, .int (zI (xx : Int))), (2, .int (zI (yy : Int))), (3, .int (zI what)), (6, .int (zI c))]) hnL (by decide) rfl dX12_game_181 ?_
                      refine x_iinc (pc := 183) (L' := [(6, .int (zI (c + 1))), (5, .int (zI z2)), (4, .int (zI c)), (9, .int (zI z2)), (8, .int (zI res_112)), (7, .int (zI z1)), (0, .ref (B + 161)), (1, .int (zI (xx : Int))), (2, .int (zI (yy : Int))), (3, .int (zI what))]) 9 K hnL rfl (by decide) rfl dX12_game_183 ?_
                      refine x_goto (pc := 186) (tgt := 32) K dX12_game_186 (by decide) ?_
                      refine x_sub (L' := [(0, .ref (B + 161)), (1, .int (zI (xx : Int))), (2, .int (zI (yy : Int))), (3, .int (zI what)), (4, .int (zI c)), (5, .int (zI z2)), (6, .int (zI (c + 1)))]) [6, 7, 8, 9, 2, 1, 0] rfl ?_
                      exact ih32 c z2 (c + 1) (k + 1) bl_112 t2_112 (cpI a x2 0 0 138) (by omega) (by omega) (by first | exact gameR_new2 hi32_2 hsel (by omega) hz2 (by omega) | exact gameR_old2 hi32_2 hsel hz2 (by omega)) (by omega)
                · skip
                  refine x_aload_n (pc := 124) 2 K rfl rfl dX12_game_124 ?_
                  refine x_get (pc := 125) (C := RX12) (T := TX12) (n := 26) (ci := 11) (idx := 240) (ref := "BorderBedsModel") (x := .int (zI bl_112))  K (cel_ne (cel_ne (cel_self hc0.1) (by decide)) (by decide)) rfl (by decide +kernel) 25 (by decide) (by decide +kernel) rfl rfl dX12_game_125 ?_
                  refine x_iload (pc := 128) 1 K rfl dX12_game_128 ?_
                  refine x_icmp_le (pc := 130) (tgt := 143) K (by omega) (by omega) dX12_game_130 (by decide) (fun h_130 => ?_) (fun h_130 => ?_)
                  · skip
                    have hrE : (repA p (mvA p l xx k) yy (bestF p (mvA p l xx k) yy 48)) = (mvA p l xx k) := by 
                            rcases hb8 with ⟨h, -⟩ | ⟨c, ml, mh, h, -, h2, -⟩
                            · rw [h]; rfl
                            · rw [h]; show (if _ then _ else _) = _; rw [if_neg (by omega)]
                    have hrp : PR (cpI a x2 0 0 138) p (repA p (mvA p l xx k) yy (bestF p (mvA p l xx k) yy 48)) := by rw [hrE]; exact hmp
                    have hro : CorOk (repA p (mvA p l xx k) yy (bestF p (mvA p l xx k) yy 48)) := by rw [hrE]; exact hmo
                    have hrl : ((repA p (mvA p l xx k) yy (bestF p (mvA p l xx k) yy 48)).length : Int) ≤ p 2 := by rw [hrE]; exact hml
                    refine x_aload_n (pc := 143) 2 K rfl rfl dX12_game_143 ?_
                    refine x_get (pc := 144) (C := RX12) (T := TX12) (n := 26) (ci := 11) (idx := 41) (ref := "BorderBedsModel") (x := .ref (B + 172))  K (cel_ne (cel_ne (cel_self hc0.1) (by decide)) (by decide)) rfl (by decide +kernel) 23 (by decide) (by decide +kernel) rfl rfl dX12_game_144 ?_
                    refine x_aload_n (pc := 147) 2 K rfl rfl dX12_game_147 ?_
                    refine x_get (pc := 148) (C := RX12) (T := TX12) (n := 26) (ci := 11) (idx := 22) (ref := "BorderBedsModel") (x := .ref (B + 166))  K (cel_ne (cel_ne (cel_self hc0.1) (by decide)) (by decide)) rfl (by decide +kernel) 8 (by decide) (by decide +kernel) rfl rfl dX12_game_148 ?_
                    refine x_bipush (pc := 151) K (by decide) dX12_game_151 ?_
                    refine x_iload_n (pc := 153) 3 K rfl rfl dX12_game_153 ?_
                    refine x_iadd (pc := 154) K dX12_game_154 ?_
                    refine x_iald (pc := 155) (10 + xx) K (cel_ne (cel_ne (cel_ne hc1 (by decide)) (by decide)) (by decide)) (by omega) (by omega) (by decide) dX12_game_155 ?_
                    refine x_callS (pc := 156) (As := [.ref (B + 172), .int (zI (a (10 + xx)))]) K (c_X12_lead (E := E) (B := B) (N := N) (p := p) (l := (repA p (mvA p l xx k) yy (bestF p (mvA p l xx k) yy 48)))  (cel_self hc3.1) hrp hq1 hro (by omega) (by omega)) gX12_game_X12_lead rfl (na := 2) (by decide +kernel) rfl ⟨(Nat.le_of_ble_eq_true rfl), (Nat.le_of_ble_eq_true rfl)⟩ (st := []) rfl (Nat.le_of_ble_eq_true rfl) ⟨(Nat.le_of_ble_eq_true rfl), (Nat.le_of_ble_eq_true rfl)⟩ dX12_game_156 (fun r156 N156 w156 hpo156 hN156 => ?_)
                    obtain ⟨rfl, rfl, rfl⟩ := hpo156
                    refine x_st (st' := [.int (zI (leadA p (repA p (mvA p l xx k) yy (bestF p (mvA p l xx k) yy 48)) (a (10 + xx))))]) rfl ?_
                    refine x_st (st' := [.int (zI (leadA p (repA p (mvA p l xx k) yy (bestF p (mvA p l xx k) yy 48)) (p (10 + xx))))]) (by rw [e155]) ?_
                    have hr156 := leadA_rng (l := (repA p (mvA p l xx k) yy (bestF p (mvA p l xx k) yy 48))) (land := p (10 + xx)) hq1
                    refine x_nm (fun z3 hz3 => ?_)
                    refine x_istore (pc := 159) K (L' := [(9, .int (zI z3)), (8, .int (zI res_112)), (7, .int (zI z1)), (0, .ref (B + 161)), (1, .int (zI (xx : Int))), (2, .int (zI (yy : Int))), (3, .int (zI what)), (4, .int (zI b)), (5, .int (zI q)), (6, .int (zI c))]) hnL (by decide) rfl dX12_game_159 ?_
                    refine x_iload (pc := 161) 7 K rfl dX12_game_161 ?_
                    refine x_ldc (pc := 163) (x := (-1000000)) (-1000000) K (by decide) (by decide +kernel) dX12_game_163 ?_
                    refine x_icmp_eq (pc := 165) (tgt := 175) K (by omega) (by decide) dX12_game_165 (by decide) (fun h_165 => ?_) (fun h_165 => ?_)
                    · skip
                      refine x_iload (pc := 175) 9 K rfl dX12_game_175 ?_
                      refine x_istore (pc := 177) K (L' := [(4, .int (zI c)), (9, .int (zI z3)), (8, .int (zI res_112)), (7, .int (zI z1)), (0, .ref (B + 161)), (1, .int (zI (xx : Int))), (2, .int (zI (yy : Int))), (3, .int (zI what)), (5, .int (zI q)), (6, .int (zI c))]) hnL (by decide) rfl dX12_game_177 ?_
                      refine x_iload (pc := 179) 1 K rfl dX12_game_179 ?_
                      refine x_istore (pc := 181) K (L' := [(5, .int (zI z3)), (4, .int (zI c)), (9, .int (zI z3)), (8, .int (zI res_112)), (7, .int (zI z1)), (0, .ref (B + 161)), (1, .int (zI (xx : Int))), (2, .int (zI (yy : Int))), (3, .int (zI what)), (6, .int (zI c))]) hnL (by decide) rfl dX12_game_181 ?_
                      refine x_iinc (pc := 183) (L' := [(6, .int (zI (c + 1))), (5, .int (zI z3)), (4, .int (zI c)), (9, .int (zI z3)), (8, .int (zI res_112)), (7, .int (zI z1)), (0, .ref (B + 161)), (1, .int (zI (xx : Int))), (2, .int (zI (yy : Int))), (3, .int (zI what))]) 9 K hnL rfl (by decide) rfl dX12_game_183 ?_
                      refine x_goto (pc := 186) (tgt := 32) K dX12_game_186 (by decide) ?_
                      refine x_sub (L' := [(0, .ref (B + 161)), (1, .int (zI (xx : Int))), (2, .int (zI (yy : Int))), (3, .int (zI what)), (4, .int (zI c)), (5, .int (zI z3)), (6, .int (zI (c + 1)))]) [6, 7, 8, 9, 2, 1, 0] rfl ?_
                      exact ih32 c z3 (c + 1) (k + 1) bl_112 t2_112 (cpI a x2 0 0 138) (by omega) (by omega) (by first | exact gameR_new2 hi32_2 hsel (by omega) hz3 (by omega) | exact gameR_old2 hi32_2 hsel hz3 (by omega)) (by omega)
                    · skip
                      refine x_iload (pc := 168) 0 K rfl dX12_game_168 ?_
                      refine x_iload (pc := 170) 8 K rfl dX12_game_170 ?_
                      refine x_icmp_le (pc := 172) (tgt := 183) K (by omega) (by omega) dX12_game_172 (by decide) (fun h_172 => ?_) (fun h_172 => ?_)
                      · skip
                        refine x_iinc (pc := 183) (L' := [(6, .int (zI (c + 1))), (9, .int (zI z3)), (8, .int (zI res_112)), (7, .int (zI z1)), (0, .ref (B + 161)), (1, .int (zI (xx : Int))), (2, .int (zI (yy : Int))), (3, .int (zI what)), (4, .int (zI b)), (5, .int (zI q))]) 9 K hnL rfl (by decide) rfl dX12_game_183 ?_
                        refine x_goto (pc := 186) (tgt := 32) K dX12_game_186 (by decide) ?_
                        refine x_sub (L' := [(0, .ref (B + 161)), (1, .int (zI (xx : Int))), (2, .int (zI (yy : Int))), (3, .int (zI what)), (4, .int (zI b)), (5, .int (zI q)), (6, .int (zI (c + 1)))]) [4, 5, 6, 7, 8, 9, 0] rfl ?_
                        exact ih32 b q (c + 1) (k + 1) bl_112 t2_112 (cpI a x2 0 0 138) (by omega) (by omega) (by first | exact gameR_new2 hi32_2 hsel (by omega) hz3 (by omega) | exact gameR_old2 hi32_2 hsel hz3 (by omega)) (by omega)
                      · skip
                        refine x_iload (pc := 175) 9 K rfl dX12_game_175 ?_
                        refine x_istore (pc := 177) K (L' := [(4, .int (zI c)), (9, .int (zI z3)), (8, .int (zI res_112)), (7, .int (zI z1)), (0, .ref (B + 161)), (1, .int (zI (xx : Int))), (2, .int (zI (yy : Int))), (3, .int (zI what)), (5, .int (zI q)), (6, .int (zI c))]) hnL (by decide) rfl dX12_game_177 ?_
                        refine x_iload (pc := 179) 1 K rfl dX12_game_179 ?_
                        refine x_istore (pc := 181) K (L' := [(5, .int (zI z3)), (4, .int (zI c)), (9, .int (zI z3)), (8, .int (zI res_112)), (7, .int (zI z1)), (0, .ref (B + 161)), (1, .int (zI (xx : Int))), (2, .int (zI (yy : Int))), (3, .int (zI what)), (6, .int (zI c))]) hnL (by decide) rfl dX12_game_181 ?_
                        refine x_iinc (pc := 183) (L' := [(6, .int (zI (c + 1))), (5, .int (zI z3)), (4, .int (zI c)), (9, .int (zI z3)), (8, .int (zI res_112)), (7, .int (zI z1)), (0, .ref (B + 161)), (1, .int (zI (xx : Int))), (2, .int (zI (yy : Int))), (3, .int (zI what))]) 9 K hnL rfl (by decide) rfl dX12_game_183 ?_
                        refine x_goto (pc := 186) (tgt := 32) K dX12_game_186 (by decide) ?_
                        refine x_sub (L' := [(0, .ref (B + 161)), (1, .int (zI (xx : Int))), (2, .int (zI (yy : Int))), (3, .int (zI what)), (4, .int (zI c)), (5, .int (zI z3)), (6, .int (zI (c + 1)))]) [6, 7, 8, 9, 2, 1, 0] rfl ?_
                        exact ih32 c z3 (c + 1) (k + 1) bl_112 t2_112 (cpI a x2 0 0 138) (by omega) (by omega) (by first | exact gameR_new2 hi32_2 hsel (by omega) hz3 (by omega) | exact gameR_old2 hi32_2 hsel hz3 (by omega)) (by omega)
                  · skip
                    obtain ⟨bb, rfl⟩ : ∃ bb : Nat, res_112 = (bb : Int) := ⟨res_112.toNat, by omega⟩
                    have hrE : (repA p (mvA p l xx k) yy (bestF p (mvA p l xx k) yy 48)) = (crossA (p (5 + yy)) (p 2) bb (mvA p l xx k)) := by
                            rcases hb8 with ⟨-, h⟩ | ⟨c, ml, mh, h, h3, h2, -⟩
                            · exfalso; omega
                            · rw [h]
                              show (if _ then _ else _) = _
                              rw [if_pos (by omega), show c = bb by omega]
                    have hok2 := crossA_ok (kind := p (5 + yy)) (keeps := p 2) hmo (show bb ≤ 47 by omega)
                    refine x_aload_n (pc := 133) 2 K rfl rfl dX12_game_133 ?_
                    refine x_get (pc := 134) (C := RX12) (T := TX12) (n := 26) (ci := 11) (idx := 41) (ref := "BorderBedsModel") (x := .ref (B + 172))  K (cel_ne (cel_ne (cel_self hc0.1) (by decide)) (by decide)) rfl (by decide +kernel) 23 (by decide) (by decide +kernel) rfl rfl dX12_game_134 ?_
                    refine x_iload_n (pc := 137) 4 K rfl rfl dX12_game_137 ?_
                    refine x_iload (pc := 138) 0 K rfl dX12_game_138 ?_
                    refine x_callS (pc := 140) (As := [.ref (B + 172), .int (zI (yy : Int)), .int (zI (bb : Int))]) K (c_X12_crosses (E := E) (B := B) (N := N) (p := p) (l := (mvA p l xx k)) (who := yy) (cell := bb) rfl rfl (cel_self hc3.1) hmp hq1 hmo (by omega) (by omega) (by omega)) gX12_game_X12_crosses rfl (na := 3) (by decide +kernel) rfl ⟨(Nat.le_of_ble_eq_true rfl), (Nat.le_of_ble_eq_true rfl)⟩ (st := []) rfl (Nat.le_of_ble_eq_true rfl) ⟨(Nat.le_of_ble_eq_true rfl), (Nat.le_of_ble_eq_true rfl)⟩ dX12_game_140 (fun r140 N140 w140 hpo140 hN140 => ?_)
                    obtain ⟨rfl, g_140, hp140_0, rfl, rfl⟩ := hpo140
                    refine x_v (w := (va_up (va_up (va_up v 161 (oM B (va_up F 25 bl_112) V)) 173 (iarr E 138 t2_112)) 172 (iarr E 138 g_140))) (up_at0).symm ?_
                    refine x_st (st' := []) rfl ?_
                    have hrp : PR g_140 p (repA p (mvA p l xx k) yy (bestF p (mvA p l xx k) yy 48)) := by rw [hrE]; exact hp140_0
                    have hro : CorOk (repA p (mvA p l xx k) yy (bestF p (mvA p l xx k) yy 48)) := by rw [hrE]; exact hok2
                    have hrl : ((repA p (mvA p l xx k) yy (bestF p (mvA p l xx k) yy 48)).length : Int) ≤ p 2 := by rw [hrE]; exact crossA_len hml hkp
                    refine x_aload_n (pc := 143) 2 K rfl rfl dX12_game_143 ?_
                    refine x_get (pc := 144) (C := RX12) (T := TX12) (n := 26) (ci := 11) (idx := 41) (ref := "BorderBedsModel") (x := .ref (B + 172))  K (cel_ne (cel_ne (cel_self hc0.1) (by decide)) (by decide)) rfl (by decide +kernel) 23 (by decide) (by decide +kernel) rfl rfl dX12_game_144 ?_
                    refine x_aload_n (pc := 147) 2 K rfl rfl dX12_game_147 ?_
                    refine x_get (pc := 148) (C := RX12) (T := TX12) (n := 26) (ci := 11) (idx := 22) (ref := "BorderBedsModel") (x := .ref (B + 166))  K (cel_ne (cel_ne (cel_self hc0.1) (by decide)) (by decide)) rfl (by decide +kernel) 8 (by decide) (by decide +kernel) rfl rfl dX12_game_148 ?_
                    refine x_bipush (pc := 151) K (by decide) dX12_game_151 ?_
                    refine x_iload_n (pc := 153) 3 K rfl rfl dX12_game_153 ?_
                    refine x_iadd (pc := 154) K dX12_game_154 ?_
                    refine x_iald (pc := 155) (10 + xx) K (cel_ne (cel_ne (cel_ne hc1 (by decide)) (by decide)) (by decide)) (by omega) (by omega) (by decide) dX12_game_155 ?_
                    refine x_callS (pc := 156) (As := [.ref (B + 172), .int (zI (a (10 + xx)))]) K (c_X12_lead (E := E) (B := B) (N := N) (p := p) (l := (repA p (mvA p l xx k) yy (bestF p (mvA p l xx k) yy 48)))  (cel_self hc3.1) hrp hq1 hro (by omega) (by omega)) gX12_game_X12_lead rfl (na := 2) (by decide +kernel) rfl ⟨(Nat.le_of_ble_eq_true rfl), (Nat.le_of_ble_eq_true rfl)⟩ (st := []) rfl (Nat.le_of_ble_eq_true rfl) ⟨(Nat.le_of_ble_eq_true rfl), (Nat.le_of_ble_eq_true rfl)⟩ dX12_game_156 (fun r156 N156 w156 hpo156 hN156 => ?_)
                    obtain ⟨rfl, rfl, rfl⟩ := hpo156
                    refine x_st (st' := [.int (zI (leadA p (repA p (mvA p l xx k) yy (bestF p (mvA p l xx k) yy 48)) (a (10 + xx))))]) rfl ?_
                    refine x_st (st' := [.int (zI (leadA p (repA p (mvA p l xx k) yy (bestF p (mvA p l xx k) yy 48)) (p (10 + xx))))]) (by rw [e155]) ?_
                    have hr156 := leadA_rng (l := (repA p (mvA p l xx k) yy (bestF p (mvA p l xx k) yy 48))) (land := p (10 + xx)) hq1
                    refine x_nm (fun z4 hz4 => ?_)
                    refine x_istore (pc := 159) K (L' := [(9, .int (zI z4)), (8, .int (zI (bb : Int))), (7, .int (zI z1)), (0, .ref (B + 161)), (1, .int (zI (xx : Int))), (2, .int (zI (yy : Int))), (3, .int (zI what)), (4, .int (zI b)), (5, .int (zI q)), (6, .int (zI c))]) hnL (by decide) rfl dX12_game_159 ?_
                    refine x_iload (pc := 161) 7 K rfl dX12_game_161 ?_
                    refine x_ldc (pc := 163) (x := (-1000000)) (-1000000) K (by decide) (by decide +kernel) dX12_game_163 ?_
                    refine x_icmp_eq (pc := 165) (tgt := 175) K (by omega) (by decide) dX12_game_165 (by decide) (fun h_165 => ?_) (fun h_165 => ?_)
                    · skip
                      refine x_iload (pc := 175) 9 K rfl dX12_game_175 ?_
                      refine x_istore (pc := 177) K (L' := [(4, .int (zI c)), (9, .int (zI z4)), (8, .int (zI (bb : Int))), (7, .int (zI z1)), (0, .ref (B + 161)), (1, .int (zI (xx : Int))), (2, .int (zI (yy : Int))), (3, .int (zI what)), (5, .int (zI q)), (6, .int (zI c))]) hnL (by decide) rfl dX12_game_177 ?_
                      refine x_iload (pc := 179) 1 K rfl dX12_game_179 ?_
                      refine x_istore (pc := 181) K (L' := [(5, .int (zI z4)), (4, .int (zI c)), (9, .int (zI z4)), (8, .int (zI (bb : Int))), (7, .int (zI z1)), (0, .ref (B + 161)), (1, .int (zI (xx : Int))), (2, .int (zI (yy : Int))), (3, .int (zI what)), (6, .int (zI c))]) hnL (by decide) rfl dX12_game_181 ?_
                      refine x_iinc (pc := 183) (L' := [(6, .int (zI (c + 1))), (5, .int (zI z4)), (4, .int (zI c)), (9, .int (zI z4)), (8, .int (zI (bb : Int))), (7, .int (zI z1)), (0, .ref (B + 161)), (1, .int (zI (xx : Int))), (2, .int (zI (yy : Int))), (3, .int (zI what))]) 9 K hnL rfl (by decide) rfl dX12_game_183 ?_
                      refine x_goto (pc := 186) (tgt := 32) K dX12_game_186 (by decide) ?_
                      refine x_sub (L' := [(0, .ref (B + 161)), (1, .int (zI (xx : Int))), (2, .int (zI (yy : Int))), (3, .int (zI what)), (4, .int (zI c)), (5, .int (zI z4)), (6, .int (zI (c + 1)))]) [6, 7, 8, 9, 2, 1, 0] rfl ?_
                      exact ih32 c z4 (c + 1) (k + 1) bl_112 t2_112 g_140 (by omega) (by omega) (by first | exact gameR_new2 hi32_2 hsel (by omega) hz4 (by omega) | exact gameR_old2 hi32_2 hsel hz4 (by omega)) (by omega)
                    · skip
                      refine x_iload (pc := 168) 0 K rfl dX12_game_168 ?_
                      refine x_iload (pc := 170) 8 K rfl dX12_game_170 ?_
                      refine x_icmp_le (pc := 172) (tgt := 183) K (by omega) (by omega) dX12_game_172 (by decide) (fun h_172 => ?_) (fun h_172 => ?_)
                      · skip
                        refine x_iinc (pc := 183) (L' := [(6, .int (zI (c + 1))), (9, .int (zI z4)), (8, .int (zI (bb : Int))), (7, .int (zI z1)), (0, .ref (B + 161)), (1, .int (zI (xx : Int))), (2, .int (zI (yy : Int))), (3, .int (zI what)), (4, .int (zI b)), (5, .int (zI q))]) 9 K hnL rfl (by decide) rfl dX12_game_183 ?_
                        refine x_goto (pc := 186) (tgt := 32) K dX12_game_186 (by decide) ?_
                        refine x_sub (L' := [(0, .ref (B + 161)), (1, .int (zI (xx : Int))), (2, .int (zI (yy : Int))), (3, .int (zI what)), (4, .int (zI b)), (5, .int (zI q)), (6, .int (zI (c + 1)))]) [4, 5, 6, 7, 8, 9, 0] rfl ?_
                        exact ih32 b q (c + 1) (k + 1) bl_112 t2_112 g_140 (by omega) (by omega) (by first | exact gameR_new2 hi32_2 hsel (by omega) hz4 (by omega) | exact gameR_old2 hi32_2 hsel hz4 (by omega)) (by omega)
                      · skip
                        refine x_iload (pc := 175) 9 K rfl dX12_game_175 ?_
                        refine x_istore (pc := 177) K (L' := [(4, .int (zI c)), (9, .int (zI z4)), (8, .int (zI (bb : Int))), (7, .int (zI z1)), (0, .ref (B + 161)), (1, .int (zI (xx : Int))), (2, .int (zI (yy : Int))), (3, .int (zI what)), (5, .int (zI q)), (6, .int (zI c))]) hnL (by decide) rfl dX12_game_177 ?_
                        refine x_iload (pc := 179) 1 K rfl dX12_game_179 ?_
                        refine x_istore (pc := 181) K (L' := [(5, .int (zI z4)), (4, .int (zI c)), (9, .int (zI z4)), (8, .int (zI (bb : Int))), (7, .int (zI z1)), (0, .ref (B + 161)), (1, .int (zI (xx : Int))), (2, .int (zI (yy : Int))), (3, .int (zI what)), (6, .int (zI c))]) hnL (by decide) rfl dX12_game_181 ?_
                        refine x_iinc (pc := 183) (L' := [(6, .int (zI (c + 1))), (5, .int (zI z4)), (4, .int (zI c)), (9, .int (zI z4)), (8, .int (zI (bb : Int))), (7, .int (zI z1)), (0, .ref (B + 161)), (1, .int (zI (xx : Int))), (2, .int (zI (yy : Int))), (3, .int (zI what))]) 9 K hnL rfl (by decide) rfl dX12_game_183 ?_
                        refine x_goto (pc := 186) (tgt := 32) K dX12_game_186 (by decide) ?_
                        refine x_sub (L' := [(0, .ref (B + 161)), (1, .int (zI (xx : Int))), (2, .int (zI (yy : Int))), (3, .int (zI what)), (4, .int (zI c)), (5, .int (zI z4)), (6, .int (zI (c + 1)))]) [6, 7, 8, 9, 2, 1, 0] rfl ?_
                        exact ih32 c z4 (c + 1) (k + 1) bl_112 t2_112 g_140 (by omega) (by omega) (by first | exact gameR_new2 hi32_2 hsel (by omega) hz4 (by omega) | exact gameR_old2 hi32_2 hsel hz4 (by omega)) (by omega)
              · skip
                exfalso; omega
            · skip
              obtain ⟨cc, rfl⟩ : ∃ cc : Nat, c = (cc : Int) := ⟨c.toNat, by omega⟩
              refine x_aload_n (pc := 44) 0 K rfl rfl dX12_game_44 ?_
              refine x_get (pc := 45) (C := RX12) (T := TX12) (n := 26) (ci := 11) (idx := 22) (ref := "BorderBedsModel") (x := .ref (B + 166))  K (cel_ne (cel_ne (cel_self hc0.1) (by decide)) (by decide)) rfl (by decide +kernel) 8 (by decide) (by decide +kernel) rfl rfl dX12_game_45 ?_
              refine x_iload_n (pc := 48) 1 K rfl rfl dX12_game_48 ?_
              refine x_iload (pc := 49) 6 K rfl dX12_game_49 ?_
              refine x_callS (pc := 51) (As := [.ref (B + 166), .int (zI (xx : Int)), .int (zI (cc : Int))]) K (c_X12_mayCross (E := E) (B := B) (N := N) (p := p) (l := l) (who := xx) (cell := cc) rfl rfl (cel_ne (cel_ne (cel_ne hc1 (by decide)) (by decide)) (by decide)) hq0 hq1 hq2 (by omega) (by omega) (by omega)) gX12_game_X12_mayCross rfl (na := 3) (by decide +kernel) rfl ⟨(Nat.le_of_ble_eq_true rfl), (Nat.le_of_ble_eq_true rfl)⟩ (st := []) rfl (Nat.le_of_ble_eq_true rfl) ⟨(Nat.le_of_ble_eq_true rfl), (Nat.le_of_ble_eq_true rfl)⟩ dX12_game_51 (fun r51 N51 w51 hpo51 hN51 => ?_)
              obtain ⟨rfl, rfl, rfl⟩ := hpo51
              refine x_st (st' := [.int (zI (mayI p l xx cc))]) rfl ?_
              have hrg51 := mayI_rng p l xx cc
              refine x_if_ne (pc := 54) (tgt := 60) K (by omega) dX12_game_54 (by decide) (fun h_54 => ?_) (fun h_54 => ?_)
              · skip
                have h_54 := mayI_t h_54
                have hmay := mayI_1 h_54
                have hok := crossA_ok (kind := p (5 + xx)) (keeps := p 2) hq2 (show cc ≤ 47 by omega)
                have hcl := crossA_len (kind := p (5 + xx)) (cell := cc) hq3 hkp
                refine x_aload_n (pc := 60) 0 K rfl rfl dX12_game_60 ?_
                refine x_get (pc := 61) (C := RX12) (T := TX12) (n := 26) (ci := 11) (idx := 22) (ref := "BorderBedsModel") (x := .ref (B + 166))  K (cel_ne (cel_ne (cel_self hc0.1) (by decide)) (by decide)) rfl (by decide +kernel) 8 (by decide) (by decide +kernel) rfl rfl dX12_game_61 ?_
                refine x_iconst (pc := 64) K dX12_game_64 ?_
                refine x_aload_n (pc := 65) 0 K rfl rfl dX12_game_65 ?_
                refine x_get (pc := 66) (C := RX12) (T := TX12) (n := 26) (ci := 11) (idx := 41) (ref := "BorderBedsModel") (x := .ref (B + 172))  K (cel_ne (cel_ne (cel_self hc0.1) (by decide)) (by decide)) rfl (by decide +kernel) 23 (by decide) (by decide +kernel) rfl rfl dX12_game_66 ?_
                refine x_iconst (pc := 69) K dX12_game_69 ?_
                refine x_callS (pc := 70) (As := [.ref (B + 166), .int (zI 0), .ref (B + 172), .int (zI 0)]) K (c_X12_copies (E := E) (B := B) (N := N) (i := 0) (j := 0) rfl rfl (cel_ne (cel_ne (cel_ne hc1 (by decide)) (by decide)) (by decide)) (cel_self hc3.1) (by omega) (by omega) (by omega)) gX12_game_X12_copies rfl (na := 4) (by decide +kernel) rfl ⟨(Nat.le_of_ble_eq_true rfl), (Nat.le_of_ble_eq_true rfl)⟩ (st := []) rfl (Nat.le_of_ble_eq_true rfl) ⟨(Nat.le_of_ble_eq_true rfl), (Nat.le_of_ble_eq_true rfl)⟩ dX12_game_70 (fun r70 N70 w70 hpo70 hN70 => ?_)
                obtain ⟨rfl, rfl, rfl⟩ := hpo70
                refine x_v (w := (va_up (va_up (va_up v 161 (oM B (va_up F 25 bl) V)) 173 (iarr E 138 x1)) 172 (iarr E 138 (cpI a x2 0 0 138)))) (up_at0).symm ?_
                refine x_st (st' := []) rfl ?_
                refine x_iload (pc := 73) 6 K rfl dX12_game_73 ?_
                refine x_if_lt (pc := 75) (tgt := 88) K (by omega) dX12_game_75 (by decide) (fun h_75 => ?_) (fun h_75 => ?_)
                · skip
                  exfalso; omega
                · skip
                  refine x_aload_n (pc := 78) 0 K rfl rfl dX12_game_78 ?_
                  refine x_get (pc := 79) (C := RX12) (T := TX12) (n := 26) (ci := 11) (idx := 41) (ref := "BorderBedsModel") (x := .ref (B + 172))  K (cel_ne (cel_ne (cel_self hc0.1) (by decide)) (by decide)) rfl (by decide +kernel) 23 (by decide) (by decide +kernel) rfl rfl dX12_game_79 ?_
                  refine x_iload_n (pc := 82) 1 K rfl rfl dX12_game_82 ?_
                  refine x_iload (pc := 83) 6 K rfl dX12_game_83 ?_
                  refine x_callS (pc := 85) (As := [.ref (B + 172), .int (zI (xx : Int)), .int (zI (cc : Int))]) K (c_X12_crosses (E := E) (B := B) (N := N) (p := p) (l := l) (who := xx) (cell := cc) rfl rfl (cel_self hc3.1) (cpI_PR (PR_0 hq0) (by omega)) hq1 hq2 (by omega) (by omega) (by omega)) gX12_game_X12_crosses rfl (na := 3) (by decide +kernel) rfl ⟨(Nat.le_of_ble_eq_true rfl), (Nat.le_of_ble_eq_true rfl)⟩ (st := []) rfl (Nat.le_of_ble_eq_true rfl) ⟨(Nat.le_of_ble_eq_true rfl), (Nat.le_of_ble_eq_true rfl)⟩ dX12_game_85 (fun r85 N85 w85 hpo85 hN85 => ?_)
                  obtain ⟨rfl, g_85, hp85_0, rfl, rfl⟩ := hpo85
                  refine x_v (w := (va_up (va_up (va_up v 161 (oM B (va_up F 25 bl) V)) 173 (iarr E 138 x1)) 172 (iarr E 138 g_85))) (up_at0).symm ?_
                  refine x_st (st' := []) rfl ?_
                  have hmvE : (mvA p l xx k) = (crossA (p (5 + xx)) (p 2) cc l) := by unfold mvA; rw [if_neg (by omega), show k - 1 = cc by omega]
                  have hsel : k = 0 ∨ mayI p l xx (k - 1) = 1 := Or.inr (by rw [show k - 1 = cc by omega]; exact hmay)
                  have hmp : PR g_85 p (mvA p l xx k) := by rw [hmvE]; exact hp85_0
                  have hmo : CorOk (mvA p l xx k) := by rw [hmvE]; exact hok
                  have hml : ((mvA p l xx k).length : Int) ≤ p 2 := by rw [hmvE]; exact hcl
                  refine x_aload_n (pc := 88) 0 K rfl rfl dX12_game_88 ?_
                  refine x_get (pc := 89) (C := RX12) (T := TX12) (n := 26) (ci := 11) (idx := 41) (ref := "BorderBedsModel") (x := .ref (B + 172))  K (cel_ne (cel_ne (cel_self hc0.1) (by decide)) (by decide)) rfl (by decide +kernel) 23 (by decide) (by decide +kernel) rfl rfl dX12_game_89 ?_
                  refine x_aload_n (pc := 92) 0 K rfl rfl dX12_game_92 ?_
                  refine x_get (pc := 93) (C := RX12) (T := TX12) (n := 26) (ci := 11) (idx := 22) (ref := "BorderBedsModel") (x := .ref (B + 166))  K (cel_ne (cel_ne (cel_self hc0.1) (by decide)) (by decide)) rfl (by decide +kernel) 8 (by decide) (by decide +kernel) rfl rfl dX12_game_93 ?_
                  refine x_bipush (pc := 96) K (by decide) dX12_game_96 ?_
                  refine x_iload_n (pc := 98) 2 K rfl rfl dX12_game_98 ?_
                  refine x_iadd (pc := 99) K dX12_game_99 ?_
                  refine x_iald (pc := 100) (10 + yy) K (cel_ne (cel_ne (cel_ne hc1 (by decide)) (by decide)) (by decide)) (by omega) (by omega) (by decide) dX12_game_100 ?_
                  refine x_callS (pc := 101) (As := [.ref (B + 172), .int (zI (a (10 + yy)))]) K (c_X12_lead (E := E) (B := B) (N := N) (p := p) (l := (mvA p l xx k))  (cel_self hc3.1) hmp hq1 hmo (by omega) (by omega)) gX12_game_X12_lead rfl (na := 2) (by decide +kernel) rfl ⟨(Nat.le_of_ble_eq_true rfl), (Nat.le_of_ble_eq_true rfl)⟩ (st := []) rfl (Nat.le_of_ble_eq_true rfl) ⟨(Nat.le_of_ble_eq_true rfl), (Nat.le_of_ble_eq_true rfl)⟩ dX12_game_101 (fun r101 N101 w101 hpo101 hN101 => ?_)
                  obtain ⟨rfl, rfl, rfl⟩ := hpo101
                  refine x_st (st' := [.int (zI (leadA p (mvA p l xx k) (a (10 + yy))))]) rfl ?_
                  refine x_st (st' := [.int (zI (leadA p (mvA p l xx k) (p (10 + yy))))]) (by rw [e100]) ?_
                  have hr101 := leadA_rng (l := (mvA p l xx k)) (land := p (10 + yy)) hq1
                  refine x_nm (fun z5 hz5 => ?_)
                  refine x_istore (pc := 104) K (L' := [(7, .int (zI z5)), (0, .ref (B + 161)), (1, .int (zI (xx : Int))), (2, .int (zI (yy : Int))), (3, .int (zI what)), (4, .int (zI b)), (5, .int (zI q)), (6, .int (zI (cc : Int)))]) hnL (by decide) rfl dX12_game_104 ?_
                  refine x_aload_n (pc := 106) 1 K rfl rfl dX12_game_106 ?_
                  refine x_aload_n (pc := 107) 1 K rfl rfl dX12_game_107 ?_
                  refine x_get (pc := 108) (C := RX12) (T := TX12) (n := 26) (ci := 11) (idx := 41) (ref := "BorderBedsModel") (x := .ref (B + 172))  K (cel_ne (cel_ne (cel_self hc0.1) (by decide)) (by decide)) rfl (by decide +kernel) 23 (by decide) (by decide +kernel) rfl rfl dX12_game_108 ?_
                  refine x_iload_n (pc := 111) 3 K rfl rfl dX12_game_111 ?_
                  refine x_callV (pc := 112) (C := RX12) (T := TX12) (n := 26) (ci := 11) (As := [.ref (B + 172), .int (zI (yy : Int))]) K (c_X12_bestOn (E := E) (B := B) (N := N) (p := p) (l := (mvA p l xx k)) (who := yy) rfl (cel_ne (cel_ne (cel_self hc0.1) (by decide)) (by decide)) (cel_self hc3.1) (cel_ne (cel_self hc2.1) (by decide)) hmp hq1 hmo hml (by omega) (by omega)) gX12_game_X12_bestOn rfl (na := 2) (by decide +kernel) rfl ⟨(Nat.le_of_ble_eq_true rfl), (Nat.le_of_ble_eq_true rfl)⟩ (cel_ne (cel_ne (cel_self hc0.1) (by decide)) (by decide)) rfl (st := []) rfl (Nat.le_of_ble_eq_true rfl) ⟨(Nat.le_of_ble_eq_true rfl), (Nat.le_of_ble_eq_true rfl)⟩ dX12_game_112 (fun r112 N112 w112 hpo112 hN112 => ?_)
                  obtain ⟨rfl, res_112, bl_112, t2_112, hp112_0, hp112_1, rfl, rfl⟩ := hpo112
                  refine x_v (congrArg (fun w => (va_up w 173 (iarr E 138 t2_112))) (show (va_up (va_up (va_up v 161 (oM B (va_up F 25 bl_112) V)) 173 (iarr E 138 x1)) 172 (iarr E 138 g_85)) = _ from (up_at2 (by decide) (by decide)).symm)) ?_
                  refine x_v (w := (va_up (va_up (va_up v 161 (oM B (va_up F 25 bl_112) V)) 173 (iarr E 138 t2_112)) 172 (iarr E 138 g_85))) (up_at1 (by decide)).symm ?_
                  refine x_st (st' := [.int (zI res_112)]) rfl ?_
                  obtain ⟨m8, hb8⟩ := hp112_0
                  refine x_istore (pc := 115) K (L' := [(8, .int (zI res_112)), (7, .int (zI z5)), (0, .ref (B + 161)), (1, .int (zI (xx : Int))), (2, .int (zI (yy : Int))), (3, .int (zI what)), (4, .int (zI b)), (5, .int (zI q)), (6, .int (zI (cc : Int)))]) hnL (by decide) rfl dX12_game_115 ?_
                  refine x_iload (pc := 117) 0 K rfl dX12_game_117 ?_
                  refine x_ldc (pc := 119) (x := (-1000000)) (-1000000) K (by decide) (by decide +kernel) dX12_game_119 ?_
                  refine x_icmp_eq (pc := 121) (tgt := 143) K (by omega) (by decide) dX12_game_121 (by decide) (fun h_121 => ?_) (fun h_121 => ?_)
                  · skip
                    have hrE : (repA p (mvA p l xx k) yy (bestF p (mvA p l xx k) yy 48)) = (mvA p l xx k) := by 
                            rcases hb8 with ⟨h, -⟩ | ⟨c, ml, mh, -, h, -⟩
                            · rw [h]; rfl
                            · exfalso; omega
                    have hrp : PR g_85 p (repA p (mvA p l xx k) yy (bestF p (mvA p l xx k) yy 48)) := by rw [hrE]; exact hmp
                    have hro : CorOk (repA p (mvA p l xx k) yy (bestF p (mvA p l xx k) yy 48)) := by rw [hrE]; exact hmo
                    have hrl : ((repA p (mvA p l xx k) yy (bestF p (mvA p l xx k) yy 48)).length : Int) ≤ p 2 := by rw [hrE]; exact hml
                    refine x_aload_n (pc := 143) 2 K rfl rfl dX12_game_143 ?_
                    refine x_get (pc := 144) (C := RX12) (T := TX12) (n := 26) (ci := 11) (idx := 41) (ref := "BorderBedsModel") (x := .ref (B + 172))  K (cel_ne (cel_ne (cel_self hc0.1) (by decide)) (by decide)) rfl (by decide +kernel) 23 (by decide) (by decide +kernel) rfl rfl dX12_game_144 ?_
                    refine x_aload_n (pc := 147) 2 K rfl rfl dX12_game_147 ?_
                    refine x_get (pc := 148) (C := RX12) (T := TX12) (n := 26) (ci := 11) (idx := 22) (ref := "BorderBedsModel") (x := .ref (B + 166))  K (cel_ne (cel_ne (cel_self hc0.1) (by decide)) (by decide)) rfl (by decide +kernel) 8 (by decide) (by decide +kernel) rfl rfl dX12_game_148 ?_
                    refine x_bipush (pc := 151) K (by decide) dX12_game_151 ?_
                    refine x_iload_n (pc := 153) 3 K rfl rfl dX12_game_153 ?_
                    refine x_iadd (pc := 154) K dX12_game_154 ?_
                    refine x_iald (pc := 155) (10 + xx) K (cel_ne (cel_ne (cel_ne hc1 (by decide)) (by decide)) (by decide)) (by omega) (by omega) (by decide) dX12_game_155 ?_
                    refine x_callS (pc := 156) (As := [.ref (B + 172), .int (zI (a (10 + xx)))]) K (c_X12_lead (E := E) (B := B) (N := N) (p := p) (l := (repA p (mvA p l xx k) yy (bestF p (mvA p l xx k) yy 48)))  (cel_self hc3.1) hrp hq1 hro (by omega) (by omega)) gX12_game_X12_lead rfl (na := 2) (by decide +kernel) rfl ⟨(Nat.le_of_ble_eq_true rfl), (Nat.le_of_ble_eq_true rfl)⟩ (st := []) rfl (Nat.le_of_ble_eq_true rfl) ⟨(Nat.le_of_ble_eq_true rfl), (Nat.le_of_ble_eq_true rfl)⟩ dX12_game_156 (fun r156 N156 w156 hpo156 hN156 => ?_)
                    obtain ⟨rfl, rfl, rfl⟩ := hpo156
                    refine x_st (st' := [.int (zI (leadA p (repA p (mvA p l xx k) yy (bestF p (mvA p l xx k) yy 48)) (a (10 + xx))))]) rfl ?_
                    refine x_st (st' := [.int (zI (leadA p (repA p (mvA p l xx k) yy (bestF p (mvA p l xx k) yy 48)) (p (10 + xx))))]) (by rw [e155]) ?_
                    have hr156 := leadA_rng (l := (repA p (mvA p l xx k) yy (bestF p (mvA p l xx k) yy 48))) (land := p (10 + xx)) hq1
                    refine x_nm (fun z6 hz6 => ?_)
                    refine x_istore (pc := 159) K (L' := [(9, .int (zI z6)), (8, .int (zI res_112)), (7, .int (zI z5)), (0, .ref (B + 161)), (1, .int (zI (xx : Int))), (2, .int (zI (yy : Int))), (3, .int (zI what)), (4, .int (zI b)), (5, .int (zI q)), (6, .int (zI (cc : Int)))]) hnL (by decide) rfl dX12_game_159 ?_
                    refine x_iload (pc := 161) 7 K rfl dX12_game_161 ?_
                    refine x_ldc (pc := 163) (x := (-1000000)) (-1000000) K (by decide) (by decide +kernel) dX12_game_163 ?_
                    refine x_icmp_eq (pc := 165) (tgt := 175) K (by omega) (by decide) dX12_game_165 (by decide) (fun h_165 => ?_) (fun h_165 => ?_)
                    · skip
                      refine x_iload (pc := 175) 9 K rfl dX12_game_175 ?_
                      refine x_istore (pc := 177) K (L' := [(4, .int (zI (cc : Int))), (9, .int (zI z6)), (8, .int (zI res_112)), (7, .int (zI z5)), (0, .ref (B + 161)), (1, .int (zI (xx : Int))), (2, .int (zI (yy : Int))), (3, .int (zI what)), (5, .int (zI q)), (6, .int (zI (cc : Int)))]) hnL (by decide) rfl dX12_game_177 ?_
                      refine x_iload (pc := 179) 1 K rfl dX12_game_179 ?_
                      refine x_istore (pc := 181) K (L' := [(5, .int (zI z6)), (4, .int (zI (cc : Int))), (9, .int (zI z6)), (8, .int (zI res_112)), (7, .int (zI z5)), (0, .ref (B + 161)), (1, .int (zI (xx : Int))), (2, .int (zI (yy : Int))), (3, .int (zI what)), (6, .int (zI (cc : Int)))]) hnL (by decide) rfl dX12_game_181 ?_
                      refine x_iinc (pc := 183) (L' := [(6, .int (zI ((cc : Int) + 1))), (5, .int (zI z6)), (4, .int (zI (cc : Int))), (9, .int (zI z6)), (8, .int (zI res_112)), (7, .int (zI z5)), (0, .ref (B + 161)), (1, .int (zI (xx : Int))), (2, .int (zI (yy : Int))), (3, .int (zI what))]) 9 K hnL rfl (by decide) rfl dX12_game_183 ?_
                      refine x_goto (pc := 186) (tgt := 32) K dX12_game_186 (by decide) ?_
                      refine x_sub (L' := [(0, .ref (B + 161)), (1, .int (zI (xx : Int))), (2, .int (zI (yy : Int))), (3, .int (zI what)), (4, .int (zI (cc : Int))), (5, .int (zI z6)), (6, .int (zI ((cc : Int) + 1)))]) [6, 7, 8, 9, 2, 1, 0] rfl ?_
                      exact ih32 (cc : Int) z6 ((cc : Int) + 1) (k + 1) bl_112 t2_112 g_85 (by omega) (by omega) (by first | exact gameR_new2 hi32_2 hsel (by omega) hz6 (by omega) | exact gameR_old2 hi32_2 hsel hz6 (by omega)) (by omega)
                    · skip
                      refine x_iload (pc := 168) 0 K rfl dX12_game_168 ?_
                      refine x_iload (pc := 170) 8 K rfl dX12_game_170 ?_
                      refine x_icmp_le (pc := 172) (tgt := 183) K (by omega) (by omega) dX12_game_172 (by decide) (fun h_172 => ?_) (fun h_172 => ?_)
                      · skip
                        refine x_iinc (pc := 183) (L' := [(6, .int (zI ((cc : Int) + 1))), (9, .int (zI z6)), (8, .int (zI res_112)), (7, .int (zI z5)), (0, .ref (B + 161)), (1, .int (zI (xx : Int))), (2, .int (zI (yy : Int))), (3, .int (zI what)), (4, .int (zI b)), (5, .int (zI q))]) 9 K hnL rfl (by decide) rfl dX12_game_183 ?_
                        refine x_goto (pc := 186) (tgt := 32) K dX12_game_186 (by decide) ?_
                        refine x_sub (L' := [(0, .ref (B + 161)), (1, .int (zI (xx : Int))), (2, .int (zI (yy : Int))), (3, .int (zI what)), (4, .int (zI b)), (5, .int (zI q)), (6, .int (zI ((cc : Int) + 1)))]) [4, 5, 6, 7, 8, 9, 0] rfl ?_
                        exact ih32 b q ((cc : Int) + 1) (k + 1) bl_112 t2_112 g_85 (by omega) (by omega) (by first | exact gameR_new2 hi32_2 hsel (by omega) hz6 (by omega) | exact gameR_old2 hi32_2 hsel hz6 (by omega)) (by omega)
                      · skip
                        refine x_iload (pc := 175) 9 K rfl dX12_game_175 ?_
                        refine x_istore (pc := 177) K (L' := [(4, .int (zI (cc : Int))), (9, .int (zI z6)), (8, .int (zI res_112)), (7, .int (zI z5)), (0, .ref (B + 161)), (1, .int (zI (xx : Int))), (2, .int (zI (yy : Int))), (3, .int (zI what)), (5, .int (zI q)), (6, .int (zI (cc : Int)))]) hnL (by decide) rfl dX12_game_177 ?_
                        refine x_iload (pc := 179) 1 K rfl dX12_game_179 ?_
                        refine x_istore (pc := 181) K (L' := [(5, .int (zI z6)), (4, .int (zI (cc : Int))), (9, .int (zI z6)), (8, .int (zI res_112)), (7, .int (zI z5)), (0, .ref (B + 161)), (1, .int (zI (xx : Int))), (2, .int (zI (yy : Int))), (3, .int (zI what)), (6, .int (zI (cc : Int)))]) hnL (by decide) rfl dX12_game_181 ?_
                        refine x_iinc (pc := 183) (L' := [(6, .int (zI ((cc : Int) + 1))), (5, .int (zI z6)), (4, .int (zI (cc : Int))), (9, .int (zI z6)), (8, .int (zI res_112)), (7, .int (zI z5)), (0, .ref (B + 161)), (1, .int (zI (xx : Int))), (2, .int (zI (yy : Int))), (3, .int (zI what))]) 9 K hnL rfl (by decide) rfl dX12_game_183 ?_
                        refine x_goto (pc := 186) (tgt := 32) K dX12_game_186 (by decide) ?_
                        refine x_sub (L' := [(0, .ref (B + 161)), (1, .int (zI (xx : Int))), (2, .int (zI (yy : Int))), (3, .int (zI what)), (4, .int (zI (cc : Int))), (5, .int (zI z6)), (6, .int (zI ((cc : Int) + 1)))]) [6, 7, 8, 9, 2, 1, 0] rfl ?_
                        exact ih32 (cc : Int) z6 ((cc : Int) + 1) (k + 1) bl_112 t2_112 g_85 (by omega) (by omega) (by first | exact gameR_new2 hi32_2 hsel (by omega) hz6 (by omega) | exact gameR_old2 hi32_2 hsel hz6 (by omega)) (by omega)
                  · skip
                    refine x_aload_n (pc := 124) 2 K rfl rfl dX12_game_124 ?_
                    refine x_get (pc := 125) (C := RX12) (T := TX12) (n := 26) (ci := 11) (idx := 240) (ref := "BorderBedsModel") (x := .int (zI bl_112))  K (cel_ne (cel_ne (cel_self hc0.1) (by decide)) (by decide)) rfl (by decide +kernel) 25 (by decide) (by decide +kernel) rfl rfl dX12_game_125 ?_
                    refine x_iload (pc := 128) 1 K rfl dX12_game_128 ?_
                    refine x_icmp_le (pc := 130) (tgt := 143) K (by omega) (by omega) dX12_game_130 (by decide) (fun h_130 => ?_) (fun h_130 => ?_)
                    · skip
                      have hrE : (repA p (mvA p l xx k) yy (bestF p (mvA p l xx k) yy 48)) = (mvA p l xx k) := by 
                              rcases hb8 with ⟨h, -⟩ | ⟨c, ml, mh, h, -, h2, -⟩
                              · rw [h]; rfl
                              · rw [h]; show (if _ then _ else _) = _; rw [if_neg (by omega)]
                      have hrp : PR g_85 p (repA p (mvA p l xx k) yy (bestF p (mvA p l xx k) yy 48)) := by rw [hrE]; exact hmp
                      have hro : CorOk (repA p (mvA p l xx k) yy (bestF p (mvA p l xx k) yy 48)) := by rw [hrE]; exact hmo
                      have hrl : ((repA p (mvA p l xx k) yy (bestF p (mvA p l xx k) yy 48)).length : Int) ≤ p 2 := by rw [hrE]; exact hml
                      refine x_aload_n (pc := 143) 2 K rfl rfl dX12_game_143 ?_
                      refine x_get (pc := 144) (C := RX12) (T := TX12) (n := 26) (ci := 11) (idx := 41) (ref := "BorderBedsModel") (x := .ref (B + 172))  K (cel_ne (cel_ne (cel_self hc0.1) (by decide)) (by decide)) rfl (by decide +kernel) 23 (by decide) (by decide +kernel) rfl rfl dX12_game_144 ?_
                      refine x_aload_n (pc := 147) 2 K rfl rfl dX12_game_147 ?_
                      refine x_get (pc := 148) (C := RX12) (T := TX12) (n := 26) (ci := 11) (idx := 22) (ref := "BorderBedsModel") (x := .ref (B + 166))  K (cel_ne (cel_ne (cel_self hc0.1) (by decide)) (by decide)) rfl (by decide +kernel) 8 (by decide) (by decide +kernel) rfl rfl dX12_game_148 ?_
                      refine x_bipush (pc := 151) K (by decide) dX12_game_151 ?_
                      refine x_iload_n (pc := 153) 3 K rfl rfl dX12_game_153 ?_
                      refine x_iadd (pc := 154) K dX12_game_154 ?_
                      refine x_iald (pc := 155) (10 + xx) K (cel_ne (cel_ne (cel_ne hc1 (by decide)) (by decide)) (by decide)) (by omega) (by omega) (by decide) dX12_game_155 ?_
                      refine x_callS (pc := 156) (As := [.ref (B + 172), .int (zI (a (10 + xx)))]) K (c_X12_lead (E := E) (B := B) (N := N) (p := p) (l := (repA p (mvA p l xx k) yy (bestF p (mvA p l xx k) yy 48)))  (cel_self hc3.1) hrp hq1 hro (by omega) (by omega)) gX12_game_X12_lead rfl (na := 2) (by decide +kernel) rfl ⟨(Nat.le_of_ble_eq_true rfl), (Nat.le_of_ble_eq_true rfl)⟩ (st := []) rfl (Nat.le_of_ble_eq_true rfl) ⟨(Nat.le_of_ble_eq_true rfl), (Nat.le_of_ble_eq_true rfl)⟩ dX12_game_156 (fun r156 N156 w156 hpo156 hN156 => ?_)
                      obtain ⟨rfl, rfl, rfl⟩ := hpo156
                      refine x_st (st' := [.int (zI (leadA p (repA p (mvA p l xx k) yy (bestF p (mvA p l xx k) yy 48)) (a (10 + xx))))]) rfl ?_
                      refine x_st (st' := [.int (zI (leadA p (repA p (mvA p l xx k) yy (bestF p (mvA p l xx k) yy 48)) (p (10 + xx))))]) (by rw [e155]) ?_
                      have hr156 := leadA_rng (l := (repA p (mvA p l xx k) yy (bestF p (mvA p l xx k) yy 48))) (land := p (10 + xx)) hq1
                      refine x_nm (fun z7 hz7 => ?_)
                      refine x_istore (pc := 159) K (L' := [(9, .int (zI z7)), (8, .int (zI res_112)), (7, .int (zI z5)), (0, .ref (B + 161)), (1, .int (zI (xx : Int))), (2, .int (zI (yy : Int))), (3, .int (zI what)), (4, .int (zI b)), (5, .int (zI q)), (6, .int (zI (cc : Int)))]) hnL (by decide) rfl dX12_game_159 ?_
                      refine x_iload (pc := 161) 7 K rfl dX12_game_161 ?_
                      refine x_ldc (pc := 163) (x := (-1000000)) (-1000000) K (by decide) (by decide +kernel) dX12_game_163 ?_
                      refine x_icmp_eq (pc := 165) (tgt := 175) K (by omega) (by decide) dX12_game_165 (by decide) (fun h_165 => ?_) (fun h_165 => ?_)
                      · skip
                        refine x_iload (pc := 175) 9 K rfl dX12_game_175 ?_
                        refine x_istore (pc := 177) K (L' := [(4, .int (zI (cc : Int))), (9, .int (zI z7)), (8, .int (zI res_112)), (7, .int (zI z5)), (0, .ref (B + 161)), (1, .int (zI (xx : Int))), (2, .int (zI (yy : Int))), (3, .int (zI what)), (5, .int (zI q)), (6, .int (zI (cc : Int)))]) hnL (by decide) rfl dX12_game_177 ?_
                        refine x_iload (pc := 179) 1 K rfl dX12_game_179 ?_
                        refine x_istore (pc := 181) K (L' := [(5, .int (zI z7)), (4, .int (zI (cc : Int))), (9, .int (zI z7)), (8, .int (zI res_112)), (7, .int (zI z5)), (0, .ref (B + 161)), (1, .int (zI (xx : Int))), (2, .int (zI (yy : Int))), (3, .int (zI what)), (6, .int (zI (cc : Int)))]) hnL (by decide) rfl dX12_game_181 ?_
                        refine x_iinc (pc := 183) (L' := [(6, .int (zI ((cc : Int) + 1))), (5, .int (zI z7)), (4, .int (zI (cc : Int))), (9, .int (zI z7)), (8, .int (zI res_112)), (7, .int (zI z5)), (0, .ref (B + 161)), (1, .int (zI (xx : Int))), (2, .int (zI (yy : Int))), (3, .int (zI what))]) 9 K hnL rfl (by decide) rfl dX12_game_183 ?_
                        refine x_goto (pc := 186) (tgt := 32) K dX12_game_186 (by decide) ?_
                        refine x_sub (L' := [(0, .ref (B + 161)), (1, .int (zI (xx : Int))), (2, .int (zI (yy : Int))), (3, .int (zI what)), (4, .int (zI (cc : Int))), (5, .int (zI z7)), (6, .int (zI ((cc : Int) + 1)))]) [6, 7, 8, 9, 2, 1, 0] rfl ?_
                        exact ih32 (cc : Int) z7 ((cc : Int) + 1) (k + 1) bl_112 t2_112 g_85 (by omega) (by omega) (by first | exact gameR_new2 hi32_2 hsel (by omega) hz7 (by omega) | exact gameR_old2 hi32_2 hsel hz7 (by omega)) (by omega)
                      · skip
                        refine x_iload (pc := 168) 0 K rfl dX12_game_168 ?_
                        refine x_iload (pc := 170) 8 K rfl dX12_game_170 ?_
                        refine x_icmp_le (pc := 172) (tgt := 183) K (by omega) (by omega) dX12_game_172 (by decide) (fun h_172 => ?_) (fun h_172 => ?_)
                        · skip
                          refine x_iinc (pc := 183) (L' := [(6, .int (zI ((cc : Int) + 1))), (9, .int (zI z7)), (8, .int (zI res_112)), (7, .int (zI z5)), (0, .ref (B + 161)), (1, .int (zI (xx : Int))), (2, .int (zI (yy : Int))), (3, .int (zI what)), (4, .int (zI b)), (5, .int (zI q))]) 9 K hnL rfl (by decide) rfl dX12_game_183 ?_
                          refine x_goto (pc := 186) (tgt := 32) K dX12_game_186 (by decide) ?_
                          refine x_sub (L' := [(0, .ref (B + 161)), (1, .int (zI (xx : Int))), (2, .int (zI (yy : Int))), (3, .int (zI what)), (4, .int (zI b)), (5, .int (zI q)), (6, .int (zI ((cc : Int) + 1)))]) [4, 5, 6, 7, 8, 9, 0] rfl ?_
                          exact ih32 b q ((cc : Int) + 1) (k + 1) bl_112 t2_112 g_85 (by omega) (by omega) (by first | exact gameR_new2 hi32_2 hsel (by omega) hz7 (by omega) | exact gameR_old2 hi32_2 hsel hz7 (by omega)) (by omega)
                        · skip
                          refine x_iload (pc := 175) 9 K rfl dX12_game_175 ?_
                          refine x_istore (pc := 177) K (L' := [(4, .int (zI (cc : Int))), (9, .int (zI z7)), (8, .int (zI res_112)), (7, .int (zI z5)), (0, .ref (B + 161)), (1, .int (zI (xx : Int))), (2, .int (zI (yy : Int))), (3, .int (zI what)), (5, .int (zI q)), (6, .int (zI (cc : Int)))]) hnL (by decide) rfl dX12_game_177 ?_
                          refine x_iload (pc := 179) 1 K rfl dX12_game_179 ?_
                          refine x_istore (pc := 181) K (L' := [(5, .int (zI z7)), (4, .int (zI (cc : Int))), (9, .int (zI z7)), (8, .int (zI res_112)), (7, .int (zI z5)), (0, .ref (B + 161)), (1, .int (zI (xx : Int))), (2, .int (zI (yy : Int))), (3, .int (zI what)), (6, .int (zI (cc : Int)))]) hnL (by decide) rfl dX12_game_181 ?_
                          refine x_iinc (pc := 183) (L' := [(6, .int (zI ((cc : Int) + 1))), (5, .int (zI z7)), (4, .int (zI (cc : Int))), (9, .int (zI z7)), (8, .int (zI res_112)), (7, .int (zI z5)), (0, .ref (B + 161)), (1, .int (zI (xx : Int))), (2, .int (zI (yy : Int))), (3, .int (zI what))]) 9 K hnL rfl (by decide) rfl dX12_game_183 ?_
                          refine x_goto (pc := 186) (tgt := 32) K dX12_game_186 (by decide) ?_
                          refine x_sub (L' := [(0, .ref (B + 161)), (1, .int (zI (xx : Int))), (2, .int (zI (yy : Int))), (3, .int (zI what)), (4, .int (zI (cc : Int))), (5, .int (zI z7)), (6, .int (zI ((cc : Int) + 1)))]) [6, 7, 8, 9, 2, 1, 0] rfl ?_
                          exact ih32 (cc : Int) z7 ((cc : Int) + 1) (k + 1) bl_112 t2_112 g_85 (by omega) (by omega) (by first | exact gameR_new2 hi32_2 hsel (by omega) hz7 (by omega) | exact gameR_old2 hi32_2 hsel hz7 (by omega)) (by omega)
                    · skip
                      obtain ⟨bb, rfl⟩ : ∃ bb : Nat, res_112 = (bb : Int) := ⟨res_112.toNat, by omega⟩
                      have hrE : (repA p (mvA p l xx k) yy (bestF p (mvA p l xx k) yy 48)) = (crossA (p (5 + yy)) (p 2) bb (mvA p l xx k)) := by
                              rcases hb8 with ⟨-, h⟩ | ⟨c, ml, mh, h, h3, h2, -⟩
                              · exfalso; omega
                              · rw [h]
                                show (if _ then _ else _) = _
                                rw [if_pos (by omega), show c = bb by omega]
                      have hok2 := crossA_ok (kind := p (5 + yy)) (keeps := p 2) hmo (show bb ≤ 47 by omega)
                      refine x_aload_n (pc := 133) 2 K rfl rfl dX12_game_133 ?_
                      refine x_get (pc := 134) (C := RX12) (T := TX12) (n := 26) (ci := 11) (idx := 41) (ref := "BorderBedsModel") (x := .ref (B + 172))  K (cel_ne (cel_ne (cel_self hc0.1) (by decide)) (by decide)) rfl (by decide +kernel) 23 (by decide) (by decide +kernel) rfl rfl dX12_game_134 ?_
                      refine x_iload_n (pc := 137) 4 K rfl rfl dX12_game_137 ?_
                      refine x_iload (pc := 138) 0 K rfl dX12_game_138 ?_
                      refine x_callS (pc := 140) (As := [.ref (B + 172), .int (zI (yy : Int)), .int (zI (bb : Int))]) K (c_X12_crosses (E := E) (B := B) (N := N) (p := p) (l := (mvA p l xx k)) (who := yy) (cell := bb) rfl rfl (cel_self hc3.1) hmp hq1 hmo (by omega) (by omega) (by omega)) gX12_game_X12_crosses rfl (na := 3) (by decide +kernel) rfl ⟨(Nat.le_of_ble_eq_true rfl), (Nat.le_of_ble_eq_true rfl)⟩ (st := []) rfl (Nat.le_of_ble_eq_true rfl) ⟨(Nat.le_of_ble_eq_true rfl), (Nat.le_of_ble_eq_true rfl)⟩ dX12_game_140 (fun r140 N140 w140 hpo140 hN140 => ?_)
                      obtain ⟨rfl, g_140, hp140_0, rfl, rfl⟩ := hpo140
                      refine x_v (w := (va_up (va_up (va_up v 161 (oM B (va_up F 25 bl_112) V)) 173 (iarr E 138 t2_112)) 172 (iarr E 138 g_140))) (up_at0).symm ?_
                      refine x_st (st' := []) rfl ?_
                      have hrp : PR g_140 p (repA p (mvA p l xx k) yy (bestF p (mvA p l xx k) yy 48)) := by rw [hrE]; exact hp140_0
                      have hro : CorOk (repA p (mvA p l xx k) yy (bestF p (mvA p l xx k) yy 48)) := by rw [hrE]; exact hok2
                      have hrl : ((repA p (mvA p l xx k) yy (bestF p (mvA p l xx k) yy 48)).length : Int) ≤ p 2 := by rw [hrE]; exact crossA_len hml hkp
                      refine x_aload_n (pc := 143) 2 K rfl rfl dX12_game_143 ?_
                      refine x_get (pc := 144) (C := RX12) (T := TX12) (n := 26) (ci := 11) (idx := 41) (ref := "BorderBedsModel") (x := .ref (B + 172))  K (cel_ne (cel_ne (cel_self hc0.1) (by decide)) (by decide)) rfl (by decide +kernel) 23 (by decide) (by decide +kernel) rfl rfl dX12_game_144 ?_
                      refine x_aload_n (pc := 147) 2 K rfl rfl dX12_game_147 ?_
                      refine x_get (pc := 148) (C := RX12) (T := TX12) (n := 26) (ci := 11) (idx := 22) (ref := "BorderBedsModel") (x := .ref (B + 166))  K (cel_ne (cel_ne (cel_self hc0.1) (by decide)) (by decide)) rfl (by decide +kernel) 8 (by decide) (by decide +kernel) rfl rfl dX12_game_148 ?_
                      refine x_bipush (pc := 151) K (by decide) dX12_game_151 ?_
                      refine x_iload_n (pc := 153) 3 K rfl rfl dX12_game_153 ?_
                      refine x_iadd (pc := 154) K dX12_game_154 ?_
                      refine x_iald (pc := 155) (10 + xx) K (cel_ne (cel_ne (cel_ne hc1 (by decide)) (by decide)) (by decide)) (by omega) (by omega) (by decide) dX12_game_155 ?_
                      refine x_callS (pc := 156) (As := [.ref (B + 172), .int (zI (a (10 + xx)))]) K (c_X12_lead (E := E) (B := B) (N := N) (p := p) (l := (repA p (mvA p l xx k) yy (bestF p (mvA p l xx k) yy 48)))  (cel_self hc3.1) hrp hq1 hro (by omega) (by omega)) gX12_game_X12_lead rfl (na := 2) (by decide +kernel) rfl ⟨(Nat.le_of_ble_eq_true rfl), (Nat.le_of_ble_eq_true rfl)⟩ (st := []) rfl (Nat.le_of_ble_eq_true rfl) ⟨(Nat.le_of_ble_eq_true rfl), (Nat.le_of_ble_eq_true rfl)⟩ dX12_game_156 (fun r156 N156 w156 hpo156 hN156 => ?_)
                      obtain ⟨rfl, rfl, rfl⟩ := hpo156
                      refine x_st (st' := [.int (zI (leadA p (repA p (mvA p l xx k) yy (bestF p (mvA p l xx k) yy 48)) (a (10 + xx))))]) rfl ?_
                      refine x_st (st' := [.int (zI (leadA p (repA p (mvA p l xx k) yy (bestF p (mvA p l xx k) yy 48)) (p (10 + xx))))]) (by rw [e155]) ?_
                      have hr156 := leadA_rng (l := (repA p (mvA p l xx k) yy (bestF p (mvA p l xx k) yy 48))) (land := p (10 + xx)) hq1
                      refine x_nm (fun z8 hz8 => ?_)
                      refine x_istore (pc := 159) K (L' := [(9, .int (zI z8)), (8, .int (zI (bb : Int))), (7, .int (zI z5)), (0, .ref (B + 161)), (1, .int (zI (xx : Int))), (2, .int (zI (yy : Int))), (3, .int (zI what)), (4, .int (zI b)), (5, .int (zI q)), (6, .int (zI (cc : Int)))]) hnL (by decide) rfl dX12_game_159 ?_
                      refine x_iload (pc := 161) 7 K rfl dX12_game_161 ?_
                      refine x_ldc (pc := 163) (x := (-1000000)) (-1000000) K (by decide) (by decide +kernel) dX12_game_163 ?_
                      refine x_icmp_eq (pc := 165) (tgt := 175) K (by omega) (by decide) dX12_game_165 (by decide) (fun h_165 => ?_) (fun h_165 => ?_)
                      · skip
                        refine x_iload (pc := 175) 9 K rfl dX12_game_175 ?_
                        refine x_istore (pc := 177) K (L' := [(4, .int (zI (cc : Int))), (9, .int (zI z8)), (8, .int (zI (bb : Int))), (7, .int (zI z5)), (0, .ref (B + 161)), (1, .int (zI (xx : Int))), (2, .int (zI (yy : Int))), (3, .int (zI what)), (5, .int (zI q)), (6, .int (zI (cc : Int)))]) hnL (by decide) rfl dX12_game_177 ?_
                        refine x_iload (pc := 179) 1 K rfl dX12_game_179 ?_
                        refine x_istore (pc := 181) K (L' := [(5, .int (zI z8)), (4, .int (zI (cc : Int))), (9, .int (zI z8)), (8, .int (zI (bb : Int))), (7, .int (zI z5)), (0, .ref (B + 161)), (1, .int (zI (xx : Int))), (2, .int (zI (yy : Int))), (3, .int (zI what)), (6, .int (zI (cc : Int)))]) hnL (by decide) rfl dX12_game_181 ?_
                        refine x_iinc (pc := 183) (L' := [(6, .int (zI ((cc : Int) + 1))), (5, .int (zI z8)), (4, .int (zI (cc : Int))), (9, .int (zI z8)), (8, .int (zI (bb : Int))), (7, .int (zI z5)), (0, .ref (B + 161)), (1, .int (zI (xx : Int))), (2, .int (zI (yy : Int))), (3, .int (zI what))]) 9 K hnL rfl (by decide) rfl dX12_game_183 ?_
                        refine x_goto (pc := 186) (tgt := 32) K dX12_game_186 (by decide) ?_
                        refine x_sub (L' := [(0, .ref (B + 161)), (1, .int (zI (xx : Int))), (2, .int (zI (yy : Int))), (3, .int (zI what)), (4, .int (zI (cc : Int))), (5, .int (zI z8)), (6, .int (zI ((cc : Int) + 1)))]) [6, 7, 8, 9, 2, 1, 0] rfl ?_
                        exact ih32 (cc : Int) z8 ((cc : Int) + 1) (k + 1) bl_112 t2_112 g_140 (by omega) (by omega) (by first | exact gameR_new2 hi32_2 hsel (by omega) hz8 (by omega) | exact gameR_old2 hi32_2 hsel hz8 (by omega)) (by omega)
                      · skip
                        refine x_iload (pc := 168) 0 K rfl dX12_game_168 ?_
                        refine x_iload (pc := 170) 8 K rfl dX12_game_170 ?_
                        refine x_icmp_le (pc := 172) (tgt := 183) K (by omega) (by omega) dX12_game_172 (by decide) (fun h_172 => ?_) (fun h_172 => ?_)
                        · skip
                          refine x_iinc (pc := 183) (L' := [(6, .int (zI ((cc : Int) + 1))), (9, .int (zI z8)), (8, .int (zI (bb : Int))), (7, .int (zI z5)), (0, .ref (B + 161)), (1, .int (zI (xx : Int))), (2, .int (zI (yy : Int))), (3, .int (zI what)), (4, .int (zI b)), (5, .int (zI q))]) 9 K hnL rfl (by decide) rfl dX12_game_183 ?_
                          refine x_goto (pc := 186) (tgt := 32) K dX12_game_186 (by decide) ?_
                          refine x_sub (L' := [(0, .ref (B + 161)), (1, .int (zI (xx : Int))), (2, .int (zI (yy : Int))), (3, .int (zI what)), (4, .int (zI b)), (5, .int (zI q)), (6, .int (zI ((cc : Int) + 1)))]) [4, 5, 6, 7, 8, 9, 0] rfl ?_
                          exact ih32 b q ((cc : Int) + 1) (k + 1) bl_112 t2_112 g_140 (by omega) (by omega) (by first | exact gameR_new2 hi32_2 hsel (by omega) hz8 (by omega) | exact gameR_old2 hi32_2 hsel hz8 (by omega)) (by omega)
                        · skip
                          refine x_iload (pc := 175) 9 K rfl dX12_game_175 ?_
                          refine x_istore (pc := 177) K (L' := [(4, .int (zI (cc : Int))), (9, .int (zI z8)), (8, .int (zI (bb : Int))), (7, .int (zI z5)), (0, .ref (B + 161)), (1, .int (zI (xx : Int))), (2, .int (zI (yy : Int))), (3, .int (zI what)), (5, .int (zI q)), (6, .int (zI (cc : Int)))]) hnL (by decide) rfl dX12_game_177 ?_
                          refine x_iload (pc := 179) 1 K rfl dX12_game_179 ?_
                          refine x_istore (pc := 181) K (L' := [(5, .int (zI z8)), (4, .int (zI (cc : Int))), (9, .int (zI z8)), (8, .int (zI (bb : Int))), (7, .int (zI z5)), (0, .ref (B + 161)), (1, .int (zI (xx : Int))), (2, .int (zI (yy : Int))), (3, .int (zI what)), (6, .int (zI (cc : Int)))]) hnL (by decide) rfl dX12_game_181 ?_
                          refine x_iinc (pc := 183) (L' := [(6, .int (zI ((cc : Int) + 1))), (5, .int (zI z8)), (4, .int (zI (cc : Int))), (9, .int (zI z8)), (8, .int (zI (bb : Int))), (7, .int (zI z5)), (0, .ref (B + 161)), (1, .int (zI (xx : Int))), (2, .int (zI (yy : Int))), (3, .int (zI what))]) 9 K hnL rfl (by decide) rfl dX12_game_183 ?_
                          refine x_goto (pc := 186) (tgt := 32) K dX12_game_186 (by decide) ?_
                          refine x_sub (L' := [(0, .ref (B + 161)), (1, .int (zI (xx : Int))), (2, .int (zI (yy : Int))), (3, .int (zI what)), (4, .int (zI (cc : Int))), (5, .int (zI z8)), (6, .int (zI ((cc : Int) + 1)))]) [6, 7, 8, 9, 2, 1, 0] rfl ?_
                          exact ih32 (cc : Int) z8 ((cc : Int) + 1) (k + 1) bl_112 t2_112 g_140 (by omega) (by omega) (by first | exact gameR_new2 hi32_2 hsel (by omega) hz8 (by omega) | exact gameR_old2 hi32_2 hsel hz8 (by omega)) (by omega)
              · skip
                have h_54 := mayI_f h_54
                have hmay := mayI_0 h_54
                refine x_goto (pc := 57) (tgt := 183) K dX12_game_57 (by decide) ?_
                refine x_iinc (pc := 183) (L' := [(6, .int (zI ((cc : Int) + 1))), (0, .ref (B + 161)), (1, .int (zI (xx : Int))), (2, .int (zI (yy : Int))), (3, .int (zI what)), (4, .int (zI b)), (5, .int (zI q))]) 6 K hnL rfl (by decide) rfl dX12_game_183 ?_
                refine x_goto (pc := 186) (tgt := 32) K dX12_game_186 (by decide) ?_
                refine x_sub (L' := [(0, .ref (B + 161)), (1, .int (zI (xx : Int))), (2, .int (zI (yy : Int))), (3, .int (zI what)), (4, .int (zI b)), (5, .int (zI q)), (6, .int (zI ((cc : Int) + 1)))]) [1, 2, 3, 4, 5, 6, 0] rfl ?_
                exact ih32 b q ((cc : Int) + 1) (k + 1) bl x1 x2 (by omega) (by omega) (by exact gameR_no hi32_2 (by rw [show k - 1 = cc by omega]; omega)) (by omega)
      refine x_sub (L' := [(0, .ref (B + 161)), (1, .int (zI (xx : Int))), (2, .int (zI (yy : Int))), (3, .int (zI what)), (4, .int (zI (-1000000))), (5, .int (zI 0)), (6, .int (zI (-1)))]) [3, 4, 5, 6, 2, 1, 0] rfl ?_
      exact LOOP32 (_) (-1000000) 0 (-1) 0 (F 25) t fi (by omega) (by omega) (by exact Or.inl ⟨rfl, rfl⟩) (Nat.lt_succ_self _)
    · skip
      have h_16 := bI_t h_16
      refine x_ldc (pc := 19) (x := (-1000001)) (-1000001) K (by decide) (by decide +kernel) dX12_game_19 ?_
      refine x_iret (pc := 21) K KR (by omega) (Nat.le_of_ble_eq_true rfl) (Nat.le_of_ble_eq_true rfl) dX12_game_21 ?_
      exact ⟨rfl, (-1000001), (F 25), t, fi, (by first | exact Or.inl ⟨by omega, rfl⟩ | exact Or.inr ⟨by omega, gameW_of hi32_2 (by omega)⟩), rfl, rfl⟩
