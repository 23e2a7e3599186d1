theorem dX12_whose_0 : decode cX12_whose 0 = .ok (.iload_n 1, 1) := by decide +kernel
theorem dX12_whose_1 : decode cX12_whose 1 = .ok (.bipush 8, 2) := by decide +kernel
theorem dX12_whose_3 : decode cX12_whose 3 = .ok (.irem, 1) := by decide +kernel
theorem dX12_whose_4 : decode cX12_whose 4 = .ok (.istore_n 2, 1) := by decide +kernel
theorem dX12_whose_5 : decode cX12_whose 5 = .ok (.iconst (-1), 1) := by decide +kernel
theorem dX12_whose_6 : decode cX12_whose 6 = .ok (.istore_n 3, 1) := by decide +kernel
theorem dX12_whose_7 : decode cX12_whose 7 = .ok (.aload_n 0, 1) := by decide +kernel
theorem dX12_whose_8 : decode cX12_whose 8 = .ok (.iconst 0, 1) := by decide +kernel
theorem dX12_whose_9 : decode cX12_whose 9 = .ok (.iaload, 1) := by decide +kernel
theorem dX12_whose_10 : decode cX12_whose 10 = .ok (.istore 4, 2) := by decide +kernel
theorem dX12_whose_12 : decode cX12_whose 12 = .ok (.bipush 8, 2) := by decide +kernel
theorem dX12_whose_14 : decode cX12_whose 14 = .ok (.istore 5, 2) := by decide +kernel
theorem dX12_whose_16 : decode cX12_whose 16 = .ok (.aload_n 0, 1) := by decide +kernel
theorem dX12_whose_17 : decode cX12_whose 17 = .ok (.iconst 1, 1) := by decide +kernel
theorem dX12_whose_18 : decode cX12_whose 18 = .ok (.iaload, 1) := by decide +kernel
theorem dX12_whose_19 : decode cX12_whose 19 = .ok (.istore 6, 2) := by decide +kernel
theorem dX12_whose_21 : decode cX12_whose 21 = .ok (.iconst 0, 1) := by decide +kernel
theorem dX12_whose_22 : decode cX12_whose 22 = .ok (.istore 7, 2) := by decide +kernel
theorem dX12_whose_24 : decode cX12_whose 24 = .ok (.iload 7, 2) := by decide +kernel
theorem dX12_whose_26 : decode cX12_whose 26 = .ok (.aload_n 0, 1) := by decide +kernel
theorem dX12_whose_27 : decode cX12_whose 27 = .ok (.bipush 121, 2) := by decide +kernel
theorem dX12_whose_29 : decode cX12_whose 29 = .ok (.iaload, 1) := by decide +kernel
theorem dX12_whose_30 : decode cX12_whose 30 = .ok (.if_icmp .ge 73, 3) := by decide +kernel
theorem dX12_whose_103 : decode cX12_whose 103 = .ok (.iload_n 3, 1) := by decide +kernel
theorem dX12_whose_104 : decode cX12_whose 104 = .ok (.iload 5, 2) := by decide +kernel
theorem dX12_whose_106 : decode cX12_whose 106 = .ok (.if_icmp .ne 8, 3) := by decide +kernel
theorem dX12_whose_114 : decode cX12_whose 114 = .ok (.iload 4, 2) := by decide +kernel
theorem dX12_whose_116 : decode cX12_whose 116 = .ok (.iload 5, 2) := by decide +kernel
theorem dX12_whose_118 : decode cX12_whose 118 = .ok (.iload_n 3, 1) := by decide +kernel
theorem dX12_whose_119 : decode cX12_whose 119 = .ok (.isub, 1) := by decide +kernel
theorem dX12_whose_120 : decode cX12_whose 120 = .ok (.imul, 1) := by decide +kernel
theorem dX12_whose_121 : decode cX12_whose 121 = .ok (.iload 6, 2) := by decide +kernel
theorem dX12_whose_123 : decode cX12_whose 123 = .ok (.iload 4, 2) := by decide +kernel
theorem dX12_whose_125 : decode cX12_whose 125 = .ok (.isub, 1) := by decide +kernel
theorem dX12_whose_126 : decode cX12_whose 126 = .ok (.iload_n 2, 1) := by decide +kernel
theorem dX12_whose_127 : decode cX12_whose 127 = .ok (.iload_n 3, 1) := by decide +kernel
theorem dX12_whose_128 : decode cX12_whose 128 = .ok (.isub, 1) := by decide +kernel
theorem dX12_whose_129 : decode cX12_whose 129 = .ok (.imul, 1) := by decide +kernel
theorem dX12_whose_130 : decode cX12_whose 130 = .ok (.iadd, 1) := by decide +kernel
theorem dX12_whose_131 : decode cX12_whose 131 = .ok (.istore 7, 2) := by decide +kernel
theorem dX12_whose_133 : decode cX12_whose 133 = .ok (.iload_n 3, 1) := by decide +kernel
theorem dX12_whose_134 : decode cX12_whose 134 = .ok (.iload 5, 2) := by decide +kernel
theorem dX12_whose_136 : decode cX12_whose 136 = .ok (.if_icmp .ne 10, 3) := by decide +kernel
theorem dX12_whose_146 : decode cX12_whose 146 = .ok (.iload_n 1, 1) := by decide +kernel
theorem dX12_whose_147 : decode cX12_whose 147 = .ok (.bipush 8, 2) := by decide +kernel
theorem dX12_whose_149 : decode cX12_whose 149 = .ok (.idiv, 1) := by decide +kernel
theorem dX12_whose_150 : decode cX12_whose 150 = .ok (.iload 5, 2) := by decide +kernel
theorem dX12_whose_152 : decode cX12_whose 152 = .ok (.iload_n 3, 1) := by decide +kernel
theorem dX12_whose_153 : decode cX12_whose 153 = .ok (.isub, 1) := by decide +kernel
theorem dX12_whose_154 : decode cX12_whose 154 = .ok (.imul, 1) := by decide +kernel
theorem dX12_whose_155 : decode cX12_whose 155 = .ok (.istore 8, 2) := by decide +kernel
theorem dX12_whose_157 : decode cX12_whose 157 = .ok (.iload 8, 2) := by decide +kernel
theorem dX12_whose_159 : decode cX12_whose 159 = .ok (.iload 7, 2) := by decide +kernel
theorem dX12_whose_161 : decode cX12_whose 161 = .ok (.if_icmp .ge 7, 3) := by decide +kernel
theorem dX12_whose_168 : decode cX12_whose 168 = .ok (.iload 8, 2) := by decide +kernel
theorem dX12_whose_170 : decode cX12_whose 170 = .ok (.iload 7, 2) := by decide +kernel
theorem dX12_whose_172 : decode cX12_whose 172 = .ok (.if_icmp .le 7, 3) := by decide +kernel
theorem dX12_whose_179 : decode cX12_whose 179 = .ok (.iconst (-1), 1) := by decide +kernel
theorem dX12_whose_180 : decode cX12_whose 180 = .ok (.ireturn, 1) := by decide +kernel
theorem dX12_whose_175 : decode cX12_whose 175 = .ok (.iconst 1, 1) := by decide +kernel
theorem dX12_whose_176 : decode cX12_whose 176 = .ok (.goto 4, 3) := by decide +kernel
theorem dX12_whose_164 : decode cX12_whose 164 = .ok (.iconst 0, 1) := by decide +kernel
theorem dX12_whose_165 : decode cX12_whose 165 = .ok (.goto 15, 3) := by decide +kernel
theorem dX12_whose_139 : decode cX12_whose 139 = .ok (.iload_n 1, 1) := by decide +kernel
theorem dX12_whose_140 : decode cX12_whose 140 = .ok (.bipush 8, 2) := by decide +kernel
theorem dX12_whose_142 : decode cX12_whose 142 = .ok (.idiv, 1) := by decide +kernel
theorem dX12_whose_143 : decode cX12_whose 143 = .ok (.goto 12, 3) := by decide +kernel
theorem dX12_whose_109 : decode cX12_whose 109 = .ok (.iload 4, 2) := by decide +kernel
theorem dX12_whose_111 : decode cX12_whose 111 = .ok (.goto 20, 3) := by decide +kernel
theorem dX12_whose_33 : decode cX12_whose 33 = .ok (.aload_n 0, 1) := by decide +kernel
theorem dX12_whose_34 : decode cX12_whose 34 = .ok (.bipush 122, 2) := by decide +kernel
theorem dX12_whose_36 : decode cX12_whose 36 = .ok (.iload 7, 2) := by decide +kernel
theorem dX12_whose_38 : decode cX12_whose 38 = .ok (.iadd, 1) := by decide +kernel
theorem dX12_whose_39 : decode cX12_whose 39 = .ok (.iaload, 1) := by decide +kernel
theorem dX12_whose_40 : decode cX12_whose 40 = .ok (.bipush 8, 2) := by decide +kernel
theorem dX12_whose_42 : decode cX12_whose 42 = .ok (.irem, 1) := by decide +kernel
theorem dX12_whose_43 : decode cX12_whose 43 = .ok (.istore 8, 2) := by decide +kernel
theorem dX12_whose_45 : decode cX12_whose 45 = .ok (.aload_n 0, 1) := by decide +kernel
theorem dX12_whose_46 : decode cX12_whose 46 = .ok (.bipush 122, 2) := by decide +kernel
theorem dX12_whose_48 : decode cX12_whose 48 = .ok (.iload 7, 2) := by decide +kernel
theorem dX12_whose_50 : decode cX12_whose 50 = .ok (.iadd, 1) := by decide +kernel
theorem dX12_whose_51 : decode cX12_whose 51 = .ok (.iaload, 1) := by decide +kernel
theorem dX12_whose_52 : decode cX12_whose 52 = .ok (.bipush 8, 2) := by decide +kernel
theorem dX12_whose_54 : decode cX12_whose 54 = .ok (.idiv, 1) := by decide +kernel
theorem dX12_whose_55 : decode cX12_whose 55 = .ok (.istore 9, 2) := by decide +kernel
theorem dX12_whose_57 : decode cX12_whose 57 = .ok (.iload 8, 2) := by decide +kernel
theorem dX12_whose_59 : decode cX12_whose 59 = .ok (.iload_n 2, 1) := by decide +kernel
theorem dX12_whose_60 : decode cX12_whose 60 = .ok (.if_icmp .gt 16, 3) := by decide +kernel
theorem dX12_whose_76 : decode cX12_whose 76 = .ok (.iload 8, 2) := by decide +kernel
theorem dX12_whose_78 : decode cX12_whose 78 = .ok (.iload_n 2, 1) := by decide +kernel
theorem dX12_whose_79 : decode cX12_whose 79 = .ok (.if_icmp .lt 18, 3) := by decide +kernel
theorem dX12_whose_97 : decode cX12_whose 97 = .ok (.iinc 7 1, 3) := by decide +kernel
theorem dX12_whose_100 : decode cX12_whose 100 = .ok (.goto (-76), 3) := by decide +kernel
theorem dX12_whose_82 : decode cX12_whose 82 = .ok (.iload 8, 2) := by decide +kernel
theorem dX12_whose_84 : decode cX12_whose 84 = .ok (.iload 5, 2) := by decide +kernel
theorem dX12_whose_86 : decode cX12_whose 86 = .ok (.if_icmp .ge 11, 3) := by decide +kernel
theorem dX12_whose_89 : decode cX12_whose 89 = .ok (.iload 8, 2) := by decide +kernel
theorem dX12_whose_91 : decode cX12_whose 91 = .ok (.istore 5, 2) := by decide +kernel
theorem dX12_whose_93 : decode cX12_whose 93 = .ok (.iload 9, 2) := by decide +kernel
theorem dX12_whose_95 : decode cX12_whose 95 = .ok (.istore 6, 2) := by decide +kernel
theorem dX12_whose_63 : decode cX12_whose 63 = .ok (.iload 8, 2) := by decide +kernel
theorem dX12_whose_65 : decode cX12_whose 65 = .ok (.iload_n 3, 1) := by decide +kernel
theorem dX12_whose_66 : decode cX12_whose 66 = .ok (.if_icmp .le 10, 3) := by decide +kernel
theorem dX12_whose_69 : decode cX12_whose 69 = .ok (.iload 8, 2) := by decide +kernel
theorem dX12_whose_71 : decode cX12_whose 71 = .ok (.istore_n 3, 1) := by decide +kernel
theorem dX12_whose_72 : decode cX12_whose 72 = .ok (.iload 9, 2) := by decide +kernel
theorem dX12_whose_74 : decode cX12_whose 74 = .ok (.istore 4, 2) := by decide +kernel
theorem dX12_sum_0 : decode cX12_sum 0 = .ok (.iconst 0, 1) := by decide +kernel
theorem dX12_sum_1 : decode cX12_sum 1 = .ok (.istore_n 3, 1) := by decide +kernel
theorem dX12_sum_2 : decode cX12_sum 2 = .ok (.iconst 0, 1) := by decide +kernel
theorem dX12_sum_3 : decode cX12_sum 3 = .ok (.istore 4, 2) := by decide +kernel
theorem dX12_sum_5 : decode cX12_sum 5 = .ok (.iload 4, 2) := by decide +kernel
theorem dX12_sum_7 : decode cX12_sum 7 = .ok (.bipush 48, 2) := by decide +kernel
theorem dX12_sum_9 : decode cX12_sum 9 = .ok (.if_icmp .ge 41, 3) := by decide +kernel
theorem dX12_sum_50 : decode cX12_sum 50 = .ok (.iload_n 3, 1) := by decide +kernel
theorem dX12_sum_51 : decode cX12_sum 51 = .ok (.ireturn, 1) := by decide +kernel
theorem dX12_sum_12 : decode cX12_sum 12 = .ok (.iload_n 3, 1) := by decide +kernel
theorem dX12_sum_13 : decode cX12_sum 13 = .ok (.aload_n 0, 1) := by decide +kernel
theorem dX12_sum_14 : decode cX12_sum 14 = .ok (.iload 4, 2) := by decide +kernel
set_option maxRecDepth 20000 in
theorem ggX12_sum_X12_whose : GoodIn wsX12_sum wsX12_whose := goodIn_r _ [4] (by decide +kernel) (by decide +kernel)
set_option maxRecDepth 20000 in
theorem gX12_sum_X12_whose : GoodIn wsX12_sum (va_wsS RX12 199 yX12_whose wsX12_whose) := goodIn_app (goodIn_of _ (by decide +kernel)) ggX12_sum_X12_whose
theorem dX12_sum_16 : decode cX12_sum 16 = .ok (.invokestatic 199, 3) := by decide +kernel
theorem dX12_sum_19 : decode cX12_sum 19 = .ok (.iload_n 1, 1) := by decide +kernel
theorem dX12_sum_20 : decode cX12_sum 20 = .ok (.if_icmp .eq 7, 3) := by decide +kernel
theorem dX12_sum_27 : decode cX12_sum 27 = .ok (.iload_n 2, 1) := by decide +kernel
theorem dX12_sum_28 : decode cX12_sum 28 = .ok (.ifCond .ne 7, 3) := by decide +kernel
theorem dX12_sum_35 : decode cX12_sum 35 = .ok (.aload_n 0, 1) := by decide +kernel
theorem dX12_sum_36 : decode cX12_sum 36 = .ok (.bipush 73, 2) := by decide +kernel
theorem dX12_sum_38 : decode cX12_sum 38 = .ok (.iload 4, 2) := by decide +kernel
theorem dX12_sum_40 : decode cX12_sum 40 = .ok (.iadd, 1) := by decide +kernel
theorem dX12_sum_41 : decode cX12_sum 41 = .ok (.iaload, 1) := by decide +kernel
theorem dX12_sum_42 : decode cX12_sum 42 = .ok (.iadd, 1) := by decide +kernel
theorem dX12_sum_43 : decode cX12_sum 43 = .ok (.istore_n 3, 1) := by decide +kernel
theorem dX12_sum_44 : decode cX12_sum 44 = .ok (.iinc 4 1, 3) := by decide +kernel
theorem dX12_sum_47 : decode cX12_sum 47 = .ok (.goto (-42), 3) := by decide +kernel
theorem dX12_sum_31 : decode cX12_sum 31 = .ok (.iconst 1, 1) := by decide +kernel
theorem dX12_sum_32 : decode cX12_sum 32 = .ok (.goto 10, 3) := by decide +kernel
theorem dX12_sum_23 : decode cX12_sum 23 = .ok (.iconst 0, 1) := by decide +kernel
theorem dX12_sum_24 : decode cX12_sum 24 = .ok (.goto 18, 3) := by decide +kernel
theorem dX12_lead_0 : decode cX12_lead 0 = .ok (.aload_n 0, 1) := by decide +kernel
theorem dX12_lead_1 : decode cX12_lead 1 = .ok (.iload_n 1, 1) := by decide +kernel
theorem dX12_lead_2 : decode cX12_lead 2 = .ok (.iconst 1, 1) := by decide +kernel
set_option maxRecDepth 20000 in
theorem ggX12_lead_X12_sum : GoodIn wsX12_lead wsX12_sum := goodIn_r _ [4, 5, 6, 3, 7] (by decide +kernel) (by decide +kernel)
set_option maxRecDepth 20000 in
theorem gX12_lead_X12_sum : GoodIn wsX12_lead (va_wsS RX12 211 yX12_sum wsX12_sum) := goodIn_app (goodIn_of _ (by decide +kernel)) ggX12_lead_X12_sum
theorem dX12_lead_3 : decode cX12_lead 3 = .ok (.invokestatic 211, 3) := by decide +kernel
theorem dX12_lead_6 : decode cX12_lead 6 = .ok (.aload_n 0, 1) := by decide +kernel
theorem dX12_lead_7 : decode cX12_lead 7 = .ok (.iconst 1, 1) := by decide +kernel
theorem dX12_lead_8 : decode cX12_lead 8 = .ok (.iload_n 1, 1) := by decide +kernel
theorem dX12_lead_9 : decode cX12_lead 9 = .ok (.isub, 1) := by decide +kernel
theorem dX12_lead_10 : decode cX12_lead 10 = .ok (.iconst 1, 1) := by decide +kernel
theorem dX12_lead_11 : decode cX12_lead 11 = .ok (.invokestatic 211, 3) := by decide +kernel
theorem dX12_lead_14 : decode cX12_lead 14 = .ok (.isub, 1) := by decide +kernel
theorem dX12_lead_15 : decode cX12_lead 15 = .ok (.ireturn, 1) := by decide +kernel
theorem dX12_mayCross_0 : decode cX12_mayCross 0 = .ok (.aload_n 0, 1) := by decide +kernel
theorem dX12_mayCross_1 : decode cX12_mayCross 1 = .ok (.bipush 15, 2) := by decide +kernel
theorem dX12_mayCross_3 : decode cX12_mayCross 3 = .ok (.iload_n 1, 1) := by decide +kernel
theorem dX12_mayCross_4 : decode cX12_mayCross 4 = .ok (.iadd, 1) := by decide +kernel
theorem dX12_mayCross_5 : decode cX12_mayCross 5 = .ok (.iaload, 1) := by decide +kernel
theorem dX12_mayCross_6 : decode cX12_mayCross 6 = .ok (.istore_n 3, 1) := by decide +kernel
theorem dX12_mayCross_7 : decode cX12_mayCross 7 = .ok (.aload_n 0, 1) := by decide +kernel
theorem dX12_mayCross_8 : decode cX12_mayCross 8 = .ok (.iconst 5, 1) := by decide +kernel
theorem dX12_mayCross_9 : decode cX12_mayCross 9 = .ok (.iload_n 1, 1) := by decide +kernel
theorem dX12_mayCross_10 : decode cX12_mayCross 10 = .ok (.iadd, 1) := by decide +kernel
theorem dX12_mayCross_11 : decode cX12_mayCross 11 = .ok (.iaload, 1) := by decide +kernel
theorem dX12_mayCross_12 : decode cX12_mayCross 12 = .ok (.iconst 2, 1) := by decide +kernel
theorem dX12_mayCross_13 : decode cX12_mayCross 13 = .ok (.if_icmp .ne 14, 3) := by decide +kernel
theorem dX12_mayCross_27 : decode cX12_mayCross 27 = .ok (.aload_n 0, 1) := by decide +kernel
theorem dX12_mayCross_28 : decode cX12_mayCross 28 = .ok (.bipush 20, 2) := by decide +kernel
theorem dX12_mayCross_30 : decode cX12_mayCross 30 = .ok (.iload_n 1, 1) := by decide +kernel
theorem dX12_mayCross_31 : decode cX12_mayCross 31 = .ok (.iadd, 1) := by decide +kernel
theorem dX12_mayCross_32 : decode cX12_mayCross 32 = .ok (.iaload, 1) := by decide +kernel
theorem dX12_mayCross_33 : decode cX12_mayCross 33 = .ok (.istore 4, 2) := by decide +kernel
theorem dX12_mayCross_35 : decode cX12_mayCross 35 = .ok (.iload_n 3, 1) := by decide +kernel
theorem dX12_mayCross_36 : decode cX12_mayCross 36 = .ok (.bipush 8, 2) := by decide +kernel
theorem dX12_mayCross_38 : decode cX12_mayCross 38 = .ok (.irem, 1) := by decide +kernel
theorem dX12_mayCross_39 : decode cX12_mayCross 39 = .ok (.iload_n 2, 1) := by decide +kernel
theorem dX12_mayCross_40 : decode cX12_mayCross 40 = .ok (.bipush 8, 2) := by decide +kernel
theorem dX12_mayCross_42 : decode cX12_mayCross 42 = .ok (.irem, 1) := by decide +kernel
theorem dX12_mayCross_43 : decode cX12_mayCross 43 = .ok (.isub, 1) := by decide +kernel
set_option maxRecDepth 20000 in
theorem ggX12_mayCross_X12_size : GoodIn wsX12_mayCross wsX12_size := goodIn_r _ [4] (by decide +kernel) (by decide +kernel)
set_option maxRecDepth 20000 in
theorem gX12_mayCross_X12_size : GoodIn wsX12_mayCross (va_wsS RX12 197 yX12_size wsX12_size) := goodIn_app (goodIn_of _ (by decide +kernel)) ggX12_mayCross_X12_size
theorem dX12_mayCross_44 : decode cX12_mayCross 44 = .ok (.invokestatic 197, 3) := by decide +kernel
theorem dX12_mayCross_47 : decode cX12_mayCross 47 = .ok (.iload_n 3, 1) := by decide +kernel
theorem dX12_mayCross_48 : decode cX12_mayCross 48 = .ok (.bipush 8, 2) := by decide +kernel
theorem dX12_mayCross_50 : decode cX12_mayCross 50 = .ok (.idiv, 1) := by decide +kernel
theorem dX12_mayCross_51 : decode cX12_mayCross 51 = .ok (.iload_n 2, 1) := by decide +kernel
theorem dX12_mayCross_52 : decode cX12_mayCross 52 = .ok (.bipush 8, 2) := by decide +kernel
theorem dX12_mayCross_54 : decode cX12_mayCross 54 = .ok (.idiv, 1) := by decide +kernel
theorem dX12_mayCross_55 : decode cX12_mayCross 55 = .ok (.isub, 1) := by decide +kernel
theorem dX12_mayCross_56 : decode cX12_mayCross 56 = .ok (.invokestatic 197, 3) := by decide +kernel
theorem dX12_mayCross_59 : decode cX12_mayCross 59 = .ok (.iadd, 1) := by decide +kernel
theorem dX12_mayCross_60 : decode cX12_mayCross 60 = .ok (.iload 4, 2) := by decide +kernel
theorem dX12_mayCross_62 : decode cX12_mayCross 62 = .ok (.if_icmp .gt 7, 3) := by decide +kernel
theorem dX12_mayCross_69 : decode cX12_mayCross 69 = .ok (.iconst 0, 1) := by decide +kernel
theorem dX12_mayCross_70 : decode cX12_mayCross 70 = .ok (.istore 5, 2) := by decide +kernel
theorem dX12_mayCross_72 : decode cX12_mayCross 72 = .ok (.iload 5, 2) := by decide +kernel
theorem dX12_mayCross_74 : decode cX12_mayCross 74 = .ok (.ifCond .eq 30, 3) := by decide +kernel
theorem dX12_mayCross_104 : decode cX12_mayCross 104 = .ok (.iconst 0, 1) := by decide +kernel
theorem dX12_mayCross_105 : decode cX12_mayCross 105 = .ok (.ireturn, 1) := by decide +kernel
theorem dX12_mayCross_77 : decode cX12_mayCross 77 = .ok (.aload_n 0, 1) := by decide +kernel
theorem dX12_mayCross_78 : decode cX12_mayCross 78 = .ok (.bipush 25, 2) := by decide +kernel
theorem dX12_mayCross_80 : decode cX12_mayCross 80 = .ok (.iload_n 2, 1) := by decide +kernel
theorem dX12_mayCross_81 : decode cX12_mayCross 81 = .ok (.iadd, 1) := by decide +kernel
theorem dX12_mayCross_82 : decode cX12_mayCross 82 = .ok (.iaload, 1) := by decide +kernel
theorem dX12_mayCross_83 : decode cX12_mayCross 83 = .ok (.ifCond .ne 21, 3) := by decide +kernel
theorem dX12_mayCross_86 : decode cX12_mayCross 86 = .ok (.aload_n 0, 1) := by decide +kernel
theorem dX12_mayCross_87 : decode cX12_mayCross 87 = .ok (.iload_n 2, 1) := by decide +kernel
set_option maxRecDepth 20000 in
theorem ggX12_mayCross_X12_whose : GoodIn wsX12_mayCross wsX12_whose := goodIn_r _ [7] (by decide +kernel) (by decide +kernel)
set_option maxRecDepth 20000 in
theorem gX12_mayCross_X12_whose : GoodIn wsX12_mayCross (va_wsS RX12 199 yX12_whose wsX12_whose) := goodIn_app (goodIn_of _ (by decide +kernel)) ggX12_mayCross_X12_whose
theorem dX12_mayCross_88 : decode cX12_mayCross 88 = .ok (.invokestatic 199, 3) := by decide +kernel
theorem dX12_mayCross_91 : decode cX12_mayCross 91 = .ok (.aload_n 0, 1) := by decide +kernel
theorem dX12_mayCross_92 : decode cX12_mayCross 92 = .ok (.bipush 10, 2) := by decide +kernel
theorem dX12_mayCross_94 : decode cX12_mayCross 94 = .ok (.iload_n 1, 1) := by decide +kernel
theorem dX12_mayCross_95 : decode cX12_mayCross 95 = .ok (.iadd, 1) := by decide +kernel
theorem dX12_mayCross_96 : decode cX12_mayCross 96 = .ok (.iaload, 1) := by decide +kernel
theorem dX12_mayCross_97 : decode cX12_mayCross 97 = .ok (.if_icmp .eq 7, 3) := by decide +kernel
theorem dX12_mayCross_100 : decode cX12_mayCross 100 = .ok (.iconst 1, 1) := by decide +kernel
theorem dX12_mayCross_101 : decode cX12_mayCross 101 = .ok (.goto 4, 3) := by decide +kernel
theorem dX12_mayCross_65 : decode cX12_mayCross 65 = .ok (.iconst 1, 1) := by decide +kernel
theorem dX12_mayCross_66 : decode cX12_mayCross 66 = .ok (.goto 4, 3) := by decide +kernel
theorem dX12_mayCross_16 : decode cX12_mayCross 16 = .ok (.iconst 2, 1) := by decide +kernel
theorem dX12_mayCross_17 : decode cX12_mayCross 17 = .ok (.aload_n 0, 1) := by decide +kernel
theorem dX12_mayCross_18 : decode cX12_mayCross 18 = .ok (.bipush 20, 2) := by decide +kernel
theorem dX12_mayCross_20 : decode cX12_mayCross 20 = .ok (.iload_n 1, 1) := by decide +kernel
theorem dX12_mayCross_21 : decode cX12_mayCross 21 = .ok (.iadd, 1) := by decide +kernel
theorem dX12_mayCross_22 : decode cX12_mayCross 22 = .ok (.iaload, 1) := by decide +kernel
theorem dX12_mayCross_23 : decode cX12_mayCross 23 = .ok (.imul, 1) := by decide +kernel
theorem dX12_mayCross_24 : decode cX12_mayCross 24 = .ok (.goto 9, 3) := by decide +kernel
set_option maxRecDepth 100000 in
set_option maxHeartbeats 4000000 in
theorem c_X12_whose {E : XE} {B N : Nat} {v : Nat → va_E} {c cell : Nat} {f p : Nat → Int} {l : Cor} {cell_i : Int} (ha_cell : cell_i = (cell : Int)) (hc0 : Cel N v c (iarr E 138 f)) (hq0 : PR f p l) (hq1 : POk p) (hq2 : CorOk l) (hq3 : l.length ≤ 8) (hq4 : cell ≤ 47) : gM yX12_whose wsX12_whose ({ frames := 0, cells := 0, slots := 0, locals := 0 }) E B N v [.ref (B + c), .int (zI cell_i)] (po0 N (fun ρ v' => ρ = some (.int (zI (whoseA (p 0) (p 1) l cell))) ∧ v = v')) := by
  subst ha_cell
  refine x_met (nm := "whose") (by decide +kernel) rfl (Nat.le_of_ble_eq_true rfl) rfl (fun Γ K KR hnL hnm => ?_)
  show XW Γ N v [(0, .ref (B + c)), (1, .int (zI (cell : Int)))] 0 0 0 []
  have hf0 := hq0.1 0 (by omega)
  have hf1 := hq0.1 1 (by omega)
  have hf121 := hq0.2.1
  have hp0 := hq1.1
  have hp1 := hq1.2.1
  refine x_iload_n (pc := 0) 1 K rfl rfl dX12_whose_0 ?_
  refine x_bipush (pc := 1) K (by decide) dX12_whose_1 ?_
  refine x_irem (pc := 3) K (by omega) (by omega) dX12_whose_3 ?_
  refine x_nm (fun z1 hz1 => ?_)
  refine x_istore_n (pc := 4) K (L' := [(2, .int (zI z1)), (0, .ref (B + c)), (1, .int (zI (cell : Int)))]) hnL rfl (by decide) rfl dX12_whose_4 ?_
  refine x_iconst (pc := 5) K dX12_whose_5 ?_
  refine x_istore_n (pc := 6) K (L' := [(3, .int (zI (-1))), (2, .int (zI z1)), (0, .ref (B + c)), (1, .int (zI (cell : Int)))]) hnL rfl (by decide) rfl dX12_whose_6 ?_
  refine x_aload_n (pc := 7) 2 K rfl rfl dX12_whose_7 ?_
  refine x_iconst (pc := 8) K dX12_whose_8 ?_
  refine x_iald (pc := 9) 0 K hc0 rfl (by omega) (by decide) dX12_whose_9 ?_
  refine x_nm (fun z2 hz2 => ?_)
  refine x_istore (pc := 10) K (L' := [(4, .int (zI z2)), (3, .int (zI (-1))), (2, .int (zI z1)), (0, .ref (B + c)), (1, .int (zI (cell : Int)))]) hnL (by decide) rfl dX12_whose_10 ?_
  refine x_bipush (pc := 12) K (by decide) dX12_whose_12 ?_
  refine x_istore (pc := 14) K (L' := [(5, .int (zI 8)), (4, .int (zI z2)), (3, .int (zI (-1))), (2, .int (zI z1)), (0, .ref (B + c)), (1, .int (zI (cell : Int)))]) hnL (by decide) rfl dX12_whose_14 ?_
  refine x_aload_n (pc := 16) 4 K rfl rfl dX12_whose_16 ?_
  refine x_iconst (pc := 17) K dX12_whose_17 ?_
  refine x_iald (pc := 18) 1 K hc0 rfl (by omega) (by decide) dX12_whose_18 ?_
  refine x_nm (fun z3 hz3 => ?_)
  refine x_istore (pc := 19) K (L' := [(6, .int (zI z3)), (5, .int (zI 8)), (4, .int (zI z2)), (3, .int (zI (-1))), (2, .int (zI z1)), (0, .ref (B + c)), (1, .int (zI (cell : Int)))]) hnL (by decide) rfl dX12_whose_19 ?_
  refine x_iconst (pc := 21) K dX12_whose_21 ?_
  refine x_istore (pc := 22) K (L' := [(7, .int (zI 0)), (6, .int (zI z3)), (5, .int (zI 8)), (4, .int (zI z2)), (3, .int (zI (-1))), (2, .int (zI z1)), (0, .ref (B + c)), (1, .int (zI (cell : Int)))]) hnL (by decide) rfl dX12_whose_22 ?_
  have LOOP24 : ∀ (n_24 : Nat) (a : Int) (b : Int) (d : Int) (g : Int) (k : Nat), (k ≤ l.length) → ((a, b, d, g) = wfold (p 0) (p 1) z1 (l.take k)) → (l.length - k) < n_24 → XW Γ N v [(0, .ref (B + c)), (1, .int (zI (cell : Int))), (2, .int (zI z1)), (3, .int (zI a)), (4, .int (zI b)), (5, .int (zI d)), (6, .int (zI g)), (7, .int (zI (k : Int)))] 0 0 24 [] := by
    intro n_24
    induction n_24 with
    | zero =>
      intro a b d g k hi24_0 hi24_1 hm_24
      exfalso; omega
    | succ n_24 ih24 =>
      intro a b d g k hi24_0 hi24_1 hm_24
      have hwk := wfold_ok (x := z1) (l := l.take k) hp0 hp1 (by omega) (fun q h => ⟨(hq2.1 q (List.mem_of_mem_take h)).1, (hq2.1 q (List.mem_of_mem_take h)).2.1⟩)
      rw [← hi24_1] at hwk
      simp only [WqOk] at hwk
      refine x_iload (pc := 24) 7 K rfl dX12_whose_24 ?_
      refine x_aload_n (pc := 26) 0 K rfl rfl dX12_whose_26 ?_
      refine x_bipush (pc := 27) K (by decide) dX12_whose_27 ?_
      refine x_iald (pc := 29) 121 K hc0 rfl (by omega) (by decide) dX12_whose_29 ?_
      refine x_icmp_ge (pc := 30) (tgt := 103) K (by omega) (by omega) dX12_whose_30 (by decide) (fun h_30 => ?_) (fun h_30 => ?_)
      · skip
        have hs : (a, b, d, g) = wfold (p 0) (p 1) z1 l := by rw [hi24_1, List.take_of_length_le (by omega)]
        have hw := wfold_ok (x := z1) (l := l) hp0 hp1 (by omega) (fun q h => ⟨(hq2.1 q h).1, (hq2.1 q h).2.1⟩)
        rw [← hs] at hw
        simp only [WqOk] at hw
        rw [hz1] at hs
        have hm1 := mul_rng (m := 5) (n := 9) (a := b) (b := d - a) (by omega) (by omega)
        have hm2 := mul_rng (m := 5) (n := 9) (a := g - b) (b := z1 - a) (by omega) (by omega)
        have hm3 := mul_rng (m := 5) (n := 9) (a := (cell : Int) / 8) (b := d - a) (by omega) (by omega)
        refine x_iload_n (pc := 103) 3 K rfl rfl dX12_whose_103 ?_
        refine x_iload (pc := 104) 5 K rfl dX12_whose_104 ?_
        refine x_icmp_ne (pc := 106) (tgt := 114) K (by omega) (by omega) dX12_whose_106 (by decide) (fun h_106 => ?_) (fun h_106 => ?_)
        · skip
          refine x_iload (pc := 114) 4 K rfl dX12_whose_114 ?_
          refine x_iload (pc := 116) 5 K rfl dX12_whose_116 ?_
          refine x_iload_n (pc := 118) 3 K rfl rfl dX12_whose_118 ?_
          refine x_isub (pc := 119) K dX12_whose_119 ?_
          refine x_imul (pc := 120) K dX12_whose_120 ?_
          refine x_iload (pc := 121) 6 K rfl dX12_whose_121 ?_
          refine x_iload (pc := 123) 4 K rfl dX12_whose_123 ?_
          refine x_isub (pc := 125) K dX12_whose_125 ?_
          refine x_iload_n (pc := 126) 2 K rfl rfl dX12_whose_126 ?_
          refine x_iload_n (pc := 127) 3 K rfl rfl dX12_whose_127 ?_
          refine x_isub (pc := 128) K dX12_whose_128 ?_
          refine x_imul (pc := 129) K dX12_whose_129 ?_
          refine x_iadd (pc := 130) K dX12_whose_130 ?_
          refine x_nm (fun z4 hz4 => ?_)
          refine x_istore (pc := 131) K (L' := [(7, .int (zI z4)), (0, .ref (B + c)), (1, .int (zI (cell : Int))), (2, .int (zI z1)), (3, .int (zI a)), (4, .int (zI b)), (5, .int (zI d)), (6, .int (zI g))]) hnL (by decide) rfl dX12_whose_131 ?_
          refine x_iload_n (pc := 133) 4 K rfl rfl dX12_whose_133 ?_
          refine x_iload (pc := 134) 6 K rfl dX12_whose_134 ?_
          refine x_icmp_ne (pc := 136) (tgt := 146) K (by omega) (by omega) dX12_whose_136 (by decide) (fun h_136 => ?_) (fun h_136 => ?_)
          · skip
            refine x_iload_n (pc := 146) 2 K rfl rfl dX12_whose_146 ?_
            refine x_bipush (pc := 147) K (by decide) dX12_whose_147 ?_
            refine x_idiv (pc := 149) K (by omega) (by omega) dX12_whose_149 ?_
            refine x_iload (pc := 150) 6 K rfl dX12_whose_150 ?_
            refine x_iload_n (pc := 152) 4 K rfl rfl dX12_whose_152 ?_
            refine x_isub (pc := 153) K dX12_whose_153 ?_
            refine x_imul (pc := 154) K dX12_whose_154 ?_
            refine x_nm (fun z5 hz5 => ?_)
            refine x_istore (pc := 155) K (L' := [(8, .int (zI z5)), (7, .int (zI z4)), (0, .ref (B + c)), (1, .int (zI (cell : Int))), (2, .int (zI z1)), (3, .int (zI a)), (4, .int (zI b)), (5, .int (zI d)), (6, .int (zI g))]) hnL (by decide) rfl dX12_whose_155 ?_
            refine x_iload (pc := 157) 0 K rfl dX12_whose_157 ?_
            refine x_iload (pc := 159) 1 K rfl dX12_whose_159 ?_
            refine x_icmp_ge (pc := 161) (tgt := 168) K (by omega) (by omega) dX12_whose_161 (by decide) (fun h_161 => ?_) (fun h_161 => ?_)
            · skip
              refine x_iload (pc := 168) 0 K rfl dX12_whose_168 ?_
              refine x_iload (pc := 170) 1 K rfl dX12_whose_170 ?_
              refine x_icmp_le (pc := 172) (tgt := 179) K (by omega) (by omega) dX12_whose_172 (by decide) (fun h_172 => ?_) (fun h_172 => ?_)
              · skip
                refine x_iconst (pc := 179) K dX12_whose_179 ?_
                refine x_iret (pc := 180) K KR (by omega) (Nat.le_of_ble_eq_true rfl) (Nat.le_of_ble_eq_true rfl) dX12_whose_180 ?_
                rw [hz1] at *
                exact ⟨rfl, ri (whoseA_eq hs (o := z5) (h := z4) (by omega) (by omega) (by omega)), rfl⟩
              · skip
                refine x_iconst (pc := 175) K dX12_whose_175 ?_
                refine x_goto (pc := 176) (tgt := 180) K dX12_whose_176 (by decide) ?_
                refine x_iret (pc := 180) K KR (by omega) (Nat.le_of_ble_eq_true rfl) (Nat.le_of_ble_eq_true rfl) dX12_whose_180 ?_
                rw [hz1] at *
                exact ⟨rfl, ri (whoseA_eq hs (o := z5) (h := z4) (by omega) (by omega) (by omega)), rfl⟩
            · skip
              refine x_iconst (pc := 164) K dX12_whose_164 ?_
              refine x_goto (pc := 165) (tgt := 180) K dX12_whose_165 (by decide) ?_
              refine x_iret (pc := 180) K KR (by omega) (Nat.le_of_ble_eq_true rfl) (Nat.le_of_ble_eq_true rfl) dX12_whose_180 ?_
              rw [hz1] at *
              exact ⟨rfl, ri (whoseA_eq hs (o := z5) (h := z4) (by omega) (by omega) (by omega)), rfl⟩
          · skip
            refine x_iload_n (pc := 139) 2 K rfl rfl dX12_whose_139 ?_
            refine x_bipush (pc := 140) K (by decide) dX12_whose_140 ?_
            refine x_idiv (pc := 142) K (by omega) (by omega) dX12_whose_142 ?_
            refine x_goto (pc := 143) (tgt := 155) K dX12_whose_143 (by decide) ?_
            refine x_nm (fun z6 hz6 => ?_)
            refine x_istore (pc := 155) K (L' := [(8, .int (zI z6)), (7, .int (zI z4)), (0, .ref (B + c)), (1, .int (zI (cell : Int))), (2, .int (zI z1)), (3, .int (zI a)), (4, .int (zI b)), (5, .int (zI d)), (6, .int (zI g))]) hnL (by decide) rfl dX12_whose_155 ?_
            refine x_iload (pc := 157) 0 K rfl dX12_whose_157 ?_
            refine x_iload (pc := 159) 1 K rfl dX12_whose_159 ?_
            refine x_icmp_ge (pc := 161) (tgt := 168) K (by omega) (by omega) dX12_whose_161 (by decide) (fun h_161 => ?_) (fun h_161 => ?_)
            · skip
              refine x_iload (pc := 168) 0 K rfl dX12_whose_168 ?_
              refine x_iload (pc := 170) 1 K rfl dX12_whose_170 ?_
              refine x_icmp_le (pc := 172) (tgt := 179) K (by omega) (by omega) dX12_whose_172 (by decide) (fun h_172 => ?_) (fun h_172 => ?_)
              · skip
                refine x_iconst (pc := 179) K dX12_whose_179 ?_
                refine x_iret (pc := 180) K KR (by omega) (Nat.le_of_ble_eq_true rfl) (Nat.le_of_ble_eq_true rfl) dX12_whose_180 ?_
                rw [hz1] at *
                exact ⟨rfl, ri (whoseA_eq hs (o := z6) (h := z4) (by omega) (by omega) (by omega)), rfl⟩
              · skip
                refine x_iconst (pc := 175) K dX12_whose_175 ?_
                refine x_goto (pc := 176) (tgt := 180) K dX12_whose_176 (by decide) ?_
                refine x_iret (pc := 180) K KR (by omega) (Nat.le_of_ble_eq_true rfl) (Nat.le_of_ble_eq_true rfl) dX12_whose_180 ?_
                rw [hz1] at *
                exact ⟨rfl, ri (whoseA_eq hs (o := z6) (h := z4) (by omega) (by omega) (by omega)), rfl⟩
            · skip
              refine x_iconst (pc := 164) K dX12_whose_164 ?_
              refine x_goto (pc := 165) (tgt := 180) K dX12_whose_165 (by decide) ?_
              refine x_iret (pc := 180) K KR (by omega) (Nat.le_of_ble_eq_true rfl) (Nat.le_of_ble_eq_true rfl) dX12_whose_180 ?_
              rw [hz1] at *
              exact ⟨rfl, ri (whoseA_eq hs (o := z6) (h := z4) (by omega) (by omega) (by omega)), rfl⟩
        · skip
          refine x_iload (pc := 109) 4 K rfl dX12_whose_109 ?_
          refine x_goto (pc := 111) (tgt := 131) K dX12_whose_111 (by decide) ?_
          refine x_istore (pc := 131) K (L' := [(7, .int (zI b)), (0, .ref (B + c)), (1, .int (zI (cell : Int))), (2, .int (zI z1)), (3, .int (zI a)), (4, .int (zI b)), (5, .int (zI d)), (6, .int (zI g))]) hnL (by decide) rfl dX12_whose_131 ?_
          refine x_iload_n (pc := 133) 4 K rfl rfl dX12_whose_133 ?_
          refine x_iload (pc := 134) 6 K rfl dX12_whose_134 ?_
          refine x_icmp_ne (pc := 136) (tgt := 146) K (by omega) (by omega) dX12_whose_136 (by decide) (fun h_136 => ?_) (fun h_136 => ?_)
          · skip
            refine x_iload_n (pc := 146) 2 K rfl rfl dX12_whose_146 ?_
            refine x_bipush (pc := 147) K (by decide) dX12_whose_147 ?_
            refine x_idiv (pc := 149) K (by omega) (by omega) dX12_whose_149 ?_
            refine x_iload (pc := 150) 6 K rfl dX12_whose_150 ?_
            refine x_iload_n (pc := 152) 4 K rfl rfl dX12_whose_152 ?_
            refine x_isub (pc := 153) K dX12_whose_153 ?_
            refine x_imul (pc := 154) K dX12_whose_154 ?_
            refine x_nm (fun z7 hz7 => ?_)
            refine x_istore (pc := 155) K (L' := [(8, .int (zI z7)), (7, .int (zI b)), (0, .ref (B + c)), (1, .int (zI (cell : Int))), (2, .int (zI z1)), (3, .int (zI a)), (4, .int (zI b)), (5, .int (zI d)), (6, .int (zI g))]) hnL (by decide) rfl dX12_whose_155 ?_
            refine x_iload (pc := 157) 0 K rfl dX12_whose_157 ?_
            refine x_iload (pc := 159) 1 K rfl dX12_whose_159 ?_
            refine x_icmp_ge (pc := 161) (tgt := 168) K (by omega) (by omega) dX12_whose_161 (by decide) (fun h_161 => ?_) (fun h_161 => ?_)
            · skip
              refine x_iload (pc := 168) 0 K rfl dX12_whose_168 ?_
              refine x_iload (pc := 170) 1 K rfl dX12_whose_170 ?_
              refine x_icmp_le (pc := 172) (tgt := 179) K (by omega) (by omega) dX12_whose_172 (by decide) (fun h_172 => ?_) (fun h_172 => ?_)
              · skip
                refine x_iconst (pc := 179) K dX12_whose_179 ?_
                refine x_iret (pc := 180) K KR (by omega) (Nat.le_of_ble_eq_true rfl) (Nat.le_of_ble_eq_true rfl) dX12_whose_180 ?_
                rw [hz1] at *
                exact ⟨rfl, ri (whoseA_eq hs (o := z7) (h := b) (by omega) (by omega) (by omega)), rfl⟩
              · skip
                refine x_iconst (pc := 175) K dX12_whose_175 ?_
                refine x_goto (pc := 176) (tgt := 180) K dX12_whose_176 (by decide) ?_
                refine x_iret (pc := 180) K KR (by omega) (Nat.le_of_ble_eq_true rfl) (Nat.le_of_ble_eq_true rfl) dX12_whose_180 ?_
                rw [hz1] at *
                exact ⟨rfl, ri (whoseA_eq hs (o := z7) (h := b) (by omega) (by omega) (by omega)), rfl⟩
            · skip
              refine x_iconst (pc := 164) K dX12_whose_164 ?_
              refine x_goto (pc := 165) (tgt := 180) K dX12_whose_165 (by decide) ?_
              refine x_iret (pc := 180) K KR (by omega) (Nat.le_of_ble_eq_true rfl) (Nat.le_of_ble_eq_true rfl) dX12_whose_180 ?_
              rw [hz1] at *
              exact ⟨rfl, ri (whoseA_eq hs (o := z7) (h := b) (by omega) (by omega) (by omega)), rfl⟩
          · skip
            refine x_iload_n (pc := 139) 2 K rfl rfl dX12_whose_139 ?_
            refine x_bipush (pc := 140) K (by decide) dX12_whose_140 ?_
            refine x_idiv (pc := 142) K (by omega) (by omega) dX12_whose_142 ?_
            refine x_goto (pc := 143) (tgt := 155) K dX12_whose_143 (by decide) ?_
            refine x_nm (fun z8 hz8 => ?_)
            refine x_istore (pc := 155) K (L' := [(8, .int (zI z8)), (7, .int (zI b)), (0, .ref (B + c)), (1, .int (zI (cell : Int))), (2, .int (zI z1)), (3, .int (zI a)), (4, .int (zI b)), (5, .int (zI d)), (6, .int (zI g))]) hnL (by decide) rfl dX12_whose_155 ?_
            refine x_iload (pc := 157) 0 K rfl dX12_whose_157 ?_
            refine x_iload (pc := 159) 1 K rfl dX12_whose_159 ?_
            refine x_icmp_ge (pc := 161) (tgt := 168) K (by omega) (by omega) dX12_whose_161 (by decide) (fun h_161 => ?_) (fun h_161 => ?_)
            · skip
              refine x_iload (pc := 168) 0 K rfl dX12_whose_168 ?_
              refine x_iload (pc := 170) 1 K rfl dX12_whose_170 ?_
              refine x_icmp_le (pc := 172) (tgt := 179) K (by omega) (by omega) dX12_whose_172 (by decide) (fun h_172 => ?_) (fun h_172 => ?_)
              · skip
                refine x_iconst (pc := 179) K dX12_whose_179 ?_
                refine x_iret (pc := 180) K KR (by omega) (Nat.le_of_ble_eq_true rfl) (Nat.le_of_ble_eq_true rfl) dX12_whose_180 ?_
                rw [hz1] at *
                exact ⟨rfl, ri (whoseA_eq hs (o := z8) (h := b) (by omega) (by omega) (by omega)), rfl⟩
              · skip
                refine x_iconst (pc := 175) K dX12_whose_175 ?_
                refine x_goto (pc := 176) (tgt := 180) K dX12_whose_176 (by decide) ?_
                refine x_iret (pc := 180) K KR (by omega) (Nat.le_of_ble_eq_true rfl) (Nat.le_of_ble_eq_true rfl) dX12_whose_180 ?_
                rw [hz1] at *
                exact ⟨rfl, ri (whoseA_eq hs (o := z8) (h := b) (by omega) (by omega) (by omega)), rfl⟩
            · skip
              refine x_iconst (pc := 164) K dX12_whose_164 ?_
              refine x_goto (pc := 165) (tgt := 180) K dX12_whose_165 (by decide) ?_
              refine x_iret (pc := 180) K KR (by omega) (Nat.le_of_ble_eq_true rfl) (Nat.le_of_ble_eq_true rfl) dX12_whose_180 ?_
              rw [hz1] at *
              exact ⟨rfl, ri (whoseA_eq hs (o := z8) (h := b) (by omega) (by omega) (by omega)), rfl⟩
      · skip
        have hk : k < l.length := by omega
        have e39 := hq0.cor hk
        have b39 := hq2.at hk
        rw [← e39] at b39
        refine x_aload_n (pc := 33) 0 K rfl rfl dX12_whose_33 ?_
        refine x_bipush (pc := 34) K (by decide) dX12_whose_34 ?_
        refine x_iload (pc := 36) 7 K rfl dX12_whose_36 ?_
        refine x_iadd (pc := 38) K dX12_whose_38 ?_
        refine x_iald (pc := 39) (122 + k) K hc0 (by omega) (by omega) (by decide) dX12_whose_39 ?_
        refine x_bipush (pc := 40) K (by decide) dX12_whose_40 ?_
        refine x_irem (pc := 42) K (by omega) (by omega) dX12_whose_42 ?_
        refine x_nm (fun z9 hz9 => ?_)
        refine x_istore (pc := 43) K (L' := [(8, .int (zI z9)), (0, .ref (B + c)), (1, .int (zI (cell : Int))), (2, .int (zI z1)), (3, .int (zI a)), (4, .int (zI b)), (5, .int (zI d)), (6, .int (zI g)), (7, .int (zI (k : Int)))]) hnL (by decide) rfl dX12_whose_43 ?_
        refine x_aload_n (pc := 45) 1 K rfl rfl dX12_whose_45 ?_
        refine x_bipush (pc := 46) K (by decide) dX12_whose_46 ?_
        refine x_iload (pc := 48) 8 K rfl dX12_whose_48 ?_
        refine x_iadd (pc := 50) K dX12_whose_50 ?_
        refine x_iald (pc := 51) (122 + k) K hc0 (by omega) (by omega) (by decide) dX12_whose_51 ?_
        refine x_bipush (pc := 52) K (by decide) dX12_whose_52 ?_
        refine x_idiv (pc := 54) K (by omega) (by omega) dX12_whose_54 ?_
        refine x_nm (fun z10 hz10 => ?_)
        refine x_istore (pc := 55) K (L' := [(9, .int (zI z10)), (8, .int (zI z9)), (0, .ref (B + c)), (1, .int (zI (cell : Int))), (2, .int (zI z1)), (3, .int (zI a)), (4, .int (zI b)), (5, .int (zI d)), (6, .int (zI g)), (7, .int (zI (k : Int)))]) hnL (by decide) rfl dX12_whose_55 ?_
        refine x_iload (pc := 57) 1 K rfl dX12_whose_57 ?_
        refine x_iload_n (pc := 59) 4 K rfl rfl dX12_whose_59 ?_
        refine x_icmp_gt (pc := 60) (tgt := 76) K (by omega) (by omega) dX12_whose_60 (by decide) (fun h_60 => ?_) (fun h_60 => ?_)
        · skip
          refine x_iload (pc := 76) 1 K rfl dX12_whose_76 ?_
          refine x_iload_n (pc := 78) 4 K rfl rfl dX12_whose_78 ?_
          refine x_icmp_lt (pc := 79) (tgt := 97) K (by omega) (by omega) dX12_whose_79 (by decide) (fun h_79 => ?_) (fun h_79 => ?_)
          · skip
            refine x_iinc (pc := 97) (L' := [(7, .int (zI ((k : Int) + 1))), (9, .int (zI z10)), (8, .int (zI z9)), (0, .ref (B + c)), (1, .int (zI (cell : Int))), (2, .int (zI z1)), (3, .int (zI a)), (4, .int (zI b)), (5, .int (zI d)), (6, .int (zI g))]) 9 K hnL rfl (by decide) rfl dX12_whose_97 ?_
            refine x_goto (pc := 100) (tgt := 24) K dX12_whose_100 (by decide) ?_
            refine x_sub (L' := [(0, .ref (B + c)), (1, .int (zI (cell : Int))), (2, .int (zI z1)), (3, .int (zI a)), (4, .int (zI b)), (5, .int (zI d)), (6, .int (zI g)), (7, .int (zI ((k : Int) + 1)))]) [3, 4, 5, 6, 7, 8, 9, 0] rfl ?_
            exact ih24 a b d g (k + 1) (by omega) (by rw [wfold_take hk, ← hi24_1, ← e39]; exact wstep_mk (by omega) (by omega)) (by omega)
          · skip
            refine x_iload (pc := 82) 1 K rfl dX12_whose_82 ?_
            refine x_iload (pc := 84) 7 K rfl dX12_whose_84 ?_
            refine x_icmp_ge (pc := 86) (tgt := 97) K (by omega) (by omega) dX12_whose_86 (by decide) (fun h_86 => ?_) (fun h_86 => ?_)
            · skip
              refine x_iinc (pc := 97) (L' := [(7, .int (zI ((k : Int) + 1))), (9, .int (zI z10)), (8, .int (zI z9)), (0, .ref (B + c)), (1, .int (zI (cell : Int))), (2, .int (zI z1)), (3, .int (zI a)), (4, .int (zI b)), (5, .int (zI d)), (6, .int (zI g))]) 9 K hnL rfl (by decide) rfl dX12_whose_97 ?_
              refine x_goto (pc := 100) (tgt := 24) K dX12_whose_100 (by decide) ?_
              refine x_sub (L' := [(0, .ref (B + c)), (1, .int (zI (cell : Int))), (2, .int (zI z1)), (3, .int (zI a)), (4, .int (zI b)), (5, .int (zI d)), (6, .int (zI g)), (7, .int (zI ((k : Int) + 1)))]) [3, 4, 5, 6, 7, 8, 9, 0] rfl ?_
              exact ih24 a b d g (k + 1) (by omega) (by rw [wfold_take hk, ← hi24_1, ← e39]; exact wstep_mk (by omega) (by omega)) (by omega)
            · skip
              refine x_iload (pc := 89) 1 K rfl dX12_whose_89 ?_
              refine x_istore (pc := 91) K (L' := [(5, .int (zI z9)), (9, .int (zI z10)), (8, .int (zI z9)), (0, .ref (B + c)), (1, .int (zI (cell : Int))), (2, .int (zI z1)), (3, .int (zI a)), (4, .int (zI b)), (6, .int (zI g)), (7, .int (zI (k : Int)))]) hnL (by decide) rfl dX12_whose_91 ?_
              refine x_iload (pc := 93) 1 K rfl dX12_whose_93 ?_
              refine x_istore (pc := 95) K (L' := [(6, .int (zI z10)), (5, .int (zI z9)), (9, .int (zI z10)), (8, .int (zI z9)), (0, .ref (B + c)), (1, .int (zI (cell : Int))), (2, .int (zI z1)), (3, .int (zI a)), (4, .int (zI b)), (7, .int (zI (k : Int)))]) hnL (by decide) rfl dX12_whose_95 ?_
              refine x_iinc (pc := 97) (L' := [(7, .int (zI ((k : Int) + 1))), (6, .int (zI z10)), (5, .int (zI z9)), (9, .int (zI z10)), (8, .int (zI z9)), (0, .ref (B + c)), (1, .int (zI (cell : Int))), (2, .int (zI z1)), (3, .int (zI a)), (4, .int (zI b))]) 9 K hnL rfl (by decide) rfl dX12_whose_97 ?_
              refine x_goto (pc := 100) (tgt := 24) K dX12_whose_100 (by decide) ?_
              refine x_sub (L' := [(0, .ref (B + c)), (1, .int (zI (cell : Int))), (2, .int (zI z1)), (3, .int (zI a)), (4, .int (zI b)), (5, .int (zI z9)), (6, .int (zI z10)), (7, .int (zI ((k : Int) + 1)))]) [5, 6, 7, 8, 9, 2, 1, 0] rfl ?_
              exact ih24 a b z9 z10 (k + 1) (by omega) (by rw [wfold_take hk, ← hi24_1, ← e39]; exact wstep_mk (by omega) (by omega)) (by omega)
        · skip
          refine x_iload (pc := 63) 1 K rfl dX12_whose_63 ?_
          refine x_iload_n (pc := 65) 5 K rfl rfl dX12_whose_65 ?_
          refine x_icmp_le (pc := 66) (tgt := 76) K (by omega) (by omega) dX12_whose_66 (by decide) (fun h_66 => ?_) (fun h_66 => ?_)
          · skip
            refine x_iload (pc := 76) 1 K rfl dX12_whose_76 ?_
            refine x_iload_n (pc := 78) 4 K rfl rfl dX12_whose_78 ?_
            refine x_icmp_lt (pc := 79) (tgt := 97) K (by omega) (by omega) dX12_whose_79 (by decide) (fun h_79 => ?_) (fun h_79 => ?_)
            · skip
              refine x_iinc (pc := 97) (L' := [(7, .int (zI ((k : Int) + 1))), (9, .int (zI z10)), (8, .int (zI z9)), (0, .ref (B + c)), (1, .int (zI (cell : Int))), (2, .int (zI z1)), (3, .int (zI a)), (4, .int (zI b)), (5, .int (zI d)), (6, .int (zI g))]) 9 K hnL rfl (by decide) rfl dX12_whose_97 ?_
              refine x_goto (pc := 100) (tgt := 24) K dX12_whose_100 (by decide) ?_
              refine x_sub (L' := [(0, .ref (B + c)), (1, .int (zI (cell : Int))), (2, .int (zI z1)), (3, .int (zI a)), (4, .int (zI b)), (5, .int (zI d)), (6, .int (zI g)), (7, .int (zI ((k : Int) + 1)))]) [3, 4, 5, 6, 7, 8, 9, 0] rfl ?_
              exact ih24 a b d g (k + 1) (by omega) (by rw [wfold_take hk, ← hi24_1, ← e39]; exact wstep_mk (by omega) (by omega)) (by omega)
            · skip
              refine x_iload (pc := 82) 1 K rfl dX12_whose_82 ?_
              refine x_iload (pc := 84) 7 K rfl dX12_whose_84 ?_
              refine x_icmp_ge (pc := 86) (tgt := 97) K (by omega) (by omega) dX12_whose_86 (by decide) (fun h_86 => ?_) (fun h_86 => ?_)
              · skip
                refine x_iinc (pc := 97) (L' := [(7, .int (zI ((k : Int) + 1))), (9, .int (zI z10)), (8, .int (zI z9)), (0, .ref (B + c)), (1, .int (zI (cell : Int))), (2, .int (zI z1)), (3, .int (zI a)), (4, .int (zI b)), (5, .int (zI d)), (6, .int (zI g))]) 9 K hnL rfl (by decide) rfl dX12_whose_97 ?_
                refine x_goto (pc := 100) (tgt := 24) K dX12_whose_100 (by decide) ?_
                refine x_sub (L' := [(0, .ref (B + c)), (1, .int (zI (cell : Int))), (2, .int (zI z1)), (3, .int (zI a)), (4, .int (zI b)), (5, .int (zI d)), (6, .int (zI g)), (7, .int (zI ((k : Int) + 1)))]) [3, 4, 5, 6, 7, 8, 9, 0] rfl ?_
                exact ih24 a b d g (k + 1) (by omega) (by rw [wfold_take hk, ← hi24_1, ← e39]; exact wstep_mk (by omega) (by omega)) (by omega)
              · skip
                refine x_iload (pc := 89) 1 K rfl dX12_whose_89 ?_
                refine x_istore (pc := 91) K (L' := [(5, .int (zI z9)), (9, .int (zI z10)), (8, .int (zI z9)), (0, .ref (B + c)), (1, .int (zI (cell : Int))), (2, .int (zI z1)), (3, .int (zI a)), (4, .int (zI b)), (6, .int (zI g)), (7, .int (zI (k : Int)))]) hnL (by decide) rfl dX12_whose_91 ?_
                refine x_iload (pc := 93) 1 K rfl dX12_whose_93 ?_
                refine x_istore (pc := 95) K (L' := [(6, .int (zI z10)), (5, .int (zI z9)), (9, .int (zI z10)), (8, .int (zI z9)), (0, .ref (B + c)), (1, .int (zI (cell : Int))), (2, .int (zI z1)), (3, .int (zI a)), (4, .int (zI b)), (7, .int (zI (k : Int)))]) hnL (by decide) rfl dX12_whose_95 ?_
                refine x_iinc (pc := 97) (L' := [(7, .int (zI ((k : Int) + 1))), (6, .int (zI z10)), (5, .int (zI z9)), (9, .int (zI z10)), (8, .int (zI z9)), (0, .ref (B + c)), (1, .int (zI (cell : Int))), (2, .int (zI z1)), (3, .int (zI a)), (4, .int (zI b))]) 9 K hnL rfl (by decide) rfl dX12_whose_97 ?_
                refine x_goto (pc := 100) (tgt := 24) K dX12_whose_100 (by decide) ?_
                refine x_sub (L' := [(0, .ref (B + c)), (1, .int (zI (cell : Int))), (2, .int (zI z1)), (3, .int (zI a)), (4, .int (zI b)), (5, .int (zI z9)), (6, .int (zI z10)), (7, .int (zI ((k : Int) + 1)))]) [5, 6, 7, 8, 9, 2, 1, 0] rfl ?_
                exact ih24 a b z9 z10 (k + 1) (by omega) (by rw [wfold_take hk, ← hi24_1, ← e39]; exact wstep_mk (by omega) (by omega)) (by omega)
          · skip
            refine x_iload (pc := 69) 1 K rfl dX12_whose_69 ?_
            refine x_istore_n (pc := 71) K (L' := [(3, .int (zI z9)), (9, .int (zI z10)), (8, .int (zI z9)), (0, .ref (B + c)), (1, .int (zI (cell : Int))), (2, .int (zI z1)), (4, .int (zI b)), (5, .int (zI d)), (6, .int (zI g)), (7, .int (zI (k : Int)))]) hnL rfl (by decide) rfl dX12_whose_71 ?_
            refine x_iload (pc := 72) 1 K rfl dX12_whose_72 ?_
            refine x_istore (pc := 74) K (L' := [(4, .int (zI z10)), (3, .int (zI z9)), (9, .int (zI z10)), (8, .int (zI z9)), (0, .ref (B + c)), (1, .int (zI (cell : Int))), (2, .int (zI z1)), (5, .int (zI d)), (6, .int (zI g)), (7, .int (zI (k : Int)))]) hnL (by decide) rfl dX12_whose_74 ?_
            refine x_iload (pc := 76) 3 K rfl dX12_whose_76 ?_
            refine x_iload_n (pc := 78) 6 K rfl rfl dX12_whose_78 ?_
            refine x_icmp_lt (pc := 79) (tgt := 97) K (by omega) (by omega) dX12_whose_79 (by decide) (fun h_79 => ?_) (fun h_79 => ?_)
            · skip
              refine x_iinc (pc := 97) (L' := [(7, .int (zI ((k : Int) + 1))), (4, .int (zI z10)), (3, .int (zI z9)), (9, .int (zI z10)), (8, .int (zI z9)), (0, .ref (B + c)), (1, .int (zI (cell : Int))), (2, .int (zI z1)), (5, .int (zI d)), (6, .int (zI g))]) 9 K hnL rfl (by decide) rfl dX12_whose_97 ?_
              refine x_goto (pc := 100) (tgt := 24) K dX12_whose_100 (by decide) ?_
              refine x_sub (L' := [(0, .ref (B + c)), (1, .int (zI (cell : Int))), (2, .int (zI z1)), (3, .int (zI z9)), (4, .int (zI z10)), (5, .int (zI d)), (6, .int (zI g)), (7, .int (zI ((k : Int) + 1)))]) [5, 6, 7, 2, 1, 8, 9, 0] rfl ?_
              exact ih24 z9 z10 d g (k + 1) (by omega) (by rw [wfold_take hk, ← hi24_1, ← e39]; exact wstep_mk (by omega) (by omega)) (by omega)
            · skip
              refine x_iload (pc := 82) 3 K rfl dX12_whose_82 ?_
              refine x_iload (pc := 84) 7 K rfl dX12_whose_84 ?_
              refine x_icmp_ge (pc := 86) (tgt := 97) K (by omega) (by omega) dX12_whose_86 (by decide) (fun h_86 => ?_) (fun h_86 => ?_)
              · skip
                refine x_iinc (pc := 97) (L' := [(7, .int (zI ((k : Int) + 1))), (4, .int (zI z10)), (3, .int (zI z9)), (9, .int (zI z10)), (8, .int (zI z9)), (0, .ref (B + c)), (1, .int (zI (cell : Int))), (2, .int (zI z1)), (5, .int (zI d)), (6, .int (zI g))]) 9 K hnL rfl (by decide) rfl dX12_whose_97 ?_
                refine x_goto (pc := 100) (tgt := 24) K dX12_whose_100 (by decide) ?_
                refine x_sub (L' := [(0, .ref (B + c)), (1, .int (zI (cell : Int))), (2, .int (zI z1)), (3, .int (zI z9)), (4, .int (zI z10)), (5, .int (zI d)), (6, .int (zI g)), (7, .int (zI ((k : Int) + 1)))]) [5, 6, 7, 2, 1, 8, 9, 0] rfl ?_
                exact ih24 z9 z10 d g (k + 1) (by omega) (by rw [wfold_take hk, ← hi24_1, ← e39]; exact wstep_mk (by omega) (by omega)) (by omega)
              · skip
                refine x_iload (pc := 89) 3 K rfl dX12_whose_89 ?_
                refine x_istore (pc := 91) K (L' := [(5, .int (zI z9)), (4, .int (zI z10)), (3, .int (zI z9)), (9, .int (zI z10)), (8, .int (zI z9)), (0, .ref (B + c)), (1, .int (zI (cell : Int))), (2, .int (zI z1)), (6, .int (zI g)), (7, .int (zI (k : Int)))]) hnL (by decide) rfl dX12_whose_91 ?_
                refine x_iload (pc := 93) 3 K rfl dX12_whose_93 ?_
                refine x_istore (pc := 95) K (L' := [(6, .int (zI z10)), (5, .int (zI z9)), (4, .int (zI z10)), (3, .int (zI z9)), (9, .int (zI z10)), (8, .int (zI z9)), (0, .ref (B + c)), (1, .int (zI (cell : Int))), (2, .int (zI z1)), (7, .int (zI (k : Int)))]) hnL (by decide) rfl dX12_whose_95 ?_
                refine x_iinc (pc := 97) (L' := [(7, .int (zI ((k : Int) + 1))), (6, .int (zI z10)), (5, .int (zI z9)), (4, .int (zI z10)), (3, .int (zI z9)), (9, .int (zI z10)), (8, .int (zI z9)), (0, .ref (B + c)), (1, .int (zI (cell : Int))), (2, .int (zI z1))]) 9 K hnL rfl (by decide) rfl dX12_whose_97 ?_
                refine x_goto (pc := 100) (tgt := 24) K dX12_whose_100 (by decide) ?_
                refine x_sub (L' := [(0, .ref (B + c)), (1, .int (zI (cell : Int))), (2, .int (zI z1)), (3, .int (zI z9)), (4, .int (zI z10)), (5, .int (zI z9)), (6, .int (zI z10)), (7, .int (zI ((k : Int) + 1)))]) [7, 8, 9, 4, 3, 2, 1, 0] rfl ?_
                exact ih24 z9 z10 z9 z10 (k + 1) (by omega) (by rw [wfold_take hk, ← hi24_1, ← e39]; exact wstep_mk (by omega) (by omega)) (by omega)
  refine x_sub (L' := [(0, .ref (B + c)), (1, .int (zI (cell : Int))), (2, .int (zI z1)), (3, .int (zI (-1))), (4, .int (zI z2)), (5, .int (zI 8)), (6, .int (zI z3)), (7, .int (zI 0))]) [6, 7, 5, 4, 3, 2, 1, 0] rfl ?_
  exact LOOP24 (_) (-1) z2 8 z3 0 (by omega) (by rw [List.take_zero, wfold_nil, hz2, hz3, hf0, hf1]) (Nat.lt_succ_self _)

set_option maxRecDepth 100000 in
set_option maxHeartbeats 4000000 in
theorem c_X12_sum {E : XE} {B N : Nat} {v : Nat → va_E} {c : Nat} {land what : Int} {f p : Nat → Int} {l : Cor} (hc0 : Cel N v c (iarr E 138 f)) (hq0 : PR f p l) (hq1 : POk p) (hq2 : CorOk l) (hq3 : l.length ≤ 8) (hq4 : (-2147483648 ≤ land ∧ land ≤ 2147483647)) (hq5 : (-2147483648 ≤ what ∧ what ≤ 2147483647)) : gM yX12_sum wsX12_sum ({ frames := 1, cells := 0, slots := 0, locals := 29 }) E B N v [.ref (B + c), .int (zI land), .int (zI what)] (po0 N (fun ρ v' => ρ = some (.int (zI (sumA p l land what 48))) ∧ v = v')) := by
  refine x_met (nm := "sum") (by decide +kernel) rfl (Nat.le_of_ble_eq_true rfl) rfl (fun Γ K KR hnL hnm => ?_)
  show XW Γ N v [(0, .ref (B + c)), (1, .int (zI land)), (2, .int (zI what))] 0 0 0 []
  refine x_iconst (pc := 0) K dX12_sum_0 ?_
  refine x_istore_n (pc := 1) K (L' := [(3, .int (zI 0)), (0, .ref (B + c)), (1, .int (zI land)), (2, .int (zI what))]) hnL rfl (by decide) rfl dX12_sum_1 ?_
  refine x_iconst (pc := 2) K dX12_sum_2 ?_
  refine x_istore (pc := 3) K (L' := [(4, .int (zI 0)), (3, .int (zI 0)), (0, .ref (B + c)), (1, .int (zI land)), (2, .int (zI what))]) hnL (by decide) rfl dX12_sum_3 ?_
  have LOOP5 : ∀ (n_5 : Nat) (z : Int) (k : Nat), (k ≤ 48) → (z = sumA p l land what k) → (48 - k) < n_5 → XW Γ N v [(0, .ref (B + c)), (1, .int (zI land)), (2, .int (zI what)), (3, .int (zI z)), (4, .int (zI (k : Int)))] 0 0 5 [] := by
    intro n_5
    induction n_5 with
    | zero =>
      intro z k hi5_0 hi5_1 hm_5
      exfalso; omega
    | succ n_5 ih5 =>
      intro z k hi5_0 hi5_1 hm_5
      have hz := sumA_rng (l := l) (land := land) (what := what) hq1 hi5_0
      rw [← hi5_1] at hz
      refine x_iload (pc := 5) 4 K rfl dX12_sum_5 ?_
      refine x_bipush (pc := 7) K (by decide) dX12_sum_7 ?_
      refine x_icmp_ge (pc := 9) (tgt := 50) K (by omega) (by decide) dX12_sum_9 (by decide) (fun h_9 => ?_) (fun h_9 => ?_)
      · skip
        refine x_iload_n (pc := 50) 3 K rfl rfl dX12_sum_50 ?_
        refine x_iret (pc := 51) K KR (by omega) (Nat.le_of_ble_eq_true rfl) (Nat.le_of_ble_eq_true rfl) dX12_sum_51 ?_
        have hk : k = 48 := by omega
        subst hk
        exact ⟨rfl, ri hi5_1, rfl⟩
      · skip
        refine x_iload_n (pc := 12) 3 K rfl rfl dX12_sum_12 ?_
        refine x_aload_n (pc := 13) 0 K rfl rfl dX12_sum_13 ?_
        refine x_iload (pc := 14) 4 K rfl dX12_sum_14 ?_
        refine x_callS (pc := 16) (As := [.ref (B + c), .int (zI (k : Int))]) K (c_X12_whose (E := E) (B := B) (N := N) (cell := k) rfl hc0 hq0 hq1 hq2 hq3 (by omega)) gX12_sum_X12_whose rfl (na := 2) (by decide +kernel) rfl ⟨(Nat.le_of_ble_eq_true rfl), (Nat.le_of_ble_eq_true rfl)⟩ (st := [.int (zI z)]) rfl (Nat.le_of_ble_eq_true rfl) ⟨(Nat.le_of_ble_eq_true rfl), (Nat.le_of_ble_eq_true rfl)⟩ dX12_sum_16 (fun r16 N16 w16 hpo16 hN16 => ?_)
        obtain ⟨rfl, rfl, rfl⟩ := hpo16
        refine x_st (st' := [.int (zI (whoseA (p 0) (p 1) l k)), .int (zI z)]) rfl ?_
        have hrg16 := whoseA_rng (p 0) (p 1) l k
        refine x_iload_n (pc := 19) 1 K rfl rfl dX12_sum_19 ?_
        refine x_icmp_eq (pc := 20) (tgt := 27) K (by omega) (by omega) dX12_sum_20 (by decide) (fun h_20 => ?_) (fun h_20 => ?_)
        · skip
          refine x_iload_n (pc := 27) 2 K rfl rfl dX12_sum_27 ?_
          refine x_if_ne (pc := 28) (tgt := 35) K (by omega) dX12_sum_28 (by decide) (fun h_28 => ?_) (fun h_28 => ?_)
          · skip
            refine x_aload_n (pc := 35) 0 K rfl rfl dX12_sum_35 ?_
            refine x_bipush (pc := 36) K (by decide) dX12_sum_36 ?_
            refine x_iload (pc := 38) 4 K rfl dX12_sum_38 ?_
            refine x_iadd (pc := 40) K dX12_sum_40 ?_
            refine x_iald (pc := 41) (73 + k) K hc0 (by omega) (by omega) (by decide) dX12_sum_41 ?_
            have e41 := hq0.1 (73 + k) (by omega)
            refine x_iadd (pc := 42) K dX12_sum_42 ?_
            refine x_nm (fun z1 hz1 => ?_)
            refine x_istore_n (pc := 43) K (L' := [(3, .int (zI z1)), (0, .ref (B + c)), (1, .int (zI land)), (2, .int (zI what)), (4, .int (zI (k : Int)))]) hnL rfl (by decide) rfl dX12_sum_43 ?_
            refine x_iinc (pc := 44) (L' := [(4, .int (zI ((k : Int) + 1))), (3, .int (zI z1)), (0, .ref (B + c)), (1, .int (zI land)), (2, .int (zI what))]) 4 K hnL rfl (by decide) rfl dX12_sum_44 ?_
            refine x_goto (pc := 47) (tgt := 5) K dX12_sum_47 (by decide) ?_
            refine x_sub (L' := [(0, .ref (B + c)), (1, .int (zI land)), (2, .int (zI what)), (3, .int (zI z1)), (4, .int (zI ((k : Int) + 1)))]) [2, 3, 4, 1, 0] rfl ?_
            exact ih5 z1 (k + 1) (by omega) (by unfold sumA; rw [← hi5_1]; split <;> (try split) <;> omega) (by omega)
          · skip
            refine x_iconst (pc := 31) K dX12_sum_31 ?_
            refine x_goto (pc := 32) (tgt := 42) K dX12_sum_32 (by decide) ?_
            refine x_iadd (pc := 42) K dX12_sum_42 ?_
            refine x_nm (fun z2 hz2 => ?_)
            refine x_istore_n (pc := 43) K (L' := [(3, .int (zI z2)), (0, .ref (B + c)), (1, .int (zI land)), (2, .int (zI what)), (4, .int (zI (k : Int)))]) hnL rfl (by decide) rfl dX12_sum_43 ?_
            refine x_iinc (pc := 44) (L' := [(4, .int (zI ((k : Int) + 1))), (3, .int (zI z2)), (0, .ref (B + c)), (1, .int (zI land)), (2, .int (zI what))]) 4 K hnL rfl (by decide) rfl dX12_sum_44 ?_
            refine x_goto (pc := 47) (tgt := 5) K dX12_sum_47 (by decide) ?_
            refine x_sub (L' := [(0, .ref (B + c)), (1, .int (zI land)), (2, .int (zI what)), (3, .int (zI z2)), (4, .int (zI ((k : Int) + 1)))]) [2, 3, 4, 1, 0] rfl ?_
            exact ih5 z2 (k + 1) (by omega) (by unfold sumA; rw [← hi5_1]; split <;> (try split) <;> omega) (by omega)
        · skip
          refine x_iconst (pc := 23) K dX12_sum_23 ?_
          refine x_goto (pc := 24) (tgt := 42) K dX12_sum_24 (by decide) ?_
          refine x_iadd (pc := 42) K dX12_sum_42 ?_
          refine x_nm (fun z3 hz3 => ?_)
          refine x_istore_n (pc := 43) K (L' := [(3, .int (zI z3)), (0, .ref (B + c)), (1, .int (zI land)), (2, .int (zI what)), (4, .int (zI (k : Int)))]) hnL rfl (by decide) rfl dX12_sum_43 ?_
          refine x_iinc (pc := 44) (L' := [(4, .int (zI ((k : Int) + 1))), (3, .int (zI z3)), (0, .ref (B + c)), (1, .int (zI land)), (2, .int (zI what))]) 4 K hnL rfl (by decide) rfl dX12_sum_44 ?_
          refine x_goto (pc := 47) (tgt := 5) K dX12_sum_47 (by decide) ?_
          refine x_sub (L' := [(0, .ref (B + c)), (1, .int (zI land)), (2, .int (zI what)), (3, .int (zI z3)), (4, .int (zI ((k : Int) + 1)))]) [2, 3, 4, 1, 0] rfl ?_
          exact ih5 z3 (k + 1) (by omega) (by unfold sumA; rw [← hi5_1]; split <;> (try split) <;> omega) (by omega)
  refine x_sub (L' := [(0, .ref (B + c)), (1, .int (zI land)), (2, .int (zI what)), (3, .int (zI 0)), (4, .int (zI 0))]) [2, 3, 4, 1, 0] rfl ?_
  exact LOOP5 (_) 0 0 (by omega) (by rfl) (Nat.lt_succ_self _)

set_option maxRecDepth 100000 in
set_option maxHeartbeats 4000000 in
theorem c_X12_lead {E : XE} {B N : Nat} {v : Nat → va_E} {c : Nat} {land : Int} {f p : Nat → Int} {l : Cor} (hc0 : Cel N v c (iarr E 138 f)) (hq0 : PR f p l) (hq1 : POk p) (hq2 : CorOk l) (hq3 : l.length ≤ 8) (hq4 : 0 ≤ land ∧ land ≤ 1) : gM yX12_lead wsX12_lead ({ frames := 2, cells := 0, slots := 0, locals := 53 }) E B N v [.ref (B + c), .int (zI land)] (po0 N (fun ρ v' => ρ = some (.int (zI (leadA p l land))) ∧ v = v')) := by
  refine x_met (nm := "lead") (by decide +kernel) rfl (Nat.le_of_ble_eq_true rfl) rfl (fun Γ K KR hnL hnm => ?_)
  show XW Γ N v [(0, .ref (B + c)), (1, .int (zI land))] 0 0 0 []
  refine x_aload_n (pc := 0) 0 K rfl rfl dX12_lead_0 ?_
  refine x_iload_n (pc := 1) 1 K rfl rfl dX12_lead_1 ?_
  refine x_iconst (pc := 2) K dX12_lead_2 ?_
  refine x_callS (pc := 3) (As := [.ref (B + c), .int (zI land), .int (zI 1)]) K (c_X12_sum (E := E) (B := B) (N := N)   hc0 hq0 hq1 hq2 hq3 (by omega) (by omega)) gX12_lead_X12_sum rfl (na := 3) (by decide +kernel) rfl ⟨(Nat.le_of_ble_eq_true rfl), (Nat.le_of_ble_eq_true rfl)⟩ (st := []) rfl (Nat.le_of_ble_eq_true rfl) ⟨(Nat.le_of_ble_eq_true rfl), (Nat.le_of_ble_eq_true rfl)⟩ dX12_lead_3 (fun r3 N3 w3 hpo3 hN3 => ?_)
  obtain ⟨rfl, rfl, rfl⟩ := hpo3
  refine x_st (st' := [.int (zI (sumA p l land 1 48))]) rfl ?_
  refine x_aload_n (pc := 6) 0 K rfl rfl dX12_lead_6 ?_
  refine x_iconst (pc := 7) K dX12_lead_7 ?_
  refine x_iload_n (pc := 8) 1 K rfl rfl dX12_lead_8 ?_
  refine x_isub (pc := 9) K dX12_lead_9 ?_
  refine x_iconst (pc := 10) K dX12_lead_10 ?_
  refine x_callS (pc := 11) (As := [.ref (B + c), .int (zI (1 - land)), .int (zI 1)]) K (c_X12_sum (E := E) (B := B) (N := N)   hc0 hq0 hq1 hq2 hq3 (by omega) (by omega)) gX12_lead_X12_sum rfl (na := 3) (by decide +kernel) rfl ⟨(Nat.le_of_ble_eq_true rfl), (Nat.le_of_ble_eq_true rfl)⟩ (st := [.int (zI (sumA p l land 1 48))]) rfl (Nat.le_of_ble_eq_true rfl) ⟨(Nat.le_of_ble_eq_true rfl), (Nat.le_of_ble_eq_true rfl)⟩ dX12_lead_11 (fun r11 N11 w11 hpo11 hN11 => ?_)
  obtain ⟨rfl, rfl, rfl⟩ := hpo11
  refine x_st (st' := [.int (zI (sumA p l (1 - land) 1 48)), .int (zI (sumA p l land 1 48))]) rfl ?_
  refine x_isub (pc := 14) K dX12_lead_14 ?_
  refine x_iret (pc := 15) K KR (by omega) (Nat.le_of_ble_eq_true rfl) (Nat.le_of_ble_eq_true rfl) dX12_lead_15 ?_
  exact ⟨rfl, rfl, rfl⟩

set_option maxRecDepth 100000 in
set_option maxHeartbeats 4000000 in
theorem c_X12_mayCross {E : XE} {B N : Nat} {v : Nat → va_E} {c who cell : Nat} {f p : Nat → Int} {l : Cor} {who_i : Int} {cell_i : Int} (ha_who : who_i = (who : Int)) (ha_cell : cell_i = (cell : Int)) (hc0 : Cel N v c (iarr E 138 f)) (hq0 : PR f p l) (hq1 : POk p) (hq2 : CorOk l) (hq3 : l.length ≤ 8) (hq4 : who < 5) (hq5 : cell ≤ 47) : gM yX12_mayCross wsX12_mayCross ({ frames := 1, cells := 0, slots := 0, locals := 29 }) E B N v [.ref (B + c), .int (zI who_i), .int (zI cell_i)] (po0 N (fun ρ v' => ρ = some (.int (zI (mayI p l who cell))) ∧ v = v')) := by
  subst ha_who
  subst ha_cell
  refine x_met (nm := "mayCross") (by decide +kernel) rfl (Nat.le_of_ble_eq_true rfl) rfl (fun Γ K KR hnL hnm => ?_)
  show XW Γ N v [(0, .ref (B + c)), (1, .int (zI (who : Int))), (2, .int (zI (cell : Int)))] 0 0 0 []
  have hw := (hq1.2.2.2.2.2.1 who hq4)
  have hg := (hq1.2.2.2.2.2.2 cell (by omega)).1
  refine x_aload_n (pc := 0) 0 K rfl rfl dX12_mayCross_0 ?_
  refine x_bipush (pc := 1) K (by decide) dX12_mayCross_1 ?_
  refine x_iload_n (pc := 3) 1 K rfl rfl dX12_mayCross_3 ?_
  refine x_iadd (pc := 4) K dX12_mayCross_4 ?_
  refine x_iald (pc := 5) (15 + who) K hc0 (by omega) (by omega) (by decide) dX12_mayCross_5 ?_
  have e5 := hq0.1 (15 + who) (by omega)
  refine x_nm (fun z1 hz1 => ?_)
  refine x_istore_n (pc := 6) K (L' := [(3, .int (zI z1)), (0, .ref (B + c)), (1, .int (zI (who : Int))), (2, .int (zI (cell : Int)))]) hnL rfl (by decide) rfl dX12_mayCross_6 ?_
  refine x_aload_n (pc := 7) 1 K rfl rfl dX12_mayCross_7 ?_
  refine x_iconst (pc := 8) K dX12_mayCross_8 ?_
  refine x_iload_n (pc := 9) 2 K rfl rfl dX12_mayCross_9 ?_
  refine x_iadd (pc := 10) K dX12_mayCross_10 ?_
  refine x_iald (pc := 11) (5 + who) K hc0 (by omega) (by omega) (by decide) dX12_mayCross_11 ?_
  have e11 := hq0.1 (5 + who) (by omega)
  refine x_iconst (pc := 12) K dX12_mayCross_12 ?_
  refine x_icmp_ne (pc := 13) (tgt := 27) K (by omega) (by decide) dX12_mayCross_13 (by decide) (fun h_13 => ?_) (fun h_13 => ?_)
  · skip
    refine x_aload_n (pc := 27) 1 K rfl rfl dX12_mayCross_27 ?_
    refine x_bipush (pc := 28) K (by decide) dX12_mayCross_28 ?_
    refine x_iload_n (pc := 30) 2 K rfl rfl dX12_mayCross_30 ?_
    refine x_iadd (pc := 31) K dX12_mayCross_31 ?_
    refine x_iald (pc := 32) (20 + who) K hc0 (by omega) (by omega) (by decide) dX12_mayCross_32 ?_
    have e32 := hq0.1 (20 + who) (by omega)
    refine x_nm (fun z2 hz2 => ?_)
    refine x_istore (pc := 33) K (L' := [(4, .int (zI z2)), (3, .int (zI z1)), (0, .ref (B + c)), (1, .int (zI (who : Int))), (2, .int (zI (cell : Int)))]) hnL (by decide) rfl dX12_mayCross_33 ?_
    refine x_iload_n (pc := 35) 1 K rfl rfl dX12_mayCross_35 ?_
    refine x_bipush (pc := 36) K (by decide) dX12_mayCross_36 ?_
    refine x_irem (pc := 38) K (by omega) (by omega) dX12_mayCross_38 ?_
    refine x_iload_n (pc := 39) 4 K rfl rfl dX12_mayCross_39 ?_
    refine x_bipush (pc := 40) K (by decide) dX12_mayCross_40 ?_
    refine x_irem (pc := 42) K (by omega) (by omega) dX12_mayCross_42 ?_
    refine x_isub (pc := 43) K dX12_mayCross_43 ?_
    refine x_callS (pc := 44) (As := [.int (zI ((z1 % 8) - ((cell : Int) % 8)))]) K (c_X12_size (E := E) (B := B) (N := N)    (by omega)) gX12_mayCross_X12_size rfl (na := 1) (by decide +kernel) rfl ⟨(Nat.le_of_ble_eq_true rfl), (Nat.le_of_ble_eq_true rfl)⟩ (st := []) rfl (Nat.le_of_ble_eq_true rfl) ⟨(Nat.le_of_ble_eq_true rfl), (Nat.le_of_ble_eq_true rfl)⟩ dX12_mayCross_44 (fun r44 N44 w44 hpo44 hN44 => ?_)
    obtain ⟨rfl, rfl, rfl⟩ := hpo44
    refine x_st (st' := [.int (zI (((z1 % 8) - ((cell : Int) % 8)).natAbs : Int))]) rfl ?_
    refine x_iload_n (pc := 47) 1 K rfl rfl dX12_mayCross_47 ?_
    refine x_bipush (pc := 48) K (by decide) dX12_mayCross_48 ?_
    refine x_idiv (pc := 50) K (by omega) (by omega) dX12_mayCross_50 ?_
    refine x_iload_n (pc := 51) 4 K rfl rfl dX12_mayCross_51 ?_
    refine x_bipush (pc := 52) K (by decide) dX12_mayCross_52 ?_
    refine x_idiv (pc := 54) K (by omega) (by omega) dX12_mayCross_54 ?_
    refine x_isub (pc := 55) K dX12_mayCross_55 ?_
    refine x_callS (pc := 56) (As := [.int (zI ((z1 / 8) - ((cell : Int) / 8)))]) K (c_X12_size (E := E) (B := B) (N := N)    (by omega)) gX12_mayCross_X12_size rfl (na := 1) (by decide +kernel) rfl ⟨(Nat.le_of_ble_eq_true rfl), (Nat.le_of_ble_eq_true rfl)⟩ (st := [.int (zI (((z1 % 8) - ((cell : Int) % 8)).natAbs : Int))]) rfl (Nat.le_of_ble_eq_true rfl) ⟨(Nat.le_of_ble_eq_true rfl), (Nat.le_of_ble_eq_true rfl)⟩ dX12_mayCross_56 (fun r56 N56 w56 hpo56 hN56 => ?_)
    obtain ⟨rfl, rfl, rfl⟩ := hpo56
    refine x_st (st' := [.int (zI (((z1 / 8) - ((cell : Int) / 8)).natAbs : Int)), .int (zI (((z1 % 8) - ((cell : Int) % 8)).natAbs : Int))]) rfl ?_
    refine x_iadd (pc := 59) K dX12_mayCross_59 ?_
    refine x_iload (pc := 60) 0 K rfl dX12_mayCross_60 ?_
    refine x_icmp_gt (pc := 62) (tgt := 69) K (by omega) (by omega) dX12_mayCross_62 (by decide) (fun h_62 => ?_) (fun h_62 => ?_)
    · skip
      refine x_iconst (pc := 69) K dX12_mayCross_69 ?_
      refine x_istore (pc := 70) K (L' := [(5, .int (zI 0)), (4, .int (zI z2)), (3, .int (zI z1)), (0, .ref (B + c)), (1, .int (zI (who : Int))), (2, .int (zI (cell : Int)))]) hnL (by decide) rfl dX12_mayCross_70 ?_
      refine x_iload (pc := 72) 0 K rfl dX12_mayCross_72 ?_
      refine x_if_eq (pc := 74) (tgt := 104) K (by decide) dX12_mayCross_74 (by decide) (fun h_74 => ?_) (fun h_74 => ?_)
      · skip
        refine x_iconst (pc := 104) K dX12_mayCross_104 ?_
        refine x_zret (pc := 105) K KR (by omega) (Nat.le_of_ble_eq_true rfl) (Nat.le_of_ble_eq_true rfl) rfl dX12_mayCross_105 ?_
        have hnear : nearA p who cell ↔ 0 = 1 := by unfold nearA; split <;> omega
        exact ⟨rfl, ri ((mayI_0 (fun q => by have q1 := hnear.mp q.1.1; have q2 := q.1.2; have q3 := q.2; omega)).symm), rfl⟩
      · skip
        refine x_aload_n (pc := 77) 3 K rfl rfl dX12_mayCross_77 ?_
        refine x_bipush (pc := 78) K (by decide) dX12_mayCross_78 ?_
        refine x_iload_n (pc := 80) 5 K rfl rfl dX12_mayCross_80 ?_
        refine x_iadd (pc := 81) K dX12_mayCross_81 ?_
        refine x_iald (pc := 82) (25 + cell) K hc0 (by omega) (by omega) (by decide) dX12_mayCross_82 ?_
        have e82 := hq0.1 (25 + cell) (by omega)
        refine x_if_ne (pc := 83) (tgt := 104) K (by omega) dX12_mayCross_83 (by decide) (fun h_83 => ?_) (fun h_83 => ?_)
        · skip
          refine x_iconst (pc := 104) K dX12_mayCross_104 ?_
          refine x_zret (pc := 105) K KR (by omega) (Nat.le_of_ble_eq_true rfl) (Nat.le_of_ble_eq_true rfl) rfl dX12_mayCross_105 ?_
          have hnear : nearA p who cell ↔ 0 = 1 := by unfold nearA; split <;> omega
          exact ⟨rfl, ri ((mayI_0 (fun q => by have q1 := hnear.mp q.1.1; have q2 := q.1.2; have q3 := q.2; omega)).symm), rfl⟩
        · skip
          refine x_aload_n (pc := 86) 3 K rfl rfl dX12_mayCross_86 ?_
          refine x_iload_n (pc := 87) 5 K rfl rfl dX12_mayCross_87 ?_
          refine x_callS (pc := 88) (As := [.ref (B + c), .int (zI (cell : Int))]) K (c_X12_whose (E := E) (B := B) (N := N) (cell := cell) rfl hc0 hq0 hq1 hq2 hq3 (by omega)) gX12_mayCross_X12_whose rfl (na := 2) (by decide +kernel) rfl ⟨(Nat.le_of_ble_eq_true rfl), (Nat.le_of_ble_eq_true rfl)⟩ (st := []) rfl (Nat.le_of_ble_eq_true rfl) ⟨(Nat.le_of_ble_eq_true rfl), (Nat.le_of_ble_eq_true rfl)⟩ dX12_mayCross_88 (fun r88 N88 w88 hpo88 hN88 => ?_)
          obtain ⟨rfl, rfl, rfl⟩ := hpo88
          refine x_st (st' := [.int (zI (whoseA (p 0) (p 1) l cell))]) rfl ?_
          have hrg88 := whoseA_rng (p 0) (p 1) l cell
          refine x_aload_n (pc := 91) 3 K rfl rfl dX12_mayCross_91 ?_
          refine x_bipush (pc := 92) K (by decide) dX12_mayCross_92 ?_
          refine x_iload_n (pc := 94) 4 K rfl rfl dX12_mayCross_94 ?_
          refine x_iadd (pc := 95) K dX12_mayCross_95 ?_
          refine x_iald (pc := 96) (10 + who) K hc0 (by omega) (by omega) (by decide) dX12_mayCross_96 ?_
          have e96 := hq0.1 (10 + who) (by omega)
          refine x_icmp_eq (pc := 97) (tgt := 104) K (by omega) (by omega) dX12_mayCross_97 (by decide) (fun h_97 => ?_) (fun h_97 => ?_)
          · skip
            refine x_iconst (pc := 104) K dX12_mayCross_104 ?_
            refine x_zret (pc := 105) K KR (by omega) (Nat.le_of_ble_eq_true rfl) (Nat.le_of_ble_eq_true rfl) rfl dX12_mayCross_105 ?_
            have hnear : nearA p who cell ↔ 0 = 1 := by unfold nearA; split <;> omega
            exact ⟨rfl, ri ((mayI_0 (fun q => by have q1 := hnear.mp q.1.1; have q2 := q.1.2; have q3 := q.2; omega)).symm), rfl⟩
          · skip
            refine x_iconst (pc := 100) K dX12_mayCross_100 ?_
            refine x_goto (pc := 101) (tgt := 105) K dX12_mayCross_101 (by decide) ?_
            refine x_zret (pc := 105) K KR (by omega) (Nat.le_of_ble_eq_true rfl) (Nat.le_of_ble_eq_true rfl) rfl dX12_mayCross_105 ?_
            have hnear : nearA p who cell ↔ 0 = 1 := by unfold nearA; split <;> omega
            exact ⟨rfl, ri ((mayI_1 ⟨⟨hnear.mpr (by omega), by omega⟩, by omega⟩).symm), rfl⟩
    · skip
      refine x_iconst (pc := 65) K dX12_mayCross_65 ?_
      refine x_goto (pc := 66) (tgt := 70) K dX12_mayCross_66 (by decide) ?_
      refine x_istore (pc := 70) K (L' := [(5, .int (zI 1)), (4, .int (zI z2)), (3, .int (zI z1)), (0, .ref (B + c)), (1, .int (zI (who : Int))), (2, .int (zI (cell : Int)))]) hnL (by decide) rfl dX12_mayCross_70 ?_
      refine x_iload (pc := 72) 0 K rfl dX12_mayCross_72 ?_
      refine x_if_eq (pc := 74) (tgt := 104) K (by decide) dX12_mayCross_74 (by decide) (fun h_74 => ?_) (fun h_74 => ?_)
      · skip
        refine x_iconst (pc := 104) K dX12_mayCross_104 ?_
        refine x_zret (pc := 105) K KR (by omega) (Nat.le_of_ble_eq_true rfl) (Nat.le_of_ble_eq_true rfl) rfl dX12_mayCross_105 ?_
        have hnear : nearA p who cell ↔ 1 = 1 := by unfold nearA; split <;> omega
        exact ⟨rfl, ri ((mayI_0 (fun q => by have q1 := hnear.mp q.1.1; have q2 := q.1.2; have q3 := q.2; omega)).symm), rfl⟩
      · skip
        refine x_aload_n (pc := 77) 3 K rfl rfl dX12_mayCross_77 ?_
        refine x_bipush (pc := 78) K (by decide) dX12_mayCross_78 ?_
        refine x_iload_n (pc := 80) 5 K rfl rfl dX12_mayCross_80 ?_
        refine x_iadd (pc := 81) K dX12_mayCross_81 ?_
        refine x_iald (pc := 82) (25 + cell) K hc0 (by omega) (by omega) (by decide) dX12_mayCross_82 ?_
        have e82 := hq0.1 (25 + cell) (by omega)
        refine x_if_ne (pc := 83) (tgt := 104) K (by omega) dX12_mayCross_83 (by decide) (fun h_83 => ?_) (fun h_83 => ?_)
        · skip
          refine x_iconst (pc := 104) K dX12_mayCross_104 ?_
          refine x_zret (pc := 105) K KR (by omega) (Nat.le_of_ble_eq_true rfl) (Nat.le_of_ble_eq_true rfl) rfl dX12_mayCross_105 ?_
          have hnear : nearA p who cell ↔ 1 = 1 := by unfold nearA; split <;> omega
          exact ⟨rfl, ri ((mayI_0 (fun q => by have q1 := hnear.mp q.1.1; have q2 := q.1.2; have q3 := q.2; omega)).symm), rfl⟩
        · skip
          refine x_aload_n (pc := 86) 3 K rfl rfl dX12_mayCross_86 ?_
          refine x_iload_n (pc := 87) 5 K rfl rfl dX12_mayCross_87 ?_
          refine x_callS (pc := 88) (As := [.ref (B + c), .int (zI (cell : Int))]) K (c_X12_whose (E := E) (B := B) (N := N) (cell := cell) rfl hc0 hq0 hq1 hq2 hq3 (by omega)) gX12_mayCross_X12_whose rfl (na := 2) (by decide +kernel) rfl ⟨(Nat.le_of_ble_eq_true rfl), (Nat.le_of_ble_eq_true rfl)⟩ (st := []) rfl (Nat.le_of_ble_eq_true rfl) ⟨(Nat.le_of_ble_eq_true rfl), (Nat.le_of_ble_eq_true rfl)⟩ dX12_mayCross_88 (fun r88 N88 w88 hpo88 hN88 => ?_)
          obtain ⟨rfl, rfl, rfl⟩ := hpo88
          refine x_st (st' := [.int (zI (whoseA (p 0) (p 1) l cell))]) rfl ?_
          have hrg88 := whoseA_rng (p 0) (p 1) l cell
          refine x_aload_n (pc := 91) 3 K rfl rfl dX12_mayCross_91 ?_
          refine x_bipush (pc := 92) K (by decide) dX12_mayCross_92 ?_
          refine x_iload_n (pc := 94) 4 K rfl rfl dX12_mayCross_94 ?_
          refine x_iadd (pc := 95) K dX12_mayCross_95 ?_
          refine x_iald (pc := 96) (10 + who) K hc0 (by omega) (by omega) (by decide) dX12_mayCross_96 ?_
          have e96 := hq0.1 (10 + who) (by omega)
          refine x_icmp_eq (pc := 97) (tgt := 104) K (by omega) (by omega) dX12_mayCross_97 (by decide) (fun h_97 => ?_) (fun h_97 => ?_)
          · skip
            refine x_iconst (pc := 104) K dX12_mayCross_104 ?_
            refine x_zret (pc := 105) K KR (by omega) (Nat.le_of_ble_eq_true rfl) (Nat.le_of_ble_eq_true rfl) rfl dX12_mayCross_105 ?_
            have hnear : nearA p who cell ↔ 1 = 1 := by unfold nearA; split <;> omega
            exact ⟨rfl, ri ((mayI_0 (fun q => by have q1 := hnear.mp q.1.1; have q2 := q.1.2; have q3 := q.2; omega)).symm), rfl⟩
          · skip
            refine x_iconst (pc := 100) K dX12_mayCross_100 ?_
            refine x_goto (pc := 101) (tgt := 105) K dX12_mayCross_101 (by decide) ?_
            refine x_zret (pc := 105) K KR (by omega) (Nat.le_of_ble_eq_true rfl) (Nat.le_of_ble_eq_true rfl) rfl dX12_mayCross_105 ?_
            have hnear : nearA p who cell ↔ 1 = 1 := by unfold nearA; split <;> omega
            exact ⟨rfl, ri ((mayI_1 ⟨⟨hnear.mpr (by omega), by omega⟩, by omega⟩).symm), rfl⟩
  · skip
    refine x_iconst (pc := 16) K dX12_mayCross_16 ?_
    refine x_aload_n (pc := 17) 1 K rfl rfl dX12_mayCross_17 ?_
    refine x_bipush (pc := 18) K (by decide) dX12_mayCross_18 ?_
    refine x_iload_n (pc := 20) 2 K rfl rfl dX12_mayCross_20 ?_
    refine x_iadd (pc := 21) K dX12_mayCross_21 ?_
    refine x_iald (pc := 22) (20 + who) K hc0 (by omega) (by omega) (by decide) dX12_mayCross_22 ?_
    have e22 := hq0.1 (20 + who) (by omega)
    refine x_imul (pc := 23) K dX12_mayCross_23 ?_
    refine x_goto (pc := 24) (tgt := 33) K dX12_mayCross_24 (by decide) ?_
    refine x_nm (fun z3 hz3 => ?_)
    refine x_istore (pc := 33) K (L' := [(4, .int (zI z3)), (3, .int (zI z1)), (0, .ref (B + c)), (1, .int (zI (who : Int))), (2, .int (zI (cell : Int)))]) hnL (by decide) rfl dX12_mayCross_33 ?_
    refine x_iload_n (pc := 35) 1 K rfl rfl dX12_mayCross_35 ?_
    refine x_bipush (pc := 36) K (by decide) dX12_mayCross_36 ?_
    refine x_irem (pc := 38) K (by omega) (by omega) dX12_mayCross_38 ?_
    refine x_iload_n (pc := 39) 4 K rfl rfl dX12_mayCross_39 ?_
    refine x_bipush (pc := 40) K (by decide) dX12_mayCross_40 ?_
    refine x_irem (pc := 42) K (by omega) (by omega) dX12_mayCross_42 ?_
    refine x_isub (pc := 43) K dX12_mayCross_43 ?_
    refine x_callS (pc := 44) (As := [.int (zI ((z1 % 8) - ((cell : Int) % 8)))]) K (c_X12_size (E := E) (B := B) (N := N)    (by omega)) gX12_mayCross_X12_size rfl (na := 1) (by decide +kernel) rfl ⟨(Nat.le_of_ble_eq_true rfl), (Nat.le_of_ble_eq_true rfl)⟩ (st := []) rfl (Nat.le_of_ble_eq_true rfl) ⟨(Nat.le_of_ble_eq_true rfl), (Nat.le_of_ble_eq_true rfl)⟩ dX12_mayCross_44 (fun r44 N44 w44 hpo44 hN44 => ?_)
    obtain ⟨rfl, rfl, rfl⟩ := hpo44
    refine x_st (st' := [.int (zI (((z1 % 8) - ((cell : Int) % 8)).natAbs : Int))]) rfl ?_
    refine x_iload_n (pc := 47) 1 K rfl rfl dX12_mayCross_47 ?_
    refine x_bipush (pc := 48) K (by decide) dX12_mayCross_48 ?_
    refine x_idiv (pc := 50) K (by omega) (by omega) dX12_mayCross_50 ?_
    refine x_iload_n (pc := 51) 4 K rfl rfl dX12_mayCross_51 ?_
    refine x_bipush (pc := 52) K (by decide) dX12_mayCross_52 ?_
    refine x_idiv (pc := 54) K (by omega) (by omega) dX12_mayCross_54 ?_
    refine x_isub (pc := 55) K dX12_mayCross_55 ?_
    refine x_callS (pc := 56) (As := [.int (zI ((z1 / 8) - ((cell : Int) / 8)))]) K (c_X12_size (E := E) (B := B) (N := N)    (by omega)) gX12_mayCross_X12_size rfl (na := 1) (by decide +kernel) rfl ⟨(Nat.le_of_ble_eq_true rfl), (Nat.le_of_ble_eq_true rfl)⟩ (st := [.int (zI (((z1 % 8) - ((cell : Int) % 8)).natAbs : Int))]) rfl (Nat.le_of_ble_eq_true rfl) ⟨(Nat.le_of_ble_eq_true rfl), (Nat.le_of_ble_eq_true rfl)⟩ dX12_mayCross_56 (fun r56 N56 w56 hpo56 hN56 => ?_)
    obtain ⟨rfl, rfl, rfl⟩ := hpo56
    refine x_st (st' := [.int (zI (((z1 / 8) - ((cell : Int) / 8)).natAbs : Int)), .int (zI (((z1 % 8) - ((cell : Int) % 8)).natAbs : Int))]) rfl ?_
    refine x_iadd (pc := 59) K dX12_mayCross_59 ?_
    refine x_iload (pc := 60) 0 K rfl dX12_mayCross_60 ?_
    refine x_icmp_gt (pc := 62) (tgt := 69) K (by omega) (by omega) dX12_mayCross_62 (by decide) (fun h_62 => ?_) (fun h_62 => ?_)
    · skip
      refine x_iconst (pc := 69) K dX12_mayCross_69 ?_
      refine x_istore (pc := 70) K (L' := [(5, .int (zI 0)), (4, .int (zI z3)), (3, .int (zI z1)), (0, .ref (B + c)), (1, .int (zI (who : Int))), (2, .int (zI (cell : Int)))]) hnL (by decide) rfl dX12_mayCross_70 ?_
      refine x_iload (pc := 72) 0 K rfl dX12_mayCross_72 ?_
      refine x_if_eq (pc := 74) (tgt := 104) K (by decide) dX12_mayCross_74 (by decide) (fun h_74 => ?_) (fun h_74 => ?_)
      · skip
        refine x_iconst (pc := 104) K dX12_mayCross_104 ?_
        refine x_zret (pc := 105) K KR (by omega) (Nat.le_of_ble_eq_true rfl) (Nat.le_of_ble_eq_true rfl) rfl dX12_mayCross_105 ?_
        have hnear : nearA p who cell ↔ 0 = 1 := by unfold nearA; split <;> omega
        exact ⟨rfl, ri ((mayI_0 (fun q => by have q1 := hnear.mp q.1.1; have q2 := q.1.2; have q3 := q.2; omega)).symm), rfl⟩
      · skip
        refine x_aload_n (pc := 77) 3 K rfl rfl dX12_mayCross_77 ?_
        refine x_bipush (pc := 78) K (by decide) dX12_mayCross_78 ?_
        refine x_iload_n (pc := 80) 5 K rfl rfl dX12_mayCross_80 ?_
        refine x_iadd (pc := 81) K dX12_mayCross_81 ?_
        refine x_iald (pc := 82) (25 + cell) K hc0 (by omega) (by omega) (by decide) dX12_mayCross_82 ?_
        have e82 := hq0.1 (25 + cell) (by omega)
        refine x_if_ne (pc := 83) (tgt := 104) K (by omega) dX12_mayCross_83 (by decide) (fun h_83 => ?_) (fun h_83 => ?_)
        · skip
          refine x_iconst (pc := 104) K dX12_mayCross_104 ?_
          refine x_zret (pc := 105) K KR (by omega) (Nat.le_of_ble_eq_true rfl) (Nat.le_of_ble_eq_true rfl) rfl dX12_mayCross_105 ?_
          have hnear : nearA p who cell ↔ 0 = 1 := by unfold nearA; split <;> omega
          exact ⟨rfl, ri ((mayI_0 (fun q => by have q1 := hnear.mp q.1.1; have q2 := q.1.2; have q3 := q.2; omega)).symm), rfl⟩
        · skip
          refine x_aload_n (pc := 86) 3 K rfl rfl dX12_mayCross_86 ?_
          refine x_iload_n (pc := 87) 5 K rfl rfl dX12_mayCross_87 ?_
          refine x_callS (pc := 88) (As := [.ref (B + c), .int (zI (cell : Int))]) K (c_X12_whose (E := E) (B := B) (N := N) (cell := cell) rfl hc0 hq0 hq1 hq2 hq3 (by omega)) gX12_mayCross_X12_whose rfl (na := 2) (by decide +kernel) rfl ⟨(Nat.le_of_ble_eq_true rfl), (Nat.le_of_ble_eq_true rfl)⟩ (st := []) rfl (Nat.le_of_ble_eq_true rfl) ⟨(Nat.le_of_ble_eq_true rfl), (Nat.le_of_ble_eq_true rfl)⟩ dX12_mayCross_88 (fun r88 N88 w88 hpo88 hN88 => ?_)
          obtain ⟨rfl, rfl, rfl⟩ := hpo88
          refine x_st (st' := [.int (zI (whoseA (p 0) (p 1) l cell))]) rfl ?_
          have hrg88 := whoseA_rng (p 0) (p 1) l cell
          refine x_aload_n (pc := 91) 3 K rfl rfl dX12_mayCross_91 ?_
          refine x_bipush (pc := 92) K (by decide) dX12_mayCross_92 ?_
          refine x_iload_n (pc := 94) 4 K rfl rfl dX12_mayCross_94 ?_
          refine x_iadd (pc := 95) K dX12_mayCross_95 ?_
          refine x_iald (pc := 96) (10 + who) K hc0 (by omega) (by omega) (by decide) dX12_mayCross_96 ?_
          have e96 := hq0.1 (10 + who) (by omega)
          refine x_icmp_eq (pc := 97) (tgt := 104) K (by omega) (by omega) dX12_mayCross_97 (by decide) (fun h_97 => ?_) (fun h_97 => ?_)
          · skip
            refine x_iconst (pc := 104) K dX12_mayCross_104 ?_
            refine x_zret (pc := 105) K KR (by omega) (Nat.le_of_ble_eq_true rfl) (Nat.le_of_ble_eq_true rfl) rfl dX12_mayCross_105 ?_
            have hnear : nearA p who cell ↔ 0 = 1 := by unfold nearA; split <;> omega
            exact ⟨rfl, ri ((mayI_0 (fun q => by have q1 := hnear.mp q.1.1; have q2 := q.1.2; have q3 := q.2; omega)).symm), rfl⟩
          · skip
            refine x_iconst (pc := 100) K dX12_mayCross_100 ?_
            refine x_goto (pc := 101) (tgt := 105) K dX12_mayCross_101 (by decide) ?_
            refine x_zret (pc := 105) K KR (by omega) (Nat.le_of_ble_eq_true rfl) (Nat.le_of_ble_eq_true rfl) rfl dX12_mayCross_105 ?_
            have hnear : nearA p who cell ↔ 0 = 1 := by unfold nearA; split <;> omega
            exact ⟨rfl, ri ((mayI_1 ⟨⟨hnear.mpr (by omega), by omega⟩, by omega⟩).symm), rfl⟩
    · skip
      refine x_iconst (pc := 65) K dX12_mayCross_65 ?_
      refine x_goto (pc := 66) (tgt := 70) K dX12_mayCross_66 (by decide) ?_
      refine x_istore (pc := 70) K (L' := [(5, .int (zI 1)), (4, .int (zI z3)), (3, .int (zI z1)), (0, .ref (B + c)), (1, .int (zI (who : Int))), (2, .int (zI (cell : Int)))]) hnL (by decide) rfl dX12_mayCross_70 ?_
      refine x_iload (pc := 72) 0 K rfl dX12_mayCross_72 ?_
      refine x_if_eq (pc := 74) (tgt := 104) K (by decide) dX12_mayCross_74 (by decide) (fun h_74 => ?_) (fun h_74 => ?_)
      · skip
        refine x_iconst (pc := 104) K dX12_mayCross_104 ?_
        refine x_zret (pc := 105) K KR (by omega) (Nat.le_of_ble_eq_true rfl) (Nat.le_of_ble_eq_true rfl) rfl dX12_mayCross_105 ?_
        have hnear : nearA p who cell ↔ 1 = 1 := by unfold nearA; split <;> omega
        exact ⟨rfl, ri ((mayI_0 (fun q => by have q1 := hnear.mp q.1.1; have q2 := q.1.2; have q3 := q.2; omega)).symm), rfl⟩
      · skip
        refine x_aload_n (pc := 77) 3 K rfl rfl dX12_mayCross_77 ?_
        refine x_bipush (pc := 78) K (by decide) dX12_mayCross_78 ?_
        refine x_iload_n (pc := 80) 5 K rfl rfl dX12_mayCross_80 ?_
        refine x_iadd (pc := 81) K dX12_mayCross_81 ?_
        refine x_iald (pc := 82) (25 + cell) K hc0 (by omega) (by omega) (by decide) dX12_mayCross_82 ?_
        have e82 := hq0.1 (25 + cell) (by omega)
        refine x_if_ne (pc := 83) (tgt := 104) K (by omega) dX12_mayCross_83 (by decide) (fun h_83 => ?_) (fun h_83 => ?_)
        · skip
          refine x_iconst (pc := 104) K dX12_mayCross_104 ?_
          refine x_zret (pc := 105) K KR (by omega) (Nat.le_of_ble_eq_true rfl) (Nat.le_of_ble_eq_true rfl) rfl dX12_mayCross_105 ?_
          have hnear : nearA p who cell ↔ 1 = 1 := by unfold nearA; split <;> omega
          exact ⟨rfl, ri ((mayI_0 (fun q => by have q1 := hnear.mp q.1.1; have q2 := q.1.2; have q3 := q.2; omega)).symm), rfl⟩
        · skip
          refine x_aload_n (pc := 86) 3 K rfl rfl dX12_mayCross_86 ?_
          refine x_iload_n (pc := 87) 5 K rfl rfl dX12_mayCross_87 ?_
          refine x_callS (pc := 88) (As := [.ref (B + c), .int (zI (cell : Int))]) K (c_X12_whose (E := E) (B := B) (N := N) (cell := cell) rfl hc0 hq0 hq1 hq2 hq3 (by omega)) gX12_mayCross_X12_whose rfl (na := 2) (by decide +kernel) rfl ⟨(Nat.le_of_ble_eq_true rfl), (Nat.le_of_ble_eq_true rfl)⟩ (st := []) rfl (Nat.le_of_ble_eq_true rfl) ⟨(Nat.le_of_ble_eq_true rfl), (Nat.le_of_ble_eq_true rfl)⟩ dX12_mayCross_88 (fun r88 N88 w88 hpo88 hN88 => ?_)
          obtain ⟨rfl, rfl, rfl⟩ := hpo88
          refine x_st (st' := [.int (zI (whoseA (p 0) (p 1) l cell))]) rfl ?_
          have hrg88 := whoseA_rng (p 0) (p 1) l cell
          refine x_aload_n (pc := 91) 3 K rfl rfl dX12_mayCross_91 ?_
          refine x_bipush (pc := 92) K (by decide) dX12_mayCross_92 ?_
          refine x_iload_n (pc := 94) 4 K rfl rfl dX12_mayCross_94 ?_
          refine x_iadd (pc := 95) K dX12_mayCross_95 ?_
          refine x_iald (pc := 96) (10 + who) K hc0 (by omega) (by omega) (by decide) dX12_mayCross_96 ?_
          have e96 := hq0.1 (10 + who) (by omega)
          refine x_icmp_eq (pc := 97) (tgt := 104) K (by omega) (by omega) dX12_mayCross_97 (by decide) (fun h_97 => ?_) (fun h_97 => ?_)
          · skip
            refine x_iconst (pc := 104) K dX12_mayCross_104 ?_
            refine x_zret (pc := 105) K KR (by omega) (Nat.le_of_ble_eq_true rfl) (Nat.le_of_ble_eq_true rfl) rfl dX12_mayCross_105 ?_
            have hnear : nearA p who cell ↔ 1 = 1 := by unfold nearA; split <;> omega
            exact ⟨rfl, ri ((mayI_0 (fun q => by have q1 := hnear.mp q.1.1; have q2 := q.1.2; have q3 := q.2; omega)).symm), rfl⟩
          · skip
            refine x_iconst (pc := 100) K dX12_mayCross_100 ?_
            refine x_goto (pc := 101) (tgt := 105) K dX12_mayCross_101 (by decide) ?_
            refine x_zret (pc := 105) K KR (by omega) (Nat.le_of_ble_eq_true rfl) (Nat.le_of_ble_eq_true rfl) rfl dX12_mayCross_105 ?_
            have hnear : nearA p who cell ↔ 1 = 1 := by unfold nearA; split <;> omega
            exact ⟨rfl, ri ((mayI_1 ⟨⟨hnear.mpr (by omega), by omega⟩, by omega⟩).symm), rfl⟩
