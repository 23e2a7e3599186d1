theorem dX12_count_0 : decode cX12_count 0 = .ok (.iconst 0, 1) := by decide +kernel
theorem dX12_count_1 : decode cX12_count 1 = .ok (.istore_n 2, 1) := by decide +kernel
theorem dX12_count_2 : decode cX12_count 2 = .ok (.iconst 0, 1) := by decide +kernel
theorem dX12_count_3 : decode cX12_count 3 = .ok (.istore_n 3, 1) := by decide +kernel
theorem dX12_count_4 : decode cX12_count 4 = .ok (.iconst 0, 1) := by decide +kernel
theorem dX12_count_5 : decode cX12_count 5 = .ok (.istore 4, 2) := by decide +kernel
theorem dX12_count_7 : decode cX12_count 7 = .ok (.iload 4, 2) := by decide +kernel
theorem dX12_count_9 : decode cX12_count 9 = .ok (.bipush 8, 2) := by decide +kernel
theorem dX12_count_11 : decode cX12_count 11 = .ok (.if_icmp .ge 27, 3) := by decide +kernel
theorem dX12_count_38 : decode cX12_count 38 = .ok (.iconst 0, 1) := by decide +kernel
theorem dX12_count_39 : decode cX12_count 39 = .ok (.istore 4, 2) := by decide +kernel
theorem dX12_count_41 : decode cX12_count 41 = .ok (.iload 4, 2) := by decide +kernel
theorem dX12_count_43 : decode cX12_count 43 = .ok (.bipush 48, 2) := by decide +kernel
theorem dX12_count_45 : decode cX12_count 45 = .ok (.if_icmp .ge 22, 3) := by decide +kernel
theorem dX12_count_67 : decode cX12_count 67 = .ok (.iload_n 1, 1) := by decide +kernel
theorem dX12_count_68 : decode cX12_count 68 = .ok (.tableswitch 80 0 6 #[44, 46, 53, 61, 68, 73, 75], 44) := by decide +kernel
theorem dX12_count_112 : decode cX12_count 112 = .ok (.iload_n 2, 1) := by decide +kernel
theorem dX12_count_113 : decode cX12_count 113 = .ok (.ireturn, 1) := by decide +kernel
theorem dX12_count_114 : decode cX12_count 114 = .ok (.aload_n 0, 1) := by decide +kernel
theorem dX12_count_115 : decode cX12_count 115 = .ok (.getfield 22, 3) := by decide +kernel
theorem dX12_count_118 : decode cX12_count 118 = .ok (.iconst 4, 1) := by decide +kernel
theorem dX12_count_119 : decode cX12_count 119 = .ok (.iaload, 1) := by decide +kernel
theorem dX12_count_120 : decode cX12_count 120 = .ok (.ireturn, 1) := by decide +kernel
theorem dX12_count_121 : decode cX12_count 121 = .ok (.aload_n 0, 1) := by decide +kernel
theorem dX12_count_122 : decode cX12_count 122 = .ok (.getfield 22, 3) := by decide +kernel
theorem dX12_count_125 : decode cX12_count 125 = .ok (.bipush 121, 2) := by decide +kernel
theorem dX12_count_127 : decode cX12_count 127 = .ok (.iaload, 1) := by decide +kernel
theorem dX12_count_128 : decode cX12_count 128 = .ok (.ireturn, 1) := by decide +kernel
theorem dX12_count_129 : decode cX12_count 129 = .ok (.aload_n 0, 1) := by decide +kernel
theorem dX12_count_130 : decode cX12_count 130 = .ok (.getfield 22, 3) := by decide +kernel
theorem dX12_count_133 : decode cX12_count 133 = .ok (.iconst 3, 1) := by decide +kernel
theorem dX12_count_134 : decode cX12_count 134 = .ok (.iaload, 1) := by decide +kernel
theorem dX12_count_135 : decode cX12_count 135 = .ok (.ireturn, 1) := by decide +kernel
theorem dX12_count_136 : decode cX12_count 136 = .ok (.aload_n 0, 1) := by decide +kernel
theorem dX12_count_137 : decode cX12_count 137 = .ok (.getfield 190, 3) := by decide +kernel
theorem dX12_count_140 : decode cX12_count 140 = .ok (.ireturn, 1) := by decide +kernel
theorem dX12_count_141 : decode cX12_count 141 = .ok (.iload_n 3, 1) := by decide +kernel
theorem dX12_count_142 : decode cX12_count 142 = .ok (.ireturn, 1) := by decide +kernel
theorem dX12_count_143 : decode cX12_count 143 = .ok (.aload_n 0, 1) := by decide +kernel
theorem dX12_count_144 : decode cX12_count 144 = .ok (.getfield 74, 3) := by decide +kernel
theorem dX12_count_147 : decode cX12_count 147 = .ok (.ireturn, 1) := by decide +kernel
theorem dX12_count_148 : decode cX12_count 148 = .ok (.ldc 64, 2) := by decide +kernel
theorem dX12_count_150 : decode cX12_count 150 = .ok (.ireturn, 1) := by decide +kernel
theorem dX12_count_48 : decode cX12_count 48 = .ok (.iload_n 3, 1) := by decide +kernel
theorem dX12_count_49 : decode cX12_count 49 = .ok (.aload_n 0, 1) := by decide +kernel
theorem dX12_count_50 : decode cX12_count 50 = .ok (.getfield 22, 3) := by decide +kernel
theorem dX12_count_53 : decode cX12_count 53 = .ok (.bipush 25, 2) := by decide +kernel
theorem dX12_count_55 : decode cX12_count 55 = .ok (.iload 4, 2) := by decide +kernel
theorem dX12_count_57 : decode cX12_count 57 = .ok (.iadd, 1) := by decide +kernel
theorem dX12_count_58 : decode cX12_count 58 = .ok (.iaload, 1) := by decide +kernel
theorem dX12_count_59 : decode cX12_count 59 = .ok (.iadd, 1) := by decide +kernel
theorem dX12_count_60 : decode cX12_count 60 = .ok (.istore_n 3, 1) := by decide +kernel
theorem dX12_count_61 : decode cX12_count 61 = .ok (.iinc 4 1, 3) := by decide +kernel
theorem dX12_count_64 : decode cX12_count 64 = .ok (.goto (-23), 3) := by decide +kernel
theorem dX12_count_14 : decode cX12_count 14 = .ok (.iload_n 2, 1) := by decide +kernel
theorem dX12_count_15 : decode cX12_count 15 = .ok (.aload_n 0, 1) := by decide +kernel
theorem dX12_count_16 : decode cX12_count 16 = .ok (.getfield 13, 3) := by decide +kernel
theorem dX12_count_19 : decode cX12_count 19 = .ok (.iload 4, 2) := by decide +kernel
theorem dX12_count_21 : decode cX12_count 21 = .ok (.iaload, 1) := by decide +kernel
theorem dX12_count_22 : decode cX12_count 22 = .ok (.ifCond .ge 7, 3) := by decide +kernel
theorem dX12_count_29 : decode cX12_count 29 = .ok (.iconst 1, 1) := by decide +kernel
theorem dX12_count_30 : decode cX12_count 30 = .ok (.iadd, 1) := by decide +kernel
theorem dX12_count_31 : decode cX12_count 31 = .ok (.istore_n 2, 1) := by decide +kernel
theorem dX12_count_32 : decode cX12_count 32 = .ok (.iinc 4 1, 3) := by decide +kernel
theorem dX12_count_35 : decode cX12_count 35 = .ok (.goto (-28), 3) := by decide +kernel
theorem dX12_count_25 : decode cX12_count 25 = .ok (.iconst 0, 1) := by decide +kernel
theorem dX12_count_26 : decode cX12_count 26 = .ok (.goto 4, 3) := by decide +kernel
theorem dX12_cell_0 : decode cX12_cell 0 = .ok (.aload_n 0, 1) := by decide +kernel
theorem dX12_cell_1 : decode cX12_cell 1 = .ok (.getfield 186, 3) := by decide +kernel
theorem dX12_cell_4 : decode cX12_cell 4 = .ok (.ifCond .ne 6, 3) := by decide +kernel
theorem dX12_cell_10 : decode cX12_cell 10 = .ok (.iload_n 1, 1) := by decide +kernel
set_option maxRecDepth 20000 in
theorem ggX12_cell_X12_isCell : GoodIn wsX12_cell wsX12_isCell := goodIn_r _ [9, 10, 11, 12, 8, 13] (by decide +kernel) (by decide +kernel)
set_option maxRecDepth 20000 in
theorem gX12_cell_X12_isCell : GoodIn wsX12_cell (va_wsS RX12 220 yX12_isCell wsX12_isCell) := goodIn_app (goodIn_of _ (by decide +kernel)) ggX12_cell_X12_isCell
theorem dX12_cell_11 : decode cX12_cell 11 = .ok (.invokestatic 220, 3) := by decide +kernel
theorem dX12_cell_14 : decode cX12_cell 14 = .ok (.ifCond .eq 15, 3) := by decide +kernel
theorem dX12_cell_29 : decode cX12_cell 29 = .ok (.ldc 64, 2) := by decide +kernel
theorem dX12_cell_31 : decode cX12_cell 31 = .ok (.ireturn, 1) := by decide +kernel
theorem dX12_cell_17 : decode cX12_cell 17 = .ok (.iload_n 2, 1) := by decide +kernel
theorem dX12_cell_18 : decode cX12_cell 18 = .ok (.i2l, 1) := by decide +kernel
theorem dX12_cell_19 : decode cX12_cell 19 = .ok (.lconst 0, 1) := by decide +kernel
theorem dX12_cell_20 : decode cX12_cell 20 = .ok (.ldc2_w 234, 3) := by decide +kernel
set_option maxRecDepth 20000 in
theorem ggX12_cell_X12_in : GoodIn wsX12_cell wsX12_in := goodIn_r _ [13] (by decide +kernel) (by decide +kernel)
set_option maxRecDepth 20000 in
theorem gX12_cell_X12_in : GoodIn wsX12_cell (va_wsS RX12 54 yX12_in wsX12_in) := goodIn_app (goodIn_of _ (by decide +kernel)) ggX12_cell_X12_in
theorem dX12_cell_23 : decode cX12_cell 23 = .ok (.invokestatic 54, 3) := by decide +kernel
theorem dX12_cell_26 : decode cX12_cell 26 = .ok (.ifCond .ne 6, 3) := by decide +kernel
theorem dX12_cell_32 : decode cX12_cell 32 = .ok (.iconst 0, 1) := by decide +kernel
theorem dX12_cell_33 : decode cX12_cell 33 = .ok (.istore_n 3, 1) := by decide +kernel
theorem dX12_cell_34 : decode cX12_cell 34 = .ok (.iconst 0, 1) := by decide +kernel
theorem dX12_cell_35 : decode cX12_cell 35 = .ok (.istore 4, 2) := by decide +kernel
theorem dX12_cell_37 : decode cX12_cell 37 = .ok (.iload 4, 2) := by decide +kernel
theorem dX12_cell_39 : decode cX12_cell 39 = .ok (.aload_n 0, 1) := by decide +kernel
theorem dX12_cell_40 : decode cX12_cell 40 = .ok (.getfield 22, 3) := by decide +kernel
theorem dX12_cell_43 : decode cX12_cell 43 = .ok (.bipush 121, 2) := by decide +kernel
theorem dX12_cell_45 : decode cX12_cell 45 = .ok (.iaload, 1) := by decide +kernel
theorem dX12_cell_46 : decode cX12_cell 46 = .ok (.if_icmp .ge 31, 3) := by decide +kernel
theorem dX12_cell_77 : decode cX12_cell 77 = .ok (.iload_n 2, 1) := by decide +kernel
theorem dX12_cell_78 : decode cX12_cell 78 = .ok (.ifCond .ne 14, 3) := by decide +kernel
theorem dX12_cell_92 : decode cX12_cell 92 = .ok (.iload_n 2, 1) := by decide +kernel
theorem dX12_cell_93 : decode cX12_cell 93 = .ok (.iconst 1, 1) := by decide +kernel
theorem dX12_cell_94 : decode cX12_cell 94 = .ok (.if_icmp .ne 15, 3) := by decide +kernel
theorem dX12_cell_109 : decode cX12_cell 109 = .ok (.iload_n 2, 1) := by decide +kernel
theorem dX12_cell_110 : decode cX12_cell 110 = .ok (.iconst 2, 1) := by decide +kernel
theorem dX12_cell_111 : decode cX12_cell 111 = .ok (.if_icmp .ne 15, 3) := by decide +kernel
theorem dX12_cell_126 : decode cX12_cell 126 = .ok (.iload_n 3, 1) := by decide +kernel
theorem dX12_cell_127 : decode cX12_cell 127 = .ok (.ireturn, 1) := by decide +kernel
theorem dX12_cell_114 : decode cX12_cell 114 = .ok (.aload_n 0, 1) := by decide +kernel
theorem dX12_cell_115 : decode cX12_cell 115 = .ok (.getfield 22, 3) := by decide +kernel
theorem dX12_cell_118 : decode cX12_cell 118 = .ok (.bipush 73, 2) := by decide +kernel
theorem dX12_cell_120 : decode cX12_cell 120 = .ok (.iload_n 1, 1) := by decide +kernel
theorem dX12_cell_121 : decode cX12_cell 121 = .ok (.iadd, 1) := by decide +kernel
theorem dX12_cell_122 : decode cX12_cell 122 = .ok (.iaload, 1) := by decide +kernel
theorem dX12_cell_123 : decode cX12_cell 123 = .ok (.goto 4, 3) := by decide +kernel
theorem dX12_cell_97 : decode cX12_cell 97 = .ok (.aload_n 0, 1) := by decide +kernel
theorem dX12_cell_98 : decode cX12_cell 98 = .ok (.getfield 22, 3) := by decide +kernel
theorem dX12_cell_101 : decode cX12_cell 101 = .ok (.bipush 25, 2) := by decide +kernel
theorem dX12_cell_103 : decode cX12_cell 103 = .ok (.iload_n 1, 1) := by decide +kernel
theorem dX12_cell_104 : decode cX12_cell 104 = .ok (.iadd, 1) := by decide +kernel
theorem dX12_cell_105 : decode cX12_cell 105 = .ok (.iaload, 1) := by decide +kernel
theorem dX12_cell_106 : decode cX12_cell 106 = .ok (.goto 21, 3) := by decide +kernel
theorem dX12_cell_81 : decode cX12_cell 81 = .ok (.aload_n 0, 1) := by decide +kernel
theorem dX12_cell_82 : decode cX12_cell 82 = .ok (.getfield 22, 3) := by decide +kernel
theorem dX12_cell_85 : decode cX12_cell 85 = .ok (.iload_n 1, 1) := by decide +kernel
set_option maxRecDepth 20000 in
theorem ggX12_cell_X12_whose : GoodIn wsX12_cell wsX12_whose := goodIn_r _ [16] (by decide +kernel) (by decide +kernel)
set_option maxRecDepth 20000 in
theorem gX12_cell_X12_whose : GoodIn wsX12_cell (va_wsS RX12 199 yX12_whose wsX12_whose) := goodIn_app (goodIn_of _ (by decide +kernel)) ggX12_cell_X12_whose
theorem dX12_cell_86 : decode cX12_cell 86 = .ok (.invokestatic 199, 3) := by decide +kernel
theorem dX12_cell_89 : decode cX12_cell 89 = .ok (.goto 38, 3) := by decide +kernel
theorem dX12_cell_49 : decode cX12_cell 49 = .ok (.iload_n 3, 1) := by decide +kernel
theorem dX12_cell_50 : decode cX12_cell 50 = .ok (.aload_n 0, 1) := by decide +kernel
theorem dX12_cell_51 : decode cX12_cell 51 = .ok (.getfield 22, 3) := by decide +kernel
theorem dX12_cell_54 : decode cX12_cell 54 = .ok (.bipush 122, 2) := by decide +kernel
theorem dX12_cell_56 : decode cX12_cell 56 = .ok (.iload 4, 2) := by decide +kernel
theorem dX12_cell_58 : decode cX12_cell 58 = .ok (.iadd, 1) := by decide +kernel
theorem dX12_cell_59 : decode cX12_cell 59 = .ok (.iaload, 1) := by decide +kernel
theorem dX12_cell_60 : decode cX12_cell 60 = .ok (.iload_n 1, 1) := by decide +kernel
theorem dX12_cell_61 : decode cX12_cell 61 = .ok (.if_icmp .ne 7, 3) := by decide +kernel
theorem dX12_cell_68 : decode cX12_cell 68 = .ok (.iconst 0, 1) := by decide +kernel
theorem dX12_cell_69 : decode cX12_cell 69 = .ok (.ior, 1) := by decide +kernel
theorem dX12_cell_70 : decode cX12_cell 70 = .ok (.istore_n 3, 1) := by decide +kernel
theorem dX12_cell_71 : decode cX12_cell 71 = .ok (.iinc 4 1, 3) := by decide +kernel
theorem dX12_cell_74 : decode cX12_cell 74 = .ok (.goto (-37), 3) := by decide +kernel
theorem dX12_cell_64 : decode cX12_cell 64 = .ok (.iconst 1, 1) := by decide +kernel
theorem dX12_cell_65 : decode cX12_cell 65 = .ok (.goto 4, 3) := by decide +kernel
theorem dX12_cell_7 : decode cX12_cell 7 = .ok (.ldc 227, 2) := by decide +kernel
theorem dX12_cell_9 : decode cX12_cell 9 = .ok (.ireturn, 1) := by decide +kernel
theorem dX12_leave_0 : decode cX12_leave 0 = .ok (.lconst 1, 1) := by decide +kernel
theorem dX12_leave_1 : decode cX12_leave 1 = .ok (.lstore_n 3, 1) := by decide +kernel
theorem dX12_leave_2 : decode cX12_leave 2 = .ok (.lload_n 3, 1) := by decide +kernel
theorem dX12_leave_3 : decode cX12_leave 3 = .ok (.ldc2_w 262, 3) := by decide +kernel
theorem dX12_leave_6 : decode cX12_leave 6 = .ok (.lmul, 1) := by decide +kernel
theorem dX12_leave_7 : decode cX12_leave 7 = .ok (.lload_n 1, 1) := by decide +kernel
theorem dX12_leave_8 : decode cX12_leave 8 = .ok (.lcmp, 1) := by decide +kernel
theorem dX12_leave_9 : decode cX12_leave 9 = .ok (.ifCond .gt 12, 3) := by decide +kernel
theorem dX12_leave_12 : decode cX12_leave 12 = .ok (.lload_n 3, 1) := by decide +kernel
theorem dX12_leave_13 : decode cX12_leave 13 = .ok (.ldc2_w 262, 3) := by decide +kernel
theorem dX12_leave_16 : decode cX12_leave 16 = .ok (.lmul, 1) := by decide +kernel
theorem dX12_leave_17 : decode cX12_leave 17 = .ok (.lstore_n 3, 1) := by decide +kernel
theorem dX12_leave_18 : decode cX12_leave 18 = .ok (.goto (-16), 3) := by decide +kernel
theorem dX12_leave_21 : decode cX12_leave 21 = .ok (.lload_n 1, 1) := by decide +kernel
theorem dX12_leave_22 : decode cX12_leave 22 = .ok (.lstore 5, 2) := by decide +kernel
theorem dX12_leave_24 : decode cX12_leave 24 = .ok (.lload_n 3, 1) := by decide +kernel
theorem dX12_leave_25 : decode cX12_leave 25 = .ok (.lconst 0, 1) := by decide +kernel
theorem dX12_leave_26 : decode cX12_leave 26 = .ok (.lcmp, 1) := by decide +kernel
theorem dX12_leave_27 : decode cX12_leave 27 = .ok (.ifCond .le 42, 3) := by decide +kernel
theorem dX12_leave_30 : decode cX12_leave 30 = .ok (.aload_n 0, 1) := by decide +kernel
theorem dX12_leave_31 : decode cX12_leave 31 = .ok (.getfield 35, 3) := by decide +kernel
theorem dX12_leave_34 : decode cX12_leave 34 = .ok (.aload_n 0, 1) := by decide +kernel
theorem dX12_leave_35 : decode cX12_leave 35 = .ok (.getfield 264, 3) := by decide +kernel
theorem dX12_leave_38 : decode cX12_leave 38 = .ok (.lload 5, 2) := by decide +kernel
theorem dX12_leave_40 : decode cX12_leave 40 = .ok (.lload_n 3, 1) := by decide +kernel
theorem dX12_leave_41 : decode cX12_leave 41 = .ok (.ldiv, 1) := by decide +kernel
theorem dX12_leave_42 : decode cX12_leave 42 = .ok (.l2i, 1) := by decide +kernel
theorem dX12_leave_43 : decode cX12_leave 43 = .ok (.iastore, 1) := by decide +kernel
theorem dX12_leave_44 : decode cX12_leave 44 = .ok (.lload 5, 2) := by decide +kernel
theorem dX12_leave_46 : decode cX12_leave 46 = .ok (.lload_n 3, 1) := by decide +kernel
theorem dX12_leave_47 : decode cX12_leave 47 = .ok (.lrem, 1) := by decide +kernel
theorem dX12_leave_48 : decode cX12_leave 48 = .ok (.lstore 5, 2) := by decide +kernel
theorem dX12_leave_50 : decode cX12_leave 50 = .ok (.aload_n 0, 1) := by decide +kernel
theorem dX12_leave_51 : decode cX12_leave 51 = .ok (.dup, 1) := by decide +kernel
theorem dX12_leave_52 : decode cX12_leave 52 = .ok (.getfield 264, 3) := by decide +kernel
theorem dX12_leave_55 : decode cX12_leave 55 = .ok (.iconst 1, 1) := by decide +kernel
theorem dX12_leave_56 : decode cX12_leave 56 = .ok (.iadd, 1) := by decide +kernel
theorem dX12_leave_57 : decode cX12_leave 57 = .ok (.putfield 264, 3) := by decide +kernel
theorem dX12_leave_60 : decode cX12_leave 60 = .ok (.lload_n 3, 1) := by decide +kernel
theorem dX12_leave_61 : decode cX12_leave 61 = .ok (.ldc2_w 262, 3) := by decide +kernel
theorem dX12_leave_64 : decode cX12_leave 64 = .ok (.ldiv, 1) := by decide +kernel
theorem dX12_leave_65 : decode cX12_leave 65 = .ok (.lstore_n 3, 1) := by decide +kernel
theorem dX12_leave_66 : decode cX12_leave 66 = .ok (.goto (-42), 3) := by decide +kernel
theorem dX12_leave_69 : decode cX12_leave 69 = .ok (.return_, 1) := by decide +kernel
theorem dX12_mark_0 : decode cX12_mark 0 = .ok (.aload_n 0, 1) := by decide +kernel
theorem dX12_mark_1 : decode cX12_mark 1 = .ok (.getfield 22, 3) := by decide +kernel
theorem dX12_mark_4 : decode cX12_mark 4 = .ok (.iconst 5, 1) := by decide +kernel
theorem dX12_mark_5 : decode cX12_mark 5 = .ok (.iload_n 1, 1) := by decide +kernel
theorem dX12_mark_6 : decode cX12_mark 6 = .ok (.iadd, 1) := by decide +kernel
theorem dX12_mark_7 : decode cX12_mark 7 = .ok (.iaload, 1) := by decide +kernel
theorem dX12_mark_8 : decode cX12_mark 8 = .ok (.istore_n 2, 1) := by decide +kernel
theorem dX12_mark_9 : decode cX12_mark 9 = .ok (.iload_n 1, 1) := by decide +kernel
theorem dX12_mark_10 : decode cX12_mark 10 = .ok (.aload_n 0, 1) := by decide +kernel
theorem dX12_mark_11 : decode cX12_mark 11 = .ok (.getfield 22, 3) := by decide +kernel
theorem dX12_mark_14 : decode cX12_mark 14 = .ok (.bipush 15, 2) := by decide +kernel
theorem dX12_mark_16 : decode cX12_mark 16 = .ok (.iload_n 1, 1) := by decide +kernel
theorem dX12_mark_17 : decode cX12_mark 17 = .ok (.iadd, 1) := by decide +kernel
theorem dX12_mark_18 : decode cX12_mark 18 = .ok (.iaload, 1) := by decide +kernel
theorem dX12_mark_19 : decode cX12_mark 19 = .ok (.iadd, 1) := by decide +kernel
theorem dX12_mark_20 : decode cX12_mark 20 = .ok (.istore_n 3, 1) := by decide +kernel
theorem dX12_mark_21 : decode cX12_mark 21 = .ok (.aload_n 0, 1) := by decide +kernel
theorem dX12_mark_22 : decode cX12_mark 22 = .ok (.iload_n 2, 1) := by decide +kernel
theorem dX12_mark_23 : decode cX12_mark 23 = .ok (.iconst 2, 1) := by decide +kernel
theorem dX12_mark_24 : decode cX12_mark 24 = .ok (.if_icmp .ne 9, 3) := by decide +kernel
theorem dX12_mark_33 : decode cX12_mark 33 = .ok (.iload_n 2, 1) := by decide +kernel
theorem dX12_mark_34 : decode cX12_mark 34 = .ok (.iconst 3, 1) := by decide +kernel
theorem dX12_mark_35 : decode cX12_mark 35 = .ok (.if_icmp .ne 9, 3) := by decide +kernel
theorem dX12_mark_44 : decode cX12_mark 44 = .ok (.ldc2_w 271, 3) := by decide +kernel
set_option maxRecDepth 20000 in
theorem ggX12_mark_X12_leave : GoodIn wsX12_mark wsX12_leave := goodIn_r _ [9, 10, 11, 12, 13, 14, 15, 16, 17, 18, 19, 20, 21, 22, 23, 24, 25, 26, 27, 28, 29, 30, 31, 32, 33, 34, 35, 36, 37, 38] (by decide +kernel) (by decide +kernel)
set_option maxRecDepth 20000 in
theorem gX12_mark_X12_leave : GoodIn wsX12_mark (wsV RX12 273 RX12 yX12_leave wsX12_leave) := goodIn_app (goodIn_of _ (by decide +kernel)) ggX12_mark_X12_leave
theorem dX12_mark_47 : decode cX12_mark 47 = .ok (.invokevirtual 273, 3) := by decide +kernel
theorem dX12_mark_50 : decode cX12_mark 50 = .ok (.iload_n 2, 1) := by decide +kernel
theorem dX12_mark_51 : decode cX12_mark 51 = .ok (.iconst 2, 1) := by decide +kernel
theorem dX12_mark_52 : decode cX12_mark 52 = .ok (.if_icmp .ne 9, 3) := by decide +kernel
theorem dX12_mark_61 : decode cX12_mark 61 = .ok (.iload_n 2, 1) := by decide +kernel
theorem dX12_mark_62 : decode cX12_mark 62 = .ok (.iconst 3, 1) := by decide +kernel
theorem dX12_mark_63 : decode cX12_mark 63 = .ok (.if_icmp .ne 11, 3) := by decide +kernel
theorem dX12_mark_74 : decode cX12_mark 74 = .ok (.iload_n 3, 1) := by decide +kernel
theorem dX12_mark_75 : decode cX12_mark 75 = .ok (.ireturn, 1) := by decide +kernel
theorem dX12_mark_38 : decode cX12_mark 38 = .ok (.ldc2_w 269, 3) := by decide +kernel
theorem dX12_mark_41 : decode cX12_mark 41 = .ok (.goto 6, 3) := by decide +kernel
theorem dX12_mark_66 : decode cX12_mark 66 = .ok (.iload_n 3, 1) := by decide +kernel
theorem dX12_mark_67 : decode cX12_mark 67 = .ok (.sipush 1000, 3) := by decide +kernel
theorem dX12_mark_70 : decode cX12_mark 70 = .ok (.isub, 1) := by decide +kernel
theorem dX12_mark_71 : decode cX12_mark 71 = .ok (.goto 4, 3) := by decide +kernel
theorem dX12_mark_27 : decode cX12_mark 27 = .ok (.ldc2_w 267, 3) := by decide +kernel
theorem dX12_mark_30 : decode cX12_mark 30 = .ok (.goto 17, 3) := by decide +kernel
theorem dX12_mark_55 : decode cX12_mark 55 = .ok (.iconst 2, 1) := by decide +kernel
theorem dX12_mark_56 : decode cX12_mark 56 = .ok (.iload_n 3, 1) := by decide +kernel
theorem dX12_mark_57 : decode cX12_mark 57 = .ok (.imul, 1) := by decide +kernel
theorem dX12_mark_58 : decode cX12_mark 58 = .ok (.goto 17, 3) := by decide +kernel
theorem dX12_sizeOf_0 : decode cX12_sizeOf 0 = .ok (.aload_n 0, 1) := by decide +kernel
theorem dX12_sizeOf_1 : decode cX12_sizeOf 1 = .ok (.getfield 22, 3) := by decide +kernel
theorem dX12_sizeOf_4 : decode cX12_sizeOf 4 = .ok (.bipush 20, 2) := by decide +kernel
theorem dX12_sizeOf_6 : decode cX12_sizeOf 6 = .ok (.iload_n 1, 1) := by decide +kernel
theorem dX12_sizeOf_7 : decode cX12_sizeOf 7 = .ok (.iadd, 1) := by decide +kernel
theorem dX12_sizeOf_8 : decode cX12_sizeOf 8 = .ok (.iaload, 1) := by decide +kernel
theorem dX12_sizeOf_9 : decode cX12_sizeOf 9 = .ok (.bipush 100, 2) := by decide +kernel
theorem dX12_sizeOf_11 : decode cX12_sizeOf 11 = .ok (.isub, 1) := by decide +kernel
theorem dX12_sizeOf_12 : decode cX12_sizeOf 12 = .ok (.istore_n 2, 1) := by decide +kernel
theorem dX12_sizeOf_13 : decode cX12_sizeOf 13 = .ok (.aload_n 0, 1) := by decide +kernel
theorem dX12_sizeOf_14 : decode cX12_sizeOf 14 = .ok (.getfield 22, 3) := by decide +kernel
theorem dX12_sizeOf_17 : decode cX12_sizeOf 17 = .ok (.iconst 5, 1) := by decide +kernel
theorem dX12_sizeOf_18 : decode cX12_sizeOf 18 = .ok (.iload_n 1, 1) := by decide +kernel
theorem dX12_sizeOf_19 : decode cX12_sizeOf 19 = .ok (.iadd, 1) := by decide +kernel
theorem dX12_sizeOf_20 : decode cX12_sizeOf 20 = .ok (.iaload, 1) := by decide +kernel
theorem dX12_sizeOf_21 : decode cX12_sizeOf 21 = .ok (.iconst 5, 1) := by decide +kernel
theorem dX12_sizeOf_22 : decode cX12_sizeOf 22 = .ok (.if_icmp .ne 7, 3) := by decide +kernel
theorem dX12_sizeOf_29 : decode cX12_sizeOf 29 = .ok (.iconst 0, 1) := by decide +kernel
theorem dX12_sizeOf_30 : decode cX12_sizeOf 30 = .ok (.istore_n 3, 1) := by decide +kernel
theorem dX12_sizeOf_31 : decode cX12_sizeOf 31 = .ok (.aload_n 0, 1) := by decide +kernel
theorem dX12_sizeOf_32 : decode cX12_sizeOf 32 = .ok (.iload_n 3, 1) := by decide +kernel
theorem dX12_sizeOf_33 : decode cX12_sizeOf 33 = .ok (.ifCond .eq 9, 3) := by decide +kernel
theorem dX12_sizeOf_42 : decode cX12_sizeOf 42 = .ok (.ldc2_w 279, 3) := by decide +kernel
set_option maxRecDepth 20000 in
theorem ggX12_sizeOf_X12_leave : GoodIn wsX12_sizeOf wsX12_leave := goodIn_r _ [8, 9, 10, 11, 12, 13, 14, 15, 16, 17, 18, 19, 20, 21, 22, 23, 24, 25, 26, 27, 28, 29, 30, 31, 32, 33, 34, 35, 36, 37] (by decide +kernel) (by decide +kernel)
set_option maxRecDepth 20000 in
theorem gX12_sizeOf_X12_leave : GoodIn wsX12_sizeOf (wsV RX12 273 RX12 yX12_leave wsX12_leave) := goodIn_app (goodIn_of _ (by decide +kernel)) ggX12_sizeOf_X12_leave
theorem dX12_sizeOf_45 : decode cX12_sizeOf 45 = .ok (.invokevirtual 273, 3) := by decide +kernel
theorem dX12_sizeOf_48 : decode cX12_sizeOf 48 = .ok (.iload_n 3, 1) := by decide +kernel
theorem dX12_sizeOf_49 : decode cX12_sizeOf 49 = .ok (.ifCond .eq 9, 3) := by decide +kernel
theorem dX12_sizeOf_58 : decode cX12_sizeOf 58 = .ok (.iload_n 2, 1) := by decide +kernel
theorem dX12_sizeOf_59 : decode cX12_sizeOf 59 = .ok (.ireturn, 1) := by decide +kernel
theorem dX12_sizeOf_25 : decode cX12_sizeOf 25 = .ok (.iconst 1, 1) := by decide +kernel
theorem dX12_sizeOf_26 : decode cX12_sizeOf 26 = .ok (.goto 4, 3) := by decide +kernel
theorem dX12_sizeOf_36 : decode cX12_sizeOf 36 = .ok (.ldc2_w 277, 3) := by decide +kernel
theorem dX12_sizeOf_39 : decode cX12_sizeOf 39 = .ok (.goto 6, 3) := by decide +kernel
theorem dX12_sizeOf_52 : decode cX12_sizeOf 52 = .ok (.iconst 2, 1) := by decide +kernel
theorem dX12_sizeOf_53 : decode cX12_sizeOf 53 = .ok (.iload_n 2, 1) := by decide +kernel
theorem dX12_sizeOf_54 : decode cX12_sizeOf 54 = .ok (.imul, 1) := by decide +kernel
theorem dX12_sizeOf_55 : decode cX12_sizeOf 55 = .ok (.goto 4, 3) := by decide +kernel
theorem dX12_ask_0 : decode cX12_ask 0 = .ok (.aload_n 0, 1) := by decide +kernel
theorem dX12_ask_1 : decode cX12_ask 1 = .ok (.iload_n 1, 1) := by decide +kernel
set_option maxRecDepth 20000 in
theorem ggX12_ask_X12_isPerson : GoodIn wsX12_ask wsX12_isPerson := goodIn_r _ [11, 3, 12, 13, 10, 14, 34, 35, 36, 37, 38, 39, 40, 41, 42, 43, 44, 45, 46, 47, 48, 49, 50, 51, 52, 53, 54, 55, 56, 57, 58, 59] (by decide +kernel) (by decide +kernel)
set_option maxRecDepth 20000 in
theorem gX12_ask_X12_isPerson : GoodIn wsX12_ask (wsV RX12 217 RX12 yX12_isPerson wsX12_isPerson) := goodIn_app (goodIn_of _ (by decide +kernel)) ggX12_ask_X12_isPerson
theorem dX12_ask_2 : decode cX12_ask 2 = .ok (.invokevirtual 217, 3) := by decide +kernel
theorem dX12_ask_5 : decode cX12_ask 5 = .ok (.ifCond .eq 13, 3) := by decide +kernel
theorem dX12_ask_18 : decode cX12_ask 18 = .ok (.ldc 64, 2) := by decide +kernel
theorem dX12_ask_20 : decode cX12_ask 20 = .ok (.ireturn, 1) := by decide +kernel
theorem dX12_ask_8 : decode cX12_ask 8 = .ok (.iload_n 2, 1) := by decide +kernel
theorem dX12_ask_9 : decode cX12_ask 9 = .ok (.i2l, 1) := by decide +kernel
theorem dX12_ask_10 : decode cX12_ask 10 = .ok (.lconst 0, 1) := by decide +kernel
theorem dX12_ask_11 : decode cX12_ask 11 = .ok (.lconst 1, 1) := by decide +kernel
set_option maxRecDepth 20000 in
theorem ggX12_ask_X12_in : GoodIn wsX12_ask wsX12_in := goodIn_r _ [14] (by decide +kernel) (by decide +kernel)
set_option maxRecDepth 20000 in
theorem gX12_ask_X12_in : GoodIn wsX12_ask (va_wsS RX12 54 yX12_in wsX12_in) := goodIn_app (goodIn_of _ (by decide +kernel)) ggX12_ask_X12_in
theorem dX12_ask_12 : decode cX12_ask 12 = .ok (.invokestatic 54, 3) := by decide +kernel
theorem dX12_ask_15 : decode cX12_ask 15 = .ok (.ifCond .ne 6, 3) := by decide +kernel
theorem dX12_ask_21 : decode cX12_ask 21 = .ok (.aload_n 0, 1) := by decide +kernel
theorem dX12_ask_22 : decode cX12_ask 22 = .ok (.iconst 0, 1) := by decide +kernel
theorem dX12_ask_23 : decode cX12_ask 23 = .ok (.putfield 264, 3) := by decide +kernel
theorem dX12_ask_26 : decode cX12_ask 26 = .ok (.aload_n 0, 1) := by decide +kernel
theorem dX12_ask_27 : decode cX12_ask 27 = .ok (.getfield 22, 3) := by decide +kernel
theorem dX12_ask_30 : decode cX12_ask 30 = .ok (.iconst 5, 1) := by decide +kernel
theorem dX12_ask_31 : decode cX12_ask 31 = .ok (.iload_n 1, 1) := by decide +kernel
theorem dX12_ask_32 : decode cX12_ask 32 = .ok (.iadd, 1) := by decide +kernel
theorem dX12_ask_33 : decode cX12_ask 33 = .ok (.iaload, 1) := by decide +kernel
theorem dX12_ask_34 : decode cX12_ask 34 = .ok (.istore_n 3, 1) := by decide +kernel
theorem dX12_ask_35 : decode cX12_ask 35 = .ok (.iload_n 3, 1) := by decide +kernel
theorem dX12_ask_36 : decode cX12_ask 36 = .ok (.iconst 4, 1) := by decide +kernel
theorem dX12_ask_37 : decode cX12_ask 37 = .ok (.if_icmp .ge 63, 3) := by decide +kernel
theorem dX12_ask_100 : decode cX12_ask 100 = .ok (.iload_n 2, 1) := by decide +kernel
theorem dX12_ask_101 : decode cX12_ask 101 = .ok (.ifCond .ne 9, 3) := by decide +kernel
theorem dX12_ask_110 : decode cX12_ask 110 = .ok (.aload_n 0, 1) := by decide +kernel
theorem dX12_ask_111 : decode cX12_ask 111 = .ok (.ldc2_w 291, 3) := by decide +kernel
set_option maxRecDepth 20000 in
theorem ggX12_ask_X12_leave : GoodIn wsX12_ask wsX12_leave := goodIn_r _ [25, 26, 27, 2, 34, 35, 36, 37, 38, 39, 40, 41, 42, 43, 44, 45, 46, 47, 48, 49, 50, 51, 52, 53, 54, 55, 56, 57, 58, 59] (by decide +kernel) (by decide +kernel)
set_option maxRecDepth 20000 in
theorem gX12_ask_X12_leave : GoodIn wsX12_ask (wsV RX12 273 RX12 yX12_leave wsX12_leave) := goodIn_app (goodIn_of _ (by decide +kernel)) ggX12_ask_X12_leave
theorem dX12_ask_114 : decode cX12_ask 114 = .ok (.invokevirtual 273, 3) := by decide +kernel
theorem dX12_ask_117 : decode cX12_ask 117 = .ok (.iload_n 1, 1) := by decide +kernel
theorem dX12_ask_118 : decode cX12_ask 118 = .ok (.aload_n 0, 1) := by decide +kernel
theorem dX12_ask_119 : decode cX12_ask 119 = .ok (.iload_n 1, 1) := by decide +kernel
set_option maxRecDepth 20000 in
theorem ggX12_ask_X12_sizeOf : GoodIn wsX12_ask wsX12_sizeOf := goodIn_r _ [31, 3, 32, 33, 22, 23, 24, 10, 25, 26, 27, 2, 34, 35, 36, 37, 38, 39, 40, 41, 42, 43, 44, 45, 46, 47, 48, 49, 50, 51, 52, 53, 54, 55, 56, 57, 58, 59] (by decide +kernel) (by decide +kernel)
set_option maxRecDepth 20000 in
theorem gX12_ask_X12_sizeOf : GoodIn wsX12_ask (wsV RX12 288 RX12 yX12_sizeOf wsX12_sizeOf) := goodIn_app (goodIn_of _ (by decide +kernel)) ggX12_ask_X12_sizeOf
theorem dX12_ask_120 : decode cX12_ask 120 = .ok (.invokevirtual 288, 3) := by decide +kernel
theorem dX12_ask_123 : decode cX12_ask 123 = .ok (.isub, 1) := by decide +kernel
theorem dX12_ask_124 : decode cX12_ask 124 = .ok (.ireturn, 1) := by decide +kernel
theorem dX12_ask_104 : decode cX12_ask 104 = .ok (.aload_n 0, 1) := by decide +kernel
theorem dX12_ask_105 : decode cX12_ask 105 = .ok (.iload_n 1, 1) := by decide +kernel
theorem dX12_ask_106 : decode cX12_ask 106 = .ok (.invokevirtual 288, 3) := by decide +kernel
theorem dX12_ask_109 : decode cX12_ask 109 = .ok (.ireturn, 1) := by decide +kernel
theorem dX12_ask_40 : decode cX12_ask 40 = .ok (.iload_n 2, 1) := by decide +kernel
theorem dX12_ask_41 : decode cX12_ask 41 = .ok (.iconst 1, 1) := by decide +kernel
theorem dX12_ask_42 : decode cX12_ask 42 = .ok (.if_icmp .ne 9, 3) := by decide +kernel
theorem dX12_ask_51 : decode cX12_ask 51 = .ok (.aload_n 0, 1) := by decide +kernel
theorem dX12_ask_52 : decode cX12_ask 52 = .ok (.iload_n 3, 1) := by decide +kernel
theorem dX12_ask_53 : decode cX12_ask 53 = .ok (.iconst 2, 1) := by decide +kernel
theorem dX12_ask_54 : decode cX12_ask 54 = .ok (.if_icmp .ne 9, 3) := by decide +kernel
theorem dX12_ask_63 : decode cX12_ask 63 = .ok (.ldc2_w 286, 3) := by decide +kernel
theorem dX12_ask_66 : decode cX12_ask 66 = .ok (.invokevirtual 273, 3) := by decide +kernel
theorem dX12_ask_69 : decode cX12_ask 69 = .ok (.aload_n 0, 1) := by decide +kernel
theorem dX12_ask_70 : decode cX12_ask 70 = .ok (.getfield 22, 3) := by decide +kernel
theorem dX12_ask_73 : decode cX12_ask 73 = .ok (.bipush 20, 2) := by decide +kernel
theorem dX12_ask_75 : decode cX12_ask 75 = .ok (.iload_n 1, 1) := by decide +kernel
theorem dX12_ask_76 : decode cX12_ask 76 = .ok (.iadd, 1) := by decide +kernel
theorem dX12_ask_77 : decode cX12_ask 77 = .ok (.iaload, 1) := by decide +kernel
theorem dX12_ask_78 : decode cX12_ask 78 = .ok (.aload_n 0, 1) := by decide +kernel
theorem dX12_ask_79 : decode cX12_ask 79 = .ok (.iload_n 1, 1) := by decide +kernel
set_option maxRecDepth 20000 in
theorem ggX12_ask_X12_mark : GoodIn wsX12_ask wsX12_mark := goodIn_r _ [18, 3, 19, 20, 21, 22, 23, 24, 10, 25, 26, 27, 2, 34, 35, 36, 37, 38, 39, 40, 41, 42, 43, 44, 45, 46, 47, 48, 49, 50, 51, 52, 53, 54, 55, 56, 57, 58, 59] (by decide +kernel) (by decide +kernel)
set_option maxRecDepth 20000 in
theorem gX12_ask_X12_mark : GoodIn wsX12_ask (wsV RX12 281 RX12 yX12_mark wsX12_mark) := goodIn_app (goodIn_of _ (by decide +kernel)) ggX12_ask_X12_mark
theorem dX12_ask_80 : decode cX12_ask 80 = .ok (.invokevirtual 281, 3) := by decide +kernel
theorem dX12_ask_83 : decode cX12_ask 83 = .ok (.iadd, 1) := by decide +kernel
theorem dX12_ask_84 : decode cX12_ask 84 = .ok (.istore 4, 2) := by decide +kernel
theorem dX12_ask_86 : decode cX12_ask 86 = .ok (.iload_n 3, 1) := by decide +kernel
theorem dX12_ask_87 : decode cX12_ask 87 = .ok (.iconst 2, 1) := by decide +kernel
theorem dX12_ask_88 : decode cX12_ask 88 = .ok (.if_icmp .ne 9, 3) := by decide +kernel
theorem dX12_ask_97 : decode cX12_ask 97 = .ok (.iload 4, 2) := by decide +kernel
theorem dX12_ask_99 : decode cX12_ask 99 = .ok (.ireturn, 1) := by decide +kernel
theorem dX12_ask_57 : decode cX12_ask 57 = .ok (.ldc2_w 284, 3) := by decide +kernel
theorem dX12_ask_60 : decode cX12_ask 60 = .ok (.goto 6, 3) := by decide +kernel
theorem dX12_ask_91 : decode cX12_ask 91 = .ok (.iload 4, 2) := by decide +kernel
theorem dX12_ask_93 : decode cX12_ask 93 = .ok (.ineg, 1) := by decide +kernel
theorem dX12_ask_94 : decode cX12_ask 94 = .ok (.goto 5, 3) := by decide +kernel
theorem dX12_ask_45 : decode cX12_ask 45 = .ok (.aload_n 0, 1) := by decide +kernel
theorem dX12_ask_46 : decode cX12_ask 46 = .ok (.iload_n 1, 1) := by decide +kernel
theorem dX12_ask_47 : decode cX12_ask 47 = .ok (.invokevirtual 281, 3) := by decide +kernel
theorem dX12_ask_50 : decode cX12_ask 50 = .ok (.ireturn, 1) := by decide +kernel
theorem dX12_isSo_0 : decode cX12_isSo 0 = .ok (.iconst 1, 1) := by decide +kernel
theorem dX12_isSo_1 : decode cX12_isSo 1 = .ok (.istore_n 3, 1) := by decide +kernel
theorem dX12_isSo_2 : decode cX12_isSo 2 = .ok (.iconst 0, 1) := by decide +kernel
theorem dX12_isSo_3 : decode cX12_isSo 3 = .ok (.istore 4, 2) := by decide +kernel
theorem dX12_isSo_5 : decode cX12_isSo 5 = .ok (.iload 4, 2) := by decide +kernel
theorem dX12_isSo_7 : decode cX12_isSo 7 = .ok (.bipush 8, 2) := by decide +kernel
theorem dX12_isSo_9 : decode cX12_isSo 9 = .ok (.if_icmp .ge 77, 3) := by decide +kernel
theorem dX12_isSo_86 : decode cX12_isSo 86 = .ok (.iload_n 3, 1) := by decide +kernel
theorem dX12_isSo_87 : decode cX12_isSo 87 = .ok (.ireturn, 1) := by decide +kernel
theorem dX12_isSo_12 : decode cX12_isSo 12 = .ok (.iconst 0, 1) := by decide +kernel
theorem dX12_isSo_13 : decode cX12_isSo 13 = .ok (.istore 5, 2) := by decide +kernel
theorem dX12_isSo_15 : decode cX12_isSo 15 = .ok (.iconst 0, 1) := by decide +kernel
theorem dX12_isSo_16 : decode cX12_isSo 16 = .ok (.istore 6, 2) := by decide +kernel
theorem dX12_isSo_18 : decode cX12_isSo 18 = .ok (.iload 6, 2) := by decide +kernel
theorem dX12_isSo_20 : decode cX12_isSo 20 = .ok (.bipush 6, 2) := by decide +kernel
theorem dX12_isSo_22 : decode cX12_isSo 22 = .ok (.if_icmp .ge 34, 3) := by decide +kernel
theorem dX12_isSo_56 : decode cX12_isSo 56 = .ok (.iload_n 3, 1) := by decide +kernel
theorem dX12_isSo_57 : decode cX12_isSo 57 = .ok (.ifCond .eq 21, 3) := by decide +kernel
theorem dX12_isSo_78 : decode cX12_isSo 78 = .ok (.iconst 0, 1) := by decide +kernel
theorem dX12_isSo_79 : decode cX12_isSo 79 = .ok (.istore_n 3, 1) := by decide +kernel
theorem dX12_isSo_80 : decode cX12_isSo 80 = .ok (.iinc 4 1, 3) := by decide +kernel
theorem dX12_isSo_83 : decode cX12_isSo 83 = .ok (.goto (-78), 3) := by decide +kernel
theorem dX12_isSo_60 : decode cX12_isSo 60 = .ok (.iload 5, 2) := by decide +kernel
theorem dX12_isSo_62 : decode cX12_isSo 62 = .ok (.aload_n 0, 1) := by decide +kernel
theorem dX12_isSo_63 : decode cX12_isSo 63 = .ok (.getfield 16, 3) := by decide +kernel
theorem dX12_isSo_66 : decode cX12_isSo 66 = .ok (.iload_n 2, 1) := by decide +kernel
theorem dX12_isSo_67 : decode cX12_isSo 67 = .ok (.iload 4, 2) := by decide +kernel
theorem dX12_isSo_69 : decode cX12_isSo 69 = .ok (.iadd, 1) := by decide +kernel
theorem dX12_isSo_70 : decode cX12_isSo 70 = .ok (.iaload, 1) := by decide +kernel
theorem dX12_isSo_71 : decode cX12_isSo 71 = .ok (.if_icmp .ne 7, 3) := by decide +kernel
theorem dX12_isSo_74 : decode cX12_isSo 74 = .ok (.iconst 1, 1) := by decide +kernel
theorem dX12_isSo_75 : decode cX12_isSo 75 = .ok (.goto 4, 3) := by decide +kernel
theorem dX12_isSo_25 : decode cX12_isSo 25 = .ok (.iload 5, 2) := by decide +kernel
theorem dX12_isSo_27 : decode cX12_isSo 27 = .ok (.aload_n 1, 1) := by decide +kernel
theorem dX12_isSo_28 : decode cX12_isSo 28 = .ok (.bipush 8, 2) := by decide +kernel
theorem dX12_isSo_30 : decode cX12_isSo 30 = .ok (.iload 6, 2) := by decide +kernel
theorem dX12_isSo_32 : decode cX12_isSo 32 = .ok (.imul, 1) := by decide +kernel
theorem dX12_isSo_33 : decode cX12_isSo 33 = .ok (.iload 4, 2) := by decide +kernel
theorem dX12_isSo_35 : decode cX12_isSo 35 = .ok (.iadd, 1) := by decide +kernel
set_option maxRecDepth 20000 in
theorem ggX12_isSo_X12_whose : GoodIn wsX12_isSo wsX12_whose := goodIn_r _ [5] (by decide +kernel) (by decide +kernel)
set_option maxRecDepth 20000 in
theorem gX12_isSo_X12_whose : GoodIn wsX12_isSo (va_wsS RX12 199 yX12_whose wsX12_whose) := goodIn_app (goodIn_of _ (by decide +kernel)) ggX12_isSo_X12_whose
theorem dX12_isSo_36 : decode cX12_isSo 36 = .ok (.invokestatic 199, 3) := by decide +kernel
theorem dX12_isSo_39 : decode cX12_isSo 39 = .ok (.ifCond .ne 7, 3) := by decide +kernel
theorem dX12_isSo_46 : decode cX12_isSo 46 = .ok (.iconst 0, 1) := by decide +kernel
theorem dX12_isSo_47 : decode cX12_isSo 47 = .ok (.iadd, 1) := by decide +kernel
theorem dX12_isSo_48 : decode cX12_isSo 48 = .ok (.istore 5, 2) := by decide +kernel
theorem dX12_isSo_50 : decode cX12_isSo 50 = .ok (.iinc 6 1, 3) := by decide +kernel
theorem dX12_isSo_53 : decode cX12_isSo 53 = .ok (.goto (-35), 3) := by decide +kernel
theorem dX12_isSo_42 : decode cX12_isSo 42 = .ok (.iconst 1, 1) := by decide +kernel
theorem dX12_isSo_43 : decode cX12_isSo 43 = .ok (.goto 4, 3) := by decide +kernel
set_option maxRecDepth 100000 in
set_option maxHeartbeats 4000000 in
theorem c_X12_count {E : XE} {B N : Nat} {v : Nat → va_E} {F sz a p : Nat → Int} {V what : Int} {l : Cor} (hc0 : Cel N v 161 (oM B F V)) (hc1 : Cel N v 163 (iarr E 8 sz)) (hc2 : Cel N v 166 (iarr E 138 a)) (hq0 : PR a p l) (hq1 : POk p) (hq2 : CorOk l) (hq3 : (l.length : Int) ≤ p 2) (hq4 : (-2147483648 ≤ what ∧ what ≤ 2147483647)) (hq5 : ∀ k, k < 8 → -1 ≤ sz k ∧ sz k ≤ 40) : gM yX12_count wsX12_count ({ frames := 0, cells := 0, slots := 0, locals := 0 }) E B N v [.ref (B + 161), .int (zI what)] (po0 N (fun ρ v' => ∃ (res : Int), (res = (if what = 0 then cntR sz 8 else if what = 1 then p 4 else if what = 2 then (l.length : Int) else if what = 3 then p 3 else if what = 4 then F 9 else if what = 5 then cntG p 48 else if what = 6 then F 5 else -1000001)) ∧ ρ = some (.int (zI res)) ∧ v = v')) := by
  refine x_met (nm := "count") (by decide +kernel) rfl (Nat.le_of_ble_eq_true rfl) rfl (fun Γ K KR hnL hnm => ?_)
  show XW Γ N v [(0, .ref (B + 161)), (1, .int (zI what))] 0 0 0 []
  have h4 := hq0.1 4 (by omega)
  have h3 := hq0.1 3 (by omega)
  have h121 := hq0.2.1
  refine x_iconst (pc := 0) K dX12_count_0 ?_
  refine x_istore_n (pc := 1) K (L' := [(2, .int (zI 0)), (0, .ref (B + 161)), (1, .int (zI what))]) hnL rfl (by decide) rfl dX12_count_1 ?_
  refine x_iconst (pc := 2) K dX12_count_2 ?_
  refine x_istore_n (pc := 3) K (L' := [(3, .int (zI 0)), (2, .int (zI 0)), (0, .ref (B + 161)), (1, .int (zI what))]) hnL rfl (by decide) rfl dX12_count_3 ?_
  refine x_iconst (pc := 4) K dX12_count_4 ?_
  refine x_istore (pc := 5) K (L' := [(4, .int (zI 0)), (3, .int (zI 0)), (2, .int (zI 0)), (0, .ref (B + 161)), (1, .int (zI what))]) hnL (by decide) rfl dX12_count_5 ?_
  have LOOP7 : ∀ (n_7 : Nat) (z : Int) (k : Nat), (k ≤ 8) → (z = cntR sz k) → (8 - k) < n_7 → XW Γ N v [(0, .ref (B + 161)), (1, .int (zI what)), (2, .int (zI z)), (3, .int (zI 0)), (4, .int (zI (k : Int)))] 0 0 7 [] := by
    intro n_7
    induction n_7 with
    | zero =>
      intro z k hi7_0 hi7_1 hm_7
      exfalso; omega
    | succ n_7 ih7 =>
      intro z k hi7_0 hi7_1 hm_7
      have hz7 := cntR_rng sz k
      rw [← hi7_1] at hz7
      refine x_iload (pc := 7) 4 K rfl dX12_count_7 ?_
      refine x_bipush (pc := 9) K (by decide) dX12_count_9 ?_
      refine x_icmp_ge (pc := 11) (tgt := 38) K (by omega) (by decide) dX12_count_11 (by decide) (fun h_11 => ?_) (fun h_11 => ?_)
      · skip
        have hk8 : k = 8 := by omega
        rw [hk8] at hi7_1
        refine x_iconst (pc := 38) K dX12_count_38 ?_
        refine x_istore (pc := 39) K (L' := [(4, .int (zI 0)), (0, .ref (B + 161)), (1, .int (zI what)), (2, .int (zI z)), (3, .int (zI 0))]) hnL (by decide) rfl dX12_count_39 ?_
        have LOOP41 : ∀ (n_41 : Nat) (y : Int) (k2 : Nat), (k2 ≤ 48) → (y = cntG p k2) → (48 - k2) < n_41 → XW Γ N v [(0, .ref (B + 161)), (1, .int (zI what)), (2, .int (zI z)), (3, .int (zI y)), (4, .int (zI (k2 : Int)))] 0 0 41 [] := by
          intro n_41
          induction n_41 with
          | zero =>
            intro y k2 hi41_0 hi41_1 hm_41
            exfalso; omega
          | succ n_41 ih41 =>
            intro y k2 hi41_0 hi41_1 hm_41
            have hz41 := cntG_rng hq1 hi41_0
            refine x_iload (pc := 41) 4 K rfl dX12_count_41 ?_
            refine x_bipush (pc := 43) K (by decide) dX12_count_43 ?_
            refine x_icmp_ge (pc := 45) (tgt := 67) K (by omega) (by decide) dX12_count_45 (by decide) (fun h_45 => ?_) (fun h_45 => ?_)
            · skip
              have hk48 : k2 = 48 := by omega
              rw [hk48] at hi41_1
              refine x_iload_n (pc := 67) 1 K rfl rfl dX12_count_67 ?_
              by_cases h_68_0 : what = 0
              · skip
                refine x_tswIn (pc := 68) (tgt := 112) K (by omega) (by omega) (by omega) dX12_count_68 (by rw [h_68_0]; rfl) (by decide) ?_
                refine x_iload_n (pc := 112) 2 K rfl rfl dX12_count_112 ?_
                refine x_iret (pc := 113) K KR (by omega) (Nat.le_of_ble_eq_true rfl) (Nat.le_of_ble_eq_true rfl) dX12_count_113 ?_
                exact ⟨rfl, z, (by split <;> (try split) <;> (try split) <;> (try split) <;> (try split) <;> (try split) <;> (try split) <;> omega), rfl, rfl⟩
              by_cases h_68_1 : what = 1
              · skip
                refine x_tswIn (pc := 68) (tgt := 114) K (by omega) (by omega) (by omega) dX12_count_68 (by rw [h_68_1]; rfl) (by decide) ?_
                refine x_aload_n (pc := 114) 0 K rfl rfl dX12_count_114 ?_
                refine x_get (pc := 115) (C := RX12) (T := TX12) (n := 26) (ci := 11) (idx := 22) (ref := "BorderBedsModel") (x := .ref (B + 166))  K hc0 rfl (by decide +kernel) 8 (by decide) (by decide +kernel) rfl rfl dX12_count_115 ?_
                refine x_iconst (pc := 118) K dX12_count_118 ?_
                refine x_iald (pc := 119) 4 K hc2 rfl (by omega) (by decide) dX12_count_119 ?_
                refine x_iret (pc := 120) K KR (by omega) (Nat.le_of_ble_eq_true rfl) (Nat.le_of_ble_eq_true rfl) dX12_count_120 ?_
                exact ⟨rfl, (a 4), (by split <;> (try split) <;> (try split) <;> (try split) <;> (try split) <;> (try split) <;> (try split) <;> omega), rfl, rfl⟩
              by_cases h_68_2 : what = 2
              · skip
                refine x_tswIn (pc := 68) (tgt := 121) K (by omega) (by omega) (by omega) dX12_count_68 (by rw [h_68_2]; rfl) (by decide) ?_
                refine x_aload_n (pc := 121) 0 K rfl rfl dX12_count_121 ?_
                refine x_get (pc := 122) (C := RX12) (T := TX12) (n := 26) (ci := 11) (idx := 22) (ref := "BorderBedsModel") (x := .ref (B + 166))  K hc0 rfl (by decide +kernel) 8 (by decide) (by decide +kernel) rfl rfl dX12_count_122 ?_
                refine x_bipush (pc := 125) K (by decide) dX12_count_125 ?_
                refine x_iald (pc := 127) 121 K hc2 rfl (by omega) (by decide) dX12_count_127 ?_
                refine x_iret (pc := 128) K KR (by omega) (Nat.le_of_ble_eq_true rfl) (Nat.le_of_ble_eq_true rfl) dX12_count_128 ?_
                exact ⟨rfl, (a 121), (by split <;> (try split) <;> (try split) <;> (try split) <;> (try split) <;> (try split) <;> (try split) <;> omega), rfl, rfl⟩
              by_cases h_68_3 : what = 3
              · skip
                refine x_tswIn (pc := 68) (tgt := 129) K (by omega) (by omega) (by omega) dX12_count_68 (by rw [h_68_3]; rfl) (by decide) ?_
                refine x_aload_n (pc := 129) 0 K rfl rfl dX12_count_129 ?_
                refine x_get (pc := 130) (C := RX12) (T := TX12) (n := 26) (ci := 11) (idx := 22) (ref := "BorderBedsModel") (x := .ref (B + 166))  K hc0 rfl (by decide +kernel) 8 (by decide) (by decide +kernel) rfl rfl dX12_count_130 ?_
                refine x_iconst (pc := 133) K dX12_count_133 ?_
                refine x_iald (pc := 134) 3 K hc2 rfl (by omega) (by decide) dX12_count_134 ?_
                refine x_iret (pc := 135) K KR (by omega) (Nat.le_of_ble_eq_true rfl) (Nat.le_of_ble_eq_true rfl) dX12_count_135 ?_
                exact ⟨rfl, (a 3), (by split <;> (try split) <;> (try split) <;> (try split) <;> (try split) <;> (try split) <;> (try split) <;> omega), rfl, rfl⟩
              by_cases h_68_4 : what = 4
              · skip
                refine x_tswIn (pc := 68) (tgt := 136) K (by omega) (by omega) (by omega) dX12_count_68 (by rw [h_68_4]; rfl) (by decide) ?_
                refine x_aload_n (pc := 136) 0 K rfl rfl dX12_count_136 ?_
                refine x_get (pc := 137) (C := RX12) (T := TX12) (n := 26) (ci := 11) (idx := 190) (ref := "BorderBedsModel") (x := .int (zI (F 9)))  K hc0 rfl (by decide +kernel) 9 (by decide) (by decide +kernel) rfl rfl dX12_count_137 ?_
                refine x_iret (pc := 140) K KR (by omega) (Nat.le_of_ble_eq_true rfl) (Nat.le_of_ble_eq_true rfl) dX12_count_140 ?_
                exact ⟨rfl, (F 9), (by split <;> (try split) <;> (try split) <;> (try split) <;> (try split) <;> (try split) <;> (try split) <;> omega), rfl, rfl⟩
              by_cases h_68_5 : what = 5
              · skip
                refine x_tswIn (pc := 68) (tgt := 141) K (by omega) (by omega) (by omega) dX12_count_68 (by rw [h_68_5]; rfl) (by decide) ?_
                refine x_iload_n (pc := 141) 3 K rfl rfl dX12_count_141 ?_
                refine x_iret (pc := 142) K KR (by omega) (Nat.le_of_ble_eq_true rfl) (Nat.le_of_ble_eq_true rfl) dX12_count_142 ?_
                exact ⟨rfl, y, (by split <;> (try split) <;> (try split) <;> (try split) <;> (try split) <;> (try split) <;> (try split) <;> omega), rfl, rfl⟩
              by_cases h_68_6 : what = 6
              · skip
                refine x_tswIn (pc := 68) (tgt := 143) K (by omega) (by omega) (by omega) dX12_count_68 (by rw [h_68_6]; rfl) (by decide) ?_
                refine x_aload_n (pc := 143) 0 K rfl rfl dX12_count_143 ?_
                refine x_get (pc := 144) (C := RX12) (T := TX12) (n := 26) (ci := 11) (idx := 74) (ref := "BorderBedsModel") (x := .int (zI (F 5)))  K hc0 rfl (by decide +kernel) 5 (by decide) (by decide +kernel) rfl rfl dX12_count_144 ?_
                refine x_iret (pc := 147) K KR (by omega) (Nat.le_of_ble_eq_true rfl) (Nat.le_of_ble_eq_true rfl) dX12_count_147 ?_
                exact ⟨rfl, (F 5), (by split <;> (try split) <;> (try split) <;> (try split) <;> (try split) <;> (try split) <;> (try split) <;> omega), rfl, rfl⟩
              refine x_tswOut (pc := 68) (tgt := 148) K (by omega) (by omega) dX12_count_68 (by decide) ?_
              refine x_ldc (pc := 148) (x := (-1000001)) (-1000001) K (by decide) (by decide +kernel) dX12_count_148 ?_
              refine x_iret (pc := 150) K KR (by omega) (Nat.le_of_ble_eq_true rfl) (Nat.le_of_ble_eq_true rfl) dX12_count_150 ?_
              exact ⟨rfl, (-1000001), (by split <;> (try split) <;> (try split) <;> (try split) <;> (try split) <;> (try split) <;> (try split) <;> omega), rfl, rfl⟩
            · skip
              refine x_iload_n (pc := 48) 3 K rfl rfl dX12_count_48 ?_
              refine x_aload_n (pc := 49) 0 K rfl rfl dX12_count_49 ?_
              refine x_get (pc := 50) (C := RX12) (T := TX12) (n := 26) (ci := 11) (idx := 22) (ref := "BorderBedsModel") (x := .ref (B + 166))  K hc0 rfl (by decide +kernel) 8 (by decide) (by decide +kernel) rfl rfl dX12_count_50 ?_
              refine x_bipush (pc := 53) K (by decide) dX12_count_53 ?_
              refine x_iload (pc := 55) 4 K rfl dX12_count_55 ?_
              refine x_iadd (pc := 57) K dX12_count_57 ?_
              refine x_iald (pc := 58) (25 + k2) K hc2 (by omega) (by omega) (by decide) dX12_count_58 ?_
              have e58 := hq0.1 (25 + k2) (by omega)
              have b58 := (hq1.2.2.2.2.2.2 k2 (by omega)).1
              refine x_iadd (pc := 59) K dX12_count_59 ?_
              refine x_nm (fun z1 hz1 => ?_)
              refine x_istore_n (pc := 60) K (L' := [(3, .int (zI z1)), (0, .ref (B + 161)), (1, .int (zI what)), (2, .int (zI z)), (4, .int (zI (k2 : Int)))]) hnL rfl (by decide) rfl dX12_count_60 ?_
              refine x_iinc (pc := 61) (L' := [(4, .int (zI ((k2 : Int) + 1))), (3, .int (zI z1)), (0, .ref (B + 161)), (1, .int (zI what)), (2, .int (zI z))]) 4 K hnL rfl (by decide) rfl dX12_count_61 ?_
              refine x_goto (pc := 64) (tgt := 41) K dX12_count_64 (by decide) ?_
              refine x_sub (L' := [(0, .ref (B + 161)), (1, .int (zI what)), (2, .int (zI z)), (3, .int (zI z1)), (4, .int (zI ((k2 : Int) + 1)))]) [2, 3, 4, 1, 0] rfl ?_
              exact ih41 z1 (k2 + 1) (by omega) (by show _ = cntG p k2 + p (25 + k2); omega) (by omega)
        refine x_sub (L' := [(0, .ref (B + 161)), (1, .int (zI what)), (2, .int (zI z)), (3, .int (zI 0)), (4, .int (zI 0))]) [1, 2, 3, 4, 0] rfl ?_
        exact LOOP41 (_) 0 0 (by omega) (by rfl) (Nat.lt_succ_self _)
      · skip
        have b22 := hq5 k (by omega)
        refine x_iload_n (pc := 14) 2 K rfl rfl dX12_count_14 ?_
        refine x_aload_n (pc := 15) 0 K rfl rfl dX12_count_15 ?_
        refine x_get (pc := 16) (C := RX12) (T := TX12) (n := 26) (ci := 11) (idx := 13) (ref := "BorderBedsModel") (x := .ref (B + 163))  K hc0 rfl (by decide +kernel) 1 (by decide) (by decide +kernel) rfl rfl dX12_count_16 ?_
        refine x_iload (pc := 19) 4 K rfl dX12_count_19 ?_
        refine x_iald (pc := 21) k K hc1 rfl (by omega) (by decide) dX12_count_21 ?_
        refine x_if_ge (pc := 22) (tgt := 29) K (by omega) dX12_count_22 (by decide) (fun h_22 => ?_) (fun h_22 => ?_)
        · skip
          refine x_iconst (pc := 29) K dX12_count_29 ?_
          refine x_iadd (pc := 30) K dX12_count_30 ?_
          refine x_nm (fun z2 hz2 => ?_)
          refine x_istore_n (pc := 31) K (L' := [(2, .int (zI z2)), (0, .ref (B + 161)), (1, .int (zI what)), (3, .int (zI 0)), (4, .int (zI (k : Int)))]) hnL rfl (by decide) rfl dX12_count_31 ?_
          refine x_iinc (pc := 32) (L' := [(4, .int (zI ((k : Int) + 1))), (2, .int (zI z2)), (0, .ref (B + 161)), (1, .int (zI what)), (3, .int (zI 0))]) 4 K hnL rfl (by decide) rfl dX12_count_32 ?_
          refine x_goto (pc := 35) (tgt := 7) K dX12_count_35 (by decide) ?_
          refine x_sub (L' := [(0, .ref (B + 161)), (1, .int (zI what)), (2, .int (zI z2)), (3, .int (zI 0)), (4, .int (zI ((k : Int) + 1)))]) [2, 3, 1, 4, 0] rfl ?_
          exact ih7 z2 (k + 1) (by omega) (by unfold cntR; rw [← hi7_1]; (first | rw [if_pos (by omega)] | rw [if_neg (by omega)]); omega) (by omega)
        · skip
          refine x_iconst (pc := 25) K dX12_count_25 ?_
          refine x_goto (pc := 26) (tgt := 30) K dX12_count_26 (by decide) ?_
          refine x_iadd (pc := 30) K dX12_count_30 ?_
          refine x_nm (fun z3 hz3 => ?_)
          refine x_istore_n (pc := 31) K (L' := [(2, .int (zI z3)), (0, .ref (B + 161)), (1, .int (zI what)), (3, .int (zI 0)), (4, .int (zI (k : Int)))]) hnL rfl (by decide) rfl dX12_count_31 ?_
          refine x_iinc (pc := 32) (L' := [(4, .int (zI ((k : Int) + 1))), (2, .int (zI z3)), (0, .ref (B + 161)), (1, .int (zI what)), (3, .int (zI 0))]) 4 K hnL rfl (by decide) rfl dX12_count_32 ?_
          refine x_goto (pc := 35) (tgt := 7) K dX12_count_35 (by decide) ?_
          refine x_sub (L' := [(0, .ref (B + 161)), (1, .int (zI what)), (2, .int (zI z3)), (3, .int (zI 0)), (4, .int (zI ((k : Int) + 1)))]) [2, 3, 1, 4, 0] rfl ?_
          exact ih7 z3 (k + 1) (by omega) (by unfold cntR; rw [← hi7_1]; (first | rw [if_pos (by omega)] | rw [if_neg (by omega)]); omega) (by omega)
  refine x_sub (L' := [(0, .ref (B + 161)), (1, .int (zI what)), (2, .int (zI 0)), (3, .int (zI 0)), (4, .int (zI 0))]) [3, 4, 2, 1, 0] rfl ?_
  exact LOOP7 (_) 0 0 (by omega) (by rfl) (Nat.lt_succ_self _)

set_option maxRecDepth 100000 in
set_option maxHeartbeats 4000000 in
theorem c_X12_cell {E : XE} {B N : Nat} {v : Nat → va_E} {F a p : Nat → Int} {V c what : Int} {l : Cor} (hc0 : Cel N v 161 (oM B F V)) (hc1 : Cel N v 166 (iarr E 138 a)) (hq0 : PR a p l) (hq1 : POk p) (hq2 : CorOk l) (hq3 : (l.length : Int) ≤ p 2) (hq4 : (-2147483648 ≤ c ∧ c ≤ 2147483647)) (hq5 : (-2147483648 ≤ what ∧ what ≤ 2147483647)) (hq6 : 0 ≤ F 7 ∧ F 7 ≤ 1) : gM yX12_cell wsX12_cell ({ frames := 2, cells := 0, slots := 0, locals := 45 }) E B N v [.ref (B + 161), .int (zI c), .int (zI what)] (po0 N (fun ρ v' => ∃ (res : Int), ((F 7 = 0 ∧ res = -1000002) ∨ (F 7 = 1 ∧ ¬ (0 ≤ c ∧ c ≤ 47 ∧ 0 ≤ what ∧ what ≤ 3) ∧ res = -1000001) ∨ (F 7 = 1 ∧ (0 ≤ c ∧ c ≤ 47 ∧ 0 ≤ what ∧ what ≤ 3) ∧ res = (if what = 0 then whoseA (p 0) (p 1) l c.toNat else if what = 1 then p (25 + c.toNat) else if what = 2 then p (73 + c.toNat) else isCorA l c))) ∧ ρ = some (.int (zI res)) ∧ v = v')) := by
  refine x_met (nm := "cell") (by decide +kernel) rfl (Nat.le_of_ble_eq_true rfl) rfl (fun Γ K KR hnL hnm => ?_)
  show XW Γ N v [(0, .ref (B + 161)), (1, .int (zI c)), (2, .int (zI what))] 0 0 0 []
  have hkp := hq1.2.2.1
  have h121 := hq0.2.1
  refine x_aload_n (pc := 0) 0 K rfl rfl dX12_cell_0 ?_
  refine x_get (pc := 1) (C := RX12) (T := TX12) (n := 26) (ci := 11) (idx := 186) (ref := "BorderBedsModel") (x := .int (zI (F 7)))  K hc0 rfl (by decide +kernel) 7 (by decide) (by decide +kernel) rfl rfl dX12_cell_1 ?_
  refine x_if_ne (pc := 4) (tgt := 10) K (by omega) dX12_cell_4 (by decide) (fun h_4 => ?_) (fun h_4 => ?_)
  · skip
    refine x_iload_n (pc := 10) 1 K rfl rfl dX12_cell_10 ?_
    refine x_callS (pc := 11) (As := [.int (zI c)]) K (c_X12_isCell (E := E) (B := B) (N := N)    (by omega)) gX12_cell_X12_isCell rfl (na := 1) (by decide +kernel) rfl ⟨(Nat.le_of_ble_eq_true rfl), (Nat.le_of_ble_eq_true rfl)⟩ (st := []) rfl (Nat.le_of_ble_eq_true rfl) ⟨(Nat.le_of_ble_eq_true rfl), (Nat.le_of_ble_eq_true rfl)⟩ dX12_cell_11 (fun r11 N11 w11 hpo11 hN11 => ?_)
    obtain ⟨rfl, rfl, rfl⟩ := hpo11
    refine x_st (st' := [.int (zI (bI (0 ≤ c ∧ c ≤ 47)))]) rfl ?_
    have hrg11 := bI_rng (0 ≤ c ∧ c ≤ 47)
    refine x_if_eq (pc := 14) (tgt := 29) K (by omega) dX12_cell_14 (by decide) (fun h_14 => ?_) (fun h_14 => ?_)
    · skip
      have h_14 := bI_t h_14
      refine x_ldc (pc := 29) (x := (-1000001)) (-1000001) K (by decide) (by decide +kernel) dX12_cell_29 ?_
      refine x_iret (pc := 31) K KR (by omega) (Nat.le_of_ble_eq_true rfl) (Nat.le_of_ble_eq_true rfl) dX12_cell_31 ?_
      exact ⟨rfl, (-1000001), (by first | exact Or.inl ⟨by omega, rfl⟩ | exact Or.inr (Or.inl ⟨by omega, by omega, rfl⟩) | exact Or.inr (Or.inr ⟨by omega, by omega, by simp only [Int.toNat_natCast]; split <;> (try split) <;> (try split) <;> first | rfl | assumption | omega⟩)), rfl, rfl⟩
    · skip
      have h_14 := bI_f h_14
      refine x_iload_n (pc := 17) 2 K rfl rfl dX12_cell_17 ?_
      refine x_i2l (pc := 18) K (by omega) dX12_cell_18 ?_
      refine x_lconst (pc := 19) (0) K (by decide) dX12_cell_19 ?_
      refine x_ldc2 (pc := 20) (x := (3)) (3) K (by decide) (by decide +kernel) dX12_cell_20 ?_
      refine x_callS (pc := 23) (As := [.long (zL what), .long (zL 0), .long (zL 3)]) K (c_X12_in (E := E) (B := B) (N := N)    (by omega) (by omega) (by omega)) gX12_cell_X12_in rfl (na := 3) (by decide +kernel) rfl ⟨(Nat.le_of_ble_eq_true rfl), (Nat.le_of_ble_eq_true rfl)⟩ (st := []) rfl (Nat.le_of_ble_eq_true rfl) ⟨(Nat.le_of_ble_eq_true rfl), (Nat.le_of_ble_eq_true rfl)⟩ dX12_cell_23 (fun r23 N23 w23 hpo23 hN23 => ?_)
      obtain ⟨rfl, rfl, rfl⟩ := hpo23
      refine x_st (st' := [.int (zI (bI (0 ≤ what ∧ what ≤ 3)))]) rfl ?_
      have hrg23 := bI_rng (0 ≤ what ∧ what ≤ 3)
      refine x_if_ne (pc := 26) (tgt := 32) K (by omega) dX12_cell_26 (by decide) (fun h_26 => ?_) (fun h_26 => ?_)
      · skip
        have h_26 := bI_f h_26
        obtain ⟨cc, rfl⟩ : ∃ cc : Nat, c = (cc : Int) := ⟨c.toNat, by omega⟩
        have e25 := hq0.1 (25 + cc) (by omega)
        have e73 := hq0.1 (73 + cc) (by omega)
        refine x_iconst (pc := 32) K dX12_cell_32 ?_
        refine x_istore_n (pc := 33) K (L' := [(3, .int (zI 0)), (0, .ref (B + 161)), (1, .int (zI (cc : Int))), (2, .int (zI what))]) hnL rfl (by decide) rfl dX12_cell_33 ?_
        refine x_iconst (pc := 34) K dX12_cell_34 ?_
        refine x_istore (pc := 35) K (L' := [(4, .int (zI 0)), (3, .int (zI 0)), (0, .ref (B + 161)), (1, .int (zI (cc : Int))), (2, .int (zI what))]) hnL (by decide) rfl dX12_cell_35 ?_
        have LOOP37 : ∀ (n_37 : Nat) (z : Int) (k : Nat), (k ≤ l.length) → (z = isCorA (l.take k) (cc : Int)) → (l.length - k) < n_37 → XW Γ N v [(0, .ref (B + 161)), (1, .int (zI (cc : Int))), (2, .int (zI what)), (3, .int (zI z)), (4, .int (zI (k : Int)))] 0 0 37 [] := by
          intro n_37
          induction n_37 with
          | zero =>
            intro z k hi37_0 hi37_1 hm_37
            exfalso; omega
          | succ n_37 ih37 =>
            intro z k hi37_0 hi37_1 hm_37
            have hz01 : 0 ≤ z ∧ z ≤ 1 := by rw [hi37_1]; exact isCorA_rng _ _
            refine x_iload (pc := 37) 4 K rfl dX12_cell_37 ?_
            refine x_aload_n (pc := 39) 0 K rfl rfl dX12_cell_39 ?_
            refine x_get (pc := 40) (C := RX12) (T := TX12) (n := 26) (ci := 11) (idx := 22) (ref := "BorderBedsModel") (x := .ref (B + 166))  K hc0 rfl (by decide +kernel) 8 (by decide) (by decide +kernel) rfl rfl dX12_cell_40 ?_
            refine x_bipush (pc := 43) K (by decide) dX12_cell_43 ?_
            refine x_iald (pc := 45) 121 K hc1 rfl (by omega) (by decide) dX12_cell_45 ?_
            refine x_icmp_ge (pc := 46) (tgt := 77) K (by omega) (by omega) dX12_cell_46 (by decide) (fun h_46 => ?_) (fun h_46 => ?_)
            · skip
              have hk9 : k = l.length := by omega
              rw [hk9, List.take_length] at hi37_1
              refine x_iload_n (pc := 77) 2 K rfl rfl dX12_cell_77 ?_
              refine x_if_ne (pc := 78) (tgt := 92) K (by omega) dX12_cell_78 (by decide) (fun h_78 => ?_) (fun h_78 => ?_)
              · skip
                refine x_iload_n (pc := 92) 2 K rfl rfl dX12_cell_92 ?_
                refine x_iconst (pc := 93) K dX12_cell_93 ?_
                refine x_icmp_ne (pc := 94) (tgt := 109) K (by omega) (by decide) dX12_cell_94 (by decide) (fun h_94 => ?_) (fun h_94 => ?_)
                · skip
                  refine x_iload_n (pc := 109) 2 K rfl rfl dX12_cell_109 ?_
                  refine x_iconst (pc := 110) K dX12_cell_110 ?_
                  refine x_icmp_ne (pc := 111) (tgt := 126) K (by omega) (by decide) dX12_cell_111 (by decide) (fun h_111 => ?_) (fun h_111 => ?_)
                  · skip
                    refine x_iload_n (pc := 126) 3 K rfl rfl dX12_cell_126 ?_
                    refine x_iret (pc := 127) K KR (by omega) (Nat.le_of_ble_eq_true rfl) (Nat.le_of_ble_eq_true rfl) dX12_cell_127 ?_
                    exact ⟨rfl, z, (by first | exact Or.inl ⟨by omega, rfl⟩ | exact Or.inr (Or.inl ⟨by omega, by omega, rfl⟩) | exact Or.inr (Or.inr ⟨by omega, by omega, by simp only [Int.toNat_natCast]; split <;> (try split) <;> (try split) <;> first | rfl | assumption | omega⟩)), rfl, rfl⟩
                  · skip
                    refine x_aload_n (pc := 114) 0 K rfl rfl dX12_cell_114 ?_
                    refine x_get (pc := 115) (C := RX12) (T := TX12) (n := 26) (ci := 11) (idx := 22) (ref := "BorderBedsModel") (x := .ref (B + 166))  K hc0 rfl (by decide +kernel) 8 (by decide) (by decide +kernel) rfl rfl dX12_cell_115 ?_
                    refine x_bipush (pc := 118) K (by decide) dX12_cell_118 ?_
                    refine x_iload_n (pc := 120) 1 K rfl rfl dX12_cell_120 ?_
                    refine x_iadd (pc := 121) K dX12_cell_121 ?_
                    refine x_iald (pc := 122) (73 + cc) K hc1 (by omega) (by omega) (by decide) dX12_cell_122 ?_
                    refine x_goto (pc := 123) (tgt := 127) K dX12_cell_123 (by decide) ?_
                    refine x_iret (pc := 127) K KR (by omega) (Nat.le_of_ble_eq_true rfl) (Nat.le_of_ble_eq_true rfl) dX12_cell_127 ?_
                    exact ⟨rfl, (a (73 + cc)), (by first | exact Or.inl ⟨by omega, rfl⟩ | exact Or.inr (Or.inl ⟨by omega, by omega, rfl⟩) | exact Or.inr (Or.inr ⟨by omega, by omega, by simp only [Int.toNat_natCast]; split <;> (try split) <;> (try split) <;> first | rfl | assumption | omega⟩)), rfl, rfl⟩
                · skip
                  refine x_aload_n (pc := 97) 0 K rfl rfl dX12_cell_97 ?_
                  refine x_get (pc := 98) (C := RX12) (T := TX12) (n := 26) (ci := 11) (idx := 22) (ref := "BorderBedsModel") (x := .ref (B + 166))  K hc0 rfl (by decide +kernel) 8 (by decide) (by decide +kernel) rfl rfl dX12_cell_98 ?_
                  refine x_bipush (pc := 101) K (by decide) dX12_cell_101 ?_
                  refine x_iload_n (pc := 103) 1 K rfl rfl dX12_cell_103 ?_
                  refine x_iadd (pc := 104) K dX12_cell_104 ?_
                  refine x_iald (pc := 105) (25 + cc) K hc1 (by omega) (by omega) (by decide) dX12_cell_105 ?_
                  refine x_goto (pc := 106) (tgt := 127) K dX12_cell_106 (by decide) ?_
                  refine x_iret (pc := 127) K KR (by omega) (Nat.le_of_ble_eq_true rfl) (Nat.le_of_ble_eq_true rfl) dX12_cell_127 ?_
                  exact ⟨rfl, (a (25 + cc)), (by first | exact Or.inl ⟨by omega, rfl⟩ | exact Or.inr (Or.inl ⟨by omega, by omega, rfl⟩) | exact Or.inr (Or.inr ⟨by omega, by omega, by simp only [Int.toNat_natCast]; split <;> (try split) <;> (try split) <;> first | rfl | assumption | omega⟩)), rfl, rfl⟩
              · skip
                refine x_aload_n (pc := 81) 0 K rfl rfl dX12_cell_81 ?_
                refine x_get (pc := 82) (C := RX12) (T := TX12) (n := 26) (ci := 11) (idx := 22) (ref := "BorderBedsModel") (x := .ref (B + 166))  K hc0 rfl (by decide +kernel) 8 (by decide) (by decide +kernel) rfl rfl dX12_cell_82 ?_
                refine x_iload_n (pc := 85) 1 K rfl rfl dX12_cell_85 ?_
                refine x_callS (pc := 86) (As := [.ref (B + 166), .int (zI (cc : Int))]) K (c_X12_whose (E := E) (B := B) (N := N) (p := p) (l := l) (cell := cc) rfl hc1 hq0 hq1 hq2 (by omega) (by omega)) gX12_cell_X12_whose rfl (na := 2) (by decide +kernel) rfl ⟨(Nat.le_of_ble_eq_true rfl), (Nat.le_of_ble_eq_true rfl)⟩ (st := []) rfl (Nat.le_of_ble_eq_true rfl) ⟨(Nat.le_of_ble_eq_true rfl), (Nat.le_of_ble_eq_true rfl)⟩ dX12_cell_86 (fun r86 N86 w86 hpo86 hN86 => ?_)
                obtain ⟨rfl, rfl, rfl⟩ := hpo86
                refine x_st (st' := [.int (zI (whoseA (p 0) (p 1) l cc))]) rfl ?_
                have hrg86 := whoseA_rng (p 0) (p 1) l cc
                refine x_goto (pc := 89) (tgt := 127) K dX12_cell_89 (by decide) ?_
                refine x_iret (pc := 127) K KR (by omega) (Nat.le_of_ble_eq_true rfl) (Nat.le_of_ble_eq_true rfl) dX12_cell_127 ?_
                exact ⟨rfl, (whoseA (p 0) (p 1) l cc), (by first | exact Or.inl ⟨by omega, rfl⟩ | exact Or.inr (Or.inl ⟨by omega, by omega, rfl⟩) | exact Or.inr (Or.inr ⟨by omega, by omega, by simp only [Int.toNat_natCast]; split <;> (try split) <;> (try split) <;> first | rfl | assumption | omega⟩)), rfl, rfl⟩
            · skip
              have hk : k < l.length := by omega
              have e59 := hq0.cor hk
              have b59 := hq2.at hk
              rw [← e59] at b59
              refine x_iload_n (pc := 49) 3 K rfl rfl dX12_cell_49 ?_
              refine x_aload_n (pc := 50) 0 K rfl rfl dX12_cell_50 ?_
              refine x_get (pc := 51) (C := RX12) (T := TX12) (n := 26) (ci := 11) (idx := 22) (ref := "BorderBedsModel") (x := .ref (B + 166))  K hc0 rfl (by decide +kernel) 8 (by decide) (by decide +kernel) rfl rfl dX12_cell_51 ?_
              refine x_bipush (pc := 54) K (by decide) dX12_cell_54 ?_
              refine x_iload (pc := 56) 4 K rfl dX12_cell_56 ?_
              refine x_iadd (pc := 58) K dX12_cell_58 ?_
              refine x_iald (pc := 59) (122 + k) K hc1 (by omega) (by omega) (by decide) dX12_cell_59 ?_
              refine x_iload_n (pc := 60) 1 K rfl rfl dX12_cell_60 ?_
              refine x_icmp_ne (pc := 61) (tgt := 68) K (by omega) (by omega) dX12_cell_61 (by decide) (fun h_61 => ?_) (fun h_61 => ?_)
              · skip
                refine x_iconst (pc := 68) K dX12_cell_68 ?_
                refine x_ior (pc := 69) K dX12_cell_69 ?_
                refine x_st (st' := [.int (zI (if (z : Int) = 1 ∨ (0 : Int) = 1 then 1 else 0))]) (by rw [ior01 (by omega) (by omega)]) ?_
                refine x_nm (fun z1 hz1 => ?_)
                refine x_istore_n (pc := 70) K (L' := [(3, .int (zI z1)), (0, .ref (B + 161)), (1, .int (zI (cc : Int))), (2, .int (zI what)), (4, .int (zI (k : Int)))]) hnL rfl (by decide) rfl dX12_cell_70 ?_
                refine x_iinc (pc := 71) (L' := [(4, .int (zI ((k : Int) + 1))), (3, .int (zI z1)), (0, .ref (B + 161)), (1, .int (zI (cc : Int))), (2, .int (zI what))]) 4 K hnL rfl (by decide) rfl dX12_cell_71 ?_
                refine x_goto (pc := 74) (tgt := 37) K dX12_cell_74 (by decide) ?_
                refine x_sub (L' := [(0, .ref (B + 161)), (1, .int (zI (cc : Int))), (2, .int (zI what)), (3, .int (zI z1)), (4, .int (zI ((k : Int) + 1)))]) [2, 3, 4, 1, 0] rfl ?_
                exact ih37 z1 (k + 1) (by omega) (by rw [take_snoc hk, isCorA_snoc, ← e59, ← hi37_1, hz1]; split <;> split <;> omega) (by omega)
              · skip
                refine x_iconst (pc := 64) K dX12_cell_64 ?_
                refine x_goto (pc := 65) (tgt := 69) K dX12_cell_65 (by decide) ?_
                refine x_ior (pc := 69) K dX12_cell_69 ?_
                refine x_st (st' := [.int (zI (if (z : Int) = 1 ∨ (1 : Int) = 1 then 1 else 0))]) (by rw [ior01 (by omega) (by omega)]) ?_
                refine x_nm (fun z2 hz2 => ?_)
                refine x_istore_n (pc := 70) K (L' := [(3, .int (zI z2)), (0, .ref (B + 161)), (1, .int (zI (cc : Int))), (2, .int (zI what)), (4, .int (zI (k : Int)))]) hnL rfl (by decide) rfl dX12_cell_70 ?_
                refine x_iinc (pc := 71) (L' := [(4, .int (zI ((k : Int) + 1))), (3, .int (zI z2)), (0, .ref (B + 161)), (1, .int (zI (cc : Int))), (2, .int (zI what))]) 4 K hnL rfl (by decide) rfl dX12_cell_71 ?_
                refine x_goto (pc := 74) (tgt := 37) K dX12_cell_74 (by decide) ?_
                refine x_sub (L' := [(0, .ref (B + 161)), (1, .int (zI (cc : Int))), (2, .int (zI what)), (3, .int (zI z2)), (4, .int (zI ((k : Int) + 1)))]) [2, 3, 4, 1, 0] rfl ?_
                exact ih37 z2 (k + 1) (by omega) (by rw [take_snoc hk, isCorA_snoc, ← e59, ← hi37_1, hz2]; split <;> split <;> omega) (by omega)
        refine x_sub (L' := [(0, .ref (B + 161)), (1, .int (zI (cc : Int))), (2, .int (zI what)), (3, .int (zI 0)), (4, .int (zI 0))]) [2, 3, 4, 1, 0] rfl ?_
        exact LOOP37 (_) 0 0 (by omega) (by rfl) (Nat.lt_succ_self _)
      · skip
        have h_26 := bI_t h_26
        refine x_ldc (pc := 29) (x := (-1000001)) (-1000001) K (by decide) (by decide +kernel) dX12_cell_29 ?_
        refine x_iret (pc := 31) K KR (by omega) (Nat.le_of_ble_eq_true rfl) (Nat.le_of_ble_eq_true rfl) dX12_cell_31 ?_
        exact ⟨rfl, (-1000001), (by first | exact Or.inl ⟨by omega, rfl⟩ | exact Or.inr (Or.inl ⟨by omega, by omega, rfl⟩) | exact Or.inr (Or.inr ⟨by omega, by omega, by simp only [Int.toNat_natCast]; split <;> (try split) <;> (try split) <;> first | rfl | assumption | omega⟩)), rfl, rfl⟩
  · skip
    refine x_ldc (pc := 7) (x := (-1000002)) (-1000002) K (by decide) (by decide +kernel) dX12_cell_7 ?_
    refine x_iret (pc := 9) K KR (by omega) (Nat.le_of_ble_eq_true rfl) (Nat.le_of_ble_eq_true rfl) dX12_cell_9 ?_
    exact ⟨rfl, (-1000002), (by first | exact Or.inl ⟨by omega, rfl⟩ | exact Or.inr (Or.inl ⟨by omega, by omega, rfl⟩) | exact Or.inr (Or.inr ⟨by omega, by omega, by simp only [Int.toNat_natCast]; split <;> (try split) <;> (try split) <;> first | rfl | assumption | omega⟩)), rfl, rfl⟩

set_option maxRecDepth 100000 in
set_option maxHeartbeats 4000000 in
theorem c_leave_242120 {E : XE} {B N : Nat} {v : Nat → va_E} {F tr : Nat → Int} {V : Int} (hc0 : Cel N v 161 (oM B F V)) (hc1 : Cel N v 170 (iarr E 16 tr)) (hq0 : 0 ≤ F 13 ∧ F 13 ≤ 13) : gM yX12_leave wsX12_leave ({ frames := 0, cells := 0, slots := 0, locals := 0 }) E B N v [.ref (B + 161), .long (zL 242120)] (po0 N (fun ρ v' => ∃ (n2 : Int), ∃ (tr2 : Nat → Int), (n2 = F 13 + 3) ∧ (tr2 = wrL tr (F 13).toNat [24, 21, 20]) ∧ ρ = none ∧ (va_up (va_up v 161 (oM B (va_up F 13 n2) V)) 170 (iarr E 16 tr2)) = v')) := by
  refine x_met (nm := "leave") (by decide +kernel) rfl (Nat.le_of_ble_eq_true rfl) rfl (fun Γ K KR hnL hnm => ?_)
  show XW Γ N v [(0, .ref (B + 161)), (1, .long (zL 242120))] 0 0 0 []
  refine x_v (cel_pad hc0) ?_
  refine x_v (cel_pad (cel_ne hc1 (by decide))) ?_
  refine x_lconst (pc := 0) (1) K (by decide) dX12_leave_0 ?_
  refine x_lstore_n (pc := 1) K (L' := [(3, .long (zL 1)), (0, .ref (B + 161)), (1, .long (zL 242120))]) hnL rfl (by decide) rfl dX12_leave_1 ?_
  refine x_lload_n (pc := 2) 0 K rfl rfl dX12_leave_2 ?_
  refine x_ldc2 (pc := 3) (x := (100)) (100) K (by decide) (by decide +kernel) dX12_leave_3 ?_
  refine x_lmul (pc := 6) K dX12_leave_6 ?_
  refine x_st (st' := [.long (zL 100)]) rfl ?_
  refine x_lload_n (pc := 7) 2 K rfl rfl dX12_leave_7 ?_
  refine x_lcmp (pc := 8) K (by omega) (by omega) dX12_leave_8 ?_
  refine x_if_gt (pc := 9) (tgt := 21) K (cmpZ_rng _ _) dX12_leave_9 (by decide) (fun h_9 => ?_) (fun h_9 => ?_)
  · skip
    have h_9 := cz_gt h_9
    exfalso; omega
  · skip
    have h_9 := cz_gt_n h_9
    refine x_lload_n (pc := 12) 0 K rfl rfl dX12_leave_12 ?_
    refine x_ldc2 (pc := 13) (x := (100)) (100) K (by decide) (by decide +kernel) dX12_leave_13 ?_
    refine x_lmul (pc := 16) K dX12_leave_16 ?_
    refine x_st (st' := [.long (zL 100)]) rfl ?_
    refine x_lstore_n (pc := 17) K (L' := [(3, .long (zL 100)), (0, .ref (B + 161)), (1, .long (zL 242120))]) hnL rfl (by decide) rfl dX12_leave_17 ?_
    refine x_goto (pc := 18) (tgt := 2) K dX12_leave_18 (by decide) ?_
    refine x_lload_n (pc := 2) 0 K rfl rfl dX12_leave_2 ?_
    refine x_ldc2 (pc := 3) (x := (100)) (100) K (by decide) (by decide +kernel) dX12_leave_3 ?_
    refine x_lmul (pc := 6) K dX12_leave_6 ?_
    refine x_st (st' := [.long (zL 10000)]) rfl ?_
    refine x_lload_n (pc := 7) 2 K rfl rfl dX12_leave_7 ?_
    refine x_lcmp (pc := 8) K (by omega) (by omega) dX12_leave_8 ?_
    refine x_if_gt (pc := 9) (tgt := 21) K (cmpZ_rng _ _) dX12_leave_9 (by decide) (fun h_9 => ?_) (fun h_9 => ?_)
    · skip
      have h_9 := cz_gt h_9
      exfalso; omega
    · skip
      have h_9 := cz_gt_n h_9
      refine x_lload_n (pc := 12) 0 K rfl rfl dX12_leave_12 ?_
      refine x_ldc2 (pc := 13) (x := (100)) (100) K (by decide) (by decide +kernel) dX12_leave_13 ?_
      refine x_lmul (pc := 16) K dX12_leave_16 ?_
      refine x_st (st' := [.long (zL 10000)]) rfl ?_
      refine x_lstore_n (pc := 17) K (L' := [(3, .long (zL 10000)), (0, .ref (B + 161)), (1, .long (zL 242120))]) hnL rfl (by decide) rfl dX12_leave_17 ?_
      refine x_goto (pc := 18) (tgt := 2) K dX12_leave_18 (by decide) ?_
      refine x_lload_n (pc := 2) 0 K rfl rfl dX12_leave_2 ?_
      refine x_ldc2 (pc := 3) (x := (100)) (100) K (by decide) (by decide +kernel) dX12_leave_3 ?_
      refine x_lmul (pc := 6) K dX12_leave_6 ?_
      refine x_st (st' := [.long (zL 1000000)]) rfl ?_
      refine x_lload_n (pc := 7) 2 K rfl rfl dX12_leave_7 ?_
      refine x_lcmp (pc := 8) K (by omega) (by omega) dX12_leave_8 ?_
      refine x_if_gt (pc := 9) (tgt := 21) K (cmpZ_rng _ _) dX12_leave_9 (by decide) (fun h_9 => ?_) (fun h_9 => ?_)
      · skip
        have h_9 := cz_gt h_9
        refine x_lload_n (pc := 21) 2 K rfl rfl dX12_leave_21 ?_
        refine x_lstore (pc := 22) K (L' := [(5, .long (zL 242120)), (3, .long (zL 10000)), (0, .ref (B + 161)), (1, .long (zL 242120))]) hnL (by decide) rfl dX12_leave_22 ?_
        refine x_lload_n (pc := 24) 1 K rfl rfl dX12_leave_24 ?_
        refine x_lconst (pc := 25) (0) K (by decide) dX12_leave_25 ?_
        refine x_lcmp (pc := 26) K (by omega) (by omega) dX12_leave_26 ?_
        refine x_if_le (pc := 27) (tgt := 69) K (cmpZ_rng _ _) dX12_leave_27 (by decide) (fun h_27 => ?_) (fun h_27 => ?_)
        · skip
          have h_27 := cz_le h_27
          exfalso; omega
        · skip
          have h_27 := cz_le_n h_27
          refine x_aload_n (pc := 30) 2 K rfl rfl dX12_leave_30 ?_
          refine x_get (pc := 31) (C := RX12) (T := TX12) (n := 26) (ci := 11) (idx := 35) (ref := "BorderBedsModel") (x := .ref (B + 170))  K (cel_ne (cel_self hc0.1) (by decide)) rfl (by decide +kernel) 14 (by decide) (by decide +kernel) rfl rfl dX12_leave_31 ?_
          refine x_aload_n (pc := 34) 2 K rfl rfl dX12_leave_34 ?_
          refine x_get (pc := 35) (C := RX12) (T := TX12) (n := 26) (ci := 11) (idx := 264) (ref := "BorderBedsModel") (x := .int (zI (F 13)))  K (cel_ne (cel_self hc0.1) (by decide)) rfl (by decide +kernel) 13 (by decide) (by decide +kernel) rfl rfl dX12_leave_35 ?_
          refine x_lload (pc := 38) 0 K rfl dX12_leave_38 ?_
          refine x_lload_n (pc := 40) 1 K rfl rfl dX12_leave_40 ?_
          refine x_ldivX (pc := 41) K (by decide +kernel) dX12_leave_41 ?_
          refine x_st (st' := [.long (zL 24), .int (zI (F 13)), .ref (B + 170)]) (by rw [show (zL 242120 / zL 10000) = zL 24 from by decide +kernel]) ?_
          refine x_l2i (pc := 42) K dX12_leave_42 ?_
          refine x_iast (pc := 43) (((F 13)).toNat) K (cel_self hc1.1) (by omega) (by omega) (by decide) dX12_leave_43 ?_
          refine x_v (w := (va_up (va_up v 161 (oM B F V)) 170 (iarr E 16 (va_up tr (((F 13)).toNat) 24)))) (up_at0).symm ?_
          refine x_lload (pc := 44) 0 K rfl dX12_leave_44 ?_
          refine x_lload_n (pc := 46) 1 K rfl rfl dX12_leave_46 ?_
          refine x_lremX (pc := 47) K (by decide +kernel) dX12_leave_47 ?_
          refine x_st (st' := [.long (zL 2120)]) (by rw [show (zL 242120 - zL 242120 / zL 10000 * zL 10000) = zL 2120 from by decide +kernel]) ?_
          refine x_lstore (pc := 48) K (L' := [(5, .long (zL 2120)), (3, .long (zL 10000)), (0, .ref (B + 161)), (1, .long (zL 242120))]) hnL (by decide) rfl dX12_leave_48 ?_
          refine x_aload_n (pc := 50) 2 K rfl rfl dX12_leave_50 ?_
          refine x_dup (pc := 51) K rfl dX12_leave_51 ?_
          refine x_get (pc := 52) (C := RX12) (T := TX12) (n := 26) (ci := 11) (idx := 264) (ref := "BorderBedsModel") (x := .int (zI (F 13)))  K (cel_ne (cel_self hc0.1) (by decide)) rfl (by decide +kernel) 13 (by decide) (by decide +kernel) rfl rfl dX12_leave_52 ?_
          refine x_iconst (pc := 55) K dX12_leave_55 ?_
          refine x_iadd (pc := 56) K dX12_leave_56 ?_
          refine x_put (pc := 57) (C := RX12) (T := TX12) (n := 26) (ci := 11) (idx := 264) (ref := "BorderBedsModel") (ty := .int)  K (cel_ne (cel_self hc0.1) (by decide)) rfl (by decide +kernel) tyX12 tyX12_ok nmX12 13 (by decide) (by decide +kernel) rfl rfl (by decide +kernel) rfl rfl (Nat.le_of_ble_eq_true rfl) dX12_leave_57 ?_
          refine x_v (w := (va_up (va_up v 161 (oM B (va_up F 13 ((F 13) + 1)) V)) 170 (iarr E 16 (va_up tr (((F 13)).toNat) 24)))) (up_at1 (by decide)).symm ?_
          refine x_lload_n (pc := 60) 1 K rfl rfl dX12_leave_60 ?_
          refine x_ldc2 (pc := 61) (x := (100)) (100) K (by decide) (by decide +kernel) dX12_leave_61 ?_
          refine x_ldivX (pc := 64) K (by decide +kernel) dX12_leave_64 ?_
          refine x_st (st' := [.long (zL 100)]) (by rw [show (zL 10000 / zL 100) = zL 100 from by decide +kernel]) ?_
          refine x_lstore_n (pc := 65) K (L' := [(3, .long (zL 100)), (5, .long (zL 2120)), (0, .ref (B + 161)), (1, .long (zL 242120))]) hnL rfl (by decide) rfl dX12_leave_65 ?_
          refine x_goto (pc := 66) (tgt := 24) K dX12_leave_66 (by decide) ?_
          refine x_lload_n (pc := 24) 0 K rfl rfl dX12_leave_24 ?_
          refine x_lconst (pc := 25) (0) K (by decide) dX12_leave_25 ?_
          refine x_lcmp (pc := 26) K (by omega) (by omega) dX12_leave_26 ?_
          refine x_if_le (pc := 27) (tgt := 69) K (cmpZ_rng _ _) dX12_leave_27 (by decide) (fun h_27 => ?_) (fun h_27 => ?_)
          · skip
            have h_27 := cz_le h_27
            exfalso; omega
          · skip
            have h_27 := cz_le_n h_27
            refine x_aload_n (pc := 30) 2 K rfl rfl dX12_leave_30 ?_
            refine x_get (pc := 31) (C := RX12) (T := TX12) (n := 26) (ci := 11) (idx := 35) (ref := "BorderBedsModel") (x := .ref (B + 170))  K (cel_ne (cel_self hc0.1) (by decide)) rfl (by decide +kernel) 14 (by decide) (by decide +kernel) rfl rfl dX12_leave_31 ?_
            refine x_aload_n (pc := 34) 2 K rfl rfl dX12_leave_34 ?_
            refine x_get (pc := 35) (C := RX12) (T := TX12) (n := 26) (ci := 11) (idx := 264) (ref := "BorderBedsModel") (x := .int (zI ((F 13) + 1)))  K (cel_ne (cel_self hc0.1) (by decide)) rfl (by decide +kernel) 13 (by decide) (by decide +kernel) rfl rfl dX12_leave_35 ?_
            refine x_lload (pc := 38) 1 K rfl dX12_leave_38 ?_
            refine x_lload_n (pc := 40) 0 K rfl rfl dX12_leave_40 ?_
            refine x_ldivX (pc := 41) K (by decide +kernel) dX12_leave_41 ?_
            refine x_st (st' := [.long (zL 21), .int (zI ((F 13) + 1)), .ref (B + 170)]) (by rw [show (zL 2120 / zL 100) = zL 21 from by decide +kernel]) ?_
            refine x_l2i (pc := 42) K dX12_leave_42 ?_
            refine x_iast (pc := 43) ((((F 13) + 1)).toNat) K (cel_self hc1.1) (by omega) (by omega) (by decide) dX12_leave_43 ?_
            refine x_v (w := (va_up (va_up v 161 (oM B (va_up F 13 ((F 13) + 1)) V)) 170 (iarr E 16 (va_up (va_up tr (((F 13)).toNat) 24) ((((F 13) + 1)).toNat) 21)))) (up_at0).symm ?_
            refine x_lload (pc := 44) 1 K rfl dX12_leave_44 ?_
            refine x_lload_n (pc := 46) 0 K rfl rfl dX12_leave_46 ?_
            refine x_lremX (pc := 47) K (by decide +kernel) dX12_leave_47 ?_
            refine x_st (st' := [.long (zL 20)]) (by rw [show (zL 2120 - zL 2120 / zL 100 * zL 100) = zL 20 from by decide +kernel]) ?_
            refine x_lstore (pc := 48) K (L' := [(5, .long (zL 20)), (3, .long (zL 100)), (0, .ref (B + 161)), (1, .long (zL 242120))]) hnL (by decide) rfl dX12_leave_48 ?_
            refine x_aload_n (pc := 50) 2 K rfl rfl dX12_leave_50 ?_
            refine x_dup (pc := 51) K rfl dX12_leave_51 ?_
            refine x_get (pc := 52) (C := RX12) (T := TX12) (n := 26) (ci := 11) (idx := 264) (ref := "BorderBedsModel") (x := .int (zI ((F 13) + 1)))  K (cel_ne (cel_self hc0.1) (by decide)) rfl (by decide +kernel) 13 (by decide) (by decide +kernel) rfl rfl dX12_leave_52 ?_
            refine x_iconst (pc := 55) K dX12_leave_55 ?_
            refine x_iadd (pc := 56) K dX12_leave_56 ?_
            refine x_put (pc := 57) (C := RX12) (T := TX12) (n := 26) (ci := 11) (idx := 264) (ref := "BorderBedsModel") (ty := .int)  K (cel_ne (cel_self hc0.1) (by decide)) rfl (by decide +kernel) tyX12 tyX12_ok nmX12 13 (by decide) (by decide +kernel) rfl rfl (by decide +kernel) rfl rfl (Nat.le_of_ble_eq_true rfl) dX12_leave_57 ?_
            refine x_v (w := (va_up (va_up v 161 (oM B (va_up F 13 (((F 13) + 1) + 1)) V)) 170 (iarr E 16 (va_up (va_up tr (((F 13)).toNat) 24) ((((F 13) + 1)).toNat) 21)))) (up_at1 (by decide)).symm ?_
            refine x_lload_n (pc := 60) 1 K rfl rfl dX12_leave_60 ?_
            refine x_ldc2 (pc := 61) (x := (100)) (100) K (by decide) (by decide +kernel) dX12_leave_61 ?_
            refine x_ldivX (pc := 64) K (by decide +kernel) dX12_leave_64 ?_
            refine x_st (st' := [.long (zL 1)]) (by rw [show (zL 100 / zL 100) = zL 1 from by decide +kernel]) ?_
            refine x_lstore_n (pc := 65) K (L' := [(3, .long (zL 1)), (5, .long (zL 20)), (0, .ref (B + 161)), (1, .long (zL 242120))]) hnL rfl (by decide) rfl dX12_leave_65 ?_
            refine x_goto (pc := 66) (tgt := 24) K dX12_leave_66 (by decide) ?_
            refine x_lload_n (pc := 24) 0 K rfl rfl dX12_leave_24 ?_
            refine x_lconst (pc := 25) (0) K (by decide) dX12_leave_25 ?_
            refine x_lcmp (pc := 26) K (by omega) (by omega) dX12_leave_26 ?_
            refine x_if_le (pc := 27) (tgt := 69) K (cmpZ_rng _ _) dX12_leave_27 (by decide) (fun h_27 => ?_) (fun h_27 => ?_)
            · skip
              have h_27 := cz_le h_27
              exfalso; omega
            · skip
              have h_27 := cz_le_n h_27
              refine x_aload_n (pc := 30) 2 K rfl rfl dX12_leave_30 ?_
              refine x_get (pc := 31) (C := RX12) (T := TX12) (n := 26) (ci := 11) (idx := 35) (ref := "BorderBedsModel") (x := .ref (B + 170))  K (cel_ne (cel_self hc0.1) (by decide)) rfl (by decide +kernel) 14 (by decide) (by decide +kernel) rfl rfl dX12_leave_31 ?_
              refine x_aload_n (pc := 34) 2 K rfl rfl dX12_leave_34 ?_
              refine x_get (pc := 35) (C := RX12) (T := TX12) (n := 26) (ci := 11) (idx := 264) (ref := "BorderBedsModel") (x := .int (zI (((F 13) + 1) + 1)))  K (cel_ne (cel_self hc0.1) (by decide)) rfl (by decide +kernel) 13 (by decide) (by decide +kernel) rfl rfl dX12_leave_35 ?_
              refine x_lload (pc := 38) 1 K rfl dX12_leave_38 ?_
              refine x_lload_n (pc := 40) 0 K rfl rfl dX12_leave_40 ?_
              refine x_ldivX (pc := 41) K (by decide +kernel) dX12_leave_41 ?_
              refine x_st (st' := [.long (zL 20), .int (zI (((F 13) + 1) + 1)), .ref (B + 170)]) (by rw [show (zL 20 / zL 1) = zL 20 from by decide +kernel]) ?_
              refine x_l2i (pc := 42) K dX12_leave_42 ?_
              refine x_iast (pc := 43) (((((F 13) + 1) + 1)).toNat) K (cel_self hc1.1) (by omega) (by omega) (by decide) dX12_leave_43 ?_
              refine x_v (w := (va_up (va_up v 161 (oM B (va_up F 13 (((F 13) + 1) + 1)) V)) 170 (iarr E 16 (va_up (va_up (va_up tr (((F 13)).toNat) 24) ((((F 13) + 1)).toNat) 21) (((((F 13) + 1) + 1)).toNat) 20)))) (up_at0).symm ?_
              refine x_lload (pc := 44) 1 K rfl dX12_leave_44 ?_
              refine x_lload_n (pc := 46) 0 K rfl rfl dX12_leave_46 ?_
              refine x_lremX (pc := 47) K (by decide +kernel) dX12_leave_47 ?_
              refine x_st (st' := [.long (zL 0)]) (by rw [show (zL 20 - zL 20 / zL 1 * zL 1) = zL 0 from by decide +kernel]) ?_
              refine x_lstore (pc := 48) K (L' := [(5, .long (zL 0)), (3, .long (zL 1)), (0, .ref (B + 161)), (1, .long (zL 242120))]) hnL (by decide) rfl dX12_leave_48 ?_
              refine x_aload_n (pc := 50) 2 K rfl rfl dX12_leave_50 ?_
              refine x_dup (pc := 51) K rfl dX12_leave_51 ?_
              refine x_get (pc := 52) (C := RX12) (T := TX12) (n := 26) (ci := 11) (idx := 264) (ref := "BorderBedsModel") (x := .int (zI (((F 13) + 1) + 1)))  K (cel_ne (cel_self hc0.1) (by decide)) rfl (by decide +kernel) 13 (by decide) (by decide +kernel) rfl rfl dX12_leave_52 ?_
              refine x_iconst (pc := 55) K dX12_leave_55 ?_
              refine x_iadd (pc := 56) K dX12_leave_56 ?_
              refine x_put (pc := 57) (C := RX12) (T := TX12) (n := 26) (ci := 11) (idx := 264) (ref := "BorderBedsModel") (ty := .int)  K (cel_ne (cel_self hc0.1) (by decide)) rfl (by decide +kernel) tyX12 tyX12_ok nmX12 13 (by decide) (by decide +kernel) rfl rfl (by decide +kernel) rfl rfl (Nat.le_of_ble_eq_true rfl) dX12_leave_57 ?_
              refine x_v (w := (va_up (va_up v 161 (oM B (va_up F 13 ((((F 13) + 1) + 1) + 1)) V)) 170 (iarr E 16 (va_up (va_up (va_up tr (((F 13)).toNat) 24) ((((F 13) + 1)).toNat) 21) (((((F 13) + 1) + 1)).toNat) 20)))) (up_at1 (by decide)).symm ?_
              refine x_lload_n (pc := 60) 1 K rfl rfl dX12_leave_60 ?_
              refine x_ldc2 (pc := 61) (x := (100)) (100) K (by decide) (by decide +kernel) dX12_leave_61 ?_
              refine x_ldivX (pc := 64) K (by decide +kernel) dX12_leave_64 ?_
              refine x_st (st' := [.long (zL 0)]) (by rw [show (zL 1 / zL 100) = zL 0 from by decide +kernel]) ?_
              refine x_lstore_n (pc := 65) K (L' := [(3, .long (zL 0)), (5, .long (zL 0)), (0, .ref (B + 161)), (1, .long (zL 242120))]) hnL rfl (by decide) rfl dX12_leave_65 ?_
              refine x_goto (pc := 66) (tgt := 24) K dX12_leave_66 (by decide) ?_
              refine x_lload_n (pc := 24) 0 K rfl rfl dX12_leave_24 ?_
              refine x_lconst (pc := 25) (0) K (by decide) dX12_leave_25 ?_
              refine x_lcmp (pc := 26) K (by omega) (by omega) dX12_leave_26 ?_
              refine x_if_le (pc := 27) (tgt := 69) K (cmpZ_rng _ _) dX12_leave_27 (by decide) (fun h_27 => ?_) (fun h_27 => ?_)
              · skip
                have h_27 := cz_le h_27
                refine x_vret (pc := 69) K KR (by omega) (Nat.le_of_ble_eq_true rfl) (Nat.le_of_ble_eq_true rfl) dX12_leave_69 ?_
                have hn : (F 13 + 1).toNat = (F 13).toNat + 1 ∧ (F 13 + 1 + 1).toNat = (F 13).toNat + 2 := by omega
                exact ⟨rfl, ((((F 13) + 1) + 1) + 1), (va_up (va_up (va_up tr (((F 13)).toNat) 24) ((((F 13) + 1)).toNat) 21) (((((F 13) + 1) + 1)).toNat) 20), (by omega), (by unfold wrL wrL wrL; simp only [hn, wrL]), rfl, rfl⟩
              · skip
                have h_27 := cz_le_n h_27
                exfalso; omega
      · skip
        have h_9 := cz_gt_n h_9
        exfalso; omega

set_option maxRecDepth 100000 in
set_option maxHeartbeats 4000000 in
theorem c_leave_222120 {E : XE} {B N : Nat} {v : Nat → va_E} {F tr : Nat → Int} {V : Int} (hc0 : Cel N v 161 (oM B F V)) (hc1 : Cel N v 170 (iarr E 16 tr)) (hq0 : 0 ≤ F 13 ∧ F 13 ≤ 13) : gM yX12_leave wsX12_leave ({ frames := 0, cells := 0, slots := 0, locals := 0 }) E B N v [.ref (B + 161), .long (zL 222120)] (po0 N (fun ρ v' => ∃ (n2 : Int), ∃ (tr2 : Nat → Int), (n2 = F 13 + 3) ∧ (tr2 = wrL tr (F 13).toNat [22, 21, 20]) ∧ ρ = none ∧ (va_up (va_up v 161 (oM B (va_up F 13 n2) V)) 170 (iarr E 16 tr2)) = v')) := by
  refine x_met (nm := "leave") (by decide +kernel) rfl (Nat.le_of_ble_eq_true rfl) rfl (fun Γ K KR hnL hnm => ?_)
  show XW Γ N v [(0, .ref (B + 161)), (1, .long (zL 222120))] 0 0 0 []
  refine x_v (cel_pad hc0) ?_
  refine x_v (cel_pad (cel_ne hc1 (by decide))) ?_
  refine x_lconst (pc := 0) (1) K (by decide) dX12_leave_0 ?_
  refine x_lstore_n (pc := 1) K (L' := [(3, .long (zL 1)), (0, .ref (B + 161)), (1, .long (zL 222120))]) hnL rfl (by decide) rfl dX12_leave_1 ?_
  refine x_lload_n (pc := 2) 0 K rfl rfl dX12_leave_2 ?_
  refine x_ldc2 (pc := 3) (x := (100)) (100) K (by decide) (by decide +kernel) dX12_leave_3 ?_
  refine x_lmul (pc := 6) K dX12_leave_6 ?_
  refine x_st (st' := [.long (zL 100)]) rfl ?_
  refine x_lload_n (pc := 7) 2 K rfl rfl dX12_leave_7 ?_
  refine x_lcmp (pc := 8) K (by omega) (by omega) dX12_leave_8 ?_
  refine x_if_gt (pc := 9) (tgt := 21) K (cmpZ_rng _ _) dX12_leave_9 (by decide) (fun h_9 => ?_) (fun h_9 => ?_)
  · skip
    have h_9 := cz_gt h_9
    exfalso; omega
  · skip
    have h_9 := cz_gt_n h_9
    refine x_lload_n (pc := 12) 0 K rfl rfl dX12_leave_12 ?_
    refine x_ldc2 (pc := 13) (x := (100)) (100) K (by decide) (by decide +kernel) dX12_leave_13 ?_
    refine x_lmul (pc := 16) K dX12_leave_16 ?_
    refine x_st (st' := [.long (zL 100)]) rfl ?_
    refine x_lstore_n (pc := 17) K (L' := [(3, .long (zL 100)), (0, .ref (B + 161)), (1, .long (zL 222120))]) hnL rfl (by decide) rfl dX12_leave_17 ?_
    refine x_goto (pc := 18) (tgt := 2) K dX12_leave_18 (by decide) ?_
    refine x_lload_n (pc := 2) 0 K rfl rfl dX12_leave_2 ?_
    refine x_ldc2 (pc := 3) (x := (100)) (100) K (by decide) (by decide +kernel) dX12_leave_3 ?_
    refine x_lmul (pc := 6) K dX12_leave_6 ?_
    refine x_st (st' := [.long (zL 10000)]) rfl ?_
    refine x_lload_n (pc := 7) 2 K rfl rfl dX12_leave_7 ?_
    refine x_lcmp (pc := 8) K (by omega) (by omega) dX12_leave_8 ?_
    refine x_if_gt (pc := 9) (tgt := 21) K (cmpZ_rng _ _) dX12_leave_9 (by decide) (fun h_9 => ?_) (fun h_9 => ?_)
    · skip
      have h_9 := cz_gt h_9
      exfalso; omega
    · skip
      have h_9 := cz_gt_n h_9
      refine x_lload_n (pc := 12) 0 K rfl rfl dX12_leave_12 ?_
      refine x_ldc2 (pc := 13) (x := (100)) (100) K (by decide) (by decide +kernel) dX12_leave_13 ?_
      refine x_lmul (pc := 16) K dX12_leave_16 ?_
      refine x_st (st' := [.long (zL 10000)]) rfl ?_
      refine x_lstore_n (pc := 17) K (L' := [(3, .long (zL 10000)), (0, .ref (B + 161)), (1, .long (zL 222120))]) hnL rfl (by decide) rfl dX12_leave_17 ?_
      refine x_goto (pc := 18) (tgt := 2) K dX12_leave_18 (by decide) ?_
      refine x_lload_n (pc := 2) 0 K rfl rfl dX12_leave_2 ?_
      refine x_ldc2 (pc := 3) (x := (100)) (100) K (by decide) (by decide +kernel) dX12_leave_3 ?_
      refine x_lmul (pc := 6) K dX12_leave_6 ?_
      refine x_st (st' := [.long (zL 1000000)]) rfl ?_
      refine x_lload_n (pc := 7) 2 K rfl rfl dX12_leave_7 ?_
      refine x_lcmp (pc := 8) K (by omega) (by omega) dX12_leave_8 ?_
      refine x_if_gt (pc := 9) (tgt := 21) K (cmpZ_rng _ _) dX12_leave_9 (by decide) (fun h_9 => ?_) (fun h_9 => ?_)
      · skip
        have h_9 := cz_gt h_9
        refine x_lload_n (pc := 21) 2 K rfl rfl dX12_leave_21 ?_
        refine x_lstore (pc := 22) K (L' := [(5, .long (zL 222120)), (3, .long (zL 10000)), (0, .ref (B + 161)), (1, .long (zL 222120))]) hnL (by decide) rfl dX12_leave_22 ?_
        refine x_lload_n (pc := 24) 1 K rfl rfl dX12_leave_24 ?_
        refine x_lconst (pc := 25) (0) K (by decide) dX12_leave_25 ?_
        refine x_lcmp (pc := 26) K (by omega) (by omega) dX12_leave_26 ?_
        refine x_if_le (pc := 27) (tgt := 69) K (cmpZ_rng _ _) dX12_leave_27 (by decide) (fun h_27 => ?_) (fun h_27 => ?_)
        · skip
          have h_27 := cz_le h_27
          exfalso; omega
        · skip
          have h_27 := cz_le_n h_27
          refine x_aload_n (pc := 30) 2 K rfl rfl dX12_leave_30 ?_
          refine x_get (pc := 31) (C := RX12) (T := TX12) (n := 26) (ci := 11) (idx := 35) (ref := "BorderBedsModel") (x := .ref (B + 170))  K (cel_ne (cel_self hc0.1) (by decide)) rfl (by decide +kernel) 14 (by decide) (by decide +kernel) rfl rfl dX12_leave_31 ?_
          refine x_aload_n (pc := 34) 2 K rfl rfl dX12_leave_34 ?_
          refine x_get (pc := 35) (C := RX12) (T := TX12) (n := 26) (ci := 11) (idx := 264) (ref := "BorderBedsModel") (x := .int (zI (F 13)))  K (cel_ne (cel_self hc0.1) (by decide)) rfl (by decide +kernel) 13 (by decide) (by decide +kernel) rfl rfl dX12_leave_35 ?_
          refine x_lload (pc := 38) 0 K rfl dX12_leave_38 ?_
          refine x_lload_n (pc := 40) 1 K rfl rfl dX12_leave_40 ?_
          refine x_ldivX (pc := 41) K (by decide +kernel) dX12_leave_41 ?_
          refine x_st (st' := [.long (zL 22), .int (zI (F 13)), .ref (B + 170)]) (by rw [show (zL 222120 / zL 10000) = zL 22 from by decide +kernel]) ?_
          refine x_l2i (pc := 42) K dX12_leave_42 ?_
          refine x_iast (pc := 43) (((F 13)).toNat) K (cel_self hc1.1) (by omega) (by omega) (by decide) dX12_leave_43 ?_
          refine x_v (w := (va_up (va_up v 161 (oM B F V)) 170 (iarr E 16 (va_up tr (((F 13)).toNat) 22)))) (up_at0).symm ?_
          refine x_lload (pc := 44) 0 K rfl dX12_leave_44 ?_
          refine x_lload_n (pc := 46) 1 K rfl rfl dX12_leave_46 ?_
          refine x_lremX (pc := 47) K (by decide +kernel) dX12_leave_47 ?_
          refine x_st (st' := [.long (zL 2120)]) (by rw [show (zL 222120 - zL 222120 / zL 10000 * zL 10000) = zL 2120 from by decide +kernel]) ?_
          refine x_lstore (pc := 48) K (L' := [(5, .long (zL 2120)), (3, .long (zL 10000)), (0, .ref (B + 161)), (1, .long (zL 222120))]) hnL (by decide) rfl dX12_leave_48 ?_
          refine x_aload_n (pc := 50) 2 K rfl rfl dX12_leave_50 ?_
          refine x_dup (pc := 51) K rfl dX12_leave_51 ?_
          refine x_get (pc := 52) (C := RX12) (T := TX12) (n := 26) (ci := 11) (idx := 264) (ref := "BorderBedsModel") (x := .int (zI (F 13)))  K (cel_ne (cel_self hc0.1) (by decide)) rfl (by decide +kernel) 13 (by decide) (by decide +kernel) rfl rfl dX12_leave_52 ?_
          refine x_iconst (pc := 55) K dX12_leave_55 ?_
          refine x_iadd (pc := 56) K dX12_leave_56 ?_
          refine x_put (pc := 57) (C := RX12) (T := TX12) (n := 26) (ci := 11) (idx := 264) (ref := "BorderBedsModel") (ty := .int)  K (cel_ne (cel_self hc0.1) (by decide)) rfl (by decide +kernel) tyX12 tyX12_ok nmX12 13 (by decide) (by decide +kernel) rfl rfl (by decide +kernel) rfl rfl (Nat.le_of_ble_eq_true rfl) dX12_leave_57 ?_
          refine x_v (w := (va_up (va_up v 161 (oM B (va_up F 13 ((F 13) + 1)) V)) 170 (iarr E 16 (va_up tr (((F 13)).toNat) 22)))) (up_at1 (by decide)).symm ?_
          refine x_lload_n (pc := 60) 1 K rfl rfl dX12_leave_60 ?_
          refine x_ldc2 (pc := 61) (x := (100)) (100) K (by decide) (by decide +kernel) dX12_leave_61 ?_
          refine x_ldivX (pc := 64) K (by decide +kernel) dX12_leave_64 ?_
          refine x_st (st' := [.long (zL 100)]) (by rw [show (zL 10000 / zL 100) = zL 100 from by decide +kernel]) ?_
          refine x_lstore_n (pc := 65) K (L' := [(3, .long (zL 100)), (5, .long (zL 2120)), (0, .ref (B + 161)), (1, .long (zL 222120))]) hnL rfl (by decide) rfl dX12_leave_65 ?_
          refine x_goto (pc := 66) (tgt := 24) K dX12_leave_66 (by decide) ?_
          refine x_lload_n (pc := 24) 0 K rfl rfl dX12_leave_24 ?_
          refine x_lconst (pc := 25) (0) K (by decide) dX12_leave_25 ?_
          refine x_lcmp (pc := 26) K (by omega) (by omega) dX12_leave_26 ?_
          refine x_if_le (pc := 27) (tgt := 69) K (cmpZ_rng _ _) dX12_leave_27 (by decide) (fun h_27 => ?_) (fun h_27 => ?_)
          · skip
            have h_27 := cz_le h_27
            exfalso; omega
          · skip
            have h_27 := cz_le_n h_27
            refine x_aload_n (pc := 30) 2 K rfl rfl dX12_leave_30 ?_
            refine x_get (pc := 31) (C := RX12) (T := TX12) (n := 26) (ci := 11) (idx := 35) (ref := "BorderBedsModel") (x := .ref (B + 170))  K (cel_ne (cel_self hc0.1) (by decide)) rfl (by decide +kernel) 14 (by decide) (by decide +kernel) rfl rfl dX12_leave_31 ?_
            refine x_aload_n (pc := 34) 2 K rfl rfl dX12_leave_34 ?_
            refine x_get (pc := 35) (C := RX12) (T := TX12) (n := 26) (ci := 11) (idx := 264) (ref := "BorderBedsModel") (x := .int (zI ((F 13) + 1)))  K (cel_ne (cel_self hc0.1) (by decide)) rfl (by decide +kernel) 13 (by decide) (by decide +kernel) rfl rfl dX12_leave_35 ?_
            refine x_lload (pc := 38) 1 K rfl dX12_leave_38 ?_
            refine x_lload_n (pc := 40) 0 K rfl rfl dX12_leave_40 ?_
            refine x_ldivX (pc := 41) K (by decide +kernel) dX12_leave_41 ?_
            refine x_st (st' := [.long (zL 21), .int (zI ((F 13) + 1)), .ref (B + 170)]) (by rw [show (zL 2120 / zL 100) = zL 21 from by decide +kernel]) ?_
            refine x_l2i (pc := 42) K dX12_leave_42 ?_
            refine x_iast (pc := 43) ((((F 13) + 1)).toNat) K (cel_self hc1.1) (by omega) (by omega) (by decide) dX12_leave_43 ?_
            refine x_v (w := (va_up (va_up v 161 (oM B (va_up F 13 ((F 13) + 1)) V)) 170 (iarr E 16 (va_up (va_up tr (((F 13)).toNat) 22) ((((F 13) + 1)).toNat) 21)))) (up_at0).symm ?_
            refine x_lload (pc := 44) 1 K rfl dX12_leave_44 ?_
            refine x_lload_n (pc := 46) 0 K rfl rfl dX12_leave_46 ?_
            refine x_lremX (pc := 47) K (by decide +kernel) dX12_leave_47 ?_
            refine x_st (st' := [.long (zL 20)]) (by rw [show (zL 2120 - zL 2120 / zL 100 * zL 100) = zL 20 from by decide +kernel]) ?_
            refine x_lstore (pc := 48) K (L' := [(5, .long (zL 20)), (3, .long (zL 100)), (0, .ref (B + 161)), (1, .long (zL 222120))]) hnL (by decide) rfl dX12_leave_48 ?_
            refine x_aload_n (pc := 50) 2 K rfl rfl dX12_leave_50 ?_
            refine x_dup (pc := 51) K rfl dX12_leave_51 ?_
            refine x_get (pc := 52) (C := RX12) (T := TX12) (n := 26) (ci := 11) (idx := 264) (ref := "BorderBedsModel") (x := .int (zI ((F 13) + 1)))  K (cel_ne (cel_self hc0.1) (by decide)) rfl (by decide +kernel) 13 (by decide) (by decide +kernel) rfl rfl dX12_leave_52 ?_
            refine x_iconst (pc := 55) K dX12_leave_55 ?_
            refine x_iadd (pc := 56) K dX12_leave_56 ?_
            refine x_put (pc := 57) (C := RX12) (T := TX12) (n := 26) (ci := 11) (idx := 264) (ref := "BorderBedsModel") (ty := .int)  K (cel_ne (cel_self hc0.1) (by decide)) rfl (by decide +kernel) tyX12 tyX12_ok nmX12 13 (by decide) (by decide +kernel) rfl rfl (by decide +kernel) rfl rfl (Nat.le_of_ble_eq_true rfl) dX12_leave_57 ?_
            refine x_v (w := (va_up (va_up v 161 (oM B (va_up F 13 (((F 13) + 1) + 1)) V)) 170 (iarr E 16 (va_up (va_up tr (((F 13)).toNat) 22) ((((F 13) + 1)).toNat) 21)))) (up_at1 (by decide)).symm ?_
            refine x_lload_n (pc := 60) 1 K rfl rfl dX12_leave_60 ?_
            refine x_ldc2 (pc := 61) (x := (100)) (100) K (by decide) (by decide +kernel) dX12_leave_61 ?_
            refine x_ldivX (pc := 64) K (by decide +kernel) dX12_leave_64 ?_
            refine x_st (st' := [.long (zL 1)]) (by rw [show (zL 100 / zL 100) = zL 1 from by decide +kernel]) ?_
            refine x_lstore_n (pc := 65) K (L' := [(3, .long (zL 1)), (5, .long (zL 20)), (0, .ref (B + 161)), (1, .long (zL 222120))]) hnL rfl (by decide) rfl dX12_leave_65 ?_
            refine x_goto (pc := 66) (tgt := 24) K dX12_leave_66 (by decide) ?_
            refine x_lload_n (pc := 24) 0 K rfl rfl dX12_leave_24 ?_
            refine x_lconst (pc := 25) (0) K (by decide) dX12_leave_25 ?_
            refine x_lcmp (pc := 26) K (by omega) (by omega) dX12_leave_26 ?_
            refine x_if_le (pc := 27) (tgt := 69) K (cmpZ_rng _ _) dX12_leave_27 (by decide) (fun h_27 => ?_) (fun h_27 => ?_)
            · skip
              have h_27 := cz_le h_27
              exfalso; omega
            · skip
              have h_27 := cz_le_n h_27
              refine x_aload_n (pc := 30) 2 K rfl rfl dX12_leave_30 ?_
              refine x_get (pc := 31) (C := RX12) (T := TX12) (n := 26) (ci := 11) (idx := 35) (ref := "BorderBedsModel") (x := .ref (B + 170))  K (cel_ne (cel_self hc0.1) (by decide)) rfl (by decide +kernel) 14 (by decide) (by decide +kernel) rfl rfl dX12_leave_31 ?_
              refine x_aload_n (pc := 34) 2 K rfl rfl dX12_leave_34 ?_
              refine x_get (pc := 35) (C := RX12) (T := TX12) (n := 26) (ci := 11) (idx := 264) (ref := "BorderBedsModel") (x := .int (zI (((F 13) + 1) + 1)))  K (cel_ne (cel_self hc0.1) (by decide)) rfl (by decide +kernel) 13 (by decide) (by decide +kernel) rfl rfl dX12_leave_35 ?_
              refine x_lload (pc := 38) 1 K rfl dX12_leave_38 ?_
              refine x_lload_n (pc := 40) 0 K rfl rfl dX12_leave_40 ?_
              refine x_ldivX (pc := 41) K (by decide +kernel) dX12_leave_41 ?_
              refine x_st (st' := [.long (zL 20), .int (zI (((F 13) + 1) + 1)), .ref (B + 170)]) (by rw [show (zL 20 / zL 1) = zL 20 from by decide +kernel]) ?_
              refine x_l2i (pc := 42) K dX12_leave_42 ?_
              refine x_iast (pc := 43) (((((F 13) + 1) + 1)).toNat) K (cel_self hc1.1) (by omega) (by omega) (by decide) dX12_leave_43 ?_
              refine x_v (w := (va_up (va_up v 161 (oM B (va_up F 13 (((F 13) + 1) + 1)) V)) 170 (iarr E 16 (va_up (va_up (va_up tr (((F 13)).toNat) 22) ((((F 13) + 1)).toNat) 21) (((((F 13) + 1) + 1)).toNat) 20)))) (up_at0).symm ?_
              refine x_lload (pc := 44) 1 K rfl dX12_leave_44 ?_
              refine x_lload_n (pc := 46) 0 K rfl rfl dX12_leave_46 ?_
              refine x_lremX (pc := 47) K (by decide +kernel) dX12_leave_47 ?_
              refine x_st (st' := [.long (zL 0)]) (by rw [show (zL 20 - zL 20 / zL 1 * zL 1) = zL 0 from by decide +kernel]) ?_
              refine x_lstore (pc := 48) K (L' := [(5, .long (zL 0)), (3, .long (zL 1)), (0, .ref (B + 161)), (1, .long (zL 222120))]) hnL (by decide) rfl dX12_leave_48 ?_
              refine x_aload_n (pc := 50) 2 K rfl rfl dX12_leave_50 ?_
              refine x_dup (pc := 51) K rfl dX12_leave_51 ?_
              refine x_get (pc := 52) (C := RX12) (T := TX12) (n := 26) (ci := 11) (idx := 264) (ref := "BorderBedsModel") (x := .int (zI (((F 13) + 1) + 1)))  K (cel_ne (cel_self hc0.1) (by decide)) rfl (by decide +kernel) 13 (by decide) (by decide +kernel) rfl rfl dX12_leave_52 ?_
              refine x_iconst (pc := 55) K dX12_leave_55 ?_
              refine x_iadd (pc := 56) K dX12_leave_56 ?_
              refine x_put (pc := 57) (C := RX12) (T := TX12) (n := 26) (ci := 11) (idx := 264) (ref := "BorderBedsModel") (ty := .int)  K (cel_ne (cel_self hc0.1) (by decide)) rfl (by decide +kernel) tyX12 tyX12_ok nmX12 13 (by decide) (by decide +kernel) rfl rfl (by decide +kernel) rfl rfl (Nat.le_of_ble_eq_true rfl) dX12_leave_57 ?_
              refine x_v (w := (va_up (va_up v 161 (oM B (va_up F 13 ((((F 13) + 1) + 1) + 1)) V)) 170 (iarr E 16 (va_up (va_up (va_up tr (((F 13)).toNat) 22) ((((F 13) + 1)).toNat) 21) (((((F 13) + 1) + 1)).toNat) 20)))) (up_at1 (by decide)).symm ?_
              refine x_lload_n (pc := 60) 1 K rfl rfl dX12_leave_60 ?_
              refine x_ldc2 (pc := 61) (x := (100)) (100) K (by decide) (by decide +kernel) dX12_leave_61 ?_
              refine x_ldivX (pc := 64) K (by decide +kernel) dX12_leave_64 ?_
              refine x_st (st' := [.long (zL 0)]) (by rw [show (zL 1 / zL 100) = zL 0 from by decide +kernel]) ?_
              refine x_lstore_n (pc := 65) K (L' := [(3, .long (zL 0)), (5, .long (zL 0)), (0, .ref (B + 161)), (1, .long (zL 222120))]) hnL rfl (by decide) rfl dX12_leave_65 ?_
              refine x_goto (pc := 66) (tgt := 24) K dX12_leave_66 (by decide) ?_
              refine x_lload_n (pc := 24) 0 K rfl rfl dX12_leave_24 ?_
              refine x_lconst (pc := 25) (0) K (by decide) dX12_leave_25 ?_
              refine x_lcmp (pc := 26) K (by omega) (by omega) dX12_leave_26 ?_
              refine x_if_le (pc := 27) (tgt := 69) K (cmpZ_rng _ _) dX12_leave_27 (by decide) (fun h_27 => ?_) (fun h_27 => ?_)
              · skip
                have h_27 := cz_le h_27
                refine x_vret (pc := 69) K KR (by omega) (Nat.le_of_ble_eq_true rfl) (Nat.le_of_ble_eq_true rfl) dX12_leave_69 ?_
                have hn : (F 13 + 1).toNat = (F 13).toNat + 1 ∧ (F 13 + 1 + 1).toNat = (F 13).toNat + 2 := by omega
                exact ⟨rfl, ((((F 13) + 1) + 1) + 1), (va_up (va_up (va_up tr (((F 13)).toNat) 22) ((((F 13) + 1)).toNat) 21) (((((F 13) + 1) + 1)).toNat) 20), (by omega), (by unfold wrL wrL wrL; simp only [hn, wrL]), rfl, rfl⟩
              · skip
                have h_27 := cz_le_n h_27
                exfalso; omega
      · skip
        have h_9 := cz_gt_n h_9
        exfalso; omega

set_option maxRecDepth 100000 in
set_option maxHeartbeats 4000000 in
theorem c_leave_2120 {E : XE} {B N : Nat} {v : Nat → va_E} {F tr : Nat → Int} {V : Int} (hc0 : Cel N v 161 (oM B F V)) (hc1 : Cel N v 170 (iarr E 16 tr)) (hq0 : 0 ≤ F 13 ∧ F 13 ≤ 13) : gM yX12_leave wsX12_leave ({ frames := 0, cells := 0, slots := 0, locals := 0 }) E B N v [.ref (B + 161), .long (zL 2120)] (po0 N (fun ρ v' => ∃ (n2 : Int), ∃ (tr2 : Nat → Int), (n2 = F 13 + 2) ∧ (tr2 = wrL tr (F 13).toNat [21, 20]) ∧ ρ = none ∧ (va_up (va_up v 161 (oM B (va_up F 13 n2) V)) 170 (iarr E 16 tr2)) = v')) := by
  refine x_met (nm := "leave") (by decide +kernel) rfl (Nat.le_of_ble_eq_true rfl) rfl (fun Γ K KR hnL hnm => ?_)
  show XW Γ N v [(0, .ref (B + 161)), (1, .long (zL 2120))] 0 0 0 []
  refine x_v (cel_pad hc0) ?_
  refine x_v (cel_pad (cel_ne hc1 (by decide))) ?_
  refine x_lconst (pc := 0) (1) K (by decide) dX12_leave_0 ?_
  refine x_lstore_n (pc := 1) K (L' := [(3, .long (zL 1)), (0, .ref (B + 161)), (1, .long (zL 2120))]) hnL rfl (by decide) rfl dX12_leave_1 ?_
  refine x_lload_n (pc := 2) 0 K rfl rfl dX12_leave_2 ?_
  refine x_ldc2 (pc := 3) (x := (100)) (100) K (by decide) (by decide +kernel) dX12_leave_3 ?_
  refine x_lmul (pc := 6) K dX12_leave_6 ?_
  refine x_st (st' := [.long (zL 100)]) rfl ?_
  refine x_lload_n (pc := 7) 2 K rfl rfl dX12_leave_7 ?_
  refine x_lcmp (pc := 8) K (by omega) (by omega) dX12_leave_8 ?_
  refine x_if_gt (pc := 9) (tgt := 21) K (cmpZ_rng _ _) dX12_leave_9 (by decide) (fun h_9 => ?_) (fun h_9 => ?_)
  · skip
    have h_9 := cz_gt h_9
    exfalso; omega
  · skip
    have h_9 := cz_gt_n h_9
    refine x_lload_n (pc := 12) 0 K rfl rfl dX12_leave_12 ?_
    refine x_ldc2 (pc := 13) (x := (100)) (100) K (by decide) (by decide +kernel) dX12_leave_13 ?_
    refine x_lmul (pc := 16) K dX12_leave_16 ?_
    refine x_st (st' := [.long (zL 100)]) rfl ?_
    refine x_lstore_n (pc := 17) K (L' := [(3, .long (zL 100)), (0, .ref (B + 161)), (1, .long (zL 2120))]) hnL rfl (by decide) rfl dX12_leave_17 ?_
    refine x_goto (pc := 18) (tgt := 2) K dX12_leave_18 (by decide) ?_
    refine x_lload_n (pc := 2) 0 K rfl rfl dX12_leave_2 ?_
    refine x_ldc2 (pc := 3) (x := (100)) (100) K (by decide) (by decide +kernel) dX12_leave_3 ?_
    refine x_lmul (pc := 6) K dX12_leave_6 ?_
    refine x_st (st' := [.long (zL 10000)]) rfl ?_
    refine x_lload_n (pc := 7) 2 K rfl rfl dX12_leave_7 ?_
    refine x_lcmp (pc := 8) K (by omega) (by omega) dX12_leave_8 ?_
    refine x_if_gt (pc := 9) (tgt := 21) K (cmpZ_rng _ _) dX12_leave_9 (by decide) (fun h_9 => ?_) (fun h_9 => ?_)
    · skip
      have h_9 := cz_gt h_9
      refine x_lload_n (pc := 21) 2 K rfl rfl dX12_leave_21 ?_
      refine x_lstore (pc := 22) K (L' := [(5, .long (zL 2120)), (3, .long (zL 100)), (0, .ref (B + 161)), (1, .long (zL 2120))]) hnL (by decide) rfl dX12_leave_22 ?_
      refine x_lload_n (pc := 24) 1 K rfl rfl dX12_leave_24 ?_
      refine x_lconst (pc := 25) (0) K (by decide) dX12_leave_25 ?_
      refine x_lcmp (pc := 26) K (by omega) (by omega) dX12_leave_26 ?_
      refine x_if_le (pc := 27) (tgt := 69) K (cmpZ_rng _ _) dX12_leave_27 (by decide) (fun h_27 => ?_) (fun h_27 => ?_)
      · skip
        have h_27 := cz_le h_27
        exfalso; omega
      · skip
        have h_27 := cz_le_n h_27
        refine x_aload_n (pc := 30) 2 K rfl rfl dX12_leave_30 ?_
        refine x_get (pc := 31) (C := RX12) (T := TX12) (n := 26) (ci := 11) (idx := 35) (ref := "BorderBedsModel") (x := .ref (B + 170))  K (cel_ne (cel_self hc0.1) (by decide)) rfl (by decide +kernel) 14 (by decide) (by decide +kernel) rfl rfl dX12_leave_31 ?_
        refine x_aload_n (pc := 34) 2 K rfl rfl dX12_leave_34 ?_
        refine x_get (pc := 35) (C := RX12) (T := TX12) (n := 26) (ci := 11) (idx := 264) (ref := "BorderBedsModel") (x := .int (zI (F 13)))  K (cel_ne (cel_self hc0.1) (by decide)) rfl (by decide +kernel) 13 (by decide) (by decide +kernel) rfl rfl dX12_leave_35 ?_
        refine x_lload (pc := 38) 0 K rfl dX12_leave_38 ?_
        refine x_lload_n (pc := 40) 1 K rfl rfl dX12_leave_40 ?_
        refine x_ldivX (pc := 41) K (by decide +kernel) dX12_leave_41 ?_
        refine x_st (st' := [.long (zL 21), .int (zI (F 13)), .ref (B + 170)]) (by rw [show (zL 2120 / zL 100) = zL 21 from by decide +kernel]) ?_
        refine x_l2i (pc := 42) K dX12_leave_42 ?_
        refine x_iast (pc := 43) (((F 13)).toNat) K (cel_self hc1.1) (by omega) (by omega) (by decide) dX12_leave_43 ?_
        refine x_v (w := (va_up (va_up v 161 (oM B F V)) 170 (iarr E 16 (va_up tr (((F 13)).toNat) 21)))) (up_at0).symm ?_
        refine x_lload (pc := 44) 0 K rfl dX12_leave_44 ?_
        refine x_lload_n (pc := 46) 1 K rfl rfl dX12_leave_46 ?_
        refine x_lremX (pc := 47) K (by decide +kernel) dX12_leave_47 ?_
        refine x_st (st' := [.long (zL 20)]) (by rw [show (zL 2120 - zL 2120 / zL 100 * zL 100) = zL 20 from by decide +kernel]) ?_
        refine x_lstore (pc := 48) K (L' := [(5, .long (zL 20)), (3, .long (zL 100)), (0, .ref (B + 161)), (1, .long (zL 2120))]) hnL (by decide) rfl dX12_leave_48 ?_
        refine x_aload_n (pc := 50) 2 K rfl rfl dX12_leave_50 ?_
        refine x_dup (pc := 51) K rfl dX12_leave_51 ?_
        refine x_get (pc := 52) (C := RX12) (T := TX12) (n := 26) (ci := 11) (idx := 264) (ref := "BorderBedsModel") (x := .int (zI (F 13)))  K (cel_ne (cel_self hc0.1) (by decide)) rfl (by decide +kernel) 13 (by decide) (by decide +kernel) rfl rfl dX12_leave_52 ?_
        refine x_iconst (pc := 55) K dX12_leave_55 ?_
        refine x_iadd (pc := 56) K dX12_leave_56 ?_
        refine x_put (pc := 57) (C := RX12) (T := TX12) (n := 26) (ci := 11) (idx := 264) (ref := "BorderBedsModel") (ty := .int)  K (cel_ne (cel_self hc0.1) (by decide)) rfl (by decide +kernel) tyX12 tyX12_ok nmX12 13 (by decide) (by decide +kernel) rfl rfl (by decide +kernel) rfl rfl (Nat.le_of_ble_eq_true rfl) dX12_leave_57 ?_
        refine x_v (w := (va_up (va_up v 161 (oM B (va_up F 13 ((F 13) + 1)) V)) 170 (iarr E 16 (va_up tr (((F 13)).toNat) 21)))) (up_at1 (by decide)).symm ?_
        refine x_lload_n (pc := 60) 1 K rfl rfl dX12_leave_60 ?_
        refine x_ldc2 (pc := 61) (x := (100)) (100) K (by decide) (by decide +kernel) dX12_leave_61 ?_
        refine x_ldivX (pc := 64) K (by decide +kernel) dX12_leave_64 ?_
        refine x_st (st' := [.long (zL 1)]) (by rw [show (zL 100 / zL 100) = zL 1 from by decide +kernel]) ?_
        refine x_lstore_n (pc := 65) K (L' := [(3, .long (zL 1)), (5, .long (zL 20)), (0, .ref (B + 161)), (1, .long (zL 2120))]) hnL rfl (by decide) rfl dX12_leave_65 ?_
        refine x_goto (pc := 66) (tgt := 24) K dX12_leave_66 (by decide) ?_
        refine x_lload_n (pc := 24) 0 K rfl rfl dX12_leave_24 ?_
        refine x_lconst (pc := 25) (0) K (by decide) dX12_leave_25 ?_
        refine x_lcmp (pc := 26) K (by omega) (by omega) dX12_leave_26 ?_
        refine x_if_le (pc := 27) (tgt := 69) K (cmpZ_rng _ _) dX12_leave_27 (by decide) (fun h_27 => ?_) (fun h_27 => ?_)
        · skip
          have h_27 := cz_le h_27
          exfalso; omega
        · skip
          have h_27 := cz_le_n h_27
          refine x_aload_n (pc := 30) 2 K rfl rfl dX12_leave_30 ?_
          refine x_get (pc := 31) (C := RX12) (T := TX12) (n := 26) (ci := 11) (idx := 35) (ref := "BorderBedsModel") (x := .ref (B + 170))  K (cel_ne (cel_self hc0.1) (by decide)) rfl (by decide +kernel) 14 (by decide) (by decide +kernel) rfl rfl dX12_leave_31 ?_
          refine x_aload_n (pc := 34) 2 K rfl rfl dX12_leave_34 ?_
          refine x_get (pc := 35) (C := RX12) (T := TX12) (n := 26) (ci := 11) (idx := 264) (ref := "BorderBedsModel") (x := .int (zI ((F 13) + 1)))  K (cel_ne (cel_self hc0.1) (by decide)) rfl (by decide +kernel) 13 (by decide) (by decide +kernel) rfl rfl dX12_leave_35 ?_
          refine x_lload (pc := 38) 1 K rfl dX12_leave_38 ?_
          refine x_lload_n (pc := 40) 0 K rfl rfl dX12_leave_40 ?_
          refine x_ldivX (pc := 41) K (by decide +kernel) dX12_leave_41 ?_
          refine x_st (st' := [.long (zL 20), .int (zI ((F 13) + 1)), .ref (B + 170)]) (by rw [show (zL 20 / zL 1) = zL 20 from by decide +kernel]) ?_
          refine x_l2i (pc := 42) K dX12_leave_42 ?_
          refine x_iast (pc := 43) ((((F 13) + 1)).toNat) K (cel_self hc1.1) (by omega) (by omega) (by decide) dX12_leave_43 ?_
          refine x_v (w := (va_up (va_up v 161 (oM B (va_up F 13 ((F 13) + 1)) V)) 170 (iarr E 16 (va_up (va_up tr (((F 13)).toNat) 21) ((((F 13) + 1)).toNat) 20)))) (up_at0).symm ?_
          refine x_lload (pc := 44) 1 K rfl dX12_leave_44 ?_
          refine x_lload_n (pc := 46) 0 K rfl rfl dX12_leave_46 ?_
          refine x_lremX (pc := 47) K (by decide +kernel) dX12_leave_47 ?_
          refine x_st (st' := [.long (zL 0)]) (by rw [show (zL 20 - zL 20 / zL 1 * zL 1) = zL 0 from by decide +kernel]) ?_
          refine x_lstore (pc := 48) K (L' := [(5, .long (zL 0)), (3, .long (zL 1)), (0, .ref (B + 161)), (1, .long (zL 2120))]) hnL (by decide) rfl dX12_leave_48 ?_
          refine x_aload_n (pc := 50) 2 K rfl rfl dX12_leave_50 ?_
          refine x_dup (pc := 51) K rfl dX12_leave_51 ?_
          refine x_get (pc := 52) (C := RX12) (T := TX12) (n := 26) (ci := 11) (idx := 264) (ref := "BorderBedsModel") (x := .int (zI ((F 13) + 1)))  K (cel_ne (cel_self hc0.1) (by decide)) rfl (by decide +kernel) 13 (by decide) (by decide +kernel) rfl rfl dX12_leave_52 ?_
          refine x_iconst (pc := 55) K dX12_leave_55 ?_
          refine x_iadd (pc := 56) K dX12_leave_56 ?_
          refine x_put (pc := 57) (C := RX12) (T := TX12) (n := 26) (ci := 11) (idx := 264) (ref := "BorderBedsModel") (ty := .int)  K (cel_ne (cel_self hc0.1) (by decide)) rfl (by decide +kernel) tyX12 tyX12_ok nmX12 13 (by decide) (by decide +kernel) rfl rfl (by decide +kernel) rfl rfl (Nat.le_of_ble_eq_true rfl) dX12_leave_57 ?_
          refine x_v (w := (va_up (va_up v 161 (oM B (va_up F 13 (((F 13) + 1) + 1)) V)) 170 (iarr E 16 (va_up (va_up tr (((F 13)).toNat) 21) ((((F 13) + 1)).toNat) 20)))) (up_at1 (by decide)).symm ?_
          refine x_lload_n (pc := 60) 1 K rfl rfl dX12_leave_60 ?_
          refine x_ldc2 (pc := 61) (x := (100)) (100) K (by decide) (by decide +kernel) dX12_leave_61 ?_
          refine x_ldivX (pc := 64) K (by decide +kernel) dX12_leave_64 ?_
          refine x_st (st' := [.long (zL 0)]) (by rw [show (zL 1 / zL 100) = zL 0 from by decide +kernel]) ?_
          refine x_lstore_n (pc := 65) K (L' := [(3, .long (zL 0)), (5, .long (zL 0)), (0, .ref (B + 161)), (1, .long (zL 2120))]) hnL rfl (by decide) rfl dX12_leave_65 ?_
          refine x_goto (pc := 66) (tgt := 24) K dX12_leave_66 (by decide) ?_
          refine x_lload_n (pc := 24) 0 K rfl rfl dX12_leave_24 ?_
          refine x_lconst (pc := 25) (0) K (by decide) dX12_leave_25 ?_
          refine x_lcmp (pc := 26) K (by omega) (by omega) dX12_leave_26 ?_
          refine x_if_le (pc := 27) (tgt := 69) K (cmpZ_rng _ _) dX12_leave_27 (by decide) (fun h_27 => ?_) (fun h_27 => ?_)
          · skip
            have h_27 := cz_le h_27
            refine x_vret (pc := 69) K KR (by omega) (Nat.le_of_ble_eq_true rfl) (Nat.le_of_ble_eq_true rfl) dX12_leave_69 ?_
            have hn : (F 13 + 1).toNat = (F 13).toNat + 1 := by omega
            exact ⟨rfl, (((F 13) + 1) + 1), (va_up (va_up tr (((F 13)).toNat) 21) ((((F 13) + 1)).toNat) 20), (by omega), (by unfold wrL wrL wrL; simp only [hn, wrL]), rfl, rfl⟩
          · skip
            have h_27 := cz_le_n h_27
            exfalso; omega
    · skip
      have h_9 := cz_gt_n h_9
      exfalso; omega

set_option maxRecDepth 100000 in
set_option maxHeartbeats 4000000 in
theorem c_leave_141310 {E : XE} {B N : Nat} {v : Nat → va_E} {F tr : Nat → Int} {V : Int} (hc0 : Cel N v 161 (oM B F V)) (hc1 : Cel N v 170 (iarr E 16 tr)) (hq0 : 0 ≤ F 13 ∧ F 13 ≤ 13) : gM yX12_leave wsX12_leave ({ frames := 0, cells := 0, slots := 0, locals := 0 }) E B N v [.ref (B + 161), .long (zL 141310)] (po0 N (fun ρ v' => ∃ (n2 : Int), ∃ (tr2 : Nat → Int), (n2 = F 13 + 3) ∧ (tr2 = wrL tr (F 13).toNat [14, 13, 10]) ∧ ρ = none ∧ (va_up (va_up v 161 (oM B (va_up F 13 n2) V)) 170 (iarr E 16 tr2)) = v')) := by
  refine x_met (nm := "leave") (by decide +kernel) rfl (Nat.le_of_ble_eq_true rfl) rfl (fun Γ K KR hnL hnm => ?_)
  show XW Γ N v [(0, .ref (B + 161)), (1, .long (zL 141310))] 0 0 0 []
  refine x_v (cel_pad hc0) ?_
  refine x_v (cel_pad (cel_ne hc1 (by decide))) ?_
  refine x_lconst (pc := 0) (1) K (by decide) dX12_leave_0 ?_
  refine x_lstore_n (pc := 1) K (L' := [(3, .long (zL 1)), (0, .ref (B + 161)), (1, .long (zL 141310))]) hnL rfl (by decide) rfl dX12_leave_1 ?_
  refine x_lload_n (pc := 2) 0 K rfl rfl dX12_leave_2 ?_
  refine x_ldc2 (pc := 3) (x := (100)) (100) K (by decide) (by decide +kernel) dX12_leave_3 ?_
  refine x_lmul (pc := 6) K dX12_leave_6 ?_
  refine x_st (st' := [.long (zL 100)]) rfl ?_
  refine x_lload_n (pc := 7) 2 K rfl rfl dX12_leave_7 ?_
  refine x_lcmp (pc := 8) K (by omega) (by omega) dX12_leave_8 ?_
  refine x_if_gt (pc := 9) (tgt := 21) K (cmpZ_rng _ _) dX12_leave_9 (by decide) (fun h_9 => ?_) (fun h_9 => ?_)
  · skip
    have h_9 := cz_gt h_9
    exfalso; omega
  · skip
    have h_9 := cz_gt_n h_9
    refine x_lload_n (pc := 12) 0 K rfl rfl dX12_leave_12 ?_
    refine x_ldc2 (pc := 13) (x := (100)) (100) K (by decide) (by decide +kernel) dX12_leave_13 ?_
    refine x_lmul (pc := 16) K dX12_leave_16 ?_
    refine x_st (st' := [.long (zL 100)]) rfl ?_
    refine x_lstore_n (pc := 17) K (L' := [(3, .long (zL 100)), (0, .ref (B + 161)), (1, .long (zL 141310))]) hnL rfl (by decide) rfl dX12_leave_17 ?_
    refine x_goto (pc := 18) (tgt := 2) K dX12_leave_18 (by decide) ?_
    refine x_lload_n (pc := 2) 0 K rfl rfl dX12_leave_2 ?_
    refine x_ldc2 (pc := 3) (x := (100)) (100) K (by decide) (by decide +kernel) dX12_leave_3 ?_
    refine x_lmul (pc := 6) K dX12_leave_6 ?_
    refine x_st (st' := [.long (zL 10000)]) rfl ?_
    refine x_lload_n (pc := 7) 2 K rfl rfl dX12_leave_7 ?_
    refine x_lcmp (pc := 8) K (by omega) (by omega) dX12_leave_8 ?_
    refine x_if_gt (pc := 9) (tgt := 21) K (cmpZ_rng _ _) dX12_leave_9 (by decide) (fun h_9 => ?_) (fun h_9 => ?_)
    · skip
      have h_9 := cz_gt h_9
      exfalso; omega
    · skip
      have h_9 := cz_gt_n h_9
      refine x_lload_n (pc := 12) 0 K rfl rfl dX12_leave_12 ?_
      refine x_ldc2 (pc := 13) (x := (100)) (100) K (by decide) (by decide +kernel) dX12_leave_13 ?_
      refine x_lmul (pc := 16) K dX12_leave_16 ?_
      refine x_st (st' := [.long (zL 10000)]) rfl ?_
      refine x_lstore_n (pc := 17) K (L' := [(3, .long (zL 10000)), (0, .ref (B + 161)), (1, .long (zL 141310))]) hnL rfl (by decide) rfl dX12_leave_17 ?_
      refine x_goto (pc := 18) (tgt := 2) K dX12_leave_18 (by decide) ?_
      refine x_lload_n (pc := 2) 0 K rfl rfl dX12_leave_2 ?_
      refine x_ldc2 (pc := 3) (x := (100)) (100) K (by decide) (by decide +kernel) dX12_leave_3 ?_
      refine x_lmul (pc := 6) K dX12_leave_6 ?_
      refine x_st (st' := [.long (zL 1000000)]) rfl ?_
      refine x_lload_n (pc := 7) 2 K rfl rfl dX12_leave_7 ?_
      refine x_lcmp (pc := 8) K (by omega) (by omega) dX12_leave_8 ?_
      refine x_if_gt (pc := 9) (tgt := 21) K (cmpZ_rng _ _) dX12_leave_9 (by decide) (fun h_9 => ?_) (fun h_9 => ?_)
      · skip
        have h_9 := cz_gt h_9
        refine x_lload_n (pc := 21) 2 K rfl rfl dX12_leave_21 ?_
        refine x_lstore (pc := 22) K (L' := [(5, .long (zL 141310)), (3, .long (zL 10000)), (0, .ref (B + 161)), (1, .long (zL 141310))]) hnL (by decide) rfl dX12_leave_22 ?_
        refine x_lload_n (pc := 24) 1 K rfl rfl dX12_leave_24 ?_
        refine x_lconst (pc := 25) (0) K (by decide) dX12_leave_25 ?_
        refine x_lcmp (pc := 26) K (by omega) (by omega) dX12_leave_26 ?_
        refine x_if_le (pc := 27) (tgt := 69) K (cmpZ_rng _ _) dX12_leave_27 (by decide) (fun h_27 => ?_) (fun h_27 => ?_)
        · skip
          have h_27 := cz_le h_27
          exfalso; omega
        · skip
          have h_27 := cz_le_n h_27
          refine x_aload_n (pc := 30) 2 K rfl rfl dX12_leave_30 ?_
          refine x_get (pc := 31) (C := RX12) (T := TX12) (n := 26) (ci := 11) (idx := 35) (ref := "BorderBedsModel") (x := .ref (B + 170))  K (cel_ne (cel_self hc0.1) (by decide)) rfl (by decide +kernel) 14 (by decide) (by decide +kernel) rfl rfl dX12_leave_31 ?_
          refine x_aload_n (pc := 34) 2 K rfl rfl dX12_leave_34 ?_
          refine x_get (pc := 35) (C := RX12) (T := TX12) (n := 26) (ci := 11) (idx := 264) (ref := "BorderBedsModel") (x := .int (zI (F 13)))  K (cel_ne (cel_self hc0.1) (by decide)) rfl (by decide +kernel) 13 (by decide) (by decide +kernel) rfl rfl dX12_leave_35 ?_
          refine x_lload (pc := 38) 0 K rfl dX12_leave_38 ?_
          refine x_lload_n (pc := 40) 1 K rfl rfl dX12_leave_40 ?_
          refine x_ldivX (pc := 41) K (by decide +kernel) dX12_leave_41 ?_
          refine x_st (st' := [.long (zL 14), .int (zI (F 13)), .ref (B + 170)]) (by rw [show (zL 141310 / zL 10000) = zL 14 from by decide +kernel]) ?_
          refine x_l2i (pc := 42) K dX12_leave_42 ?_
          refine x_iast (pc := 43) (((F 13)).toNat) K (cel_self hc1.1) (by omega) (by omega) (by decide) dX12_leave_43 ?_
          refine x_v (w := (va_up (va_up v 161 (oM B F V)) 170 (iarr E 16 (va_up tr (((F 13)).toNat) 14)))) (up_at0).symm ?_
          refine x_lload (pc := 44) 0 K rfl dX12_leave_44 ?_
          refine x_lload_n (pc := 46) 1 K rfl rfl dX12_leave_46 ?_
          refine x_lremX (pc := 47) K (by decide +kernel) dX12_leave_47 ?_
          refine x_st (st' := [.long (zL 1310)]) (by rw [show (zL 141310 - zL 141310 / zL 10000 * zL 10000) = zL 1310 from by decide +kernel]) ?_
          refine x_lstore (pc := 48) K (L' := [(5, .long (zL 1310)), (3, .long (zL 10000)), (0, .ref (B + 161)), (1, .long (zL 141310))]) hnL (by decide) rfl dX12_leave_48 ?_
          refine x_aload_n (pc := 50) 2 K rfl rfl dX12_leave_50 ?_
          refine x_dup (pc := 51) K rfl dX12_leave_51 ?_
          refine x_get (pc := 52) (C := RX12) (T := TX12) (n := 26) (ci := 11) (idx := 264) (ref := "BorderBedsModel") (x := .int (zI (F 13)))  K (cel_ne (cel_self hc0.1) (by decide)) rfl (by decide +kernel) 13 (by decide) (by decide +kernel) rfl rfl dX12_leave_52 ?_
          refine x_iconst (pc := 55) K dX12_leave_55 ?_
          refine x_iadd (pc := 56) K dX12_leave_56 ?_
          refine x_put (pc := 57) (C := RX12) (T := TX12) (n := 26) (ci := 11) (idx := 264) (ref := "BorderBedsModel") (ty := .int)  K (cel_ne (cel_self hc0.1) (by decide)) rfl (by decide +kernel) tyX12 tyX12_ok nmX12 13 (by decide) (by decide +kernel) rfl rfl (by decide +kernel) rfl rfl (Nat.le_of_ble_eq_true rfl) dX12_leave_57 ?_
          refine x_v (w := (va_up (va_up v 161 (oM B (va_up F 13 ((F 13) + 1)) V)) 170 (iarr E 16 (va_up tr (((F 13)).toNat) 14)))) (up_at1 (by decide)).symm ?_
          refine x_lload_n (pc := 60) 1 K rfl rfl dX12_leave_60 ?_
          refine x_ldc2 (pc := 61) (x := (100)) (100) K (by decide) (by decide +kernel) dX12_leave_61 ?_
          refine x_ldivX (pc := 64) K (by decide +kernel) dX12_leave_64 ?_
          refine x_st (st' := [.long (zL 100)]) (by rw [show (zL 10000 / zL 100) = zL 100 from by decide +kernel]) ?_
          refine x_lstore_n (pc := 65) K (L' := [(3, .long (zL 100)), (5, .long (zL 1310)), (0, .ref (B + 161)), (1, .long (zL 141310))]) hnL rfl (by decide) rfl dX12_leave_65 ?_
          refine x_goto (pc := 66) (tgt := 24) K dX12_leave_66 (by decide) ?_
          refine x_lload_n (pc := 24) 0 K rfl rfl dX12_leave_24 ?_
          refine x_lconst (pc := 25) (0) K (by decide) dX12_leave_25 ?_
          refine x_lcmp (pc := 26) K (by omega) (by omega) dX12_leave_26 ?_
          refine x_if_le (pc := 27) (tgt := 69) K (cmpZ_rng _ _) dX12_leave_27 (by decide) (fun h_27 => ?_) (fun h_27 => ?_)
          · skip
            have h_27 := cz_le h_27
            exfalso; omega
          · skip
            have h_27 := cz_le_n h_27
            refine x_aload_n (pc := 30) 2 K rfl rfl dX12_leave_30 ?_
            refine x_get (pc := 31) (C := RX12) (T := TX12) (n := 26) (ci := 11) (idx := 35) (ref := "BorderBedsModel") (x := .ref (B + 170))  K (cel_ne (cel_self hc0.1) (by decide)) rfl (by decide +kernel) 14 (by decide) (by decide +kernel) rfl rfl dX12_leave_31 ?_
            refine x_aload_n (pc := 34) 2 K rfl rfl dX12_leave_34 ?_
            refine x_get (pc := 35) (C := RX12) (T := TX12) (n := 26) (ci := 11) (idx := 264) (ref := "BorderBedsModel") (x := .int (zI ((F 13) + 1)))  K (cel_ne (cel_self hc0.1) (by decide)) rfl (by decide +kernel) 13 (by decide) (by decide +kernel) rfl rfl dX12_leave_35 ?_
            refine x_lload (pc := 38) 1 K rfl dX12_leave_38 ?_
            refine x_lload_n (pc := 40) 0 K rfl rfl dX12_leave_40 ?_
            refine x_ldivX (pc := 41) K (by decide +kernel) dX12_leave_41 ?_
            refine x_st (st' := [.long (zL 13), .int (zI ((F 13) + 1)), .ref (B + 170)]) (by rw [show (zL 1310 / zL 100) = zL 13 from by decide +kernel]) ?_
            refine x_l2i (pc := 42) K dX12_leave_42 ?_
            refine x_iast (pc := 43) ((((F 13) + 1)).toNat) K (cel_self hc1.1) (by omega) (by omega) (by decide) dX12_leave_43 ?_
            refine x_v (w := (va_up (va_up v 161 (oM B (va_up F 13 ((F 13) + 1)) V)) 170 (iarr E 16 (va_up (va_up tr (((F 13)).toNat) 14) ((((F 13) + 1)).toNat) 13)))) (up_at0).symm ?_
            refine x_lload (pc := 44) 1 K rfl dX12_leave_44 ?_
            refine x_lload_n (pc := 46) 0 K rfl rfl dX12_leave_46 ?_
            refine x_lremX (pc := 47) K (by decide +kernel) dX12_leave_47 ?_
            refine x_st (st' := [.long (zL 10)]) (by rw [show (zL 1310 - zL 1310 / zL 100 * zL 100) = zL 10 from by decide +kernel]) ?_
            refine x_lstore (pc := 48) K (L' := [(5, .long (zL 10)), (3, .long (zL 100)), (0, .ref (B + 161)), (1, .long (zL 141310))]) hnL (by decide) rfl dX12_leave_48 ?_
            refine x_aload_n (pc := 50) 2 K rfl rfl dX12_leave_50 ?_
            refine x_dup (pc := 51) K rfl dX12_leave_51 ?_
            refine x_get (pc := 52) (C := RX12) (T := TX12) (n := 26) (ci := 11) (idx := 264) (ref := "BorderBedsModel") (x := .int (zI ((F 13) + 1)))  K (cel_ne (cel_self hc0.1) (by decide)) rfl (by decide +kernel) 13 (by decide) (by decide +kernel) rfl rfl dX12_leave_52 ?_
            refine x_iconst (pc := 55) K dX12_leave_55 ?_
            refine x_iadd (pc := 56) K dX12_leave_56 ?_
            refine x_put (pc := 57) (C := RX12) (T := TX12) (n := 26) (ci := 11) (idx := 264) (ref := "BorderBedsModel") (ty := .int)  K (cel_ne (cel_self hc0.1) (by decide)) rfl (by decide +kernel) tyX12 tyX12_ok nmX12 13 (by decide) (by decide +kernel) rfl rfl (by decide +kernel) rfl rfl (Nat.le_of_ble_eq_true rfl) dX12_leave_57 ?_
            refine x_v (w := (va_up (va_up v 161 (oM B (va_up F 13 (((F 13) + 1) + 1)) V)) 170 (iarr E 16 (va_up (va_up tr (((F 13)).toNat) 14) ((((F 13) + 1)).toNat) 13)))) (up_at1 (by decide)).symm ?_
            refine x_lload_n (pc := 60) 1 K rfl rfl dX12_leave_60 ?_
            refine x_ldc2 (pc := 61) (x := (100)) (100) K (by decide) (by decide +kernel) dX12_leave_61 ?_
            refine x_ldivX (pc := 64) K (by decide +kernel) dX12_leave_64 ?_
            refine x_st (st' := [.long (zL 1)]) (by rw [show (zL 100 / zL 100) = zL 1 from by decide +kernel]) ?_
            refine x_lstore_n (pc := 65) K (L' := [(3, .long (zL 1)), (5, .long (zL 10)), (0, .ref (B + 161)), (1, .long (zL 141310))]) hnL rfl (by decide) rfl dX12_leave_65 ?_
            refine x_goto (pc := 66) (tgt := 24) K dX12_leave_66 (by decide) ?_
            refine x_lload_n (pc := 24) 0 K rfl rfl dX12_leave_24 ?_
            refine x_lconst (pc := 25) (0) K (by decide) dX12_leave_25 ?_
            refine x_lcmp (pc := 26) K (by omega) (by omega) dX12_leave_26 ?_
            refine x_if_le (pc := 27) (tgt := 69) K (cmpZ_rng _ _) dX12_leave_27 (by decide) (fun h_27 => ?_) (fun h_27 => ?_)
            · skip
              have h_27 := cz_le h_27
              exfalso; omega
            · skip
              have h_27 := cz_le_n h_27
              refine x_aload_n (pc := 30) 2 K rfl rfl dX12_leave_30 ?_
              refine x_get (pc := 31) (C := RX12) (T := TX12) (n := 26) (ci := 11) (idx := 35) (ref := "BorderBedsModel") (x := .ref (B + 170))  K (cel_ne (cel_self hc0.1) (by decide)) rfl (by decide +kernel) 14 (by decide) (by decide +kernel) rfl rfl dX12_leave_31 ?_
              refine x_aload_n (pc := 34) 2 K rfl rfl dX12_leave_34 ?_
              refine x_get (pc := 35) (C := RX12) (T := TX12) (n := 26) (ci := 11) (idx := 264) (ref := "BorderBedsModel") (x := .int (zI (((F 13) + 1) + 1)))  K (cel_ne (cel_self hc0.1) (by decide)) rfl (by decide +kernel) 13 (by decide) (by decide +kernel) rfl rfl dX12_leave_35 ?_
              refine x_lload (pc := 38) 1 K rfl dX12_leave_38 ?_
              refine x_lload_n (pc := 40) 0 K rfl rfl dX12_leave_40 ?_
              refine x_ldivX (pc := 41) K (by decide +kernel) dX12_leave_41 ?_
              refine x_st (st' := [.long (zL 10), .int (zI (((F 13) + 1) + 1)), .ref (B + 170)]) (by rw [show (zL 10 / zL 1) = zL 10 from by decide +kernel]) ?_
              refine x_l2i (pc := 42) K dX12_leave_42 ?_
              refine x_iast (pc := 43) (((((F 13) + 1) + 1)).toNat) K (cel_self hc1.1) (by omega) (by omega) (by decide) dX12_leave_43 ?_
              refine x_v (w := (va_up (va_up v 161 (oM B (va_up F 13 (((F 13) + 1) + 1)) V)) 170 (iarr E 16 (va_up (va_up (va_up tr (((F 13)).toNat) 14) ((((F 13) + 1)).toNat) 13) (((((F 13) + 1) + 1)).toNat) 10)))) (up_at0).symm ?_
              refine x_lload (pc := 44) 1 K rfl dX12_leave_44 ?_
              refine x_lload_n (pc := 46) 0 K rfl rfl dX12_leave_46 ?_
              refine x_lremX (pc := 47) K (by decide +kernel) dX12_leave_47 ?_
              refine x_st (st' := [.long (zL 0)]) (by rw [show (zL 10 - zL 10 / zL 1 * zL 1) = zL 0 from by decide +kernel]) ?_
              refine x_lstore (pc := 48) K (L' := [(5, .long (zL 0)), (3, .long (zL 1)), (0, .ref (B + 161)), (1, .long (zL 141310))]) hnL (by decide) rfl dX12_leave_48 ?_
              refine x_aload_n (pc := 50) 2 K rfl rfl dX12_leave_50 ?_
              refine x_dup (pc := 51) K rfl dX12_leave_51 ?_
              refine x_get (pc := 52) (C := RX12) (T := TX12) (n := 26) (ci := 11) (idx := 264) (ref := "BorderBedsModel") (x := .int (zI (((F 13) + 1) + 1)))  K (cel_ne (cel_self hc0.1) (by decide)) rfl (by decide +kernel) 13 (by decide) (by decide +kernel) rfl rfl dX12_leave_52 ?_
              refine x_iconst (pc := 55) K dX12_leave_55 ?_
              refine x_iadd (pc := 56) K dX12_leave_56 ?_
              refine x_put (pc := 57) (C := RX12) (T := TX12) (n := 26) (ci := 11) (idx := 264) (ref := "BorderBedsModel") (ty := .int)  K (cel_ne (cel_self hc0.1) (by decide)) rfl (by decide +kernel) tyX12 tyX12_ok nmX12 13 (by decide) (by decide +kernel) rfl rfl (by decide +kernel) rfl rfl (Nat.le_of_ble_eq_true rfl) dX12_leave_57 ?_
              refine x_v (w := (va_up (va_up v 161 (oM B (va_up F 13 ((((F 13) + 1) + 1) + 1)) V)) 170 (iarr E 16 (va_up (va_up (va_up tr (((F 13)).toNat) 14) ((((F 13) + 1)).toNat) 13) (((((F 13) + 1) + 1)).toNat) 10)))) (up_at1 (by decide)).symm ?_
              refine x_lload_n (pc := 60) 1 K rfl rfl dX12_leave_60 ?_
              refine x_ldc2 (pc := 61) (x := (100)) (100) K (by decide) (by decide +kernel) dX12_leave_61 ?_
              refine x_ldivX (pc := 64) K (by decide +kernel) dX12_leave_64 ?_
              refine x_st (st' := [.long (zL 0)]) (by rw [show (zL 1 / zL 100) = zL 0 from by decide +kernel]) ?_
              refine x_lstore_n (pc := 65) K (L' := [(3, .long (zL 0)), (5, .long (zL 0)), (0, .ref (B + 161)), (1, .long (zL 141310))]) hnL rfl (by decide) rfl dX12_leave_65 ?_
              refine x_goto (pc := 66) (tgt := 24) K dX12_leave_66 (by decide) ?_
              refine x_lload_n (pc := 24) 0 K rfl rfl dX12_leave_24 ?_
              refine x_lconst (pc := 25) (0) K (by decide) dX12_leave_25 ?_
              refine x_lcmp (pc := 26) K (by omega) (by omega) dX12_leave_26 ?_
              refine x_if_le (pc := 27) (tgt := 69) K (cmpZ_rng _ _) dX12_leave_27 (by decide) (fun h_27 => ?_) (fun h_27 => ?_)
              · skip
                have h_27 := cz_le h_27
                refine x_vret (pc := 69) K KR (by omega) (Nat.le_of_ble_eq_true rfl) (Nat.le_of_ble_eq_true rfl) dX12_leave_69 ?_
                have hn : (F 13 + 1).toNat = (F 13).toNat + 1 ∧ (F 13 + 1 + 1).toNat = (F 13).toNat + 2 := by omega
                exact ⟨rfl, ((((F 13) + 1) + 1) + 1), (va_up (va_up (va_up tr (((F 13)).toNat) 14) ((((F 13) + 1)).toNat) 13) (((((F 13) + 1) + 1)).toNat) 10), (by omega), (by unfold wrL wrL wrL; simp only [hn, wrL]), rfl, rfl⟩
              · skip
                have h_27 := cz_le_n h_27
                exfalso; omega
      · skip
        have h_9 := cz_gt_n h_9
        exfalso; omega

set_option maxRecDepth 100000 in
set_option maxHeartbeats 4000000 in
theorem c_leave_1310 {E : XE} {B N : Nat} {v : Nat → va_E} {F tr : Nat → Int} {V : Int} (hc0 : Cel N v 161 (oM B F V)) (hc1 : Cel N v 170 (iarr E 16 tr)) (hq0 : 0 ≤ F 13 ∧ F 13 ≤ 13) : gM yX12_leave wsX12_leave ({ frames := 0, cells := 0, slots := 0, locals := 0 }) E B N v [.ref (B + 161), .long (zL 1310)] (po0 N (fun ρ v' => ∃ (n2 : Int), ∃ (tr2 : Nat → Int), (n2 = F 13 + 2) ∧ (tr2 = wrL tr (F 13).toNat [13, 10]) ∧ ρ = none ∧ (va_up (va_up v 161 (oM B (va_up F 13 n2) V)) 170 (iarr E 16 tr2)) = v')) := by
  refine x_met (nm := "leave") (by decide +kernel) rfl (Nat.le_of_ble_eq_true rfl) rfl (fun Γ K KR hnL hnm => ?_)
  show XW Γ N v [(0, .ref (B + 161)), (1, .long (zL 1310))] 0 0 0 []
  refine x_v (cel_pad hc0) ?_
  refine x_v (cel_pad (cel_ne hc1 (by decide))) ?_
  refine x_lconst (pc := 0) (1) K (by decide) dX12_leave_0 ?_
  refine x_lstore_n (pc := 1) K (L' := [(3, .long (zL 1)), (0, .ref (B + 161)), (1, .long (zL 1310))]) hnL rfl (by decide) rfl dX12_leave_1 ?_
  refine x_lload_n (pc := 2) 0 K rfl rfl dX12_leave_2 ?_
  refine x_ldc2 (pc := 3) (x := (100)) (100) K (by decide) (by decide +kernel) dX12_leave_3 ?_
  refine x_lmul (pc := 6) K dX12_leave_6 ?_
  refine x_st (st' := [.long (zL 100)]) rfl ?_
  refine x_lload_n (pc := 7) 2 K rfl rfl dX12_leave_7 ?_
  refine x_lcmp (pc := 8) K (by omega) (by omega) dX12_leave_8 ?_
  refine x_if_gt (pc := 9) (tgt := 21) K (cmpZ_rng _ _) dX12_leave_9 (by decide) (fun h_9 => ?_) (fun h_9 => ?_)
  · skip
    have h_9 := cz_gt h_9
    exfalso; omega
  · skip
    have h_9 := cz_gt_n h_9
    refine x_lload_n (pc := 12) 0 K rfl rfl dX12_leave_12 ?_
    refine x_ldc2 (pc := 13) (x := (100)) (100) K (by decide) (by decide +kernel) dX12_leave_13 ?_
    refine x_lmul (pc := 16) K dX12_leave_16 ?_
    refine x_st (st' := [.long (zL 100)]) rfl ?_
    refine x_lstore_n (pc := 17) K (L' := [(3, .long (zL 100)), (0, .ref (B + 161)), (1, .long (zL 1310))]) hnL rfl (by decide) rfl dX12_leave_17 ?_
    refine x_goto (pc := 18) (tgt := 2) K dX12_leave_18 (by decide) ?_
    refine x_lload_n (pc := 2) 0 K rfl rfl dX12_leave_2 ?_
    refine x_ldc2 (pc := 3) (x := (100)) (100) K (by decide) (by decide +kernel) dX12_leave_3 ?_
    refine x_lmul (pc := 6) K dX12_leave_6 ?_
    refine x_st (st' := [.long (zL 10000)]) rfl ?_
    refine x_lload_n (pc := 7) 2 K rfl rfl dX12_leave_7 ?_
    refine x_lcmp (pc := 8) K (by omega) (by omega) dX12_leave_8 ?_
    refine x_if_gt (pc := 9) (tgt := 21) K (cmpZ_rng _ _) dX12_leave_9 (by decide) (fun h_9 => ?_) (fun h_9 => ?_)
    · skip
      have h_9 := cz_gt h_9
      refine x_lload_n (pc := 21) 2 K rfl rfl dX12_leave_21 ?_
      refine x_lstore (pc := 22) K (L' := [(5, .long (zL 1310)), (3, .long (zL 100)), (0, .ref (B + 161)), (1, .long (zL 1310))]) hnL (by decide) rfl dX12_leave_22 ?_
      refine x_lload_n (pc := 24) 1 K rfl rfl dX12_leave_24 ?_
      refine x_lconst (pc := 25) (0) K (by decide) dX12_leave_25 ?_
      refine x_lcmp (pc := 26) K (by omega) (by omega) dX12_leave_26 ?_
      refine x_if_le (pc := 27) (tgt := 69) K (cmpZ_rng _ _) dX12_leave_27 (by decide) (fun h_27 => ?_) (fun h_27 => ?_)
      · skip
        have h_27 := cz_le h_27
        exfalso; omega
      · skip
        have h_27 := cz_le_n h_27
        refine x_aload_n (pc := 30) 2 K rfl rfl dX12_leave_30 ?_
        refine x_get (pc := 31) (C := RX12) (T := TX12) (n := 26) (ci := 11) (idx := 35) (ref := "BorderBedsModel") (x := .ref (B + 170))  K (cel_ne (cel_self hc0.1) (by decide)) rfl (by decide +kernel) 14 (by decide) (by decide +kernel) rfl rfl dX12_leave_31 ?_
        refine x_aload_n (pc := 34) 2 K rfl rfl dX12_leave_34 ?_
        refine x_get (pc := 35) (C := RX12) (T := TX12) (n := 26) (ci := 11) (idx := 264) (ref := "BorderBedsModel") (x := .int (zI (F 13)))  K (cel_ne (cel_self hc0.1) (by decide)) rfl (by decide +kernel) 13 (by decide) (by decide +kernel) rfl rfl dX12_leave_35 ?_
        refine x_lload (pc := 38) 0 K rfl dX12_leave_38 ?_
        refine x_lload_n (pc := 40) 1 K rfl rfl dX12_leave_40 ?_
        refine x_ldivX (pc := 41) K (by decide +kernel) dX12_leave_41 ?_
        refine x_st (st' := [.long (zL 13), .int (zI (F 13)), .ref (B + 170)]) (by rw [show (zL 1310 / zL 100) = zL 13 from by decide +kernel]) ?_
        refine x_l2i (pc := 42) K dX12_leave_42 ?_
        refine x_iast (pc := 43) (((F 13)).toNat) K (cel_self hc1.1) (by omega) (by omega) (by decide) dX12_leave_43 ?_
        refine x_v (w := (va_up (va_up v 161 (oM B F V)) 170 (iarr E 16 (va_up tr (((F 13)).toNat) 13)))) (up_at0).symm ?_
        refine x_lload (pc := 44) 0 K rfl dX12_leave_44 ?_
        refine x_lload_n (pc := 46) 1 K rfl rfl dX12_leave_46 ?_
        refine x_lremX (pc := 47) K (by decide +kernel) dX12_leave_47 ?_
        refine x_st (st' := [.long (zL 10)]) (by rw [show (zL 1310 - zL 1310 / zL 100 * zL 100) = zL 10 from by decide +kernel]) ?_
        refine x_lstore (pc := 48) K (L' := [(5, .long (zL 10)), (3, .long (zL 100)), (0, .ref (B + 161)), (1, .long (zL 1310))]) hnL (by decide) rfl dX12_leave_48 ?_
        refine x_aload_n (pc := 50) 2 K rfl rfl dX12_leave_50 ?_
        refine x_dup (pc := 51) K rfl dX12_leave_51 ?_
        refine x_get (pc := 52) (C := RX12) (T := TX12) (n := 26) (ci := 11) (idx := 264) (ref := "BorderBedsModel") (x := .int (zI (F 13)))  K (cel_ne (cel_self hc0.1) (by decide)) rfl (by decide +kernel) 13 (by decide) (by decide +kernel) rfl rfl dX12_leave_52 ?_
        refine x_iconst (pc := 55) K dX12_leave_55 ?_
        refine x_iadd (pc := 56) K dX12_leave_56 ?_
        refine x_put (pc := 57) (C := RX12) (T := TX12) (n := 26) (ci := 11) (idx := 264) (ref := "BorderBedsModel") (ty := .int)  K (cel_ne (cel_self hc0.1) (by decide)) rfl (by decide +kernel) tyX12 tyX12_ok nmX12 13 (by decide) (by decide +kernel) rfl rfl (by decide +kernel) rfl rfl (Nat.le_of_ble_eq_true rfl) dX12_leave_57 ?_
        refine x_v (w := (va_up (va_up v 161 (oM B (va_up F 13 ((F 13) + 1)) V)) 170 (iarr E 16 (va_up tr (((F 13)).toNat) 13)))) (up_at1 (by decide)).symm ?_
        refine x_lload_n (pc := 60) 1 K rfl rfl dX12_leave_60 ?_
        refine x_ldc2 (pc := 61) (x := (100)) (100) K (by decide) (by decide +kernel) dX12_leave_61 ?_
        refine x_ldivX (pc := 64) K (by decide +kernel) dX12_leave_64 ?_
        refine x_st (st' := [.long (zL 1)]) (by rw [show (zL 100 / zL 100) = zL 1 from by decide +kernel]) ?_
        refine x_lstore_n (pc := 65) K (L' := [(3, .long (zL 1)), (5, .long (zL 10)), (0, .ref (B + 161)), (1, .long (zL 1310))]) hnL rfl (by decide) rfl dX12_leave_65 ?_
        refine x_goto (pc := 66) (tgt := 24) K dX12_leave_66 (by decide) ?_
        refine x_lload_n (pc := 24) 0 K rfl rfl dX12_leave_24 ?_
        refine x_lconst (pc := 25) (0) K (by decide) dX12_leave_25 ?_
        refine x_lcmp (pc := 26) K (by omega) (by omega) dX12_leave_26 ?_
        refine x_if_le (pc := 27) (tgt := 69) K (cmpZ_rng _ _) dX12_leave_27 (by decide) (fun h_27 => ?_) (fun h_27 => ?_)
        · skip
          have h_27 := cz_le h_27
          exfalso; omega
        · skip
          have h_27 := cz_le_n h_27
          refine x_aload_n (pc := 30) 2 K rfl rfl dX12_leave_30 ?_
          refine x_get (pc := 31) (C := RX12) (T := TX12) (n := 26) (ci := 11) (idx := 35) (ref := "BorderBedsModel") (x := .ref (B + 170))  K (cel_ne (cel_self hc0.1) (by decide)) rfl (by decide +kernel) 14 (by decide) (by decide +kernel) rfl rfl dX12_leave_31 ?_
          refine x_aload_n (pc := 34) 2 K rfl rfl dX12_leave_34 ?_
          refine x_get (pc := 35) (C := RX12) (T := TX12) (n := 26) (ci := 11) (idx := 264) (ref := "BorderBedsModel") (x := .int (zI ((F 13) + 1)))  K (cel_ne (cel_self hc0.1) (by decide)) rfl (by decide +kernel) 13 (by decide) (by decide +kernel) rfl rfl dX12_leave_35 ?_
          refine x_lload (pc := 38) 1 K rfl dX12_leave_38 ?_
          refine x_lload_n (pc := 40) 0 K rfl rfl dX12_leave_40 ?_
          refine x_ldivX (pc := 41) K (by decide +kernel) dX12_leave_41 ?_
          refine x_st (st' := [.long (zL 10), .int (zI ((F 13) + 1)), .ref (B + 170)]) (by rw [show (zL 10 / zL 1) = zL 10 from by decide +kernel]) ?_
          refine x_l2i (pc := 42) K dX12_leave_42 ?_
          refine x_iast (pc := 43) ((((F 13) + 1)).toNat) K (cel_self hc1.1) (by omega) (by omega) (by decide) dX12_leave_43 ?_
          refine x_v (w := (va_up (va_up v 161 (oM B (va_up F 13 ((F 13) + 1)) V)) 170 (iarr E 16 (va_up (va_up tr (((F 13)).toNat) 13) ((((F 13) + 1)).toNat) 10)))) (up_at0).symm ?_
          refine x_lload (pc := 44) 1 K rfl dX12_leave_44 ?_
          refine x_lload_n (pc := 46) 0 K rfl rfl dX12_leave_46 ?_
          refine x_lremX (pc := 47) K (by decide +kernel) dX12_leave_47 ?_
          refine x_st (st' := [.long (zL 0)]) (by rw [show (zL 10 - zL 10 / zL 1 * zL 1) = zL 0 from by decide +kernel]) ?_
          refine x_lstore (pc := 48) K (L' := [(5, .long (zL 0)), (3, .long (zL 1)), (0, .ref (B + 161)), (1, .long (zL 1310))]) hnL (by decide) rfl dX12_leave_48 ?_
          refine x_aload_n (pc := 50) 2 K rfl rfl dX12_leave_50 ?_
          refine x_dup (pc := 51) K rfl dX12_leave_51 ?_
          refine x_get (pc := 52) (C := RX12) (T := TX12) (n := 26) (ci := 11) (idx := 264) (ref := "BorderBedsModel") (x := .int (zI ((F 13) + 1)))  K (cel_ne (cel_self hc0.1) (by decide)) rfl (by decide +kernel) 13 (by decide) (by decide +kernel) rfl rfl dX12_leave_52 ?_
          refine x_iconst (pc := 55) K dX12_leave_55 ?_
          refine x_iadd (pc := 56) K dX12_leave_56 ?_
          refine x_put (pc := 57) (C := RX12) (T := TX12) (n := 26) (ci := 11) (idx := 264) (ref := "BorderBedsModel") (ty := .int)  K (cel_ne (cel_self hc0.1) (by decide)) rfl (by decide +kernel) tyX12 tyX12_ok nmX12 13 (by decide) (by decide +kernel) rfl rfl (by decide +kernel) rfl rfl (Nat.le_of_ble_eq_true rfl) dX12_leave_57 ?_
          refine x_v (w := (va_up (va_up v 161 (oM B (va_up F 13 (((F 13) + 1) + 1)) V)) 170 (iarr E 16 (va_up (va_up tr (((F 13)).toNat) 13) ((((F 13) + 1)).toNat) 10)))) (up_at1 (by decide)).symm ?_
          refine x_lload_n (pc := 60) 1 K rfl rfl dX12_leave_60 ?_
          refine x_ldc2 (pc := 61) (x := (100)) (100) K (by decide) (by decide +kernel) dX12_leave_61 ?_
          refine x_ldivX (pc := 64) K (by decide +kernel) dX12_leave_64 ?_
          refine x_st (st' := [.long (zL 0)]) (by rw [show (zL 1 / zL 100) = zL 0 from by decide +kernel]) ?_
          refine x_lstore_n (pc := 65) K (L' := [(3, .long (zL 0)), (5, .long (zL 0)), (0, .ref (B + 161)), (1, .long (zL 1310))]) hnL rfl (by decide) rfl dX12_leave_65 ?_
          refine x_goto (pc := 66) (tgt := 24) K dX12_leave_66 (by decide) ?_
          refine x_lload_n (pc := 24) 0 K rfl rfl dX12_leave_24 ?_
          refine x_lconst (pc := 25) (0) K (by decide) dX12_leave_25 ?_
          refine x_lcmp (pc := 26) K (by omega) (by omega) dX12_leave_26 ?_
          refine x_if_le (pc := 27) (tgt := 69) K (cmpZ_rng _ _) dX12_leave_27 (by decide) (fun h_27 => ?_) (fun h_27 => ?_)
          · skip
            have h_27 := cz_le h_27
            refine x_vret (pc := 69) K KR (by omega) (Nat.le_of_ble_eq_true rfl) (Nat.le_of_ble_eq_true rfl) dX12_leave_69 ?_
            have hn : (F 13 + 1).toNat = (F 13).toNat + 1 := by omega
            exact ⟨rfl, (((F 13) + 1) + 1), (va_up (va_up tr (((F 13)).toNat) 13) ((((F 13) + 1)).toNat) 10), (by omega), (by unfold wrL wrL wrL; simp only [hn, wrL]), rfl, rfl⟩
          · skip
            have h_27 := cz_le_n h_27
            exfalso; omega
    · skip
      have h_9 := cz_gt_n h_9
      exfalso; omega

set_option maxRecDepth 100000 in
set_option maxHeartbeats 4000000 in
theorem c_leave_121110 {E : XE} {B N : Nat} {v : Nat → va_E} {F tr : Nat → Int} {V : Int} (hc0 : Cel N v 161 (oM B F V)) (hc1 : Cel N v 170 (iarr E 16 tr)) (hq0 : 0 ≤ F 13 ∧ F 13 ≤ 13) : gM yX12_leave wsX12_leave ({ frames := 0, cells := 0, slots := 0, locals := 0 }) E B N v [.ref (B + 161), .long (zL 121110)] (po0 N (fun ρ v' => ∃ (n2 : Int), ∃ (tr2 : Nat → Int), (n2 = F 13 + 3) ∧ (tr2 = wrL tr (F 13).toNat [12, 11, 10]) ∧ ρ = none ∧ (va_up (va_up v 161 (oM B (va_up F 13 n2) V)) 170 (iarr E 16 tr2)) = v')) := by
  refine x_met (nm := "leave") (by decide +kernel) rfl (Nat.le_of_ble_eq_true rfl) rfl (fun Γ K KR hnL hnm => ?_)
  show XW Γ N v [(0, .ref (B + 161)), (1, .long (zL 121110))] 0 0 0 []
  refine x_v (cel_pad hc0) ?_
  refine x_v (cel_pad (cel_ne hc1 (by decide))) ?_
  refine x_lconst (pc := 0) (1) K (by decide) dX12_leave_0 ?_
  refine x_lstore_n (pc := 1) K (L' := [(3, .long (zL 1)), (0, .ref (B + 161)), (1, .long (zL 121110))]) hnL rfl (by decide) rfl dX12_leave_1 ?_
  refine x_lload_n (pc := 2) 0 K rfl rfl dX12_leave_2 ?_
  refine x_ldc2 (pc := 3) (x := (100)) (100) K (by decide) (by decide +kernel) dX12_leave_3 ?_
  refine x_lmul (pc := 6) K dX12_leave_6 ?_
  refine x_st (st' := [.long (zL 100)]) rfl ?_
  refine x_lload_n (pc := 7) 2 K rfl rfl dX12_leave_7 ?_
  refine x_lcmp (pc := 8) K (by omega) (by omega) dX12_leave_8 ?_
  refine x_if_gt (pc := 9) (tgt := 21) K (cmpZ_rng _ _) dX12_leave_9 (by decide) (fun h_9 => ?_) (fun h_9 => ?_)
  · skip
    have h_9 := cz_gt h_9
    exfalso; omega
  · skip
    have h_9 := cz_gt_n h_9
    refine x_lload_n (pc := 12) 0 K rfl rfl dX12_leave_12 ?_
    refine x_ldc2 (pc := 13) (x := (100)) (100) K (by decide) (by decide +kernel) dX12_leave_13 ?_
    refine x_lmul (pc := 16) K dX12_leave_16 ?_
    refine x_st (st' := [.long (zL 100)]) rfl ?_
    refine x_lstore_n (pc := 17) K (L' := [(3, .long (zL 100)), (0, .ref (B + 161)), (1, .long (zL 121110))]) hnL rfl (by decide) rfl dX12_leave_17 ?_
    refine x_goto (pc := 18) (tgt := 2) K dX12_leave_18 (by decide) ?_
    refine x_lload_n (pc := 2) 0 K rfl rfl dX12_leave_2 ?_
    refine x_ldc2 (pc := 3) (x := (100)) (100) K (by decide) (by decide +kernel) dX12_leave_3 ?_
    refine x_lmul (pc := 6) K dX12_leave_6 ?_
    refine x_st (st' := [.long (zL 10000)]) rfl ?_
    refine x_lload_n (pc := 7) 2 K rfl rfl dX12_leave_7 ?_
    refine x_lcmp (pc := 8) K (by omega) (by omega) dX12_leave_8 ?_
    refine x_if_gt (pc := 9) (tgt := 21) K (cmpZ_rng _ _) dX12_leave_9 (by decide) (fun h_9 => ?_) (fun h_9 => ?_)
    · skip
      have h_9 := cz_gt h_9
      exfalso; omega
    · skip
      have h_9 := cz_gt_n h_9
      refine x_lload_n (pc := 12) 0 K rfl rfl dX12_leave_12 ?_
      refine x_ldc2 (pc := 13) (x := (100)) (100) K (by decide) (by decide +kernel) dX12_leave_13 ?_
      refine x_lmul (pc := 16) K dX12_leave_16 ?_
      refine x_st (st' := [.long (zL 10000)]) rfl ?_
      refine x_lstore_n (pc := 17) K (L' := [(3, .long (zL 10000)), (0, .ref (B + 161)), (1, .long (zL 121110))]) hnL rfl (by decide) rfl dX12_leave_17 ?_
      refine x_goto (pc := 18) (tgt := 2) K dX12_leave_18 (by decide) ?_
      refine x_lload_n (pc := 2) 0 K rfl rfl dX12_leave_2 ?_
      refine x_ldc2 (pc := 3) (x := (100)) (100) K (by decide) (by decide +kernel) dX12_leave_3 ?_
      refine x_lmul (pc := 6) K dX12_leave_6 ?_
      refine x_st (st' := [.long (zL 1000000)]) rfl ?_
      refine x_lload_n (pc := 7) 2 K rfl rfl dX12_leave_7 ?_
      refine x_lcmp (pc := 8) K (by omega) (by omega) dX12_leave_8 ?_
      refine x_if_gt (pc := 9) (tgt := 21) K (cmpZ_rng _ _) dX12_leave_9 (by decide) (fun h_9 => ?_) (fun h_9 => ?_)
      · skip
        have h_9 := cz_gt h_9
        refine x_lload_n (pc := 21) 2 K rfl rfl dX12_leave_21 ?_
        refine x_lstore (pc := 22) K (L' := [(5, .long (zL 121110)), (3, .long (zL 10000)), (0, .ref (B + 161)), (1, .long (zL 121110))]) hnL (by decide) rfl dX12_leave_22 ?_
        refine x_lload_n (pc := 24) 1 K rfl rfl dX12_leave_24 ?_
        refine x_lconst (pc := 25) (0) K (by decide) dX12_leave_25 ?_
        refine x_lcmp (pc := 26) K (by omega) (by omega) dX12_leave_26 ?_
        refine x_if_le (pc := 27) (tgt := 69) K (cmpZ_rng _ _) dX12_leave_27 (by decide) (fun h_27 => ?_) (fun h_27 => ?_)
        · skip
          have h_27 := cz_le h_27
          exfalso; omega
        · skip
          have h_27 := cz_le_n h_27
          refine x_aload_n (pc := 30) 2 K rfl rfl dX12_leave_30 ?_
          refine x_get (pc := 31) (C := RX12) (T := TX12) (n := 26) (ci := 11) (idx := 35) (ref := "BorderBedsModel") (x := .ref (B + 170))  K (cel_ne (cel_self hc0.1) (by decide)) rfl (by decide +kernel) 14 (by decide) (by decide +kernel) rfl rfl dX12_leave_31 ?_
          refine x_aload_n (pc := 34) 2 K rfl rfl dX12_leave_34 ?_
          refine x_get (pc := 35) (C := RX12) (T := TX12) (n := 26) (ci := 11) (idx := 264) (ref := "BorderBedsModel") (x := .int (zI (F 13)))  K (cel_ne (cel_self hc0.1) (by decide)) rfl (by decide +kernel) 13 (by decide) (by decide +kernel) rfl rfl dX12_leave_35 ?_
          refine x_lload (pc := 38) 0 K rfl dX12_leave_38 ?_
          refine x_lload_n (pc := 40) 1 K rfl rfl dX12_leave_40 ?_
          refine x_ldivX (pc := 41) K (by decide +kernel) dX12_leave_41 ?_
          refine x_st (st' := [.long (zL 12), .int (zI (F 13)), .ref (B + 170)]) (by rw [show (zL 121110 / zL 10000) = zL 12 from by decide +kernel]) ?_
          refine x_l2i (pc := 42) K dX12_leave_42 ?_
          refine x_iast (pc := 43) (((F 13)).toNat) K (cel_self hc1.1) (by omega) (by omega) (by decide) dX12_leave_43 ?_
          refine x_v (w := (va_up (va_up v 161 (oM B F V)) 170 (iarr E 16 (va_up tr (((F 13)).toNat) 12)))) (up_at0).symm ?_
          refine x_lload (pc := 44) 0 K rfl dX12_leave_44 ?_
          refine x_lload_n (pc := 46) 1 K rfl rfl dX12_leave_46 ?_
          refine x_lremX (pc := 47) K (by decide +kernel) dX12_leave_47 ?_
          refine x_st (st' := [.long (zL 1110)]) (by rw [show (zL 121110 - zL 121110 / zL 10000 * zL 10000) = zL 1110 from by decide +kernel]) ?_
          refine x_lstore (pc := 48) K (L' := [(5, .long (zL 1110)), (3, .long (zL 10000)), (0, .ref (B + 161)), (1, .long (zL 121110))]) hnL (by decide) rfl dX12_leave_48 ?_
          refine x_aload_n (pc := 50) 2 K rfl rfl dX12_leave_50 ?_
          refine x_dup (pc := 51) K rfl dX12_leave_51 ?_
          refine x_get (pc := 52) (C := RX12) (T := TX12) (n := 26) (ci := 11) (idx := 264) (ref := "BorderBedsModel") (x := .int (zI (F 13)))  K (cel_ne (cel_self hc0.1) (by decide)) rfl (by decide +kernel) 13 (by decide) (by decide +kernel) rfl rfl dX12_leave_52 ?_
          refine x_iconst (pc := 55) K dX12_leave_55 ?_
          refine x_iadd (pc := 56) K dX12_leave_56 ?_
          refine x_put (pc := 57) (C := RX12) (T := TX12) (n := 26) (ci := 11) (idx := 264) (ref := "BorderBedsModel") (ty := .int)  K (cel_ne (cel_self hc0.1) (by decide)) rfl (by decide +kernel) tyX12 tyX12_ok nmX12 13 (by decide) (by decide +kernel) rfl rfl (by decide +kernel) rfl rfl (Nat.le_of_ble_eq_true rfl) dX12_leave_57 ?_
          refine x_v (w := (va_up (va_up v 161 (oM B (va_up F 13 ((F 13) + 1)) V)) 170 (iarr E 16 (va_up tr (((F 13)).toNat) 12)))) (up_at1 (by decide)).symm ?_
          refine x_lload_n (pc := 60) 1 K rfl rfl dX12_leave_60 ?_
          refine x_ldc2 (pc := 61) (x := (100)) (100) K (by decide) (by decide +kernel) dX12_leave_61 ?_
          refine x_ldivX (pc := 64) K (by decide +kernel) dX12_leave_64 ?_
          refine x_st (st' := [.long (zL 100)]) (by rw [show (zL 10000 / zL 100) = zL 100 from by decide +kernel]) ?_
          refine x_lstore_n (pc := 65) K (L' := [(3, .long (zL 100)), (5, .long (zL 1110)), (0, .ref (B + 161)), (1, .long (zL 121110))]) hnL rfl (by decide) rfl dX12_leave_65 ?_
          refine x_goto (pc := 66) (tgt := 24) K dX12_leave_66 (by decide) ?_
          refine x_lload_n (pc := 24) 0 K rfl rfl dX12_leave_24 ?_
          refine x_lconst (pc := 25) (0) K (by decide) dX12_leave_25 ?_
          refine x_lcmp (pc := 26) K (by omega) (by omega) dX12_leave_26 ?_
          refine x_if_le (pc := 27) (tgt := 69) K (cmpZ_rng _ _) dX12_leave_27 (by decide) (fun h_27 => ?_) (fun h_27 => ?_)
          · skip
            have h_27 := cz_le h_27
            exfalso; omega
          · skip
            have h_27 := cz_le_n h_27
            refine x_aload_n (pc := 30) 2 K rfl rfl dX12_leave_30 ?_
            refine x_get (pc := 31) (C := RX12) (T := TX12) (n := 26) (ci := 11) (idx := 35) (ref := "BorderBedsModel") (x := .ref (B + 170))  K (cel_ne (cel_self hc0.1) (by decide)) rfl (by decide +kernel) 14 (by decide) (by decide +kernel) rfl rfl dX12_leave_31 ?_
            refine x_aload_n (pc := 34) 2 K rfl rfl dX12_leave_34 ?_
            refine x_get (pc := 35) (C := RX12) (T := TX12) (n := 26) (ci := 11) (idx := 264) (ref := "BorderBedsModel") (x := .int (zI ((F 13) + 1)))  K (cel_ne (cel_self hc0.1) (by decide)) rfl (by decide +kernel) 13 (by decide) (by decide +kernel) rfl rfl dX12_leave_35 ?_
            refine x_lload (pc := 38) 1 K rfl dX12_leave_38 ?_
            refine x_lload_n (pc := 40) 0 K rfl rfl dX12_leave_40 ?_
            refine x_ldivX (pc := 41) K (by decide +kernel) dX12_leave_41 ?_
            refine x_st (st' := [.long (zL 11), .int (zI ((F 13) + 1)), .ref (B + 170)]) (by rw [show (zL 1110 / zL 100) = zL 11 from by decide +kernel]) ?_
            refine x_l2i (pc := 42) K dX12_leave_42 ?_
            refine x_iast (pc := 43) ((((F 13) + 1)).toNat) K (cel_self hc1.1) (by omega) (by omega) (by decide) dX12_leave_43 ?_
            refine x_v (w := (va_up (va_up v 161 (oM B (va_up F 13 ((F 13) + 1)) V)) 170 (iarr E 16 (va_up (va_up tr (((F 13)).toNat) 12) ((((F 13) + 1)).toNat) 11)))) (up_at0).symm ?_
            refine x_lload (pc := 44) 1 K rfl dX12_leave_44 ?_
            refine x_lload_n (pc := 46) 0 K rfl rfl dX12_leave_46 ?_
            refine x_lremX (pc := 47) K (by decide +kernel) dX12_leave_47 ?_
            refine x_st (st' := [.long (zL 10)]) (by rw [show (zL 1110 - zL 1110 / zL 100 * zL 100) = zL 10 from by decide +kernel]) ?_
            refine x_lstore (pc := 48) K (L' := [(5, .long (zL 10)), (3, .long (zL 100)), (0, .ref (B + 161)), (1, .long (zL 121110))]) hnL (by decide) rfl dX12_leave_48 ?_
            refine x_aload_n (pc := 50) 2 K rfl rfl dX12_leave_50 ?_
            refine x_dup (pc := 51) K rfl dX12_leave_51 ?_
            refine x_get (pc := 52) (C := RX12) (T := TX12) (n := 26) (ci := 11) (idx := 264) (ref := "BorderBedsModel") (x := .int (zI ((F 13) + 1)))  K (cel_ne (cel_self hc0.1) (by decide)) rfl (by decide +kernel) 13 (by decide) (by decide +kernel) rfl rfl dX12_leave_52 ?_
            refine x_iconst (pc := 55) K dX12_leave_55 ?_
            refine x_iadd (pc := 56) K dX12_leave_56 ?_
            refine x_put (pc := 57) (C := RX12) (T := TX12) (n := 26) (ci := 11) (idx := 264) (ref := "BorderBedsModel") (ty := .int)  K (cel_ne (cel_self hc0.1) (by decide)) rfl (by decide +kernel) tyX12 tyX12_ok nmX12 13 (by decide) (by decide +kernel) rfl rfl (by decide +kernel) rfl rfl (Nat.le_of_ble_eq_true rfl) dX12_leave_57 ?_
            refine x_v (w := (va_up (va_up v 161 (oM B (va_up F 13 (((F 13) + 1) + 1)) V)) 170 (iarr E 16 (va_up (va_up tr (((F 13)).toNat) 12) ((((F 13) + 1)).toNat) 11)))) (up_at1 (by decide)).symm ?_
            refine x_lload_n (pc := 60) 1 K rfl rfl dX12_leave_60 ?_
            refine x_ldc2 (pc := 61) (x := (100)) (100) K (by decide) (by decide +kernel) dX12_leave_61 ?_
            refine x_ldivX (pc := 64) K (by decide +kernel) dX12_leave_64 ?_
            refine x_st (st' := [.long (zL 1)]) (by rw [show (zL 100 / zL 100) = zL 1 from by decide +kernel]) ?_
            refine x_lstore_n (pc := 65) K (L' := [(3, .long (zL 1)), (5, .long (zL 10)), (0, .ref (B + 161)), (1, .long (zL 121110))]) hnL rfl (by decide) rfl dX12_leave_65 ?_
            refine x_goto (pc := 66) (tgt := 24) K dX12_leave_66 (by decide) ?_
            refine x_lload_n (pc := 24) 0 K rfl rfl dX12_leave_24 ?_
            refine x_lconst (pc := 25) (0) K (by decide) dX12_leave_25 ?_
            refine x_lcmp (pc := 26) K (by omega) (by omega) dX12_leave_26 ?_
            refine x_if_le (pc := 27) (tgt := 69) K (cmpZ_rng _ _) dX12_leave_27 (by decide) (fun h_27 => ?_) (fun h_27 => ?_)
            · skip
              have h_27 := cz_le h_27
              exfalso; omega
            · skip
              have h_27 := cz_le_n h_27
              refine x_aload_n (pc := 30) 2 K rfl rfl dX12_leave_30 ?_
              refine x_get (pc := 31) (C := RX12) (T := TX12) (n := 26) (ci := 11) (idx := 35) (ref := "BorderBedsModel") (x := .ref (B + 170))  K (cel_ne (cel_self hc0.1) (by decide)) rfl (by decide +kernel) 14 (by decide) (by decide +kernel) rfl rfl dX12_leave_31 ?_
              refine x_aload_n (pc := 34) 2 K rfl rfl dX12_leave_34 ?_
              refine x_get (pc := 35) (C := RX12) (T := TX12) (n := 26) (ci := 11) (idx := 264) (ref := "BorderBedsModel") (x := .int (zI (((F 13) + 1) + 1)))  K (cel_ne (cel_self hc0.1) (by decide)) rfl (by decide +kernel) 13 (by decide) (by decide +kernel) rfl rfl dX12_leave_35 ?_
              refine x_lload (pc := 38) 1 K rfl dX12_leave_38 ?_
              refine x_lload_n (pc := 40) 0 K rfl rfl dX12_leave_40 ?_
              refine x_ldivX (pc := 41) K (by decide +kernel) dX12_leave_41 ?_
              refine x_st (st' := [.long (zL 10), .int (zI (((F 13) + 1) + 1)), .ref (B + 170)]) (by rw [show (zL 10 / zL 1) = zL 10 from by decide +kernel]) ?_
              refine x_l2i (pc := 42) K dX12_leave_42 ?_
              refine x_iast (pc := 43) (((((F 13) + 1) + 1)).toNat) K (cel_self hc1.1) (by omega) (by omega) (by decide) dX12_leave_43 ?_
              refine x_v (w := (va_up (va_up v 161 (oM B (va_up F 13 (((F 13) + 1) + 1)) V)) 170 (iarr E 16 (va_up (va_up (va_up tr (((F 13)).toNat) 12) ((((F 13) + 1)).toNat) 11) (((((F 13) + 1) + 1)).toNat) 10)))) (up_at0).symm ?_
              refine x_lload (pc := 44) 1 K rfl dX12_leave_44 ?_
              refine x_lload_n (pc := 46) 0 K rfl rfl dX12_leave_46 ?_
              refine x_lremX (pc := 47) K (by decide +kernel) dX12_leave_47 ?_
              refine x_st (st' := [.long (zL 0)]) (by rw [show (zL 10 - zL 10 / zL 1 * zL 1) = zL 0 from by decide +kernel]) ?_
              refine x_lstore (pc := 48) K (L' := [(5, .long (zL 0)), (3, .long (zL 1)), (0, .ref (B + 161)), (1, .long (zL 121110))]) hnL (by decide) rfl dX12_leave_48 ?_
              refine x_aload_n (pc := 50) 2 K rfl rfl dX12_leave_50 ?_
              refine x_dup (pc := 51) K rfl dX12_leave_51 ?_
              refine x_get (pc := 52) (C := RX12) (T := TX12) (n := 26) (ci := 11) (idx := 264) (ref := "BorderBedsModel") (x := .int (zI (((F 13) + 1) + 1)))  K (cel_ne (cel_self hc0.1) (by decide)) rfl (by decide +kernel) 13 (by decide) (by decide +kernel) rfl rfl dX12_leave_52 ?_
              refine x_iconst (pc := 55) K dX12_leave_55 ?_
              refine x_iadd (pc := 56) K dX12_leave_56 ?_
              refine x_put (pc := 57) (C := RX12) (T := TX12) (n := 26) (ci := 11) (idx := 264) (ref := "BorderBedsModel") (ty := .int)  K (cel_ne (cel_self hc0.1) (by decide)) rfl (by decide +kernel) tyX12 tyX12_ok nmX12 13 (by decide) (by decide +kernel) rfl rfl (by decide +kernel) rfl rfl (Nat.le_of_ble_eq_true rfl) dX12_leave_57 ?_
              refine x_v (w := (va_up (va_up v 161 (oM B (va_up F 13 ((((F 13) + 1) + 1) + 1)) V)) 170 (iarr E 16 (va_up (va_up (va_up tr (((F 13)).toNat) 12) ((((F 13) + 1)).toNat) 11) (((((F 13) + 1) + 1)).toNat) 10)))) (up_at1 (by decide)).symm ?_
              refine x_lload_n (pc := 60) 1 K rfl rfl dX12_leave_60 ?_
              refine x_ldc2 (pc := 61) (x := (100)) (100) K (by decide) (by decide +kernel) dX12_leave_61 ?_
              refine x_ldivX (pc := 64) K (by decide +kernel) dX12_leave_64 ?_
              refine x_st (st' := [.long (zL 0)]) (by rw [show (zL 1 / zL 100) = zL 0 from by decide +kernel]) ?_
              refine x_lstore_n (pc := 65) K (L' := [(3, .long (zL 0)), (5, .long (zL 0)), (0, .ref (B + 161)), (1, .long (zL 121110))]) hnL rfl (by decide) rfl dX12_leave_65 ?_
              refine x_goto (pc := 66) (tgt := 24) K dX12_leave_66 (by decide) ?_
              refine x_lload_n (pc := 24) 0 K rfl rfl dX12_leave_24 ?_
              refine x_lconst (pc := 25) (0) K (by decide) dX12_leave_25 ?_
              refine x_lcmp (pc := 26) K (by omega) (by omega) dX12_leave_26 ?_
              refine x_if_le (pc := 27) (tgt := 69) K (cmpZ_rng _ _) dX12_leave_27 (by decide) (fun h_27 => ?_) (fun h_27 => ?_)
              · skip
                have h_27 := cz_le h_27
                refine x_vret (pc := 69) K KR (by omega) (Nat.le_of_ble_eq_true rfl) (Nat.le_of_ble_eq_true rfl) dX12_leave_69 ?_
                have hn : (F 13 + 1).toNat = (F 13).toNat + 1 ∧ (F 13 + 1 + 1).toNat = (F 13).toNat + 2 := by omega
                exact ⟨rfl, ((((F 13) + 1) + 1) + 1), (va_up (va_up (va_up tr (((F 13)).toNat) 12) ((((F 13) + 1)).toNat) 11) (((((F 13) + 1) + 1)).toNat) 10), (by omega), (by unfold wrL wrL wrL; simp only [hn, wrL]), rfl, rfl⟩
              · skip
                have h_27 := cz_le_n h_27
                exfalso; omega
      · skip
        have h_9 := cz_gt_n h_9
        exfalso; omega

set_option maxRecDepth 100000 in
set_option maxHeartbeats 4000000 in
theorem c_leave_1110 {E : XE} {B N : Nat} {v : Nat → va_E} {F tr : Nat → Int} {V : Int} (hc0 : Cel N v 161 (oM B F V)) (hc1 : Cel N v 170 (iarr E 16 tr)) (hq0 : 0 ≤ F 13 ∧ F 13 ≤ 13) : gM yX12_leave wsX12_leave ({ frames := 0, cells := 0, slots := 0, locals := 0 }) E B N v [.ref (B + 161), .long (zL 1110)] (po0 N (fun ρ v' => ∃ (n2 : Int), ∃ (tr2 : Nat → Int), (n2 = F 13 + 2) ∧ (tr2 = wrL tr (F 13).toNat [11, 10]) ∧ ρ = none ∧ (va_up (va_up v 161 (oM B (va_up F 13 n2) V)) 170 (iarr E 16 tr2)) = v')) := by
  refine x_met (nm := "leave") (by decide +kernel) rfl (Nat.le_of_ble_eq_true rfl) rfl (fun Γ K KR hnL hnm => ?_)
  show XW Γ N v [(0, .ref (B + 161)), (1, .long (zL 1110))] 0 0 0 []
  refine x_v (cel_pad hc0) ?_
  refine x_v (cel_pad (cel_ne hc1 (by decide))) ?_
  refine x_lconst (pc := 0) (1) K (by decide) dX12_leave_0 ?_
  refine x_lstore_n (pc := 1) K (L' := [(3, .long (zL 1)), (0, .ref (B + 161)), (1, .long (zL 1110))]) hnL rfl (by decide) rfl dX12_leave_1 ?_
  refine x_lload_n (pc := 2) 0 K rfl rfl dX12_leave_2 ?_
  refine x_ldc2 (pc := 3) (x := (100)) (100) K (by decide) (by decide +kernel) dX12_leave_3 ?_
  refine x_lmul (pc := 6) K dX12_leave_6 ?_
  refine x_st (st' := [.long (zL 100)]) rfl ?_
  refine x_lload_n (pc := 7) 2 K rfl rfl dX12_leave_7 ?_
  refine x_lcmp (pc := 8) K (by omega) (by omega) dX12_leave_8 ?_
  refine x_if_gt (pc := 9) (tgt := 21) K (cmpZ_rng _ _) dX12_leave_9 (by decide) (fun h_9 => ?_) (fun h_9 => ?_)
  · skip
    have h_9 := cz_gt h_9
    exfalso; omega
  · skip
    have h_9 := cz_gt_n h_9
    refine x_lload_n (pc := 12) 0 K rfl rfl dX12_leave_12 ?_
    refine x_ldc2 (pc := 13) (x := (100)) (100) K (by decide) (by decide +kernel) dX12_leave_13 ?_
    refine x_lmul (pc := 16) K dX12_leave_16 ?_
    refine x_st (st' := [.long (zL 100)]) rfl ?_
    refine x_lstore_n (pc := 17) K (L' := [(3, .long (zL 100)), (0, .ref (B + 161)), (1, .long (zL 1110))]) hnL rfl (by decide) rfl dX12_leave_17 ?_
    refine x_goto (pc := 18) (tgt := 2) K dX12_leave_18 (by decide) ?_
    refine x_lload_n (pc := 2) 0 K rfl rfl dX12_leave_2 ?_
    refine x_ldc2 (pc := 3) (x := (100)) (100) K (by decide) (by decide +kernel) dX12_leave_3 ?_
    refine x_lmul (pc := 6) K dX12_leave_6 ?_
    refine x_st (st' := [.long (zL 10000)]) rfl ?_
    refine x_lload_n (pc := 7) 2 K rfl rfl dX12_leave_7 ?_
    refine x_lcmp (pc := 8) K (by omega) (by omega) dX12_leave_8 ?_
    refine x_if_gt (pc := 9) (tgt := 21) K (cmpZ_rng _ _) dX12_leave_9 (by decide) (fun h_9 => ?_) (fun h_9 => ?_)
    · skip
      have h_9 := cz_gt h_9
      refine x_lload_n (pc := 21) 2 K rfl rfl dX12_leave_21 ?_
      refine x_lstore (pc := 22) K (L' := [(5, .long (zL 1110)), (3, .long (zL 100)), (0, .ref (B + 161)), (1, .long (zL 1110))]) hnL (by decide) rfl dX12_leave_22 ?_
      refine x_lload_n (pc := 24) 1 K rfl rfl dX12_leave_24 ?_
      refine x_lconst (pc := 25) (0) K (by decide) dX12_leave_25 ?_
      refine x_lcmp (pc := 26) K (by omega) (by omega) dX12_leave_26 ?_
      refine x_if_le (pc := 27) (tgt := 69) K (cmpZ_rng _ _) dX12_leave_27 (by decide) (fun h_27 => ?_) (fun h_27 => ?_)
      · skip
        have h_27 := cz_le h_27
        exfalso; omega
      · skip
        have h_27 := cz_le_n h_27
        refine x_aload_n (pc := 30) 2 K rfl rfl dX12_leave_30 ?_
        refine x_get (pc := 31) (C := RX12) (T := TX12) (n := 26) (ci := 11) (idx := 35) (ref := "BorderBedsModel") (x := .ref (B + 170))  K (cel_ne (cel_self hc0.1) (by decide)) rfl (by decide +kernel) 14 (by decide) (by decide +kernel) rfl rfl dX12_leave_31 ?_
        refine x_aload_n (pc := 34) 2 K rfl rfl dX12_leave_34 ?_
        refine x_get (pc := 35) (C := RX12) (T := TX12) (n := 26) (ci := 11) (idx := 264) (ref := "BorderBedsModel") (x := .int (zI (F 13)))  K (cel_ne (cel_self hc0.1) (by decide)) rfl (by decide +kernel) 13 (by decide) (by decide +kernel) rfl rfl dX12_leave_35 ?_
        refine x_lload (pc := 38) 0 K rfl dX12_leave_38 ?_
        refine x_lload_n (pc := 40) 1 K rfl rfl dX12_leave_40 ?_
        refine x_ldivX (pc := 41) K (by decide +kernel) dX12_leave_41 ?_
        refine x_st (st' := [.long (zL 11), .int (zI (F 13)), .ref (B + 170)]) (by rw [show (zL 1110 / zL 100) = zL 11 from by decide +kernel]) ?_
        refine x_l2i (pc := 42) K dX12_leave_42 ?_
        refine x_iast (pc := 43) (((F 13)).toNat) K (cel_self hc1.1) (by omega) (by omega) (by decide) dX12_leave_43 ?_
        refine x_v (w := (va_up (va_up v 161 (oM B F V)) 170 (iarr E 16 (va_up tr (((F 13)).toNat) 11)))) (up_at0).symm ?_
        refine x_lload (pc := 44) 0 K rfl dX12_leave_44 ?_
        refine x_lload_n (pc := 46) 1 K rfl rfl dX12_leave_46 ?_
        refine x_lremX (pc := 47) K (by decide +kernel) dX12_leave_47 ?_
        refine x_st (st' := [.long (zL 10)]) (by rw [show (zL 1110 - zL 1110 / zL 100 * zL 100) = zL 10 from by decide +kernel]) ?_
        refine x_lstore (pc := 48) K (L' := [(5, .long (zL 10)), (3, .long (zL 100)), (0, .ref (B + 161)), (1, .long (zL 1110))]) hnL (by decide) rfl dX12_leave_48 ?_
        refine x_aload_n (pc := 50) 2 K rfl rfl dX12_leave_50 ?_
        refine x_dup (pc := 51) K rfl dX12_leave_51 ?_
        refine x_get (pc := 52) (C := RX12) (T := TX12) (n := 26) (ci := 11) (idx := 264) (ref := "BorderBedsModel") (x := .int (zI (F 13)))  K (cel_ne (cel_self hc0.1) (by decide)) rfl (by decide +kernel) 13 (by decide) (by decide +kernel) rfl rfl dX12_leave_52 ?_
        refine x_iconst (pc := 55) K dX12_leave_55 ?_
        refine x_iadd (pc := 56) K dX12_leave_56 ?_
        refine x_put (pc := 57) (C := RX12) (T := TX12) (n := 26) (ci := 11) (idx := 264) (ref := "BorderBedsModel") (ty := .int)  K (cel_ne (cel_self hc0.1) (by decide)) rfl (by decide +kernel) tyX12 tyX12_ok nmX12 13 (by decide) (by decide +kernel) rfl rfl (by decide +kernel) rfl rfl (Nat.le_of_ble_eq_true rfl) dX12_leave_57 ?_
        refine x_v (w := (va_up (va_up v 161 (oM B (va_up F 13 ((F 13) + 1)) V)) 170 (iarr E 16 (va_up tr (((F 13)).toNat) 11)))) (up_at1 (by decide)).symm ?_
        refine x_lload_n (pc := 60) 1 K rfl rfl dX12_leave_60 ?_
        refine x_ldc2 (pc := 61) (x := (100)) (100) K (by decide) (by decide +kernel) dX12_leave_61 ?_
        refine x_ldivX (pc := 64) K (by decide +kernel) dX12_leave_64 ?_
        refine x_st (st' := [.long (zL 1)]) (by rw [show (zL 100 / zL 100) = zL 1 from by decide +kernel]) ?_
        refine x_lstore_n (pc := 65) K (L' := [(3, .long (zL 1)), (5, .long (zL 10)), (0, .ref (B + 161)), (1, .long (zL 1110))]) hnL rfl (by decide) rfl dX12_leave_65 ?_
        refine x_goto (pc := 66) (tgt := 24) K dX12_leave_66 (by decide) ?_
        refine x_lload_n (pc := 24) 0 K rfl rfl dX12_leave_24 ?_
        refine x_lconst (pc := 25) (0) K (by decide) dX12_leave_25 ?_
        refine x_lcmp (pc := 26) K (by omega) (by omega) dX12_leave_26 ?_
        refine x_if_le (pc := 27) (tgt := 69) K (cmpZ_rng _ _) dX12_leave_27 (by decide) (fun h_27 => ?_) (fun h_27 => ?_)
        · skip
          have h_27 := cz_le h_27
          exfalso; omega
        · skip
          have h_27 := cz_le_n h_27
          refine x_aload_n (pc := 30) 2 K rfl rfl dX12_leave_30 ?_
          refine x_get (pc := 31) (C := RX12) (T := TX12) (n := 26) (ci := 11) (idx := 35) (ref := "BorderBedsModel") (x := .ref (B + 170))  K (cel_ne (cel_self hc0.1) (by decide)) rfl (by decide +kernel) 14 (by decide) (by decide +kernel) rfl rfl dX12_leave_31 ?_
          refine x_aload_n (pc := 34) 2 K rfl rfl dX12_leave_34 ?_
          refine x_get (pc := 35) (C := RX12) (T := TX12) (n := 26) (ci := 11) (idx := 264) (ref := "BorderBedsModel") (x := .int (zI ((F 13) + 1)))  K (cel_ne (cel_self hc0.1) (by decide)) rfl (by decide +kernel) 13 (by decide) (by decide +kernel) rfl rfl dX12_leave_35 ?_
          refine x_lload (pc := 38) 1 K rfl dX12_leave_38 ?_
          refine x_lload_n (pc := 40) 0 K rfl rfl dX12_leave_40 ?_
          refine x_ldivX (pc := 41) K (by decide +kernel) dX12_leave_41 ?_
          refine x_st (st' := [.long (zL 10), .int (zI ((F 13) + 1)), .ref (B + 170)]) (by rw [show (zL 10 / zL 1) = zL 10 from by decide +kernel]) ?_
          refine x_l2i (pc := 42) K dX12_leave_42 ?_
          refine x_iast (pc := 43) ((((F 13) + 1)).toNat) K (cel_self hc1.1) (by omega) (by omega) (by decide) dX12_leave_43 ?_
          refine x_v (w := (va_up (va_up v 161 (oM B (va_up F 13 ((F 13) + 1)) V)) 170 (iarr E 16 (va_up (va_up tr (((F 13)).toNat) 11) ((((F 13) + 1)).toNat) 10)))) (up_at0).symm ?_
          refine x_lload (pc := 44) 1 K rfl dX12_leave_44 ?_
          refine x_lload_n (pc := 46) 0 K rfl rfl dX12_leave_46 ?_
          refine x_lremX (pc := 47) K (by decide +kernel) dX12_leave_47 ?_
          refine x_st (st' := [.long (zL 0)]) (by rw [show (zL 10 - zL 10 / zL 1 * zL 1) = zL 0 from by decide +kernel]) ?_
          refine x_lstore (pc := 48) K (L' := [(5, .long (zL 0)), (3, .long (zL 1)), (0, .ref (B + 161)), (1, .long (zL 1110))]) hnL (by decide) rfl dX12_leave_48 ?_
          refine x_aload_n (pc := 50) 2 K rfl rfl dX12_leave_50 ?_
          refine x_dup (pc := 51) K rfl dX12_leave_51 ?_
          refine x_get (pc := 52) (C := RX12) (T := TX12) (n := 26) (ci := 11) (idx := 264) (ref := "BorderBedsModel") (x := .int (zI ((F 13) + 1)))  K (cel_ne (cel_self hc0.1) (by decide)) rfl (by decide +kernel) 13 (by decide) (by decide +kernel) rfl rfl dX12_leave_52 ?_
          refine x_iconst (pc := 55) K dX12_leave_55 ?_
          refine x_iadd (pc := 56) K dX12_leave_56 ?_
          refine x_put (pc := 57) (C := RX12) (T := TX12) (n := 26) (ci := 11) (idx := 264) (ref := "BorderBedsModel") (ty := .int)  K (cel_ne (cel_self hc0.1) (by decide)) rfl (by decide +kernel) tyX12 tyX12_ok nmX12 13 (by decide) (by decide +kernel) rfl rfl (by decide +kernel) rfl rfl (Nat.le_of_ble_eq_true rfl) dX12_leave_57 ?_
          refine x_v (w := (va_up (va_up v 161 (oM B (va_up F 13 (((F 13) + 1) + 1)) V)) 170 (iarr E 16 (va_up (va_up tr (((F 13)).toNat) 11) ((((F 13) + 1)).toNat) 10)))) (up_at1 (by decide)).symm ?_
          refine x_lload_n (pc := 60) 1 K rfl rfl dX12_leave_60 ?_
          refine x_ldc2 (pc := 61) (x := (100)) (100) K (by decide) (by decide +kernel) dX12_leave_61 ?_
          refine x_ldivX (pc := 64) K (by decide +kernel) dX12_leave_64 ?_
          refine x_st (st' := [.long (zL 0)]) (by rw [show (zL 1 / zL 100) = zL 0 from by decide +kernel]) ?_
          refine x_lstore_n (pc := 65) K (L' := [(3, .long (zL 0)), (5, .long (zL 0)), (0, .ref (B + 161)), (1, .long (zL 1110))]) hnL rfl (by decide) rfl dX12_leave_65 ?_
          refine x_goto (pc := 66) (tgt := 24) K dX12_leave_66 (by decide) ?_
          refine x_lload_n (pc := 24) 0 K rfl rfl dX12_leave_24 ?_
          refine x_lconst (pc := 25) (0) K (by decide) dX12_leave_25 ?_
          refine x_lcmp (pc := 26) K (by omega) (by omega) dX12_leave_26 ?_
          refine x_if_le (pc := 27) (tgt := 69) K (cmpZ_rng _ _) dX12_leave_27 (by decide) (fun h_27 => ?_) (fun h_27 => ?_)
          · skip
            have h_27 := cz_le h_27
            refine x_vret (pc := 69) K KR (by omega) (Nat.le_of_ble_eq_true rfl) (Nat.le_of_ble_eq_true rfl) dX12_leave_69 ?_
            have hn : (F 13 + 1).toNat = (F 13).toNat + 1 := by omega
            exact ⟨rfl, (((F 13) + 1) + 1), (va_up (va_up tr (((F 13)).toNat) 11) ((((F 13) + 1)).toNat) 10), (by omega), (by unfold wrL wrL wrL; simp only [hn, wrL]), rfl, rfl⟩
          · skip
            have h_27 := cz_le_n h_27
            exfalso; omega
    · skip
      have h_9 := cz_gt_n h_9
      exfalso; omega

set_option maxRecDepth 100000 in
set_option maxHeartbeats 4000000 in
theorem c_leave_2320 {E : XE} {B N : Nat} {v : Nat → va_E} {F tr : Nat → Int} {V : Int} (hc0 : Cel N v 161 (oM B F V)) (hc1 : Cel N v 170 (iarr E 16 tr)) (hq0 : 0 ≤ F 13 ∧ F 13 ≤ 13) : gM yX12_leave wsX12_leave ({ frames := 0, cells := 0, slots := 0, locals := 0 }) E B N v [.ref (B + 161), .long (zL 2320)] (po0 N (fun ρ v' => ∃ (n2 : Int), ∃ (tr2 : Nat → Int), (n2 = F 13 + 2) ∧ (tr2 = wrL tr (F 13).toNat [23, 20]) ∧ ρ = none ∧ (va_up (va_up v 161 (oM B (va_up F 13 n2) V)) 170 (iarr E 16 tr2)) = v')) := by
  refine x_met (nm := "leave") (by decide +kernel) rfl (Nat.le_of_ble_eq_true rfl) rfl (fun Γ K KR hnL hnm => ?_)
  show XW Γ N v [(0, .ref (B + 161)), (1, .long (zL 2320))] 0 0 0 []
  refine x_v (cel_pad hc0) ?_
  refine x_v (cel_pad (cel_ne hc1 (by decide))) ?_
  refine x_lconst (pc := 0) (1) K (by decide) dX12_leave_0 ?_
  refine x_lstore_n (pc := 1) K (L' := [(3, .long (zL 1)), (0, .ref (B + 161)), (1, .long (zL 2320))]) hnL rfl (by decide) rfl dX12_leave_1 ?_
  refine x_lload_n (pc := 2) 0 K rfl rfl dX12_leave_2 ?_
  refine x_ldc2 (pc := 3) (x := (100)) (100) K (by decide) (by decide +kernel) dX12_leave_3 ?_
  refine x_lmul (pc := 6) K dX12_leave_6 ?_
  refine x_st (st' := [.long (zL 100)]) rfl ?_
  refine x_lload_n (pc := 7) 2 K rfl rfl dX12_leave_7 ?_
  refine x_lcmp (pc := 8) K (by omega) (by omega) dX12_leave_8 ?_
  refine x_if_gt (pc := 9) (tgt := 21) K (cmpZ_rng _ _) dX12_leave_9 (by decide) (fun h_9 => ?_) (fun h_9 => ?_)
  · skip
    have h_9 := cz_gt h_9
    exfalso; omega
  · skip
    have h_9 := cz_gt_n h_9
    refine x_lload_n (pc := 12) 0 K rfl rfl dX12_leave_12 ?_
    refine x_ldc2 (pc := 13) (x := (100)) (100) K (by decide) (by decide +kernel) dX12_leave_13 ?_
    refine x_lmul (pc := 16) K dX12_leave_16 ?_
    refine x_st (st' := [.long (zL 100)]) rfl ?_
    refine x_lstore_n (pc := 17) K (L' := [(3, .long (zL 100)), (0, .ref (B + 161)), (1, .long (zL 2320))]) hnL rfl (by decide) rfl dX12_leave_17 ?_
    refine x_goto (pc := 18) (tgt := 2) K dX12_leave_18 (by decide) ?_
    refine x_lload_n (pc := 2) 0 K rfl rfl dX12_leave_2 ?_
    refine x_ldc2 (pc := 3) (x := (100)) (100) K (by decide) (by decide +kernel) dX12_leave_3 ?_
    refine x_lmul (pc := 6) K dX12_leave_6 ?_
    refine x_st (st' := [.long (zL 10000)]) rfl ?_
    refine x_lload_n (pc := 7) 2 K rfl rfl dX12_leave_7 ?_
    refine x_lcmp (pc := 8) K (by omega) (by omega) dX12_leave_8 ?_
    refine x_if_gt (pc := 9) (tgt := 21) K (cmpZ_rng _ _) dX12_leave_9 (by decide) (fun h_9 => ?_) (fun h_9 => ?_)
    · skip
      have h_9 := cz_gt h_9
      refine x_lload_n (pc := 21) 2 K rfl rfl dX12_leave_21 ?_
      refine x_lstore (pc := 22) K (L' := [(5, .long (zL 2320)), (3, .long (zL 100)), (0, .ref (B + 161)), (1, .long (zL 2320))]) hnL (by decide) rfl dX12_leave_22 ?_
      refine x_lload_n (pc := 24) 1 K rfl rfl dX12_leave_24 ?_
      refine x_lconst (pc := 25) (0) K (by decide) dX12_leave_25 ?_
      refine x_lcmp (pc := 26) K (by omega) (by omega) dX12_leave_26 ?_
      refine x_if_le (pc := 27) (tgt := 69) K (cmpZ_rng _ _) dX12_leave_27 (by decide) (fun h_27 => ?_) (fun h_27 => ?_)
      · skip
        have h_27 := cz_le h_27
        exfalso; omega
      · skip
        have h_27 := cz_le_n h_27
        refine x_aload_n (pc := 30) 2 K rfl rfl dX12_leave_30 ?_
        refine x_get (pc := 31) (C := RX12) (T := TX12) (n := 26) (ci := 11) (idx := 35) (ref := "BorderBedsModel") (x := .ref (B + 170))  K (cel_ne (cel_self hc0.1) (by decide)) rfl (by decide +kernel) 14 (by decide) (by decide +kernel) rfl rfl dX12_leave_31 ?_
        refine x_aload_n (pc := 34) 2 K rfl rfl dX12_leave_34 ?_
        refine x_get (pc := 35) (C := RX12) (T := TX12) (n := 26) (ci := 11) (idx := 264) (ref := "BorderBedsModel") (x := .int (zI (F 13)))  K (cel_ne (cel_self hc0.1) (by decide)) rfl (by decide +kernel) 13 (by decide) (by decide +kernel) rfl rfl dX12_leave_35 ?_
        refine x_lload (pc := 38) 0 K rfl dX12_leave_38 ?_
        refine x_lload_n (pc := 40) 1 K rfl rfl dX12_leave_40 ?_
        refine x_ldivX (pc := 41) K (by decide +kernel) dX12_leave_41 ?_
        refine x_st (st' := [.long (zL 23), .int (zI (F 13)), .ref (B + 170)]) (by rw [show (zL 2320 / zL 100) = zL 23 from by decide +kernel]) ?_
        refine x_l2i (pc := 42) K dX12_leave_42 ?_
        refine x_iast (pc := 43) (((F 13)).toNat) K (cel_self hc1.1) (by omega) (by omega) (by decide) dX12_leave_43 ?_
        refine x_v (w := (va_up (va_up v 161 (oM B F V)) 170 (iarr E 16 (va_up tr (((F 13)).toNat) 23)))) (up_at0).symm ?_
        refine x_lload (pc := 44) 0 K rfl dX12_leave_44 ?_
        refine x_lload_n (pc := 46) 1 K rfl rfl dX12_leave_46 ?_
        refine x_lremX (pc := 47) K (by decide +kernel) dX12_leave_47 ?_
        refine x_st (st' := [.long (zL 20)]) (by rw [show (zL 2320 - zL 2320 / zL 100 * zL 100) = zL 20 from by decide +kernel]) ?_
        refine x_lstore (pc := 48) K (L' := [(5, .long (zL 20)), (3, .long (zL 100)), (0, .ref (B + 161)), (1, .long (zL 2320))]) hnL (by decide) rfl dX12_leave_48 ?_
        refine x_aload_n (pc := 50) 2 K rfl rfl dX12_leave_50 ?_
        refine x_dup (pc := 51) K rfl dX12_leave_51 ?_
        refine x_get (pc := 52) (C := RX12) (T := TX12) (n := 26) (ci := 11) (idx := 264) (ref := "BorderBedsModel") (x := .int (zI (F 13)))  K (cel_ne (cel_self hc0.1) (by decide)) rfl (by decide +kernel) 13 (by decide) (by decide +kernel) rfl rfl dX12_leave_52 ?_
        refine x_iconst (pc := 55) K dX12_leave_55 ?_
        refine x_iadd (pc := 56) K dX12_leave_56 ?_
        refine x_put (pc := 57) (C := RX12) (T := TX12) (n := 26) (ci := 11) (idx := 264) (ref := "BorderBedsModel") (ty := .int)  K (cel_ne (cel_self hc0.1) (by decide)) rfl (by decide +kernel) tyX12 tyX12_ok nmX12 13 (by decide) (by decide +kernel) rfl rfl (by decide +kernel) rfl rfl (Nat.le_of_ble_eq_true rfl) dX12_leave_57 ?_
        refine x_v (w := (va_up (va_up v 161 (oM B (va_up F 13 ((F 13) + 1)) V)) 170 (iarr E 16 (va_up tr (((F 13)).toNat) 23)))) (up_at1 (by decide)).symm ?_
        refine x_lload_n (pc := 60) 1 K rfl rfl dX12_leave_60 ?_
        refine x_ldc2 (pc := 61) (x := (100)) (100) K (by decide) (by decide +kernel) dX12_leave_61 ?_
        refine x_ldivX (pc := 64) K (by decide +kernel) dX12_leave_64 ?_
        refine x_st (st' := [.long (zL 1)]) (by rw [show (zL 100 / zL 100) = zL 1 from by decide +kernel]) ?_
        refine x_lstore_n (pc := 65) K (L' := [(3, .long (zL 1)), (5, .long (zL 20)), (0, .ref (B + 161)), (1, .long (zL 2320))]) hnL rfl (by decide) rfl dX12_leave_65 ?_
        refine x_goto (pc := 66) (tgt := 24) K dX12_leave_66 (by decide) ?_
        refine x_lload_n (pc := 24) 0 K rfl rfl dX12_leave_24 ?_
        refine x_lconst (pc := 25) (0) K (by decide) dX12_leave_25 ?_
        refine x_lcmp (pc := 26) K (by omega) (by omega) dX12_leave_26 ?_
        refine x_if_le (pc := 27) (tgt := 69) K (cmpZ_rng _ _) dX12_leave_27 (by decide) (fun h_27 => ?_) (fun h_27 => ?_)
        · skip
          have h_27 := cz_le h_27
          exfalso; omega
        · skip
          have h_27 := cz_le_n h_27
          refine x_aload_n (pc := 30) 2 K rfl rfl dX12_leave_30 ?_
          refine x_get (pc := 31) (C := RX12) (T := TX12) (n := 26) (ci := 11) (idx := 35) (ref := "BorderBedsModel") (x := .ref (B + 170))  K (cel_ne (cel_self hc0.1) (by decide)) rfl (by decide +kernel) 14 (by decide) (by decide +kernel) rfl rfl dX12_leave_31 ?_
          refine x_aload_n (pc := 34) 2 K rfl rfl dX12_leave_34 ?_
          refine x_get (pc := 35) (C := RX12) (T := TX12) (n := 26) (ci := 11) (idx := 264) (ref := "BorderBedsModel") (x := .int (zI ((F 13) + 1)))  K (cel_ne (cel_self hc0.1) (by decide)) rfl (by decide +kernel) 13 (by decide) (by decide +kernel) rfl rfl dX12_leave_35 ?_
          refine x_lload (pc := 38) 1 K rfl dX12_leave_38 ?_
          refine x_lload_n (pc := 40) 0 K rfl rfl dX12_leave_40 ?_
          refine x_ldivX (pc := 41) K (by decide +kernel) dX12_leave_41 ?_
          refine x_st (st' := [.long (zL 20), .int (zI ((F 13) + 1)), .ref (B + 170)]) (by rw [show (zL 20 / zL 1) = zL 20 from by decide +kernel]) ?_
          refine x_l2i (pc := 42) K dX12_leave_42 ?_
          refine x_iast (pc := 43) ((((F 13) + 1)).toNat) K (cel_self hc1.1) (by omega) (by omega) (by decide) dX12_leave_43 ?_
          refine x_v (w := (va_up (va_up v 161 (oM B (va_up F 13 ((F 13) + 1)) V)) 170 (iarr E 16 (va_up (va_up tr (((F 13)).toNat) 23) ((((F 13) + 1)).toNat) 20)))) (up_at0).symm ?_
          refine x_lload (pc := 44) 1 K rfl dX12_leave_44 ?_
          refine x_lload_n (pc := 46) 0 K rfl rfl dX12_leave_46 ?_
          refine x_lremX (pc := 47) K (by decide +kernel) dX12_leave_47 ?_
          refine x_st (st' := [.long (zL 0)]) (by rw [show (zL 20 - zL 20 / zL 1 * zL 1) = zL 0 from by decide +kernel]) ?_
          refine x_lstore (pc := 48) K (L' := [(5, .long (zL 0)), (3, .long (zL 1)), (0, .ref (B + 161)), (1, .long (zL 2320))]) hnL (by decide) rfl dX12_leave_48 ?_
          refine x_aload_n (pc := 50) 2 K rfl rfl dX12_leave_50 ?_
          refine x_dup (pc := 51) K rfl dX12_leave_51 ?_
          refine x_get (pc := 52) (C := RX12) (T := TX12) (n := 26) (ci := 11) (idx := 264) (ref := "BorderBedsModel") (x := .int (zI ((F 13) + 1)))  K (cel_ne (cel_self hc0.1) (by decide)) rfl (by decide +kernel) 13 (by decide) (by decide +kernel) rfl rfl dX12_leave_52 ?_
          refine x_iconst (pc := 55) K dX12_leave_55 ?_
          refine x_iadd (pc := 56) K dX12_leave_56 ?_
          refine x_put (pc := 57) (C := RX12) (T := TX12) (n := 26) (ci := 11) (idx := 264) (ref := "BorderBedsModel") (ty := .int)  K (cel_ne (cel_self hc0.1) (by decide)) rfl (by decide +kernel) tyX12 tyX12_ok nmX12 13 (by decide) (by decide +kernel) rfl rfl (by decide +kernel) rfl rfl (Nat.le_of_ble_eq_true rfl) dX12_leave_57 ?_
          refine x_v (w := (va_up (va_up v 161 (oM B (va_up F 13 (((F 13) + 1) + 1)) V)) 170 (iarr E 16 (va_up (va_up tr (((F 13)).toNat) 23) ((((F 13) + 1)).toNat) 20)))) (up_at1 (by decide)).symm ?_
          refine x_lload_n (pc := 60) 1 K rfl rfl dX12_leave_60 ?_
          refine x_ldc2 (pc := 61) (x := (100)) (100) K (by decide) (by decide +kernel) dX12_leave_61 ?_
          refine x_ldivX (pc := 64) K (by decide +kernel) dX12_leave_64 ?_
          refine x_st (st' := [.long (zL 0)]) (by rw [show (zL 1 / zL 100) = zL 0 from by decide +kernel]) ?_
          refine x_lstore_n (pc := 65) K (L' := [(3, .long (zL 0)), (5, .long (zL 0)), (0, .ref (B + 161)), (1, .long (zL 2320))]) hnL rfl (by decide) rfl dX12_leave_65 ?_
          refine x_goto (pc := 66) (tgt := 24) K dX12_leave_66 (by decide) ?_
          refine x_lload_n (pc := 24) 0 K rfl rfl dX12_leave_24 ?_
          refine x_lconst (pc := 25) (0) K (by decide) dX12_leave_25 ?_
          refine x_lcmp (pc := 26) K (by omega) (by omega) dX12_leave_26 ?_
          refine x_if_le (pc := 27) (tgt := 69) K (cmpZ_rng _ _) dX12_leave_27 (by decide) (fun h_27 => ?_) (fun h_27 => ?_)
          · skip
            have h_27 := cz_le h_27
            refine x_vret (pc := 69) K KR (by omega) (Nat.le_of_ble_eq_true rfl) (Nat.le_of_ble_eq_true rfl) dX12_leave_69 ?_
            have hn : (F 13 + 1).toNat = (F 13).toNat + 1 := by omega
            exact ⟨rfl, (((F 13) + 1) + 1), (va_up (va_up tr (((F 13)).toNat) 23) ((((F 13) + 1)).toNat) 20), (by omega), (by unfold wrL wrL wrL; simp only [hn, wrL]), rfl, rfl⟩
          · skip
            have h_27 := cz_le_n h_27
            exfalso; omega
    · skip
      have h_9 := cz_gt_n h_9
      exfalso; omega

set_option maxRecDepth 100000 in
set_option maxHeartbeats 4000000 in
theorem c_X12_mark {E : XE} {B N : Nat} {v : Nat → va_E} {who : Nat} {F a p tr : Nat → Int} {V : Int} {l : Cor} {who_i : Int} (ha_who : who_i = (who : Int)) (hc0 : Cel N v 161 (oM B F V)) (hc1 : Cel N v 166 (iarr E 138 a)) (hc2 : Cel N v 170 (iarr E 16 tr)) (hq0 : PR a p l) (hq1 : POk p) (hq2 : CorOk l) (hq3 : (l.length : Int) ≤ p 2) (hq4 : who < 5) (hq5 : 0 ≤ F 13 ∧ F 13 ≤ 6) : gM yX12_mark wsX12_mark ({ frames := 1, cells := 0, slots := 0, locals := 26 }) E B N v [.ref (B + 161), .int (zI who_i)] (po0 N (fun ρ v' => ∃ (res : Int), ∃ (n2 : Int), ∃ (tr2 : Nat → Int), (n2 = F 13 + ((markD (p (5 + who))).length : Int)) ∧ (tr2 = wrL tr (F 13).toNat (markD (p (5 + who)))) ∧ (res = markV (p (5 + who)) (who + p (15 + who))) ∧ ρ = some (.int (zI res)) ∧ (va_up (va_up v 161 (oM B (va_up F 13 n2) V)) 170 (iarr E 16 tr2)) = v')) := by
  subst ha_who
  refine x_met (nm := "mark") (by decide +kernel) rfl (Nat.le_of_ble_eq_true rfl) rfl (fun Γ K KR hnL hnm => ?_)
  show XW Γ N v [(0, .ref (B + 161)), (1, .int (zI (who : Int)))] 0 0 0 []
  have hw := hq1.2.2.2.2.2.1 who hq4
  have e5 := hq0.1 (5 + who) (by omega)
  have e15 := hq0.1 (15 + who) (by omega)
  refine x_v (cel_pad hc0) ?_
  refine x_v (cel_pad (cel_ne hc2 (by decide))) ?_
  refine x_aload_n (pc := 0) 0 K rfl rfl dX12_mark_0 ?_
  refine x_get (pc := 1) (C := RX12) (T := TX12) (n := 26) (ci := 11) (idx := 22) (ref := "BorderBedsModel") (x := .ref (B + 166))  K (cel_ne (cel_self hc0.1) (by decide)) rfl (by decide +kernel) 8 (by decide) (by decide +kernel) rfl rfl dX12_mark_1 ?_
  refine x_iconst (pc := 4) K dX12_mark_4 ?_
  refine x_iload_n (pc := 5) 1 K rfl rfl dX12_mark_5 ?_
  refine x_iadd (pc := 6) K dX12_mark_6 ?_
  refine x_iald (pc := 7) (5 + who) K (cel_ne (cel_ne hc1 (by decide)) (by decide)) (by omega) (by omega) (by decide) dX12_mark_7 ?_
  refine x_nm (fun z1 hz1 => ?_)
  refine x_istore_n (pc := 8) K (L' := [(2, .int (zI z1)), (0, .ref (B + 161)), (1, .int (zI (who : Int)))]) hnL rfl (by decide) rfl dX12_mark_8 ?_
  refine x_iload_n (pc := 9) 2 K rfl rfl dX12_mark_9 ?_
  refine x_aload_n (pc := 10) 1 K rfl rfl dX12_mark_10 ?_
  refine x_get (pc := 11) (C := RX12) (T := TX12) (n := 26) (ci := 11) (idx := 22) (ref := "BorderBedsModel") (x := .ref (B + 166))  K (cel_ne (cel_self hc0.1) (by decide)) rfl (by decide +kernel) 8 (by decide) (by decide +kernel) rfl rfl dX12_mark_11 ?_
  refine x_bipush (pc := 14) K (by decide) dX12_mark_14 ?_
  refine x_iload_n (pc := 16) 2 K rfl rfl dX12_mark_16 ?_
  refine x_iadd (pc := 17) K dX12_mark_17 ?_
  refine x_iald (pc := 18) (15 + who) K (cel_ne (cel_ne hc1 (by decide)) (by decide)) (by omega) (by omega) (by decide) dX12_mark_18 ?_
  refine x_iadd (pc := 19) K dX12_mark_19 ?_
  refine x_nm (fun z2 hz2 => ?_)
  refine x_istore_n (pc := 20) K (L' := [(3, .int (zI z2)), (2, .int (zI z1)), (0, .ref (B + 161)), (1, .int (zI (who : Int)))]) hnL rfl (by decide) rfl dX12_mark_20 ?_
  refine x_aload_n (pc := 21) 2 K rfl rfl dX12_mark_21 ?_
  refine x_iload_n (pc := 22) 1 K rfl rfl dX12_mark_22 ?_
  refine x_iconst (pc := 23) K dX12_mark_23 ?_
  refine x_icmp_ne (pc := 24) (tgt := 33) K (by omega) (by decide) dX12_mark_24 (by decide) (fun h_24 => ?_) (fun h_24 => ?_)
  · skip
    refine x_iload_n (pc := 33) 1 K rfl rfl dX12_mark_33 ?_
    refine x_iconst (pc := 34) K dX12_mark_34 ?_
    refine x_icmp_ne (pc := 35) (tgt := 44) K (by omega) (by decide) dX12_mark_35 (by decide) (fun h_35 => ?_) (fun h_35 => ?_)
    · skip
      refine x_ldc2 (pc := 44) (x := (2120)) (2120) K (by decide) (by decide +kernel) dX12_mark_44 ?_
      refine x_callV (pc := 47) (C := RX12) (T := TX12) (n := 26) (ci := 11) (As := [.long (zL 2120)]) K (c_leave_2120 (E := E) (B := B) (N := N)   (cel_ne (cel_self hc0.1) (by decide)) (cel_self hc2.1) (by omega)) gX12_mark_X12_leave rfl (na := 1) (by decide +kernel) rfl ⟨(Nat.le_of_ble_eq_true rfl), (Nat.le_of_ble_eq_true rfl)⟩ (cel_ne (cel_self hc0.1) (by decide)) rfl (st := []) rfl (Nat.le_of_ble_eq_true rfl) ⟨(Nat.le_of_ble_eq_true rfl), (Nat.le_of_ble_eq_true rfl)⟩ dX12_mark_47 (fun r47 N47 w47 hpo47 hN47 => ?_)
      obtain ⟨rfl, n2_47, tr2_47, hp47_0, hp47_1, rfl, rfl⟩ := hpo47
      refine x_v (congrArg (fun w => (va_up w 170 (iarr E 16 tr2_47))) (show (va_up (va_up v 161 (oM B (va_up F 13 n2_47) V)) 170 (iarr E 16 tr)) = _ from (up_at1 (by decide)).symm)) ?_
      refine x_v (w := (va_up (va_up v 161 (oM B (va_up F 13 n2_47) V)) 170 (iarr E 16 tr2_47))) (up_at0).symm ?_
      refine x_st (st' := []) rfl ?_
      refine x_iload_n (pc := 50) 1 K rfl rfl dX12_mark_50 ?_
      refine x_iconst (pc := 51) K dX12_mark_51 ?_
      refine x_icmp_ne (pc := 52) (tgt := 61) K (by omega) (by decide) dX12_mark_52 (by decide) (fun h_52 => ?_) (fun h_52 => ?_)
      · skip
        refine x_iload_n (pc := 61) 1 K rfl rfl dX12_mark_61 ?_
        refine x_iconst (pc := 62) K dX12_mark_62 ?_
        refine x_icmp_ne (pc := 63) (tgt := 74) K (by omega) (by decide) dX12_mark_63 (by decide) (fun h_63 => ?_) (fun h_63 => ?_)
        · skip
          refine x_iload_n (pc := 74) 0 K rfl rfl dX12_mark_74 ?_
          refine x_iret (pc := 75) K KR (by omega) (Nat.le_of_ble_eq_true rfl) (Nat.le_of_ble_eq_true rfl) dX12_mark_75 ?_
          have hD : markD (p (5 + who)) = [21, 20] := by unfold markD; rw [if_neg (by omega), if_neg (by omega)]
          exact ⟨rfl, z2, n2_47, tr2_47, (by rw [hD]; exact hp47_0), (by rw [hD]; exact hp47_1), (by unfold markV; split <;> (try split) <;> omega), rfl, rfl⟩
        · skip
          exfalso; omega
      · skip
        exfalso; omega
    · skip
      refine x_ldc2 (pc := 38) (x := (222120)) (222120) K (by decide) (by decide +kernel) dX12_mark_38 ?_
      refine x_goto (pc := 41) (tgt := 47) K dX12_mark_41 (by decide) ?_
      refine x_callV (pc := 47) (C := RX12) (T := TX12) (n := 26) (ci := 11) (As := [.long (zL 222120)]) K (c_leave_222120 (E := E) (B := B) (N := N)   (cel_ne (cel_self hc0.1) (by decide)) (cel_self hc2.1) (by omega)) gX12_mark_X12_leave rfl (na := 1) (by decide +kernel) rfl ⟨(Nat.le_of_ble_eq_true rfl), (Nat.le_of_ble_eq_true rfl)⟩ (cel_ne (cel_self hc0.1) (by decide)) rfl (st := []) rfl (Nat.le_of_ble_eq_true rfl) ⟨(Nat.le_of_ble_eq_true rfl), (Nat.le_of_ble_eq_true rfl)⟩ dX12_mark_47 (fun r47 N47 w47 hpo47 hN47 => ?_)
      obtain ⟨rfl, n2_47, tr2_47, hp47_0, hp47_1, rfl, rfl⟩ := hpo47
      refine x_v (congrArg (fun w => (va_up w 170 (iarr E 16 tr2_47))) (show (va_up (va_up v 161 (oM B (va_up F 13 n2_47) V)) 170 (iarr E 16 tr)) = _ from (up_at1 (by decide)).symm)) ?_
      refine x_v (w := (va_up (va_up v 161 (oM B (va_up F 13 n2_47) V)) 170 (iarr E 16 tr2_47))) (up_at0).symm ?_
      refine x_st (st' := []) rfl ?_
      refine x_iload_n (pc := 50) 1 K rfl rfl dX12_mark_50 ?_
      refine x_iconst (pc := 51) K dX12_mark_51 ?_
      refine x_icmp_ne (pc := 52) (tgt := 61) K (by omega) (by decide) dX12_mark_52 (by decide) (fun h_52 => ?_) (fun h_52 => ?_)
      · skip
        refine x_iload_n (pc := 61) 1 K rfl rfl dX12_mark_61 ?_
        refine x_iconst (pc := 62) K dX12_mark_62 ?_
        refine x_icmp_ne (pc := 63) (tgt := 74) K (by omega) (by decide) dX12_mark_63 (by decide) (fun h_63 => ?_) (fun h_63 => ?_)
        · skip
          exfalso; omega
        · skip
          refine x_iload_n (pc := 66) 0 K rfl rfl dX12_mark_66 ?_
          refine x_sipush (pc := 67) K (by decide) dX12_mark_67 ?_
          refine x_isub (pc := 70) K dX12_mark_70 ?_
          refine x_goto (pc := 71) (tgt := 75) K dX12_mark_71 (by decide) ?_
          refine x_iret (pc := 75) K KR (by omega) (Nat.le_of_ble_eq_true rfl) (Nat.le_of_ble_eq_true rfl) dX12_mark_75 ?_
          have hD : markD (p (5 + who)) = [22, 21, 20] := by unfold markD; rw [if_neg (by omega), if_pos (by omega)]
          exact ⟨rfl, (z2 - 1000), n2_47, tr2_47, (by rw [hD]; exact hp47_0), (by rw [hD]; exact hp47_1), (by unfold markV; split <;> (try split) <;> omega), rfl, rfl⟩
      · skip
        exfalso; omega
  · skip
    refine x_ldc2 (pc := 27) (x := (242120)) (242120) K (by decide) (by decide +kernel) dX12_mark_27 ?_
    refine x_goto (pc := 30) (tgt := 47) K dX12_mark_30 (by decide) ?_
    refine x_callV (pc := 47) (C := RX12) (T := TX12) (n := 26) (ci := 11) (As := [.long (zL 242120)]) K (c_leave_242120 (E := E) (B := B) (N := N)   (cel_ne (cel_self hc0.1) (by decide)) (cel_self hc2.1) (by omega)) gX12_mark_X12_leave rfl (na := 1) (by decide +kernel) rfl ⟨(Nat.le_of_ble_eq_true rfl), (Nat.le_of_ble_eq_true rfl)⟩ (cel_ne (cel_self hc0.1) (by decide)) rfl (st := []) rfl (Nat.le_of_ble_eq_true rfl) ⟨(Nat.le_of_ble_eq_true rfl), (Nat.le_of_ble_eq_true rfl)⟩ dX12_mark_47 (fun r47 N47 w47 hpo47 hN47 => ?_)
    obtain ⟨rfl, n2_47, tr2_47, hp47_0, hp47_1, rfl, rfl⟩ := hpo47
    refine x_v (congrArg (fun w => (va_up w 170 (iarr E 16 tr2_47))) (show (va_up (va_up v 161 (oM B (va_up F 13 n2_47) V)) 170 (iarr E 16 tr)) = _ from (up_at1 (by decide)).symm)) ?_
    refine x_v (w := (va_up (va_up v 161 (oM B (va_up F 13 n2_47) V)) 170 (iarr E 16 tr2_47))) (up_at0).symm ?_
    refine x_st (st' := []) rfl ?_
    refine x_iload_n (pc := 50) 1 K rfl rfl dX12_mark_50 ?_
    refine x_iconst (pc := 51) K dX12_mark_51 ?_
    refine x_icmp_ne (pc := 52) (tgt := 61) K (by omega) (by decide) dX12_mark_52 (by decide) (fun h_52 => ?_) (fun h_52 => ?_)
    · skip
      exfalso; omega
    · skip
      refine x_iconst (pc := 55) K dX12_mark_55 ?_
      refine x_iload_n (pc := 56) 0 K rfl rfl dX12_mark_56 ?_
      refine x_imul (pc := 57) K dX12_mark_57 ?_
      refine x_goto (pc := 58) (tgt := 75) K dX12_mark_58 (by decide) ?_
      refine x_iret (pc := 75) K KR (by omega) (Nat.le_of_ble_eq_true rfl) (Nat.le_of_ble_eq_true rfl) dX12_mark_75 ?_
      have hD : markD (p (5 + who)) = [24, 21, 20] := by unfold markD; rw [if_pos (by omega)]
      exact ⟨rfl, (2 * z2), n2_47, tr2_47, (by rw [hD]; exact hp47_0), (by rw [hD]; exact hp47_1), (by unfold markV; split <;> (try split) <;> omega), rfl, rfl⟩

set_option maxRecDepth 100000 in
set_option maxHeartbeats 4000000 in
theorem c_X12_sizeOf {E : XE} {B N : Nat} {v : Nat → va_E} {who : Nat} {F a p tr : Nat → Int} {V : Int} {l : Cor} {who_i : Int} (ha_who : who_i = (who : Int)) (hc0 : Cel N v 161 (oM B F V)) (hc1 : Cel N v 166 (iarr E 138 a)) (hc2 : Cel N v 170 (iarr E 16 tr)) (hq0 : PR a p l) (hq1 : POk p) (hq2 : CorOk l) (hq3 : (l.length : Int) ≤ p 2) (hq4 : who < 5) (hq5 : 0 ≤ F 13 ∧ F 13 ≤ 6) : gM yX12_sizeOf wsX12_sizeOf ({ frames := 1, cells := 0, slots := 0, locals := 26 }) E B N v [.ref (B + 161), .int (zI who_i)] (po0 N (fun ρ v' => ∃ (res : Int), ∃ (n2 : Int), ∃ (tr2 : Nat → Int), (n2 = F 13 + ((sizeD (p (5 + who))).length : Int)) ∧ (tr2 = wrL tr (F 13).toNat (sizeD (p (5 + who)))) ∧ (res = sizeV (p (5 + who)) (p (20 + who))) ∧ ρ = some (.int (zI res)) ∧ (va_up (va_up v 161 (oM B (va_up F 13 n2) V)) 170 (iarr E 16 tr2)) = v')) := by
  subst ha_who
  refine x_met (nm := "sizeOf") (by decide +kernel) rfl (Nat.le_of_ble_eq_true rfl) rfl (fun Γ K KR hnL hnm => ?_)
  show XW Γ N v [(0, .ref (B + 161)), (1, .int (zI (who : Int)))] 0 0 0 []
  have hw := hq1.2.2.2.2.2.1 who hq4
  have e5 := hq0.1 (5 + who) (by omega)
  have e20 := hq0.1 (20 + who) (by omega)
  refine x_v (cel_pad hc0) ?_
  refine x_v (cel_pad (cel_ne hc2 (by decide))) ?_
  refine x_aload_n (pc := 0) 0 K rfl rfl dX12_sizeOf_0 ?_
  refine x_get (pc := 1) (C := RX12) (T := TX12) (n := 26) (ci := 11) (idx := 22) (ref := "BorderBedsModel") (x := .ref (B + 166))  K (cel_ne (cel_self hc0.1) (by decide)) rfl (by decide +kernel) 8 (by decide) (by decide +kernel) rfl rfl dX12_sizeOf_1 ?_
  refine x_bipush (pc := 4) K (by decide) dX12_sizeOf_4 ?_
  refine x_iload_n (pc := 6) 1 K rfl rfl dX12_sizeOf_6 ?_
  refine x_iadd (pc := 7) K dX12_sizeOf_7 ?_
  refine x_iald (pc := 8) (20 + who) K (cel_ne (cel_ne hc1 (by decide)) (by decide)) (by omega) (by omega) (by decide) dX12_sizeOf_8 ?_
  refine x_bipush (pc := 9) K (by decide) dX12_sizeOf_9 ?_
  refine x_isub (pc := 11) K dX12_sizeOf_11 ?_
  refine x_nm (fun z1 hz1 => ?_)
  refine x_istore_n (pc := 12) K (L' := [(2, .int (zI z1)), (0, .ref (B + 161)), (1, .int (zI (who : Int)))]) hnL rfl (by decide) rfl dX12_sizeOf_12 ?_
  refine x_aload_n (pc := 13) 1 K rfl rfl dX12_sizeOf_13 ?_
  refine x_get (pc := 14) (C := RX12) (T := TX12) (n := 26) (ci := 11) (idx := 22) (ref := "BorderBedsModel") (x := .ref (B + 166))  K (cel_ne (cel_self hc0.1) (by decide)) rfl (by decide +kernel) 8 (by decide) (by decide +kernel) rfl rfl dX12_sizeOf_14 ?_
  refine x_iconst (pc := 17) K dX12_sizeOf_17 ?_
  refine x_iload_n (pc := 18) 2 K rfl rfl dX12_sizeOf_18 ?_
  refine x_iadd (pc := 19) K dX12_sizeOf_19 ?_
  refine x_iald (pc := 20) (5 + who) K (cel_ne (cel_ne hc1 (by decide)) (by decide)) (by omega) (by omega) (by decide) dX12_sizeOf_20 ?_
  refine x_iconst (pc := 21) K dX12_sizeOf_21 ?_
  refine x_icmp_ne (pc := 22) (tgt := 29) K (by omega) (by decide) dX12_sizeOf_22 (by decide) (fun h_22 => ?_) (fun h_22 => ?_)
  · skip
    refine x_iconst (pc := 29) K dX12_sizeOf_29 ?_
    refine x_istore_n (pc := 30) K (L' := [(3, .int (zI 0)), (2, .int (zI z1)), (0, .ref (B + 161)), (1, .int (zI (who : Int)))]) hnL rfl (by decide) rfl dX12_sizeOf_30 ?_
    refine x_aload_n (pc := 31) 2 K rfl rfl dX12_sizeOf_31 ?_
    refine x_iload_n (pc := 32) 0 K rfl rfl dX12_sizeOf_32 ?_
    refine x_if_eq (pc := 33) (tgt := 42) K (by decide) dX12_sizeOf_33 (by decide) (fun h_33 => ?_) (fun h_33 => ?_)
    · skip
      refine x_ldc2 (pc := 42) (x := (1310)) (1310) K (by decide) (by decide +kernel) dX12_sizeOf_42 ?_
      refine x_callV (pc := 45) (C := RX12) (T := TX12) (n := 26) (ci := 11) (As := [.long (zL 1310)]) K (c_leave_1310 (E := E) (B := B) (N := N)   (cel_ne (cel_self hc0.1) (by decide)) (cel_self hc2.1) (by omega)) gX12_sizeOf_X12_leave rfl (na := 1) (by decide +kernel) rfl ⟨(Nat.le_of_ble_eq_true rfl), (Nat.le_of_ble_eq_true rfl)⟩ (cel_ne (cel_self hc0.1) (by decide)) rfl (st := []) rfl (Nat.le_of_ble_eq_true rfl) ⟨(Nat.le_of_ble_eq_true rfl), (Nat.le_of_ble_eq_true rfl)⟩ dX12_sizeOf_45 (fun r45 N45 w45 hpo45 hN45 => ?_)
      obtain ⟨rfl, n2_45, tr2_45, hp45_0, hp45_1, rfl, rfl⟩ := hpo45
      refine x_v (congrArg (fun w => (va_up w 170 (iarr E 16 tr2_45))) (show (va_up (va_up v 161 (oM B (va_up F 13 n2_45) V)) 170 (iarr E 16 tr)) = _ from (up_at1 (by decide)).symm)) ?_
      refine x_v (w := (va_up (va_up v 161 (oM B (va_up F 13 n2_45) V)) 170 (iarr E 16 tr2_45))) (up_at0).symm ?_
      refine x_st (st' := []) rfl ?_
      refine x_iload_n (pc := 48) 0 K rfl rfl dX12_sizeOf_48 ?_
      refine x_if_eq (pc := 49) (tgt := 58) K (by decide) dX12_sizeOf_49 (by decide) (fun h_49 => ?_) (fun h_49 => ?_)
      · skip
        refine x_iload_n (pc := 58) 1 K rfl rfl dX12_sizeOf_58 ?_
        refine x_iret (pc := 59) K KR (by omega) (Nat.le_of_ble_eq_true rfl) (Nat.le_of_ble_eq_true rfl) dX12_sizeOf_59 ?_
        have hD : sizeD (p (5 + who)) = [13, 10] := by unfold sizeD; rw [if_neg (by omega)]
        exact ⟨rfl, z1, n2_45, tr2_45, (by rw [hD]; exact hp45_0), (by rw [hD]; exact hp45_1), (by unfold sizeV; split <;> omega), rfl, rfl⟩
      · skip
        exfalso; omega
    · skip
      exfalso; omega
  · skip
    refine x_iconst (pc := 25) K dX12_sizeOf_25 ?_
    refine x_goto (pc := 26) (tgt := 30) K dX12_sizeOf_26 (by decide) ?_
    refine x_istore_n (pc := 30) K (L' := [(3, .int (zI 1)), (2, .int (zI z1)), (0, .ref (B + 161)), (1, .int (zI (who : Int)))]) hnL rfl (by decide) rfl dX12_sizeOf_30 ?_
    refine x_aload_n (pc := 31) 2 K rfl rfl dX12_sizeOf_31 ?_
    refine x_iload_n (pc := 32) 0 K rfl rfl dX12_sizeOf_32 ?_
    refine x_if_eq (pc := 33) (tgt := 42) K (by decide) dX12_sizeOf_33 (by decide) (fun h_33 => ?_) (fun h_33 => ?_)
    · skip
      exfalso; omega
    · skip
      refine x_ldc2 (pc := 36) (x := (141310)) (141310) K (by decide) (by decide +kernel) dX12_sizeOf_36 ?_
      refine x_goto (pc := 39) (tgt := 45) K dX12_sizeOf_39 (by decide) ?_
      refine x_callV (pc := 45) (C := RX12) (T := TX12) (n := 26) (ci := 11) (As := [.long (zL 141310)]) K (c_leave_141310 (E := E) (B := B) (N := N)   (cel_ne (cel_self hc0.1) (by decide)) (cel_self hc2.1) (by omega)) gX12_sizeOf_X12_leave rfl (na := 1) (by decide +kernel) rfl ⟨(Nat.le_of_ble_eq_true rfl), (Nat.le_of_ble_eq_true rfl)⟩ (cel_ne (cel_self hc0.1) (by decide)) rfl (st := []) rfl (Nat.le_of_ble_eq_true rfl) ⟨(Nat.le_of_ble_eq_true rfl), (Nat.le_of_ble_eq_true rfl)⟩ dX12_sizeOf_45 (fun r45 N45 w45 hpo45 hN45 => ?_)
      obtain ⟨rfl, n2_45, tr2_45, hp45_0, hp45_1, rfl, rfl⟩ := hpo45
      refine x_v (congrArg (fun w => (va_up w 170 (iarr E 16 tr2_45))) (show (va_up (va_up v 161 (oM B (va_up F 13 n2_45) V)) 170 (iarr E 16 tr)) = _ from (up_at1 (by decide)).symm)) ?_
      refine x_v (w := (va_up (va_up v 161 (oM B (va_up F 13 n2_45) V)) 170 (iarr E 16 tr2_45))) (up_at0).symm ?_
      refine x_st (st' := []) rfl ?_
      refine x_iload_n (pc := 48) 0 K rfl rfl dX12_sizeOf_48 ?_
      refine x_if_eq (pc := 49) (tgt := 58) K (by decide) dX12_sizeOf_49 (by decide) (fun h_49 => ?_) (fun h_49 => ?_)
      · skip
        exfalso; omega
      · skip
        refine x_iconst (pc := 52) K dX12_sizeOf_52 ?_
        refine x_iload_n (pc := 53) 1 K rfl rfl dX12_sizeOf_53 ?_
        refine x_imul (pc := 54) K dX12_sizeOf_54 ?_
        refine x_goto (pc := 55) (tgt := 59) K dX12_sizeOf_55 (by decide) ?_
        refine x_iret (pc := 59) K KR (by omega) (Nat.le_of_ble_eq_true rfl) (Nat.le_of_ble_eq_true rfl) dX12_sizeOf_59 ?_
        have hD : sizeD (p (5 + who)) = [14, 13, 10] := by unfold sizeD; rw [if_pos (by omega)]
        exact ⟨rfl, (2 * z1), n2_45, tr2_45, (by rw [hD]; exact hp45_0), (by rw [hD]; exact hp45_1), (by unfold sizeV; split <;> omega), rfl, rfl⟩

set_option maxRecDepth 100000 in
set_option maxHeartbeats 4000000 in
theorem c_X12_ask {E : XE} {B N : Nat} {v : Nat → va_E} {F a p tr : Nat → Int} {V x what : Int} {l : Cor} (hc0 : Cel N v 161 (oM B F V)) (hc1 : Cel N v 166 (iarr E 138 a)) (hc2 : Cel N v 170 (iarr E 16 tr)) (hq0 : PR a p l) (hq1 : POk p) (hq2 : CorOk l) (hq3 : (l.length : Int) ≤ p 2) (hq4 : (-2147483648 ≤ x ∧ x ≤ 2147483647)) (hq5 : (-2147483648 ≤ what ∧ what ≤ 2147483647)) : gM yX12_ask wsX12_ask ({ frames := 2, cells := 0, slots := 0, locals := 49 }) E B N v [.ref (B + 161), .int (zI x), .int (zI what)] (po0 N (fun ρ v' => ∃ (res : Int), ∃ (n2 : Int), ∃ (tr2 : Nat → Int), ((¬ ((0 ≤ x ∧ x ≤ p 4 - 1) ∧ 0 ≤ what ∧ what ≤ 1) ∧ res = -1000001 ∧ n2 = F 13 ∧ tr2 = tr) ∨ (((0 ≤ x ∧ x ≤ p 4 - 1) ∧ 0 ≤ what ∧ what ≤ 1) ∧ n2 = ((askD (p (5 + x.toNat)) what).length : Int) ∧ tr2 = wrL tr 0 (askD (p (5 + x.toNat)) what) ∧ res = askV (p (5 + x.toNat)) (x.toNat : Int) (x.toNat + p (15 + x.toNat)) (p (20 + x.toNat)) what)) ∧ ρ = some (.int (zI res)) ∧ (va_up (va_up v 161 (oM B (va_up F 13 n2) V)) 170 (iarr E 16 tr2)) = v')) := by
  refine x_met (nm := "ask") (by decide +kernel) rfl (Nat.le_of_ble_eq_true rfl) rfl (fun Γ K KR hnL hnm => ?_)
  show XW Γ N v [(0, .ref (B + 161)), (1, .int (zI x)), (2, .int (zI what))] 0 0 0 []
  have h4 := hq0.1 4 (by omega)
  have hp4 := hq1.2.2.2.2.1
  refine x_v (cel_pad hc0) ?_
  refine x_v (cel_pad (cel_ne hc2 (by decide))) ?_
  refine x_aload_n (pc := 0) 0 K rfl rfl dX12_ask_0 ?_
  refine x_iload_n (pc := 1) 1 K rfl rfl dX12_ask_1 ?_
  refine x_callV (pc := 2) (C := RX12) (T := TX12) (n := 26) (ci := 11) (As := [.int (zI x)]) K (c_X12_isPerson (E := E) (B := B) (N := N)   (cel_ne (cel_self hc0.1) (by decide)) (cel_ne (cel_ne hc1 (by decide)) (by decide)) (by omega) (by omega)) gX12_ask_X12_isPerson rfl (na := 1) (by decide +kernel) rfl ⟨(Nat.le_of_ble_eq_true rfl), (Nat.le_of_ble_eq_true rfl)⟩ (cel_ne (cel_self hc0.1) (by decide)) rfl (st := []) rfl (Nat.le_of_ble_eq_true rfl) ⟨(Nat.le_of_ble_eq_true rfl), (Nat.le_of_ble_eq_true rfl)⟩ dX12_ask_2 (fun r2 N2 w2 hpo2 hN2 => ?_)
  obtain ⟨rfl, rfl, rfl⟩ := hpo2
  refine x_st (st' := [.int (zI (bI (0 ≤ x ∧ x ≤ a 4 - 1)))]) rfl ?_
  have hrg2 := bI_rng (0 ≤ x ∧ x ≤ a 4 - 1)
  refine x_if_eq (pc := 5) (tgt := 18) K (by omega) dX12_ask_5 (by decide) (fun h_5 => ?_) (fun h_5 => ?_)
  · skip
    have h_5 := bI_t h_5
    refine x_ldc (pc := 18) (x := (-1000001)) (-1000001) K (by decide) (by decide +kernel) dX12_ask_18 ?_
    refine x_iret (pc := 20) K KR (by omega) (Nat.le_of_ble_eq_true rfl) (Nat.le_of_ble_eq_true rfl) dX12_ask_20 ?_
    exact ⟨rfl, (-1000001), (F 13), tr, (by exact Or.inl ⟨by omega, rfl, rfl, rfl⟩), rfl, rfl⟩
  · skip
    have h_5 := bI_f h_5
    refine x_iload_n (pc := 8) 2 K rfl rfl dX12_ask_8 ?_
    refine x_i2l (pc := 9) K (by omega) dX12_ask_9 ?_
    refine x_lconst (pc := 10) (0) K (by decide) dX12_ask_10 ?_
    refine x_lconst (pc := 11) (1) K (by decide) dX12_ask_11 ?_
    refine x_callS (pc := 12) (As := [.long (zL what), .long (zL 0), .long (zL 1)]) K (c_X12_in (E := E) (B := B) (N := N)    (by omega) (by omega) (by omega)) gX12_ask_X12_in rfl (na := 3) (by decide +kernel) rfl ⟨(Nat.le_of_ble_eq_true rfl), (Nat.le_of_ble_eq_true rfl)⟩ (st := []) rfl (Nat.le_of_ble_eq_true rfl) ⟨(Nat.le_of_ble_eq_true rfl), (Nat.le_of_ble_eq_true rfl)⟩ dX12_ask_12 (fun r12 N12 w12 hpo12 hN12 => ?_)
    obtain ⟨rfl, rfl, rfl⟩ := hpo12
    refine x_st (st' := [.int (zI (bI (0 ≤ what ∧ what ≤ 1)))]) rfl ?_
    have hrg12 := bI_rng (0 ≤ what ∧ what ≤ 1)
    refine x_if_ne (pc := 15) (tgt := 21) K (by omega) dX12_ask_15 (by decide) (fun h_15 => ?_) (fun h_15 => ?_)
    · skip
      have h_15 := bI_f h_15
      obtain ⟨xx, rfl⟩ : ∃ xx : Nat, x = (xx : Int) := ⟨x.toNat, by omega⟩
      have hw := hq1.2.2.2.2.2.1 xx (by omega)
      have e5 := hq0.1 (5 + xx) (by omega)
      have e15 := hq0.1 (15 + xx) (by omega)
      have e20 := hq0.1 (20 + xx) (by omega)
      refine x_aload_n (pc := 21) 0 K rfl rfl dX12_ask_21 ?_
      refine x_iconst (pc := 22) K dX12_ask_22 ?_
      refine x_put (pc := 23) (C := RX12) (T := TX12) (n := 26) (ci := 11) (idx := 264) (ref := "BorderBedsModel") (ty := .int)  K (cel_ne (cel_self hc0.1) (by decide)) rfl (by decide +kernel) tyX12 tyX12_ok nmX12 13 (by decide) (by decide +kernel) rfl rfl (by decide +kernel) rfl rfl (Nat.le_of_ble_eq_true rfl) dX12_ask_23 ?_
      refine x_v (w := (va_up (va_up v 161 (oM B (va_up F 13 0) V)) 170 (iarr E 16 tr))) (up_at1 (by decide)).symm ?_
      refine x_aload_n (pc := 26) 0 K rfl rfl dX12_ask_26 ?_
      refine x_get (pc := 27) (C := RX12) (T := TX12) (n := 26) (ci := 11) (idx := 22) (ref := "BorderBedsModel") (x := .ref (B + 166))  K (cel_ne (cel_self hc0.1) (by decide)) rfl (by decide +kernel) 8 (by decide) (by decide +kernel) rfl rfl dX12_ask_27 ?_
      refine x_iconst (pc := 30) K dX12_ask_30 ?_
      refine x_iload_n (pc := 31) 1 K rfl rfl dX12_ask_31 ?_
      refine x_iadd (pc := 32) K dX12_ask_32 ?_
      refine x_iald (pc := 33) (5 + xx) K (cel_ne (cel_ne hc1 (by decide)) (by decide)) (by omega) (by omega) (by decide) dX12_ask_33 ?_
      refine x_nm (fun z1 hz1 => ?_)
      refine x_istore_n (pc := 34) K (L' := [(3, .int (zI z1)), (0, .ref (B + 161)), (1, .int (zI (xx : Int))), (2, .int (zI what))]) hnL rfl (by decide) rfl dX12_ask_34 ?_
      refine x_iload_n (pc := 35) 0 K rfl rfl dX12_ask_35 ?_
      refine x_iconst (pc := 36) K dX12_ask_36 ?_
      refine x_icmp_ge (pc := 37) (tgt := 100) K (by omega) (by decide) dX12_ask_37 (by decide) (fun h_37 => ?_) (fun h_37 => ?_)
      · skip
        refine x_iload_n (pc := 100) 3 K rfl rfl dX12_ask_100 ?_
        refine x_if_ne (pc := 101) (tgt := 110) K (by omega) dX12_ask_101 (by decide) (fun h_101 => ?_) (fun h_101 => ?_)
        · skip
          refine x_aload_n (pc := 110) 1 K rfl rfl dX12_ask_110 ?_
          refine x_ldc2 (pc := 111) (x := (2320)) (2320) K (by decide) (by decide +kernel) dX12_ask_111 ?_
          refine x_callV (pc := 114) (C := RX12) (T := TX12) (n := 26) (ci := 11) (As := [.long (zL 2320)]) K (c_leave_2320 (E := E) (B := B) (N := N)   (cel_ne (cel_self hc0.1) (by decide)) (cel_self hc2.1) (by rw [va_up_self]; omega)) gX12_ask_X12_leave rfl (na := 1) (by decide +kernel) rfl ⟨(Nat.le_of_ble_eq_true rfl), (Nat.le_of_ble_eq_true rfl)⟩ (cel_ne (cel_self hc0.1) (by decide)) rfl (st := []) rfl (Nat.le_of_ble_eq_true rfl) ⟨(Nat.le_of_ble_eq_true rfl), (Nat.le_of_ble_eq_true rfl)⟩ dX12_ask_114 (fun r114 N114 w114 hpo114 hN114 => ?_)
          obtain ⟨rfl, n2_114, tr2_114, hp114_0, hp114_1, rfl, rfl⟩ := hpo114
          refine x_v (congrArg (fun w => (va_up w 170 (iarr E 16 tr2_114))) (show (va_up (va_up v 161 (oM B (va_up F 13 n2_114) V)) 170 (iarr E 16 tr)) = _ from (up_at1 (by decide)).symm)) ?_
          refine x_v (w := (va_up (va_up v 161 (oM B (va_up F 13 n2_114) V)) 170 (iarr E 16 tr2_114))) (up_at0).symm ?_
          refine x_st (st' := []) rfl ?_
          rw [va_up_self] at hp114_0 hp114_1
          refine x_iload_n (pc := 117) 2 K rfl rfl dX12_ask_117 ?_
          refine x_aload_n (pc := 118) 1 K rfl rfl dX12_ask_118 ?_
          refine x_iload_n (pc := 119) 2 K rfl rfl dX12_ask_119 ?_
          refine x_callV (pc := 120) (C := RX12) (T := TX12) (n := 26) (ci := 11) (As := [.int (zI (xx : Int))]) K (c_X12_sizeOf (E := E) (B := B) (N := N) (p := p) (l := l) (who := xx) rfl (cel_ne (cel_self hc0.1) (by decide)) (cel_ne (cel_ne hc1 (by decide)) (by decide)) (cel_self hc2.1) hq0 hq1 hq2 hq3 (by omega) (by rw [va_up_self]; omega)) gX12_ask_X12_sizeOf rfl (na := 1) (by decide +kernel) rfl ⟨(Nat.le_of_ble_eq_true rfl), (Nat.le_of_ble_eq_true rfl)⟩ (cel_ne (cel_self hc0.1) (by decide)) rfl (st := [.int (zI (xx : Int))]) rfl (Nat.le_of_ble_eq_true rfl) ⟨(Nat.le_of_ble_eq_true rfl), (Nat.le_of_ble_eq_true rfl)⟩ dX12_ask_120 (fun r120 N120 w120 hpo120 hN120 => ?_)
          obtain ⟨rfl, res_120, n2_120, tr2_120, hp120_0, hp120_1, hp120_2, rfl, rfl⟩ := hpo120
          refine x_v (congrArg (fun w => (va_up w 170 (iarr E 16 tr2_120))) (show (va_up (va_up v 161 (oM B (va_up F 13 n2_120) V)) 170 (iarr E 16 tr2_114)) = _ from (up_at1 (by decide)).symm)) ?_
          refine x_v (w := (va_up (va_up v 161 (oM B (va_up F 13 n2_120) V)) 170 (iarr E 16 tr2_120))) (up_at0).symm ?_
          refine x_st (st' := [.int (zI res_120), .int (zI (xx : Int))]) rfl ?_
          rw [va_up_self] at hp120_0 hp120_1
          have hmv : -2000 ≤ res_120 ∧ res_120 ≤ 2000 := by rw [hp120_2]; unfold sizeV; split <;> omega
          refine x_isub (pc := 123) K dX12_ask_123 ?_
          refine x_iret (pc := 124) K KR (by omega) (Nat.le_of_ble_eq_true rfl) (Nat.le_of_ble_eq_true rfl) dX12_ask_124 ?_
          have hD : askD (p (5 + xx)) what = [23, 20] ++ sizeD (p (5 + xx)) := by unfold askD; rw [if_neg (by omega), if_neg (by omega)]
          have hn1 : n2_114.toNat = 2 := by omega
          have q1 : n2_120 = ((askD (p (5 + xx)) what).length : Int) := by rw [hD, List.length_append, hp120_0, hp114_0]; simp
          have q2 : tr2_120 = wrL tr 0 (askD (p (5 + xx)) what) := by rw [hD, ← wrL_app, hp120_1, hn1, hp114_1]; rfl
          exact ⟨rfl, ((xx : Int) - res_120), n2_120, tr2_120, (by exact Or.inr ⟨by omega, q1, q2, by simp only [Int.toNat_natCast]; unfold askV; rw [if_neg (by omega), if_neg (by omega)]; omega⟩), rfl, rfl⟩
        · skip
          refine x_aload_n (pc := 104) 1 K rfl rfl dX12_ask_104 ?_
          refine x_iload_n (pc := 105) 2 K rfl rfl dX12_ask_105 ?_
          refine x_callV (pc := 106) (C := RX12) (T := TX12) (n := 26) (ci := 11) (As := [.int (zI (xx : Int))]) K (c_X12_sizeOf (E := E) (B := B) (N := N) (p := p) (l := l) (who := xx) rfl (cel_ne (cel_self hc0.1) (by decide)) (cel_ne (cel_ne hc1 (by decide)) (by decide)) (cel_self hc2.1) hq0 hq1 hq2 hq3 (by omega) (by rw [va_up_self]; omega)) gX12_ask_X12_sizeOf rfl (na := 1) (by decide +kernel) rfl ⟨(Nat.le_of_ble_eq_true rfl), (Nat.le_of_ble_eq_true rfl)⟩ (cel_ne (cel_self hc0.1) (by decide)) rfl (st := []) rfl (Nat.le_of_ble_eq_true rfl) ⟨(Nat.le_of_ble_eq_true rfl), (Nat.le_of_ble_eq_true rfl)⟩ dX12_ask_106 (fun r106 N106 w106 hpo106 hN106 => ?_)
          obtain ⟨rfl, res_106, n2_106, tr2_106, hp106_0, hp106_1, hp106_2, rfl, rfl⟩ := hpo106
          refine x_v (congrArg (fun w => (va_up w 170 (iarr E 16 tr2_106))) (show (va_up (va_up v 161 (oM B (va_up F 13 n2_106) V)) 170 (iarr E 16 tr)) = _ from (up_at1 (by decide)).symm)) ?_
          refine x_v (w := (va_up (va_up v 161 (oM B (va_up F 13 n2_106) V)) 170 (iarr E 16 tr2_106))) (up_at0).symm ?_
          refine x_st (st' := [.int (zI res_106)]) rfl ?_
          rw [va_up_self] at hp106_0 hp106_1
          refine x_iret (pc := 109) K KR (by omega) (Nat.le_of_ble_eq_true rfl) (Nat.le_of_ble_eq_true rfl) dX12_ask_109 ?_
          have hD : askD (p (5 + xx)) what = sizeD (p (5 + xx)) := by unfold askD; rw [if_neg (by omega), if_pos (by omega)]
          have q1 : n2_106 = ((askD (p (5 + xx)) what).length : Int) := by rw [hD, hp106_0]; simp
          have q2 : tr2_106 = wrL tr 0 (askD (p (5 + xx)) what) := by rw [hD, hp106_1]; rfl
          exact ⟨rfl, res_106, n2_106, tr2_106, (by exact Or.inr ⟨by omega, q1, q2, by simp only [Int.toNat_natCast]; unfold askV; rw [if_neg (by omega), if_pos (by omega)]; exact hp106_2⟩), rfl, rfl⟩
      · skip
        refine x_iload_n (pc := 40) 3 K rfl rfl dX12_ask_40 ?_
        refine x_iconst (pc := 41) K dX12_ask_41 ?_
        refine x_icmp_ne (pc := 42) (tgt := 51) K (by omega) (by decide) dX12_ask_42 (by decide) (fun h_42 => ?_) (fun h_42 => ?_)
        · skip
          refine x_aload_n (pc := 51) 1 K rfl rfl dX12_ask_51 ?_
          refine x_iload_n (pc := 52) 0 K rfl rfl dX12_ask_52 ?_
          refine x_iconst (pc := 53) K dX12_ask_53 ?_
          refine x_icmp_ne (pc := 54) (tgt := 63) K (by omega) (by decide) dX12_ask_54 (by decide) (fun h_54 => ?_) (fun h_54 => ?_)
          · skip
            refine x_ldc2 (pc := 63) (x := (1110)) (1110) K (by decide) (by decide +kernel) dX12_ask_63 ?_
            refine x_callV (pc := 66) (C := RX12) (T := TX12) (n := 26) (ci := 11) (As := [.long (zL 1110)]) K (c_leave_1110 (E := E) (B := B) (N := N)   (cel_ne (cel_self hc0.1) (by decide)) (cel_self hc2.1) (by rw [va_up_self]; omega)) gX12_ask_X12_leave rfl (na := 1) (by decide +kernel) rfl ⟨(Nat.le_of_ble_eq_true rfl), (Nat.le_of_ble_eq_true rfl)⟩ (cel_ne (cel_self hc0.1) (by decide)) rfl (st := []) rfl (Nat.le_of_ble_eq_true rfl) ⟨(Nat.le_of_ble_eq_true rfl), (Nat.le_of_ble_eq_true rfl)⟩ dX12_ask_66 (fun r66 N66 w66 hpo66 hN66 => ?_)
            obtain ⟨rfl, n2_66, tr2_66, hp66_0, hp66_1, rfl, rfl⟩ := hpo66
            refine x_v (congrArg (fun w => (va_up w 170 (iarr E 16 tr2_66))) (show (va_up (va_up v 161 (oM B (va_up F 13 n2_66) V)) 170 (iarr E 16 tr)) = _ from (up_at1 (by decide)).symm)) ?_
            refine x_v (w := (va_up (va_up v 161 (oM B (va_up F 13 n2_66) V)) 170 (iarr E 16 tr2_66))) (up_at0).symm ?_
            refine x_st (st' := []) rfl ?_
            rw [va_up_self] at hp66_0 hp66_1
            refine x_aload_n (pc := 69) 1 K rfl rfl dX12_ask_69 ?_
            refine x_get (pc := 70) (C := RX12) (T := TX12) (n := 26) (ci := 11) (idx := 22) (ref := "BorderBedsModel") (x := .ref (B + 166))  K (cel_ne (cel_self hc0.1) (by decide)) rfl (by decide +kernel) 8 (by decide) (by decide +kernel) rfl rfl dX12_ask_70 ?_
            refine x_bipush (pc := 73) K (by decide) dX12_ask_73 ?_
            refine x_iload_n (pc := 75) 2 K rfl rfl dX12_ask_75 ?_
            refine x_iadd (pc := 76) K dX12_ask_76 ?_
            refine x_iald (pc := 77) (20 + xx) K (cel_ne (cel_ne hc1 (by decide)) (by decide)) (by omega) (by omega) (by decide) dX12_ask_77 ?_
            refine x_aload_n (pc := 78) 1 K rfl rfl dX12_ask_78 ?_
            refine x_iload_n (pc := 79) 2 K rfl rfl dX12_ask_79 ?_
            refine x_callV (pc := 80) (C := RX12) (T := TX12) (n := 26) (ci := 11) (As := [.int (zI (xx : Int))]) K (c_X12_mark (E := E) (B := B) (N := N) (p := p) (l := l) (who := xx) rfl (cel_ne (cel_self hc0.1) (by decide)) (cel_ne (cel_ne hc1 (by decide)) (by decide)) (cel_self hc2.1) hq0 hq1 hq2 hq3 (by omega) (by rw [va_up_self]; omega)) gX12_ask_X12_mark rfl (na := 1) (by decide +kernel) rfl ⟨(Nat.le_of_ble_eq_true rfl), (Nat.le_of_ble_eq_true rfl)⟩ (cel_ne (cel_self hc0.1) (by decide)) rfl (st := [.int (zI (a (20 + xx)))]) rfl (Nat.le_of_ble_eq_true rfl) ⟨(Nat.le_of_ble_eq_true rfl), (Nat.le_of_ble_eq_true rfl)⟩ dX12_ask_80 (fun r80 N80 w80 hpo80 hN80 => ?_)
            obtain ⟨rfl, res_80, n2_80, tr2_80, hp80_0, hp80_1, hp80_2, rfl, rfl⟩ := hpo80
            refine x_v (congrArg (fun w => (va_up w 170 (iarr E 16 tr2_80))) (show (va_up (va_up v 161 (oM B (va_up F 13 n2_80) V)) 170 (iarr E 16 tr2_66)) = _ from (up_at1 (by decide)).symm)) ?_
            refine x_v (w := (va_up (va_up v 161 (oM B (va_up F 13 n2_80) V)) 170 (iarr E 16 tr2_80))) (up_at0).symm ?_
            refine x_st (st' := [.int (zI res_80), .int (zI (a (20 + xx)))]) rfl ?_
            rw [va_up_self] at hp80_0 hp80_1
            have hmv : -2000 ≤ res_80 ∧ res_80 ≤ 2000 := by rw [hp80_2]; unfold markV; split <;> (try split) <;> omega
            refine x_iadd (pc := 83) K dX12_ask_83 ?_
            refine x_nm (fun z2 hz2 => ?_)
            refine x_istore (pc := 84) K (L' := [(4, .int (zI z2)), (3, .int (zI z1)), (0, .ref (B + 161)), (1, .int (zI (xx : Int))), (2, .int (zI what))]) hnL (by decide) rfl dX12_ask_84 ?_
            refine x_iload_n (pc := 86) 1 K rfl rfl dX12_ask_86 ?_
            refine x_iconst (pc := 87) K dX12_ask_87 ?_
            refine x_icmp_ne (pc := 88) (tgt := 97) K (by omega) (by decide) dX12_ask_88 (by decide) (fun h_88 => ?_) (fun h_88 => ?_)
            · skip
              refine x_iload (pc := 97) 0 K rfl dX12_ask_97 ?_
              refine x_iret (pc := 99) K KR (by omega) (Nat.le_of_ble_eq_true rfl) (Nat.le_of_ble_eq_true rfl) dX12_ask_99 ?_
              have hD : askD (p (5 + xx)) what = [11, 10] ++ markD (p (5 + xx)) := by unfold askD; rw [if_pos (by omega), if_neg (by omega), if_neg (by omega)]
              have hn1 : n2_66.toNat = 2 := by omega
              have q1 : n2_80 = ((askD (p (5 + xx)) what).length : Int) := by rw [hD, List.length_append, hp80_0, hp66_0]; simp
              have q2 : tr2_80 = wrL tr 0 (askD (p (5 + xx)) what) := by rw [hD, ← wrL_app, hp80_1, hn1, hp66_1]; rfl
              exact ⟨rfl, z2, n2_80, tr2_80, (by exact Or.inr ⟨by omega, q1, q2, by simp only [Int.toNat_natCast]; unfold askV; rw [if_pos (by omega), if_neg (by omega)]; rw [if_neg (by omega)]; omega⟩), rfl, rfl⟩
            · skip
              exfalso; omega
          · skip
            refine x_ldc2 (pc := 57) (x := (121110)) (121110) K (by decide) (by decide +kernel) dX12_ask_57 ?_
            refine x_goto (pc := 60) (tgt := 66) K dX12_ask_60 (by decide) ?_
            refine x_callV (pc := 66) (C := RX12) (T := TX12) (n := 26) (ci := 11) (As := [.long (zL 121110)]) K (c_leave_121110 (E := E) (B := B) (N := N)   (cel_ne (cel_self hc0.1) (by decide)) (cel_self hc2.1) (by rw [va_up_self]; omega)) gX12_ask_X12_leave rfl (na := 1) (by decide +kernel) rfl ⟨(Nat.le_of_ble_eq_true rfl), (Nat.le_of_ble_eq_true rfl)⟩ (cel_ne (cel_self hc0.1) (by decide)) rfl (st := []) rfl (Nat.le_of_ble_eq_true rfl) ⟨(Nat.le_of_ble_eq_true rfl), (Nat.le_of_ble_eq_true rfl)⟩ dX12_ask_66 (fun r66 N66 w66 hpo66 hN66 => ?_)
            obtain ⟨rfl, n2_66, tr2_66, hp66_0, hp66_1, rfl, rfl⟩ := hpo66
            refine x_v (congrArg (fun w => (va_up w 170 (iarr E 16 tr2_66))) (show (va_up (va_up v 161 (oM B (va_up F 13 n2_66) V)) 170 (iarr E 16 tr)) = _ from (up_at1 (by decide)).symm)) ?_
            refine x_v (w := (va_up (va_up v 161 (oM B (va_up F 13 n2_66) V)) 170 (iarr E 16 tr2_66))) (up_at0).symm ?_
            refine x_st (st' := []) rfl ?_
            rw [va_up_self] at hp66_0 hp66_1
            refine x_aload_n (pc := 69) 1 K rfl rfl dX12_ask_69 ?_
            refine x_get (pc := 70) (C := RX12) (T := TX12) (n := 26) (ci := 11) (idx := 22) (ref := "BorderBedsModel") (x := .ref (B + 166))  K (cel_ne (cel_self hc0.1) (by decide)) rfl (by decide +kernel) 8 (by decide) (by decide +kernel) rfl rfl dX12_ask_70 ?_
            refine x_bipush (pc := 73) K (by decide) dX12_ask_73 ?_
            refine x_iload_n (pc := 75) 2 K rfl rfl dX12_ask_75 ?_
            refine x_iadd (pc := 76) K dX12_ask_76 ?_
            refine x_iald (pc := 77) (20 + xx) K (cel_ne (cel_ne hc1 (by decide)) (by decide)) (by omega) (by omega) (by decide) dX12_ask_77 ?_
            refine x_aload_n (pc := 78) 1 K rfl rfl dX12_ask_78 ?_
            refine x_iload_n (pc := 79) 2 K rfl rfl dX12_ask_79 ?_
            refine x_callV (pc := 80) (C := RX12) (T := TX12) (n := 26) (ci := 11) (As := [.int (zI (xx : Int))]) K (c_X12_mark (E := E) (B := B) (N := N) (p := p) (l := l) (who := xx) rfl (cel_ne (cel_self hc0.1) (by decide)) (cel_ne (cel_ne hc1 (by decide)) (by decide)) (cel_self hc2.1) hq0 hq1 hq2 hq3 (by omega) (by rw [va_up_self]; omega)) gX12_ask_X12_mark rfl (na := 1) (by decide +kernel) rfl ⟨(Nat.le_of_ble_eq_true rfl), (Nat.le_of_ble_eq_true rfl)⟩ (cel_ne (cel_self hc0.1) (by decide)) rfl (st := [.int (zI (a (20 + xx)))]) rfl (Nat.le_of_ble_eq_true rfl) ⟨(Nat.le_of_ble_eq_true rfl), (Nat.le_of_ble_eq_true rfl)⟩ dX12_ask_80 (fun r80 N80 w80 hpo80 hN80 => ?_)
            obtain ⟨rfl, res_80, n2_80, tr2_80, hp80_0, hp80_1, hp80_2, rfl, rfl⟩ := hpo80
            refine x_v (congrArg (fun w => (va_up w 170 (iarr E 16 tr2_80))) (show (va_up (va_up v 161 (oM B (va_up F 13 n2_80) V)) 170 (iarr E 16 tr2_66)) = _ from (up_at1 (by decide)).symm)) ?_
            refine x_v (w := (va_up (va_up v 161 (oM B (va_up F 13 n2_80) V)) 170 (iarr E 16 tr2_80))) (up_at0).symm ?_
            refine x_st (st' := [.int (zI res_80), .int (zI (a (20 + xx)))]) rfl ?_
            rw [va_up_self] at hp80_0 hp80_1
            have hmv : -2000 ≤ res_80 ∧ res_80 ≤ 2000 := by rw [hp80_2]; unfold markV; split <;> (try split) <;> omega
            refine x_iadd (pc := 83) K dX12_ask_83 ?_
            refine x_nm (fun z3 hz3 => ?_)
            refine x_istore (pc := 84) K (L' := [(4, .int (zI z3)), (3, .int (zI z1)), (0, .ref (B + 161)), (1, .int (zI (xx : Int))), (2, .int (zI what))]) hnL (by decide) rfl dX12_ask_84 ?_
            refine x_iload_n (pc := 86) 1 K rfl rfl dX12_ask_86 ?_
            refine x_iconst (pc := 87) K dX12_ask_87 ?_
            refine x_icmp_ne (pc := 88) (tgt := 97) K (by omega) (by decide) dX12_ask_88 (by decide) (fun h_88 => ?_) (fun h_88 => ?_)
            · skip
              exfalso; omega
            · skip
              refine x_iload (pc := 91) 0 K rfl dX12_ask_91 ?_
              refine x_ineg (pc := 93) K dX12_ask_93 ?_
              refine x_goto (pc := 94) (tgt := 99) K dX12_ask_94 (by decide) ?_
              refine x_iret (pc := 99) K KR (by omega) (Nat.le_of_ble_eq_true rfl) (Nat.le_of_ble_eq_true rfl) dX12_ask_99 ?_
              have hD : askD (p (5 + xx)) what = [12, 11, 10] ++ markD (p (5 + xx)) := by unfold askD; rw [if_pos (by omega), if_neg (by omega), if_pos (by omega)]
              have hn1 : n2_66.toNat = 3 := by omega
              have q1 : n2_80 = ((askD (p (5 + xx)) what).length : Int) := by rw [hD, List.length_append, hp80_0, hp66_0]; simp
              have q2 : tr2_80 = wrL tr 0 (askD (p (5 + xx)) what) := by rw [hD, ← wrL_app, hp80_1, hn1, hp66_1]; rfl
              exact ⟨rfl, (-z3), n2_80, tr2_80, (by exact Or.inr ⟨by omega, q1, q2, by simp only [Int.toNat_natCast]; unfold askV; rw [if_pos (by omega), if_neg (by omega)]; rw [if_pos (by omega)]; omega⟩), rfl, rfl⟩
        · skip
          refine x_aload_n (pc := 45) 1 K rfl rfl dX12_ask_45 ?_
          refine x_iload_n (pc := 46) 2 K rfl rfl dX12_ask_46 ?_
          refine x_callV (pc := 47) (C := RX12) (T := TX12) (n := 26) (ci := 11) (As := [.int (zI (xx : Int))]) K (c_X12_mark (E := E) (B := B) (N := N) (p := p) (l := l) (who := xx) rfl (cel_ne (cel_self hc0.1) (by decide)) (cel_ne (cel_ne hc1 (by decide)) (by decide)) (cel_self hc2.1) hq0 hq1 hq2 hq3 (by omega) (by rw [va_up_self]; omega)) gX12_ask_X12_mark rfl (na := 1) (by decide +kernel) rfl ⟨(Nat.le_of_ble_eq_true rfl), (Nat.le_of_ble_eq_true rfl)⟩ (cel_ne (cel_self hc0.1) (by decide)) rfl (st := []) rfl (Nat.le_of_ble_eq_true rfl) ⟨(Nat.le_of_ble_eq_true rfl), (Nat.le_of_ble_eq_true rfl)⟩ dX12_ask_47 (fun r47 N47 w47 hpo47 hN47 => ?_)
          obtain ⟨rfl, res_47, n2_47, tr2_47, hp47_0, hp47_1, hp47_2, rfl, rfl⟩ := hpo47
          refine x_v (congrArg (fun w => (va_up w 170 (iarr E 16 tr2_47))) (show (va_up (va_up v 161 (oM B (va_up F 13 n2_47) V)) 170 (iarr E 16 tr)) = _ from (up_at1 (by decide)).symm)) ?_
          refine x_v (w := (va_up (va_up v 161 (oM B (va_up F 13 n2_47) V)) 170 (iarr E 16 tr2_47))) (up_at0).symm ?_
          refine x_st (st' := [.int (zI res_47)]) rfl ?_
          rw [va_up_self] at hp47_0 hp47_1
          refine x_iret (pc := 50) K KR (by omega) (Nat.le_of_ble_eq_true rfl) (Nat.le_of_ble_eq_true rfl) dX12_ask_50 ?_
          have hD : askD (p (5 + xx)) what = markD (p (5 + xx)) := by unfold askD; rw [if_pos (by omega), if_pos (by omega)]
          have q1 : n2_47 = ((askD (p (5 + xx)) what).length : Int) := by rw [hD, hp47_0]; simp
          have q2 : tr2_47 = wrL tr 0 (askD (p (5 + xx)) what) := by rw [hD, hp47_1]; rfl
          exact ⟨rfl, res_47, n2_47, tr2_47, (by exact Or.inr ⟨by omega, q1, q2, by simp only [Int.toNat_natCast]; unfold askV; rw [if_pos (by omega), if_pos (by omega)]; exact hp47_2⟩), rfl, rfl⟩
    · skip
      have h_15 := bI_t h_15
      refine x_ldc (pc := 18) (x := (-1000001)) (-1000001) K (by decide) (by decide +kernel) dX12_ask_18 ?_
      refine x_iret (pc := 20) K KR (by omega) (Nat.le_of_ble_eq_true rfl) (Nat.le_of_ble_eq_true rfl) dX12_ask_20 ?_
      exact ⟨rfl, (-1000001), (F 13), tr, (by exact Or.inl ⟨by omega, rfl, rfl, rfl⟩), rfl, rfl⟩

set_option maxRecDepth 100000 in
set_option maxHeartbeats 4000000 in
theorem c_X12_isSo {E : XE} {B N : Nat} {v : Nat → va_E} {d o : Nat} {F f p it : Nat → Int} {V : Int} {l : Cor} {o_i : Int} (ha_o : o_i = (o : Int)) (hc0 : Cel N v 161 (oM B F V)) (hc1 : Cel N v d (iarr E 138 f)) (hc2 : Cel N v 164 (iarr E 320 it)) (hq0 : PR f p l) (hq1 : POk p) (hq2 : CorOk l) (hq3 : (l.length : Int) ≤ p 2) (hq4 : o ≤ 312) (hq5 : ∀ k, k < 320 → -2147483648 ≤ it k ∧ it k ≤ 2147483647) : gM yX12_isSo wsX12_isSo ({ frames := 1, cells := 0, slots := 0, locals := 29 }) E B N v [.ref (B + 161), .ref (B + d), .int (zI o_i)] (po0 N (fun ρ v' => ρ = some (.int (zI (isSoF p l it o 8))) ∧ v = v')) := by
  subst ha_o
  refine x_met (nm := "isSo") (by decide +kernel) rfl (Nat.le_of_ble_eq_true rfl) rfl (fun Γ K KR hnL hnm => ?_)
  show XW Γ N v [(0, .ref (B + 161)), (1, .ref (B + d)), (2, .int (zI (o : Int)))] 0 0 0 []
  have hkp := hq1.2.2.1
  refine x_iconst (pc := 0) K dX12_isSo_0 ?_
  refine x_istore_n (pc := 1) K (L' := [(3, .int (zI 1)), (0, .ref (B + 161)), (1, .ref (B + d)), (2, .int (zI (o : Int)))]) hnL rfl (by decide) rfl dX12_isSo_1 ?_
  refine x_iconst (pc := 2) K dX12_isSo_2 ?_
  refine x_istore (pc := 3) K (L' := [(4, .int (zI 0)), (3, .int (zI 1)), (0, .ref (B + 161)), (1, .ref (B + d)), (2, .int (zI (o : Int)))]) hnL (by decide) rfl dX12_isSo_3 ?_
  have LOOP5 : ∀ (n_5 : Nat) (z : Int) (k : Nat), (k ≤ 8) → (z = isSoF p l it o k) → (8 - k) < n_5 → XW Γ N v [(0, .ref (B + 161)), (1, .ref (B + d)), (2, .int (zI (o : Int))), (3, .int (zI z)), (4, .int (zI (k : Int)))] 0 0 5 [] := by
    intro n_5
    induction n_5 with
    | zero =>
      intro z k hi5_0 hi5_1 hm_5
      exfalso; omega
    | succ n_5 ih5 =>
      intro z k hi5_0 hi5_1 hm_5
      have hz5 := isSoF_rng p l it o k
      rw [← hi5_1] at hz5
      refine x_iload (pc := 5) 4 K rfl dX12_isSo_5 ?_
      refine x_bipush (pc := 7) K (by decide) dX12_isSo_7 ?_
      refine x_icmp_ge (pc := 9) (tgt := 86) K (by omega) (by decide) dX12_isSo_9 (by decide) (fun h_9 => ?_) (fun h_9 => ?_)
      · skip
        have hk8 : k = 8 := by omega
        rw [hk8] at hi5_1
        refine x_iload_n (pc := 86) 3 K rfl rfl dX12_isSo_86 ?_
        refine x_zret (pc := 87) K KR (by omega) (Nat.le_of_ble_eq_true rfl) (Nat.le_of_ble_eq_true rfl) (nb_ok (by omega)) dX12_isSo_87 ?_
        exact ⟨rfl, ri hi5_1, rfl⟩
      · skip
        refine x_iconst (pc := 12) K dX12_isSo_12 ?_
        refine x_istore (pc := 13) K (L' := [(5, .int (zI 0)), (0, .ref (B + 161)), (1, .ref (B + d)), (2, .int (zI (o : Int))), (3, .int (zI z)), (4, .int (zI (k : Int)))]) hnL (by decide) rfl dX12_isSo_13 ?_
        refine x_iconst (pc := 15) K dX12_isSo_15 ?_
        refine x_istore (pc := 16) K (L' := [(6, .int (zI 0)), (5, .int (zI 0)), (0, .ref (B + 161)), (1, .ref (B + d)), (2, .int (zI (o : Int))), (3, .int (zI z)), (4, .int (zI (k : Int)))]) hnL (by decide) rfl dX12_isSo_16 ?_
        have LOOP18 : ∀ (n_18 : Nat) (y : Int) (j : Nat), (j ≤ 6) → (y = soC p l k j) → (6 - j) < n_18 → XW Γ N v [(0, .ref (B + 161)), (1, .ref (B + d)), (2, .int (zI (o : Int))), (3, .int (zI z)), (4, .int (zI (k : Int))), (5, .int (zI y)), (6, .int (zI (j : Int)))] 0 0 18 [] := by
          intro n_18
          induction n_18 with
          | zero =>
            intro y j hi18_0 hi18_1 hm_18
            exfalso; omega
          | succ n_18 ih18 =>
            intro y j hi18_0 hi18_1 hm_18
            have hy := soC_rng p l k j
            rw [← hi18_1] at hy
            refine x_iload (pc := 18) 6 K rfl dX12_isSo_18 ?_
            refine x_bipush (pc := 20) K (by decide) dX12_isSo_20 ?_
            refine x_icmp_ge (pc := 22) (tgt := 56) K (by omega) (by decide) dX12_isSo_22 (by decide) (fun h_22 => ?_) (fun h_22 => ?_)
            · skip
              have hj6 : j = 6 := by omega
              rw [hj6] at hi18_1
              refine x_iload_n (pc := 56) 3 K rfl rfl dX12_isSo_56 ?_
              refine x_if_eq (pc := 57) (tgt := 78) K (by omega) dX12_isSo_57 (by decide) (fun h_57 => ?_) (fun h_57 => ?_)
              · skip
                refine x_iconst (pc := 78) K dX12_isSo_78 ?_
                refine x_istore_n (pc := 79) K (L' := [(3, .int (zI 0)), (0, .ref (B + 161)), (1, .ref (B + d)), (2, .int (zI (o : Int))), (4, .int (zI (k : Int))), (5, .int (zI y)), (6, .int (zI (j : Int)))]) hnL rfl (by decide) rfl dX12_isSo_79 ?_
                refine x_iinc (pc := 80) (L' := [(4, .int (zI ((k : Int) + 1))), (3, .int (zI 0)), (0, .ref (B + 161)), (1, .ref (B + d)), (2, .int (zI (o : Int))), (5, .int (zI y)), (6, .int (zI (j : Int)))]) 4 K hnL rfl (by decide) rfl dX12_isSo_80 ?_
                refine x_goto (pc := 83) (tgt := 5) K dX12_isSo_83 (by decide) ?_
                refine x_sub (L' := [(0, .ref (B + 161)), (1, .ref (B + d)), (2, .int (zI (o : Int))), (3, .int (zI 0)), (4, .int (zI ((k : Int) + 1)))]) [2, 3, 4, 1, 0] rfl ?_
                exact ih5 0 (k + 1) (by omega) (by unfold isSoF; rw [← hi5_1]; first | rw [if_pos (by omega)] | rw [if_neg (by omega)]) (by omega)
              · skip
                refine x_iload (pc := 60) 5 K rfl dX12_isSo_60 ?_
                refine x_aload_n (pc := 62) 0 K rfl rfl dX12_isSo_62 ?_
                refine x_get (pc := 63) (C := RX12) (T := TX12) (n := 26) (ci := 11) (idx := 16) (ref := "BorderBedsModel") (x := .ref (B + 164))  K hc0 rfl (by decide +kernel) 2 (by decide) (by decide +kernel) rfl rfl dX12_isSo_63 ?_
                refine x_iload_n (pc := 66) 2 K rfl rfl dX12_isSo_66 ?_
                refine x_iload (pc := 67) 4 K rfl dX12_isSo_67 ?_
                refine x_iadd (pc := 69) K dX12_isSo_69 ?_
                refine x_iald (pc := 70) (o + k) K hc2 (by omega) (by omega) (by decide) dX12_isSo_70 ?_
                have b70 := hq5 (o + k) (by omega)
                refine x_icmp_ne (pc := 71) (tgt := 78) K (by omega) (by omega) dX12_isSo_71 (by decide) (fun h_71 => ?_) (fun h_71 => ?_)
                · skip
                  refine x_iconst (pc := 78) K dX12_isSo_78 ?_
                  refine x_istore_n (pc := 79) K (L' := [(3, .int (zI 0)), (0, .ref (B + 161)), (1, .ref (B + d)), (2, .int (zI (o : Int))), (4, .int (zI (k : Int))), (5, .int (zI y)), (6, .int (zI (j : Int)))]) hnL rfl (by decide) rfl dX12_isSo_79 ?_
                  refine x_iinc (pc := 80) (L' := [(4, .int (zI ((k : Int) + 1))), (3, .int (zI 0)), (0, .ref (B + 161)), (1, .ref (B + d)), (2, .int (zI (o : Int))), (5, .int (zI y)), (6, .int (zI (j : Int)))]) 4 K hnL rfl (by decide) rfl dX12_isSo_80 ?_
                  refine x_goto (pc := 83) (tgt := 5) K dX12_isSo_83 (by decide) ?_
                  refine x_sub (L' := [(0, .ref (B + 161)), (1, .ref (B + d)), (2, .int (zI (o : Int))), (3, .int (zI 0)), (4, .int (zI ((k : Int) + 1)))]) [2, 3, 4, 1, 0] rfl ?_
                  exact ih5 0 (k + 1) (by omega) (by unfold isSoF; rw [← hi5_1]; first | rw [if_pos (by omega)] | rw [if_neg (by omega)]) (by omega)
                · skip
                  refine x_iconst (pc := 74) K dX12_isSo_74 ?_
                  refine x_goto (pc := 75) (tgt := 79) K dX12_isSo_75 (by decide) ?_
                  refine x_istore_n (pc := 79) K (L' := [(3, .int (zI 1)), (0, .ref (B + 161)), (1, .ref (B + d)), (2, .int (zI (o : Int))), (4, .int (zI (k : Int))), (5, .int (zI y)), (6, .int (zI (j : Int)))]) hnL rfl (by decide) rfl dX12_isSo_79 ?_
                  refine x_iinc (pc := 80) (L' := [(4, .int (zI ((k : Int) + 1))), (3, .int (zI 1)), (0, .ref (B + 161)), (1, .ref (B + d)), (2, .int (zI (o : Int))), (5, .int (zI y)), (6, .int (zI (j : Int)))]) 4 K hnL rfl (by decide) rfl dX12_isSo_80 ?_
                  refine x_goto (pc := 83) (tgt := 5) K dX12_isSo_83 (by decide) ?_
                  refine x_sub (L' := [(0, .ref (B + 161)), (1, .ref (B + d)), (2, .int (zI (o : Int))), (3, .int (zI 1)), (4, .int (zI ((k : Int) + 1)))]) [2, 3, 4, 1, 0] rfl ?_
                  exact ih5 1 (k + 1) (by omega) (by unfold isSoF; rw [← hi5_1]; first | rw [if_pos (by omega)] | rw [if_neg (by omega)]) (by omega)
            · skip
              refine x_iload (pc := 25) 5 K rfl dX12_isSo_25 ?_
              refine x_aload_n (pc := 27) 1 K rfl rfl dX12_isSo_27 ?_
              refine x_bipush (pc := 28) K (by decide) dX12_isSo_28 ?_
              refine x_iload (pc := 30) 6 K rfl dX12_isSo_30 ?_
              refine x_imul (pc := 32) K dX12_isSo_32 ?_
              refine x_iload (pc := 33) 4 K rfl dX12_isSo_33 ?_
              refine x_iadd (pc := 35) K dX12_isSo_35 ?_
              refine x_callS (pc := 36) (As := [.ref (B + d), .int (zI ((8 * (j : Int)) + (k : Int)))]) K (c_X12_whose (E := E) (B := B) (N := N) (p := p) (l := l) (cell := ((8 * j) + k)) (by omega) hc1 hq0 hq1 hq2 (by omega) (by omega)) gX12_isSo_X12_whose rfl (na := 2) (by decide +kernel) rfl ⟨(Nat.le_of_ble_eq_true rfl), (Nat.le_of_ble_eq_true rfl)⟩ (st := [.int (zI y)]) rfl (Nat.le_of_ble_eq_true rfl) ⟨(Nat.le_of_ble_eq_true rfl), (Nat.le_of_ble_eq_true rfl)⟩ dX12_isSo_36 (fun r36 N36 w36 hpo36 hN36 => ?_)
              obtain ⟨rfl, rfl, rfl⟩ := hpo36
              refine x_st (st' := [.int (zI (whoseA (p 0) (p 1) l ((8 * j) + k))), .int (zI y)]) rfl ?_
              have hrg36 := whoseA_rng (p 0) (p 1) l ((8 * j) + k)
              refine x_if_ne (pc := 39) (tgt := 46) K (by omega) dX12_isSo_39 (by decide) (fun h_39 => ?_) (fun h_39 => ?_)
              · skip
                refine x_iconst (pc := 46) K dX12_isSo_46 ?_
                refine x_iadd (pc := 47) K dX12_isSo_47 ?_
                refine x_nm (fun z1 hz1 => ?_)
                refine x_istore (pc := 48) K (L' := [(5, .int (zI z1)), (0, .ref (B + 161)), (1, .ref (B + d)), (2, .int (zI (o : Int))), (3, .int (zI z)), (4, .int (zI (k : Int))), (6, .int (zI (j : Int)))]) hnL (by decide) rfl dX12_isSo_48 ?_
                refine x_iinc (pc := 50) (L' := [(6, .int (zI ((j : Int) + 1))), (5, .int (zI z1)), (0, .ref (B + 161)), (1, .ref (B + d)), (2, .int (zI (o : Int))), (3, .int (zI z)), (4, .int (zI (k : Int)))]) 6 K hnL rfl (by decide) rfl dX12_isSo_50 ?_
                refine x_goto (pc := 53) (tgt := 18) K dX12_isSo_53 (by decide) ?_
                refine x_sub (L' := [(0, .ref (B + 161)), (1, .ref (B + d)), (2, .int (zI (o : Int))), (3, .int (zI z)), (4, .int (zI (k : Int))), (5, .int (zI z1)), (6, .int (zI ((j : Int) + 1)))]) [2, 3, 4, 5, 6, 1, 0] rfl ?_
                exact ih18 z1 (j + 1) (by omega) (by unfold soC; rw [← hi18_1]; (first | rw [if_pos (by omega)] | rw [if_neg (by omega)]); omega) (by omega)
              · skip
                refine x_iconst (pc := 42) K dX12_isSo_42 ?_
                refine x_goto (pc := 43) (tgt := 47) K dX12_isSo_43 (by decide) ?_
                refine x_iadd (pc := 47) K dX12_isSo_47 ?_
                refine x_nm (fun z2 hz2 => ?_)
                refine x_istore (pc := 48) K (L' := [(5, .int (zI z2)), (0, .ref (B + 161)), (1, .ref (B + d)), (2, .int (zI (o : Int))), (3, .int (zI z)), (4, .int (zI (k : Int))), (6, .int (zI (j : Int)))]) hnL (by decide) rfl dX12_isSo_48 ?_
                refine x_iinc (pc := 50) (L' := [(6, .int (zI ((j : Int) + 1))), (5, .int (zI z2)), (0, .ref (B + 161)), (1, .ref (B + d)), (2, .int (zI (o : Int))), (3, .int (zI z)), (4, .int (zI (k : Int)))]) 6 K hnL rfl (by decide) rfl dX12_isSo_50 ?_
                refine x_goto (pc := 53) (tgt := 18) K dX12_isSo_53 (by decide) ?_
                refine x_sub (L' := [(0, .ref (B + 161)), (1, .ref (B + d)), (2, .int (zI (o : Int))), (3, .int (zI z)), (4, .int (zI (k : Int))), (5, .int (zI z2)), (6, .int (zI ((j : Int) + 1)))]) [2, 3, 4, 5, 6, 1, 0] rfl ?_
                exact ih18 z2 (j + 1) (by omega) (by unfold soC; rw [← hi18_1]; (first | rw [if_pos (by omega)] | rw [if_neg (by omega)]); omega) (by omega)
        refine x_sub (L' := [(0, .ref (B + 161)), (1, .ref (B + d)), (2, .int (zI (o : Int))), (3, .int (zI z)), (4, .int (zI (k : Int))), (5, .int (zI 0)), (6, .int (zI 0))]) [2, 3, 4, 5, 6, 1, 0] rfl ?_
        exact LOOP18 (_) 0 0 (by omega) (by rfl) (Nat.lt_succ_self _)
  refine x_sub (L' := [(0, .ref (B + 161)), (1, .ref (B + d)), (2, .int (zI (o : Int))), (3, .int (zI 1)), (4, .int (zI 0))]) [2, 3, 4, 1, 0] rfl ?_
  exact LOOP5 (_) 1 0 (by omega) (by rfl) (Nat.lt_succ_self _)
