theorem dX12_reads_93 : decode cX12_reads 93 = .ok (.if_icmp .ne 13, 3) := by decide +kernel
theorem dX12_reads_96 : decode cX12_reads 96 = .ok (.aload_n 0, 1) := by decide +kernel
theorem dX12_reads_97 : decode cX12_reads 97 = .ok (.invokevirtual 176, 3) := by decide +kernel
theorem dX12_reads_100 : decode cX12_reads 100 = .ok (.ifCond .eq 13, 3) := by decide +kernel
theorem dX12_reads_103 : decode cX12_reads 103 = .ok (.goto 12, 3) := by decide +kernel
theorem dX12_reads_106 : decode cX12_reads 106 = .ok (.aload_n 0, 1) := by decide +kernel
theorem dX12_reads_107 : decode cX12_reads 107 = .ok (.invokevirtual 179, 3) := by decide +kernel
theorem dX12_reads_110 : decode cX12_reads 110 = .ok (.ifCond .ne 5, 3) := by decide +kernel
theorem dX12_reads_113 : decode cX12_reads 113 = .ok (.iconst 0, 1) := by decide +kernel
theorem dX12_reads_114 : decode cX12_reads 114 = .ok (.ireturn, 1) := by decide +kernel
theorem dX12_reads_115 : decode cX12_reads 115 = .ok (.iload_n 2, 1) := by decide +kernel
theorem dX12_reads_116 : decode cX12_reads 116 = .ok (.istore_n 1, 1) := by decide +kernel
theorem dX12_reads_117 : decode cX12_reads 117 = .ok (.aload_n 0, 1) := by decide +kernel
theorem dX12_reads_118 : decode cX12_reads 118 = .ok (.invokevirtual 115, 3) := by decide +kernel
theorem dX12_reads_121 : decode cX12_reads 121 = .ok (.goto (-74), 3) := by decide +kernel
theorem dX12_reads_124 : decode cX12_reads 124 = .ok (.iconst 1, 1) := by decide +kernel
theorem dX12_reads_125 : decode cX12_reads 125 = .ok (.ireturn, 1) := by decide +kernel
theorem dX12_ground_0 : decode cX12_ground 0 = .ok (.aload_n 0, 1) := by decide +kernel
theorem dX12_ground_1 : decode cX12_ground 1 = .ok (.aload_n 0, 1) := by decide +kernel
theorem dX12_ground_2 : decode cX12_ground 2 = .ok (.getfield 74, 3) := by decide +kernel
theorem dX12_ground_5 : decode cX12_ground 5 = .ok (.putfield 91, 3) := by decide +kernel
theorem dX12_ground_8 : decode cX12_ground 8 = .ok (.aload_n 0, 1) := by decide +kernel
theorem dX12_ground_9 : decode cX12_ground 9 = .ok (.iconst 0, 1) := by decide +kernel
theorem dX12_ground_10 : decode cX12_ground 10 = .ok (.putfield 74, 3) := by decide +kernel
theorem dX12_ground_13 : decode cX12_ground 13 = .ok (.aload_n 0, 1) := by decide +kernel
theorem dX12_ground_14 : decode cX12_ground 14 = .ok (.getfield 118, 3) := by decide +kernel
theorem dX12_ground_17 : decode cX12_ground 17 = .ok (.istore_n 1, 1) := by decide +kernel
theorem dX12_ground_18 : decode cX12_ground 18 = .ok (.aload_n 0, 1) := by decide +kernel
theorem dX12_ground_19 : decode cX12_ground 19 = .ok (.invokevirtual 182, 3) := by decide +kernel
theorem dX12_ground_22 : decode cX12_ground 22 = .ok (.ifCond .ne 11, 3) := by decide +kernel
theorem dX12_ground_25 : decode cX12_ground 25 = .ok (.ldc 185, 2) := by decide +kernel
theorem dX12_ground_27 : decode cX12_ground 27 = .ok (.aload_n 0, 1) := by decide +kernel
theorem dX12_ground_28 : decode cX12_ground 28 = .ok (.getfield 94, 3) := by decide +kernel
theorem dX12_ground_31 : decode cX12_ground 31 = .ok (.isub, 1) := by decide +kernel
theorem dX12_ground_32 : decode cX12_ground 32 = .ok (.ireturn, 1) := by decide +kernel
theorem dX12_ground_33 : decode cX12_ground 33 = .ok (.aload_n 0, 1) := by decide +kernel
theorem dX12_ground_34 : decode cX12_ground 34 = .ok (.iload_n 1, 1) := by decide +kernel
theorem dX12_ground_35 : decode cX12_ground 35 = .ok (.putfield 118, 3) := by decide +kernel
theorem dX12_ground_38 : decode cX12_ground 38 = .ok (.aload_n 0, 1) := by decide +kernel
theorem dX12_ground_39 : decode cX12_ground 39 = .ok (.iconst 1, 1) := by decide +kernel
theorem dX12_ground_40 : decode cX12_ground 40 = .ok (.putfield 186, 3) := by decide +kernel
theorem dX12_ground_43 : decode cX12_ground 43 = .ok (.aload_n 0, 1) := by decide +kernel
theorem dX12_ground_44 : decode cX12_ground 44 = .ok (.iconst 0, 1) := by decide +kernel
theorem dX12_ground_45 : decode cX12_ground 45 = .ok (.putfield 190, 3) := by decide +kernel
theorem dX12_ground_48 : decode cX12_ground 48 = .ok (.aload_n 0, 1) := by decide +kernel
theorem dX12_ground_49 : decode cX12_ground 49 = .ok (.getfield 38, 3) := by decide +kernel
theorem dX12_ground_52 : decode cX12_ground 52 = .ok (.iconst 0, 1) := by decide +kernel
theorem dX12_ground_53 : decode cX12_ground 53 = .ok (.aload_n 0, 1) := by decide +kernel
theorem dX12_ground_54 : decode cX12_ground 54 = .ok (.getfield 22, 3) := by decide +kernel
theorem dX12_ground_57 : decode cX12_ground 57 = .ok (.iconst 0, 1) := by decide +kernel
theorem dX12_ground_58 : decode cX12_ground 58 = .ok (.invokestatic 193, 3) := by decide +kernel
theorem dX12_ground_61 : decode cX12_ground 61 = .ok (.aload_n 0, 1) := by decide +kernel
theorem dX12_ground_62 : decode cX12_ground 62 = .ok (.getfield 22, 3) := by decide +kernel
theorem dX12_ground_65 : decode cX12_ground 65 = .ok (.iconst 4, 1) := by decide +kernel
theorem dX12_ground_66 : decode cX12_ground 66 = .ok (.iaload, 1) := by decide +kernel
theorem dX12_ground_67 : decode cX12_ground 67 = .ok (.ireturn, 1) := by decide +kernel
theorem dX12_fault_0 : decode cX12_fault 0 = .ok (.aload_n 0, 1) := by decide +kernel
theorem dX12_fault_1 : decode cX12_fault 1 = .ok (.getfield 118, 3) := by decide +kernel
theorem dX12_fault_4 : decode cX12_fault 4 = .ok (.ireturn, 1) := by decide +kernel
theorem dX12_copies_0 : decode cX12_copies 0 = .ok (.iconst 0, 1) := by decide +kernel
theorem dX12_copies_1 : decode cX12_copies 1 = .ok (.istore 4, 2) := by decide +kernel
theorem dX12_copies_3 : decode cX12_copies 3 = .ok (.iload 4, 2) := by decide +kernel
theorem dX12_copies_5 : decode cX12_copies 5 = .ok (.sipush 138, 3) := by decide +kernel
theorem dX12_copies_8 : decode cX12_copies 8 = .ok (.if_icmp .ge 21, 3) := by decide +kernel
theorem dX12_copies_11 : decode cX12_copies 11 = .ok (.aload_n 2, 1) := by decide +kernel
theorem dX12_copies_12 : decode cX12_copies 12 = .ok (.iload_n 3, 1) := by decide +kernel
theorem dX12_copies_13 : decode cX12_copies 13 = .ok (.iload 4, 2) := by decide +kernel
theorem dX12_copies_15 : decode cX12_copies 15 = .ok (.iadd, 1) := by decide +kernel
theorem dX12_copies_16 : decode cX12_copies 16 = .ok (.aload_n 0, 1) := by decide +kernel
theorem dX12_copies_17 : decode cX12_copies 17 = .ok (.iload_n 1, 1) := by decide +kernel
theorem dX12_copies_18 : decode cX12_copies 18 = .ok (.iload 4, 2) := by decide +kernel
theorem dX12_copies_20 : decode cX12_copies 20 = .ok (.iadd, 1) := by decide +kernel
theorem dX12_copies_21 : decode cX12_copies 21 = .ok (.iaload, 1) := by decide +kernel
theorem dX12_copies_22 : decode cX12_copies 22 = .ok (.iastore, 1) := by decide +kernel
theorem dX12_copies_23 : decode cX12_copies 23 = .ok (.iinc 4 1, 3) := by decide +kernel
theorem dX12_copies_26 : decode cX12_copies 26 = .ok (.goto (-23), 3) := by decide +kernel
theorem dX12_copies_29 : decode cX12_copies 29 = .ok (.return_, 1) := by decide +kernel
theorem dX12_isPerson_0 : decode cX12_isPerson 0 = .ok (.iload_n 1, 1) := by decide +kernel
theorem dX12_isPerson_1 : decode cX12_isPerson 1 = .ok (.i2l, 1) := by decide +kernel
theorem dX12_isPerson_2 : decode cX12_isPerson 2 = .ok (.lconst 0, 1) := by decide +kernel
theorem dX12_isPerson_3 : decode cX12_isPerson 3 = .ok (.aload_n 0, 1) := by decide +kernel
theorem dX12_isPerson_4 : decode cX12_isPerson 4 = .ok (.getfield 22, 3) := by decide +kernel
theorem dX12_isPerson_7 : decode cX12_isPerson 7 = .ok (.iconst 4, 1) := by decide +kernel
theorem dX12_isPerson_8 : decode cX12_isPerson 8 = .ok (.iaload, 1) := by decide +kernel
theorem dX12_isPerson_9 : decode cX12_isPerson 9 = .ok (.iconst 1, 1) := by decide +kernel
theorem dX12_isPerson_10 : decode cX12_isPerson 10 = .ok (.isub, 1) := by decide +kernel
theorem dX12_isPerson_11 : decode cX12_isPerson 11 = .ok (.i2l, 1) := by decide +kernel
theorem dX12_isPerson_12 : decode cX12_isPerson 12 = .ok (.invokestatic 54, 3) := by decide +kernel
theorem dX12_isPerson_15 : decode cX12_isPerson 15 = .ok (.ireturn, 1) := by decide +kernel
theorem dX12_whose_0 : decode cX12_whose 0 = .ok (.iload_n 1, 1) := by decide +kernel
theorem dX12_whose_1 : decode cX12_whose 1 = .ok (.bipush 8, 2) := by decide +kernel
theorem dX12_whose_3 : decode cX12_whose 3 = .ok (.irem, 1) := by decide +kernel
theorem dX12_whose_4 : decode cX12_whose 4 = .ok (.istore_n 2, 1) := by decide +kernel
theorem dX12_whose_5 : decode cX12_whose 5 = .ok (.iconst (-1), 1) := by decide +kernel
theorem dX12_whose_6 : decode cX12_whose 6 = .ok (.istore_n 3, 1) := by decide +kernel
theorem dX12_whose_7 : decode cX12_whose 7 = .ok (.aload_n 0, 1) := by decide +kernel
theorem dX12_whose_8 : decode cX12_whose 8 = .ok (.iconst 0, 1) := by decide +kernel
theorem dX12_whose_9 : decode cX12_whose 9 = .ok (.iaload, 1) := by decide +kernel
theorem dX12_whose_10 : decode cX12_whose 10 = .ok (.istore 4, 2) := by decide +kernel
theorem dX12_whose_12 : decode cX12_whose 12 = .ok (.bipush 8, 2) := by decide +kernel
theorem dX12_whose_14 : decode cX12_whose 14 = .ok (.istore 5, 2) := by decide +kernel
theorem dX12_whose_16 : decode cX12_whose 16 = .ok (.aload_n 0, 1) := by decide +kernel
theorem dX12_whose_17 : decode cX12_whose 17 = .ok (.iconst 1, 1) := by decide +kernel
theorem dX12_whose_18 : decode cX12_whose 18 = .ok (.iaload, 1) := by decide +kernel
theorem dX12_whose_19 : decode cX12_whose 19 = .ok (.istore 6, 2) := by decide +kernel
theorem dX12_whose_21 : decode cX12_whose 21 = .ok (.iconst 0, 1) := by decide +kernel
theorem dX12_whose_22 : decode cX12_whose 22 = .ok (.istore 7, 2) := by decide +kernel
theorem dX12_whose_24 : decode cX12_whose 24 = .ok (.iload 7, 2) := by decide +kernel
theorem dX12_whose_26 : decode cX12_whose 26 = .ok (.aload_n 0, 1) := by decide +kernel
theorem dX12_whose_27 : decode cX12_whose 27 = .ok (.bipush 121, 2) := by decide +kernel
theorem dX12_whose_29 : decode cX12_whose 29 = .ok (.iaload, 1) := by decide +kernel
theorem dX12_whose_30 : decode cX12_whose 30 = .ok (.if_icmp .ge 73, 3) := by decide +kernel
theorem dX12_whose_33 : decode cX12_whose 33 = .ok (.aload_n 0, 1) := by decide +kernel
theorem dX12_whose_34 : decode cX12_whose 34 = .ok (.bipush 122, 2) := by decide +kernel
theorem dX12_whose_36 : decode cX12_whose 36 = .ok (.iload 7, 2) := by decide +kernel
theorem dX12_whose_38 : decode cX12_whose 38 = .ok (.iadd, 1) := by decide +kernel
theorem dX12_whose_39 : decode cX12_whose 39 = .ok (.iaload, 1) := by decide +kernel
theorem dX12_whose_40 : decode cX12_whose 40 = .ok (.bipush 8, 2) := by decide +kernel
theorem dX12_whose_42 : decode cX12_whose 42 = .ok (.irem, 1) := by decide +kernel
theorem dX12_whose_43 : decode cX12_whose 43 = .ok (.istore 8, 2) := by decide +kernel
theorem dX12_whose_45 : decode cX12_whose 45 = .ok (.aload_n 0, 1) := by decide +kernel
theorem dX12_whose_46 : decode cX12_whose 46 = .ok (.bipush 122, 2) := by decide +kernel
theorem dX12_whose_48 : decode cX12_whose 48 = .ok (.iload 7, 2) := by decide +kernel
theorem dX12_whose_50 : decode cX12_whose 50 = .ok (.iadd, 1) := by decide +kernel
theorem dX12_whose_51 : decode cX12_whose 51 = .ok (.iaload, 1) := by decide +kernel
theorem dX12_whose_52 : decode cX12_whose 52 = .ok (.bipush 8, 2) := by decide +kernel
theorem dX12_whose_54 : decode cX12_whose 54 = .ok (.idiv, 1) := by decide +kernel
theorem dX12_whose_55 : decode cX12_whose 55 = .ok (.istore 9, 2) := by decide +kernel
theorem dX12_whose_57 : decode cX12_whose 57 = .ok (.iload 8, 2) := by decide +kernel
theorem dX12_whose_59 : decode cX12_whose 59 = .ok (.iload_n 2, 1) := by decide +kernel
theorem dX12_whose_60 : decode cX12_whose 60 = .ok (.if_icmp .gt 16, 3) := by decide +kernel
theorem dX12_whose_63 : decode cX12_whose 63 = .ok (.iload 8, 2) := by decide +kernel
theorem dX12_whose_65 : decode cX12_whose 65 = .ok (.iload_n 3, 1) := by decide +kernel
theorem dX12_whose_66 : decode cX12_whose 66 = .ok (.if_icmp .le 10, 3) := by decide +kernel
theorem dX12_whose_69 : decode cX12_whose 69 = .ok (.iload 8, 2) := by decide +kernel
theorem dX12_whose_71 : decode cX12_whose 71 = .ok (.istore_n 3, 1) := by decide +kernel
theorem dX12_whose_72 : decode cX12_whose 72 = .ok (.iload 9, 2) := by decide +kernel
theorem dX12_whose_74 : decode cX12_whose 74 = .ok (.istore 4, 2) := by decide +kernel
theorem dX12_whose_76 : decode cX12_whose 76 = .ok (.iload 8, 2) := by decide +kernel
theorem dX12_whose_78 : decode cX12_whose 78 = .ok (.iload_n 2, 1) := by decide +kernel
theorem dX12_whose_79 : decode cX12_whose 79 = .ok (.if_icmp .lt 18, 3) := by decide +kernel
theorem dX12_whose_82 : decode cX12_whose 82 = .ok (.iload 8, 2) := by decide +kernel
theorem dX12_whose_84 : decode cX12_whose 84 = .ok (.iload 5, 2) := by decide +kernel
theorem dX12_whose_86 : decode cX12_whose 86 = .ok (.if_icmp .ge 11, 3) := by decide +kernel
theorem dX12_whose_89 : decode cX12_whose 89 = .ok (.iload 8, 2) := by decide +kernel
theorem dX12_whose_91 : decode cX12_whose 91 = .ok (.istore 5, 2) := by decide +kernel
theorem dX12_whose_93 : decode cX12_whose 93 = .ok (.iload 9, 2) := by decide +kernel
theorem dX12_whose_95 : decode cX12_whose 95 = .ok (.istore 6, 2) := by decide +kernel
theorem dX12_whose_97 : decode cX12_whose 97 = .ok (.iinc 7 1, 3) := by decide +kernel
theorem dX12_whose_100 : decode cX12_whose 100 = .ok (.goto (-76), 3) := by decide +kernel
theorem dX12_whose_103 : decode cX12_whose 103 = .ok (.iload_n 3, 1) := by decide +kernel
theorem dX12_whose_104 : decode cX12_whose 104 = .ok (.iload 5, 2) := by decide +kernel
theorem dX12_whose_106 : decode cX12_whose 106 = .ok (.if_icmp .ne 8, 3) := by decide +kernel
theorem dX12_whose_109 : decode cX12_whose 109 = .ok (.iload 4, 2) := by decide +kernel
theorem dX12_whose_111 : decode cX12_whose 111 = .ok (.goto 20, 3) := by decide +kernel
theorem dX12_whose_114 : decode cX12_whose 114 = .ok (.iload 4, 2) := by decide +kernel
theorem dX12_whose_116 : decode cX12_whose 116 = .ok (.iload 5, 2) := by decide +kernel
theorem dX12_whose_118 : decode cX12_whose 118 = .ok (.iload_n 3, 1) := by decide +kernel
theorem dX12_whose_119 : decode cX12_whose 119 = .ok (.isub, 1) := by decide +kernel
theorem dX12_whose_120 : decode cX12_whose 120 = .ok (.imul, 1) := by decide +kernel
theorem dX12_whose_121 : decode cX12_whose 121 = .ok (.iload 6, 2) := by decide +kernel
theorem dX12_whose_123 : decode cX12_whose 123 = .ok (.iload 4, 2) := by decide +kernel
theorem dX12_whose_125 : decode cX12_whose 125 = .ok (.isub, 1) := by decide +kernel
theorem dX12_whose_126 : decode cX12_whose 126 = .ok (.iload_n 2, 1) := by decide +kernel
theorem dX12_whose_127 : decode cX12_whose 127 = .ok (.iload_n 3, 1) := by decide +kernel
theorem dX12_whose_128 : decode cX12_whose 128 = .ok (.isub, 1) := by decide +kernel
theorem dX12_whose_129 : decode cX12_whose 129 = .ok (.imul, 1) := by decide +kernel
theorem dX12_whose_130 : decode cX12_whose 130 = .ok (.iadd, 1) := by decide +kernel
theorem dX12_whose_131 : decode cX12_whose 131 = .ok (.istore 7, 2) := by decide +kernel
theorem dX12_whose_133 : decode cX12_whose 133 = .ok (.iload_n 3, 1) := by decide +kernel
theorem dX12_whose_134 : decode cX12_whose 134 = .ok (.iload 5, 2) := by decide +kernel
theorem dX12_whose_136 : decode cX12_whose 136 = .ok (.if_icmp .ne 10, 3) := by decide +kernel
theorem dX12_whose_139 : decode cX12_whose 139 = .ok (.iload_n 1, 1) := by decide +kernel
theorem dX12_whose_140 : decode cX12_whose 140 = .ok (.bipush 8, 2) := by decide +kernel
theorem dX12_whose_142 : decode cX12_whose 142 = .ok (.idiv, 1) := by decide +kernel
theorem dX12_whose_143 : decode cX12_whose 143 = .ok (.goto 12, 3) := by decide +kernel
theorem dX12_whose_146 : decode cX12_whose 146 = .ok (.iload_n 1, 1) := by decide +kernel
theorem dX12_whose_147 : decode cX12_whose 147 = .ok (.bipush 8, 2) := by decide +kernel
theorem dX12_whose_149 : decode cX12_whose 149 = .ok (.idiv, 1) := by decide +kernel
theorem dX12_whose_150 : decode cX12_whose 150 = .ok (.iload 5, 2) := by decide +kernel
theorem dX12_whose_152 : decode cX12_whose 152 = .ok (.iload_n 3, 1) := by decide +kernel
theorem dX12_whose_153 : decode cX12_whose 153 = .ok (.isub, 1) := by decide +kernel
theorem dX12_whose_154 : decode cX12_whose 154 = .ok (.imul, 1) := by decide +kernel
theorem dX12_whose_155 : decode cX12_whose 155 = .ok (.istore 8, 2) := by decide +kernel
theorem dX12_whose_157 : decode cX12_whose 157 = .ok (.iload 8, 2) := by decide +kernel
theorem dX12_whose_159 : decode cX12_whose 159 = .ok (.iload 7, 2) := by decide +kernel
theorem dX12_whose_161 : decode cX12_whose 161 = .ok (.if_icmp .ge 7, 3) := by decide +kernel
theorem dX12_whose_164 : decode cX12_whose 164 = .ok (.iconst 0, 1) := by decide +kernel
theorem dX12_whose_165 : decode cX12_whose 165 = .ok (.goto 15, 3) := by decide +kernel
theorem dX12_whose_168 : decode cX12_whose 168 = .ok (.iload 8, 2) := by decide +kernel
theorem dX12_whose_170 : decode cX12_whose 170 = .ok (.iload 7, 2) := by decide +kernel
theorem dX12_whose_172 : decode cX12_whose 172 = .ok (.if_icmp .le 7, 3) := by decide +kernel
theorem dX12_whose_175 : decode cX12_whose 175 = .ok (.iconst 1, 1) := by decide +kernel
theorem dX12_whose_176 : decode cX12_whose 176 = .ok (.goto 4, 3) := by decide +kernel
theorem dX12_whose_179 : decode cX12_whose 179 = .ok (.iconst (-1), 1) := by decide +kernel
theorem dX12_whose_180 : decode cX12_whose 180 = .ok (.ireturn, 1) := by decide +kernel
theorem dX12_size_0 : decode cX12_size 0 = .ok (.iload_n 0, 1) := by decide +kernel
theorem dX12_size_1 : decode cX12_size 1 = .ok (.ifCond .ge 8, 3) := by decide +kernel
theorem dX12_size_4 : decode cX12_size 4 = .ok (.iload_n 0, 1) := by decide +kernel
theorem dX12_size_5 : decode cX12_size 5 = .ok (.ineg, 1) := by decide +kernel
theorem dX12_size_6 : decode cX12_size 6 = .ok (.goto 4, 3) := by decide +kernel
theorem dX12_size_9 : decode cX12_size 9 = .ok (.iload_n 0, 1) := by decide +kernel
theorem dX12_size_10 : decode cX12_size 10 = .ok (.ireturn, 1) := by decide +kernel
theorem dX12_mayCross_0 : decode cX12_mayCross 0 = .ok (.aload_n 0, 1) := by decide +kernel
theorem dX12_mayCross_1 : decode cX12_mayCross 1 = .ok (.bipush 15, 2) := by decide +kernel
theorem dX12_mayCross_3 : decode cX12_mayCross 3 = .ok (.iload_n 1, 1) := by decide +kernel
theorem dX12_mayCross_4 : decode cX12_mayCross 4 = .ok (.iadd, 1) := by decide +kernel
theorem dX12_mayCross_5 : decode cX12_mayCross 5 = .ok (.iaload, 1) := by decide +kernel
theorem dX12_mayCross_6 : decode cX12_mayCross 6 = .ok (.istore_n 3, 1) := by decide +kernel
theorem dX12_mayCross_7 : decode cX12_mayCross 7 = .ok (.aload_n 0, 1) := by decide +kernel
theorem dX12_mayCross_8 : decode cX12_mayCross 8 = .ok (.iconst 5, 1) := by decide +kernel
theorem dX12_mayCross_9 : decode cX12_mayCross 9 = .ok (.iload_n 1, 1) := by decide +kernel
theorem dX12_mayCross_10 : decode cX12_mayCross 10 = .ok (.iadd, 1) := by decide +kernel
theorem dX12_mayCross_11 : decode cX12_mayCross 11 = .ok (.iaload, 1) := by decide +kernel
theorem dX12_mayCross_12 : decode cX12_mayCross 12 = .ok (.iconst 2, 1) := by decide +kernel
theorem dX12_mayCross_13 : decode cX12_mayCross 13 = .ok (.if_icmp .ne 14, 3) := by decide +kernel
theorem dX12_mayCross_16 : decode cX12_mayCross 16 = .ok (.iconst 2, 1) := by decide +kernel
theorem dX12_mayCross_17 : decode cX12_mayCross 17 = .ok (.aload_n 0, 1) := by decide +kernel
theorem dX12_mayCross_18 : decode cX12_mayCross 18 = .ok (.bipush 20, 2) := by decide +kernel
theorem dX12_mayCross_20 : decode cX12_mayCross 20 = .ok (.iload_n 1, 1) := by decide +kernel
theorem dX12_mayCross_21 : decode cX12_mayCross 21 = .ok (.iadd, 1) := by decide +kernel
theorem dX12_mayCross_22 : decode cX12_mayCross 22 = .ok (.iaload, 1) := by decide +kernel
theorem dX12_mayCross_23 : decode cX12_mayCross 23 = .ok (.imul, 1) := by decide +kernel
theorem dX12_mayCross_24 : decode cX12_mayCross 24 = .ok (.goto 9, 3) := by decide +kernel
theorem dX12_mayCross_27 : decode cX12_mayCross 27 = .ok (.aload_n 0, 1) := by decide +kernel
theorem dX12_mayCross_28 : decode cX12_mayCross 28 = .ok (.bipush 20, 2) := by decide +kernel
theorem dX12_mayCross_30 : decode cX12_mayCross 30 = .ok (.iload_n 1, 1) := by decide +kernel
theorem dX12_mayCross_31 : decode cX12_mayCross 31 = .ok (.iadd, 1) := by decide +kernel
theorem dX12_mayCross_32 : decode cX12_mayCross 32 = .ok (.iaload, 1) := by decide +kernel
theorem dX12_mayCross_33 : decode cX12_mayCross 33 = .ok (.istore 4, 2) := by decide +kernel
theorem dX12_mayCross_35 : decode cX12_mayCross 35 = .ok (.iload_n 3, 1) := by decide +kernel
theorem dX12_mayCross_36 : decode cX12_mayCross 36 = .ok (.bipush 8, 2) := by decide +kernel
theorem dX12_mayCross_38 : decode cX12_mayCross 38 = .ok (.irem, 1) := by decide +kernel
theorem dX12_mayCross_39 : decode cX12_mayCross 39 = .ok (.iload_n 2, 1) := by decide +kernel
theorem dX12_mayCross_40 : decode cX12_mayCross 40 = .ok (.bipush 8, 2) := by decide +kernel
theorem dX12_mayCross_42 : decode cX12_mayCross 42 = .ok (.irem, 1) := by decide +kernel
theorem dX12_mayCross_43 : decode cX12_mayCross 43 = .ok (.isub, 1) := by decide +kernel
theorem dX12_mayCross_44 : decode cX12_mayCross 44 = .ok (.invokestatic 197, 3) := by decide +kernel
theorem dX12_mayCross_47 : decode cX12_mayCross 47 = .ok (.iload_n 3, 1) := by decide +kernel
theorem dX12_mayCross_48 : decode cX12_mayCross 48 = .ok (.bipush 8, 2) := by decide +kernel
theorem dX12_mayCross_50 : decode cX12_mayCross 50 = .ok (.idiv, 1) := by decide +kernel
theorem dX12_mayCross_51 : decode cX12_mayCross 51 = .ok (.iload_n 2, 1) := by decide +kernel
theorem dX12_mayCross_52 : decode cX12_mayCross 52 = .ok (.bipush 8, 2) := by decide +kernel
theorem dX12_mayCross_54 : decode cX12_mayCross 54 = .ok (.idiv, 1) := by decide +kernel
theorem dX12_mayCross_55 : decode cX12_mayCross 55 = .ok (.isub, 1) := by decide +kernel
theorem dX12_mayCross_56 : decode cX12_mayCross 56 = .ok (.invokestatic 197, 3) := by decide +kernel
theorem dX12_mayCross_59 : decode cX12_mayCross 59 = .ok (.iadd, 1) := by decide +kernel
theorem dX12_mayCross_60 : decode cX12_mayCross 60 = .ok (.iload 4, 2) := by decide +kernel
theorem dX12_mayCross_62 : decode cX12_mayCross 62 = .ok (.if_icmp .gt 7, 3) := by decide +kernel
theorem dX12_mayCross_65 : decode cX12_mayCross 65 = .ok (.iconst 1, 1) := by decide +kernel
theorem dX12_mayCross_66 : decode cX12_mayCross 66 = .ok (.goto 4, 3) := by decide +kernel
theorem dX12_mayCross_69 : decode cX12_mayCross 69 = .ok (.iconst 0, 1) := by decide +kernel
theorem dX12_mayCross_70 : decode cX12_mayCross 70 = .ok (.istore 5, 2) := by decide +kernel
theorem dX12_mayCross_72 : decode cX12_mayCross 72 = .ok (.iload 5, 2) := by decide +kernel
theorem dX12_mayCross_74 : decode cX12_mayCross 74 = .ok (.ifCond .eq 30, 3) := by decide +kernel
theorem dX12_mayCross_77 : decode cX12_mayCross 77 = .ok (.aload_n 0, 1) := by decide +kernel
theorem dX12_mayCross_78 : decode cX12_mayCross 78 = .ok (.bipush 25, 2) := by decide +kernel
theorem dX12_mayCross_80 : decode cX12_mayCross 80 = .ok (.iload_n 2, 1) := by decide +kernel
theorem dX12_mayCross_81 : decode cX12_mayCross 81 = .ok (.iadd, 1) := by decide +kernel
theorem dX12_mayCross_82 : decode cX12_mayCross 82 = .ok (.iaload, 1) := by decide +kernel
theorem dX12_mayCross_83 : decode cX12_mayCross 83 = .ok (.ifCond .ne 21, 3) := by decide +kernel
theorem dX12_mayCross_86 : decode cX12_mayCross 86 = .ok (.aload_n 0, 1) := by decide +kernel
theorem dX12_mayCross_87 : decode cX12_mayCross 87 = .ok (.iload_n 2, 1) := by decide +kernel
theorem dX12_mayCross_88 : decode cX12_mayCross 88 = .ok (.invokestatic 199, 3) := by decide +kernel
theorem dX12_mayCross_91 : decode cX12_mayCross 91 = .ok (.aload_n 0, 1) := by decide +kernel
theorem dX12_mayCross_92 : decode cX12_mayCross 92 = .ok (.bipush 10, 2) := by decide +kernel
theorem dX12_mayCross_94 : decode cX12_mayCross 94 = .ok (.iload_n 1, 1) := by decide +kernel
theorem dX12_mayCross_95 : decode cX12_mayCross 95 = .ok (.iadd, 1) := by decide +kernel
theorem dX12_mayCross_96 : decode cX12_mayCross 96 = .ok (.iaload, 1) := by decide +kernel
theorem dX12_mayCross_97 : decode cX12_mayCross 97 = .ok (.if_icmp .eq 7, 3) := by decide +kernel
theorem dX12_mayCross_100 : decode cX12_mayCross 100 = .ok (.iconst 1, 1) := by decide +kernel
theorem dX12_mayCross_101 : decode cX12_mayCross 101 = .ok (.goto 4, 3) := by decide +kernel
theorem dX12_mayCross_104 : decode cX12_mayCross 104 = .ok (.iconst 0, 1) := by decide +kernel
theorem dX12_mayCross_105 : decode cX12_mayCross 105 = .ok (.ireturn, 1) := by decide +kernel
theorem dX12_goesOut_0 : decode cX12_goesOut 0 = .ok (.aload_n 0, 1) := by decide +kernel
theorem dX12_goesOut_1 : decode cX12_goesOut 1 = .ok (.bipush 121, 2) := by decide +kernel
theorem dX12_goesOut_3 : decode cX12_goesOut 3 = .ok (.dup2, 1) := by decide +kernel
theorem dX12_goesOut_4 : decode cX12_goesOut 4 = .ok (.iaload, 1) := by decide +kernel
theorem dX12_goesOut_5 : decode cX12_goesOut 5 = .ok (.iconst 1, 1) := by decide +kernel
theorem dX12_goesOut_6 : decode cX12_goesOut 6 = .ok (.isub, 1) := by decide +kernel
theorem dX12_goesOut_7 : decode cX12_goesOut 7 = .ok (.iastore, 1) := by decide +kernel
theorem dX12_goesOut_8 : decode cX12_goesOut 8 = .ok (.iload_n 1, 1) := by decide +kernel
theorem dX12_goesOut_9 : decode cX12_goesOut 9 = .ok (.istore_n 2, 1) := by decide +kernel
theorem dX12_goesOut_10 : decode cX12_goesOut 10 = .ok (.iload_n 2, 1) := by decide +kernel
theorem dX12_goesOut_11 : decode cX12_goesOut 11 = .ok (.aload_n 0, 1) := by decide +kernel
theorem dX12_goesOut_12 : decode cX12_goesOut 12 = .ok (.bipush 121, 2) := by decide +kernel
theorem dX12_goesOut_14 : decode cX12_goesOut 14 = .ok (.iaload, 1) := by decide +kernel
theorem dX12_goesOut_15 : decode cX12_goesOut 15 = .ok (.if_icmp .ge 39, 3) := by decide +kernel
theorem dX12_goesOut_18 : decode cX12_goesOut 18 = .ok (.aload_n 0, 1) := by decide +kernel
theorem dX12_goesOut_19 : decode cX12_goesOut 19 = .ok (.bipush 122, 2) := by decide +kernel
theorem dX12_goesOut_21 : decode cX12_goesOut 21 = .ok (.iload_n 2, 1) := by decide +kernel
theorem dX12_goesOut_22 : decode cX12_goesOut 22 = .ok (.iadd, 1) := by decide +kernel
theorem dX12_goesOut_23 : decode cX12_goesOut 23 = .ok (.aload_n 0, 1) := by decide +kernel
theorem dX12_goesOut_24 : decode cX12_goesOut 24 = .ok (.bipush 122, 2) := by decide +kernel
theorem dX12_goesOut_26 : decode cX12_goesOut 26 = .ok (.iload_n 2, 1) := by decide +kernel
theorem dX12_goesOut_27 : decode cX12_goesOut 27 = .ok (.iadd, 1) := by decide +kernel
theorem dX12_goesOut_28 : decode cX12_goesOut 28 = .ok (.iconst 1, 1) := by decide +kernel
theorem dX12_goesOut_29 : decode cX12_goesOut 29 = .ok (.iadd, 1) := by decide +kernel
theorem dX12_goesOut_30 : decode cX12_goesOut 30 = .ok (.iaload, 1) := by decide +kernel
theorem dX12_goesOut_31 : decode cX12_goesOut 31 = .ok (.iastore, 1) := by decide +kernel
theorem dX12_goesOut_32 : decode cX12_goesOut 32 = .ok (.aload_n 0, 1) := by decide +kernel
theorem dX12_goesOut_33 : decode cX12_goesOut 33 = .ok (.sipush 130, 3) := by decide +kernel
theorem dX12_goesOut_36 : decode cX12_goesOut 36 = .ok (.iload_n 2, 1) := by decide +kernel
theorem dX12_goesOut_37 : decode cX12_goesOut 37 = .ok (.iadd, 1) := by decide +kernel
theorem dX12_goesOut_38 : decode cX12_goesOut 38 = .ok (.aload_n 0, 1) := by decide +kernel
theorem dX12_goesOut_39 : decode cX12_goesOut 39 = .ok (.sipush 130, 3) := by decide +kernel
theorem dX12_goesOut_42 : decode cX12_goesOut 42 = .ok (.iload_n 2, 1) := by decide +kernel
theorem dX12_goesOut_43 : decode cX12_goesOut 43 = .ok (.iadd, 1) := by decide +kernel
theorem dX12_goesOut_44 : decode cX12_goesOut 44 = .ok (.iconst 1, 1) := by decide +kernel
theorem dX12_goesOut_45 : decode cX12_goesOut 45 = .ok (.iadd, 1) := by decide +kernel
theorem dX12_goesOut_46 : decode cX12_goesOut 46 = .ok (.iaload, 1) := by decide +kernel
theorem dX12_goesOut_47 : decode cX12_goesOut 47 = .ok (.iastore, 1) := by decide +kernel
theorem dX12_goesOut_48 : decode cX12_goesOut 48 = .ok (.iinc 2 1, 3) := by decide +kernel
theorem dX12_goesOut_51 : decode cX12_goesOut 51 = .ok (.goto (-41), 3) := by decide +kernel
theorem dX12_goesOut_54 : decode cX12_goesOut 54 = .ok (.return_, 1) := by decide +kernel
theorem dX12_comes_0 : decode cX12_comes 0 = .ok (.aload_n 0, 1) := by decide +kernel
theorem dX12_comes_1 : decode cX12_comes 1 = .ok (.bipush 121, 2) := by decide +kernel
theorem dX12_comes_3 : decode cX12_comes 3 = .ok (.iaload, 1) := by decide +kernel
theorem dX12_comes_4 : decode cX12_comes 4 = .ok (.iconst 1, 1) := by decide +kernel
theorem dX12_comes_5 : decode cX12_comes 5 = .ok (.isub, 1) := by decide +kernel
theorem dX12_comes_6 : decode cX12_comes 6 = .ok (.istore_n 3, 1) := by decide +kernel
theorem dX12_comes_7 : decode cX12_comes 7 = .ok (.iload_n 3, 1) := by decide +kernel
theorem dX12_comes_8 : decode cX12_comes 8 = .ok (.ifCond .lt 30, 3) := by decide +kernel
theorem dX12_comes_11 : decode cX12_comes 11 = .ok (.aload_n 0, 1) := by decide +kernel
theorem dX12_comes_12 : decode cX12_comes 12 = .ok (.bipush 122, 2) := by decide +kernel
theorem dX12_comes_14 : decode cX12_comes 14 = .ok (.iload_n 3, 1) := by decide +kernel
theorem dX12_comes_15 : decode cX12_comes 15 = .ok (.iadd, 1) := by decide +kernel
theorem dX12_comes_16 : decode cX12_comes 16 = .ok (.iaload, 1) := by decide +kernel
theorem dX12_comes_17 : decode cX12_comes 17 = .ok (.bipush 8, 2) := by decide +kernel
theorem dX12_comes_19 : decode cX12_comes 19 = .ok (.irem, 1) := by decide +kernel
theorem dX12_comes_20 : decode cX12_comes 20 = .ok (.iload_n 1, 1) := by decide +kernel
theorem dX12_comes_21 : decode cX12_comes 21 = .ok (.bipush 8, 2) := by decide +kernel
theorem dX12_comes_23 : decode cX12_comes 23 = .ok (.irem, 1) := by decide +kernel
theorem dX12_comes_24 : decode cX12_comes 24 = .ok (.if_icmp .ne 8, 3) := by decide +kernel
theorem dX12_comes_27 : decode cX12_comes 27 = .ok (.aload_n 0, 1) := by decide +kernel
theorem dX12_comes_28 : decode cX12_comes 28 = .ok (.iload_n 3, 1) := by decide +kernel
theorem dX12_comes_29 : decode cX12_comes 29 = .ok (.invokestatic 203, 3) := by decide +kernel
theorem dX12_comes_32 : decode cX12_comes 32 = .ok (.iinc 3 (-1), 3) := by decide +kernel
theorem dX12_comes_35 : decode cX12_comes 35 = .ok (.goto (-28), 3) := by decide +kernel
theorem dX12_comes_38 : decode cX12_comes 38 = .ok (.aload_n 0, 1) := by decide +kernel
theorem dX12_comes_39 : decode cX12_comes 39 = .ok (.bipush 122, 2) := by decide +kernel
theorem dX12_comes_41 : decode cX12_comes 41 = .ok (.aload_n 0, 1) := by decide +kernel
theorem dX12_comes_42 : decode cX12_comes 42 = .ok (.bipush 121, 2) := by decide +kernel
theorem dX12_comes_44 : decode cX12_comes 44 = .ok (.iaload, 1) := by decide +kernel
theorem dX12_comes_45 : decode cX12_comes 45 = .ok (.iadd, 1) := by decide +kernel
theorem dX12_comes_46 : decode cX12_comes 46 = .ok (.iload_n 1, 1) := by decide +kernel
theorem dX12_comes_47 : decode cX12_comes 47 = .ok (.iastore, 1) := by decide +kernel
theorem dX12_comes_48 : decode cX12_comes 48 = .ok (.aload_n 0, 1) := by decide +kernel
theorem dX12_comes_49 : decode cX12_comes 49 = .ok (.sipush 130, 3) := by decide +kernel
theorem dX12_comes_52 : decode cX12_comes 52 = .ok (.aload_n 0, 1) := by decide +kernel
theorem dX12_comes_53 : decode cX12_comes 53 = .ok (.bipush 121, 2) := by decide +kernel
theorem dX12_comes_55 : decode cX12_comes 55 = .ok (.iaload, 1) := by decide +kernel
theorem dX12_comes_56 : decode cX12_comes 56 = .ok (.iadd, 1) := by decide +kernel
theorem dX12_comes_57 : decode cX12_comes 57 = .ok (.iload_n 2, 1) := by decide +kernel
theorem dX12_comes_58 : decode cX12_comes 58 = .ok (.iastore, 1) := by decide +kernel
theorem dX12_comes_59 : decode cX12_comes 59 = .ok (.aload_n 0, 1) := by decide +kernel
theorem dX12_comes_60 : decode cX12_comes 60 = .ok (.bipush 121, 2) := by decide +kernel
theorem dX12_comes_62 : decode cX12_comes 62 = .ok (.dup2, 1) := by decide +kernel
theorem dX12_comes_63 : decode cX12_comes 63 = .ok (.iaload, 1) := by decide +kernel
theorem dX12_comes_64 : decode cX12_comes 64 = .ok (.iconst 1, 1) := by decide +kernel
theorem dX12_comes_65 : decode cX12_comes 65 = .ok (.iadd, 1) := by decide +kernel
theorem dX12_comes_66 : decode cX12_comes 66 = .ok (.iastore, 1) := by decide +kernel
theorem dX12_comes_67 : decode cX12_comes 67 = .ok (.return_, 1) := by decide +kernel
theorem dX12_crosses_0 : decode cX12_crosses 0 = .ok (.aload_n 0, 1) := by decide +kernel
theorem dX12_crosses_1 : decode cX12_crosses 1 = .ok (.iconst 5, 1) := by decide +kernel
theorem dX12_crosses_2 : decode cX12_crosses 2 = .ok (.iload_n 1, 1) := by decide +kernel
theorem dX12_crosses_3 : decode cX12_crosses 3 = .ok (.iadd, 1) := by decide +kernel
theorem dX12_crosses_4 : decode cX12_crosses 4 = .ok (.iaload, 1) := by decide +kernel
theorem dX12_crosses_5 : decode cX12_crosses 5 = .ok (.istore_n 3, 1) := by decide +kernel
theorem dX12_crosses_6 : decode cX12_crosses 6 = .ok (.iload_n 3, 1) := by decide +kernel
theorem dX12_crosses_7 : decode cX12_crosses 7 = .ok (.iconst 5, 1) := by decide +kernel
theorem dX12_crosses_8 : decode cX12_crosses 8 = .ok (.if_icmp .ne 4, 3) := by decide +kernel
theorem dX12_crosses_11 : decode cX12_crosses 11 = .ok (.return_, 1) := by decide +kernel
theorem dX12_crosses_12 : decode cX12_crosses 12 = .ok (.aload_n 0, 1) := by decide +kernel
theorem dX12_crosses_13 : decode cX12_crosses 13 = .ok (.iload_n 2, 1) := by decide +kernel
theorem dX12_crosses_14 : decode cX12_crosses 14 = .ok (.iload_n 3, 1) := by decide +kernel
theorem dX12_crosses_15 : decode cX12_crosses 15 = .ok (.iconst 4, 1) := by decide +kernel
theorem dX12_crosses_16 : decode cX12_crosses 16 = .ok (.if_icmp .ne 7, 3) := by decide +kernel
theorem dX12_crosses_19 : decode cX12_crosses 19 = .ok (.iconst 1, 1) := by decide +kernel
theorem dX12_crosses_20 : decode cX12_crosses 20 = .ok (.goto 4, 3) := by decide +kernel
theorem dX12_crosses_23 : decode cX12_crosses 23 = .ok (.iconst 0, 1) := by decide +kernel
theorem dX12_crosses_24 : decode cX12_crosses 24 = .ok (.invokestatic 207, 3) := by decide +kernel
theorem dX12_crosses_27 : decode cX12_crosses 27 = .ok (.iload_n 3, 1) := by decide +kernel
theorem dX12_crosses_28 : decode cX12_crosses 28 = .ok (.iconst 3, 1) := by decide +kernel
theorem dX12_crosses_29 : decode cX12_crosses 29 = .ok (.if_icmp .ne 23, 3) := by decide +kernel
theorem dX12_crosses_32 : decode cX12_crosses 32 = .ok (.aload_n 0, 1) := by decide +kernel
theorem dX12_crosses_33 : decode cX12_crosses 33 = .ok (.iload_n 2, 1) := by decide +kernel
theorem dX12_crosses_34 : decode cX12_crosses 34 = .ok (.bipush 8, 2) := by decide +kernel
theorem dX12_crosses_36 : decode cX12_crosses 36 = .ok (.idiv, 1) := by decide +kernel
theorem dX12_crosses_37 : decode cX12_crosses 37 = .ok (.bipush 8, 2) := by decide +kernel
theorem dX12_crosses_39 : decode cX12_crosses 39 = .ok (.imul, 1) := by decide +kernel
theorem dX12_crosses_40 : decode cX12_crosses 40 = .ok (.bipush 7, 2) := by decide +kernel
theorem dX12_crosses_42 : decode cX12_crosses 42 = .ok (.iadd, 1) := by decide +kernel
theorem dX12_crosses_43 : decode cX12_crosses 43 = .ok (.iload_n 2, 1) := by decide +kernel
theorem dX12_crosses_44 : decode cX12_crosses 44 = .ok (.bipush 8, 2) := by decide +kernel
theorem dX12_crosses_46 : decode cX12_crosses 46 = .ok (.irem, 1) := by decide +kernel
theorem dX12_crosses_47 : decode cX12_crosses 47 = .ok (.isub, 1) := by decide +kernel
theorem dX12_crosses_48 : decode cX12_crosses 48 = .ok (.iconst 0, 1) := by decide +kernel
theorem dX12_crosses_49 : decode cX12_crosses 49 = .ok (.invokestatic 207, 3) := by decide +kernel
theorem dX12_crosses_52 : decode cX12_crosses 52 = .ok (.aload_n 0, 1) := by decide +kernel
theorem dX12_crosses_53 : decode cX12_crosses 53 = .ok (.bipush 121, 2) := by decide +kernel
theorem dX12_crosses_55 : decode cX12_crosses 55 = .ok (.iaload, 1) := by decide +kernel
theorem dX12_crosses_56 : decode cX12_crosses 56 = .ok (.aload_n 0, 1) := by decide +kernel
theorem dX12_crosses_57 : decode cX12_crosses 57 = .ok (.iconst 2, 1) := by decide +kernel
theorem dX12_crosses_58 : decode cX12_crosses 58 = .ok (.iaload, 1) := by decide +kernel
theorem dX12_crosses_59 : decode cX12_crosses 59 = .ok (.if_icmp .le 55, 3) := by decide +kernel
theorem dX12_crosses_62 : decode cX12_crosses 62 = .ok (.iconst 0, 1) := by decide +kernel
theorem dX12_crosses_63 : decode cX12_crosses 63 = .ok (.istore 4, 2) := by decide +kernel
theorem dX12_crosses_65 : decode cX12_crosses 65 = .ok (.aload_n 0, 1) := by decide +kernel
theorem dX12_crosses_66 : decode cX12_crosses 66 = .ok (.bipush 121, 2) := by decide +kernel
theorem dX12_crosses_68 : decode cX12_crosses 68 = .ok (.iaload, 1) := by decide +kernel
theorem dX12_crosses_69 : decode cX12_crosses 69 = .ok (.iconst 1, 1) := by decide +kernel
theorem dX12_crosses_70 : decode cX12_crosses 70 = .ok (.isub, 1) := by decide +kernel
theorem dX12_crosses_71 : decode cX12_crosses 71 = .ok (.istore 5, 2) := by decide +kernel
theorem dX12_crosses_73 : decode cX12_crosses 73 = .ok (.iload 5, 2) := by decide +kernel
theorem dX12_crosses_75 : decode cX12_crosses 75 = .ok (.ifCond .lt 30, 3) := by decide +kernel
theorem dX12_crosses_78 : decode cX12_crosses 78 = .ok (.aload_n 0, 1) := by decide +kernel
theorem dX12_crosses_79 : decode cX12_crosses 79 = .ok (.sipush 130, 3) := by decide +kernel
theorem dX12_crosses_82 : decode cX12_crosses 82 = .ok (.iload 5, 2) := by decide +kernel
theorem dX12_crosses_84 : decode cX12_crosses 84 = .ok (.iadd, 1) := by decide +kernel
theorem dX12_crosses_85 : decode cX12_crosses 85 = .ok (.iaload, 1) := by decide +kernel
theorem dX12_crosses_86 : decode cX12_crosses 86 = .ok (.iconst 1, 1) := by decide +kernel
theorem dX12_crosses_87 : decode cX12_crosses 87 = .ok (.if_icmp .ne 8, 3) := by decide +kernel
theorem dX12_crosses_90 : decode cX12_crosses 90 = .ok (.iload 5, 2) := by decide +kernel
theorem dX12_crosses_92 : decode cX12_crosses 92 = .ok (.goto 5, 3) := by decide +kernel
theorem dX12_crosses_95 : decode cX12_crosses 95 = .ok (.iload 4, 2) := by decide +kernel
theorem dX12_crosses_97 : decode cX12_crosses 97 = .ok (.istore 4, 2) := by decide +kernel
theorem dX12_crosses_99 : decode cX12_crosses 99 = .ok (.iinc 5 (-1), 3) := by decide +kernel
theorem dX12_crosses_102 : decode cX12_crosses 102 = .ok (.goto (-29), 3) := by decide +kernel
theorem dX12_crosses_105 : decode cX12_crosses 105 = .ok (.aload_n 0, 1) := by decide +kernel
theorem dX12_crosses_106 : decode cX12_crosses 106 = .ok (.iload 4, 2) := by decide +kernel
theorem dX12_crosses_108 : decode cX12_crosses 108 = .ok (.invokestatic 203, 3) := by decide +kernel
theorem dX12_crosses_111 : decode cX12_crosses 111 = .ok (.goto (-59), 3) := by decide +kernel
theorem dX12_crosses_114 : decode cX12_crosses 114 = .ok (.return_, 1) := by decide +kernel
theorem dX12_sum_0 : decode cX12_sum 0 = .ok (.iconst 0, 1) := by decide +kernel
theorem dX12_sum_1 : decode cX12_sum 1 = .ok (.istore_n 3, 1) := by decide +kernel
theorem dX12_sum_2 : decode cX12_sum 2 = .ok (.iconst 0, 1) := by decide +kernel
theorem dX12_sum_3 : decode cX12_sum 3 = .ok (.istore 4, 2) := by decide +kernel
theorem dX12_sum_5 : decode cX12_sum 5 = .ok (.iload 4, 2) := by decide +kernel
theorem dX12_sum_7 : decode cX12_sum 7 = .ok (.bipush 48, 2) := by decide +kernel
theorem dX12_sum_9 : decode cX12_sum 9 = .ok (.if_icmp .ge 41, 3) := by decide +kernel
theorem dX12_sum_12 : decode cX12_sum 12 = .ok (.iload_n 3, 1) := by decide +kernel
theorem dX12_sum_13 : decode cX12_sum 13 = .ok (.aload_n 0, 1) := by decide +kernel
theorem dX12_sum_14 : decode cX12_sum 14 = .ok (.iload 4, 2) := by decide +kernel
theorem dX12_sum_16 : decode cX12_sum 16 = .ok (.invokestatic 199, 3) := by decide +kernel
theorem dX12_sum_19 : decode cX12_sum 19 = .ok (.iload_n 1, 1) := by decide +kernel
theorem dX12_sum_20 : decode cX12_sum 20 = .ok (.if_icmp .eq 7, 3) := by decide +kernel
theorem dX12_sum_23 : decode cX12_sum 23 = .ok (.iconst 0, 1) := by decide +kernel
theorem dX12_sum_24 : decode cX12_sum 24 = .ok (.goto 18, 3) := by decide +kernel
theorem dX12_sum_27 : decode cX12_sum 27 = .ok (.iload_n 2, 1) := by decide +kernel
theorem dX12_sum_28 : decode cX12_sum 28 = .ok (.ifCond .ne 7, 3) := by decide +kernel
theorem dX12_sum_31 : decode cX12_sum 31 = .ok (.iconst 1, 1) := by decide +kernel
theorem dX12_sum_32 : decode cX12_sum 32 = .ok (.goto 10, 3) := by decide +kernel
theorem dX12_sum_35 : decode cX12_sum 35 = .ok (.aload_n 0, 1) := by decide +kernel
theorem dX12_sum_36 : decode cX12_sum 36 = .ok (.bipush 73, 2) := by decide +kernel
theorem dX12_sum_38 : decode cX12_sum 38 = .ok (.iload 4, 2) := by decide +kernel
theorem dX12_sum_40 : decode cX12_sum 40 = .ok (.iadd, 1) := by decide +kernel
theorem dX12_sum_41 : decode cX12_sum 41 = .ok (.iaload, 1) := by decide +kernel
theorem dX12_sum_42 : decode cX12_sum 42 = .ok (.iadd, 1) := by decide +kernel
theorem dX12_sum_43 : decode cX12_sum 43 = .ok (.istore_n 3, 1) := by decide +kernel
theorem dX12_sum_44 : decode cX12_sum 44 = .ok (.iinc 4 1, 3) := by decide +kernel
theorem dX12_sum_47 : decode cX12_sum 47 = .ok (.goto (-42), 3) := by decide +kernel
theorem dX12_sum_50 : decode cX12_sum 50 = .ok (.iload_n 3, 1) := by decide +kernel
theorem dX12_sum_51 : decode cX12_sum 51 = .ok (.ireturn, 1) := by decide +kernel
theorem dX12_lead_0 : decode cX12_lead 0 = .ok (.aload_n 0, 1) := by decide +kernel
theorem dX12_lead_1 : decode cX12_lead 1 = .ok (.iload_n 1, 1) := by decide +kernel
theorem dX12_lead_2 : decode cX12_lead 2 = .ok (.iconst 1, 1) := by decide +kernel
theorem dX12_lead_3 : decode cX12_lead 3 = .ok (.invokestatic 211, 3) := by decide +kernel
theorem dX12_lead_6 : decode cX12_lead 6 = .ok (.aload_n 0, 1) := by decide +kernel
theorem dX12_lead_7 : decode cX12_lead 7 = .ok (.iconst 1, 1) := by decide +kernel
theorem dX12_lead_8 : decode cX12_lead 8 = .ok (.iload_n 1, 1) := by decide +kernel
theorem dX12_lead_9 : decode cX12_lead 9 = .ok (.isub, 1) := by decide +kernel
theorem dX12_lead_10 : decode cX12_lead 10 = .ok (.iconst 1, 1) := by decide +kernel
theorem dX12_lead_11 : decode cX12_lead 11 = .ok (.invokestatic 211, 3) := by decide +kernel
theorem dX12_lead_14 : decode cX12_lead 14 = .ok (.isub, 1) := by decide +kernel
theorem dX12_lead_15 : decode cX12_lead 15 = .ok (.ireturn, 1) := by decide +kernel
theorem dX12_isCell_0 : decode cX12_isCell 0 = .ok (.iload_n 0, 1) := by decide +kernel
theorem dX12_isCell_1 : decode cX12_isCell 1 = .ok (.i2l, 1) := by decide +kernel
theorem dX12_isCell_2 : decode cX12_isCell 2 = .ok (.lconst 0, 1) := by decide +kernel
theorem dX12_isCell_3 : decode cX12_isCell 3 = .ok (.ldc2_w 215, 3) := by decide +kernel
theorem dX12_isCell_6 : decode cX12_isCell 6 = .ok (.invokestatic 54, 3) := by decide +kernel
theorem dX12_isCell_9 : decode cX12_isCell 9 = .ok (.ireturn, 1) := by decide +kernel
theorem dX12_remember_0 : decode cX12_remember 0 = .ok (.aload_n 0, 1) := by decide +kernel
theorem dX12_remember_1 : decode cX12_remember 1 = .ok (.getfield 190, 3) := by decide +kernel
theorem dX12_remember_4 : decode cX12_remember 4 = .ok (.bipush 24, 2) := by decide +kernel
theorem dX12_remember_6 : decode cX12_remember 6 = .ok (.if_icmp .ne 44, 3) := by decide +kernel
theorem dX12_remember_9 : decode cX12_remember 9 = .ok (.iconst 0, 1) := by decide +kernel
theorem dX12_remember_10 : decode cX12_remember 10 = .ok (.istore_n 1, 1) := by decide +kernel
theorem dX12_remember_11 : decode cX12_remember 11 = .ok (.iload_n 1, 1) := by decide +kernel
theorem dX12_remember_12 : decode cX12_remember 12 = .ok (.sipush 3174, 3) := by decide +kernel
theorem dX12_remember_15 : decode cX12_remember 15 = .ok (.if_icmp .ge 25, 3) := by decide +kernel
theorem dX12_remember_18 : decode cX12_remember 18 = .ok (.aload_n 0, 1) := by decide +kernel
theorem dX12_remember_19 : decode cX12_remember 19 = .ok (.getfield 25, 3) := by decide +kernel
theorem dX12_remember_22 : decode cX12_remember 22 = .ok (.iload_n 1, 1) := by decide +kernel
theorem dX12_remember_23 : decode cX12_remember 23 = .ok (.aload_n 0, 1) := by decide +kernel
theorem dX12_remember_24 : decode cX12_remember 24 = .ok (.getfield 25, 3) := by decide +kernel
theorem dX12_remember_27 : decode cX12_remember 27 = .ok (.iload_n 1, 1) := by decide +kernel
theorem dX12_remember_28 : decode cX12_remember 28 = .ok (.sipush 138, 3) := by decide +kernel
theorem dX12_remember_31 : decode cX12_remember 31 = .ok (.iadd, 1) := by decide +kernel
theorem dX12_remember_32 : decode cX12_remember 32 = .ok (.iaload, 1) := by decide +kernel
theorem dX12_remember_33 : decode cX12_remember 33 = .ok (.iastore, 1) := by decide +kernel
theorem dX12_remember_34 : decode cX12_remember 34 = .ok (.iinc 1 1, 3) := by decide +kernel
theorem dX12_remember_37 : decode cX12_remember 37 = .ok (.goto (-26), 3) := by decide +kernel
theorem dX12_remember_40 : decode cX12_remember 40 = .ok (.aload_n 0, 1) := by decide +kernel
theorem dX12_remember_41 : decode cX12_remember 41 = .ok (.dup, 1) := by decide +kernel
theorem dX12_remember_42 : decode cX12_remember 42 = .ok (.getfield 190, 3) := by decide +kernel
theorem dX12_remember_45 : decode cX12_remember 45 = .ok (.iconst 1, 1) := by decide +kernel
theorem dX12_remember_46 : decode cX12_remember 46 = .ok (.isub, 1) := by decide +kernel
theorem dX12_remember_47 : decode cX12_remember 47 = .ok (.putfield 190, 3) := by decide +kernel
theorem dX12_remember_50 : decode cX12_remember 50 = .ok (.aload_n 0, 1) := by decide +kernel
theorem dX12_remember_51 : decode cX12_remember 51 = .ok (.getfield 22, 3) := by decide +kernel
theorem dX12_remember_54 : decode cX12_remember 54 = .ok (.iconst 0, 1) := by decide +kernel
theorem dX12_remember_55 : decode cX12_remember 55 = .ok (.aload_n 0, 1) := by decide +kernel
theorem dX12_remember_56 : decode cX12_remember 56 = .ok (.getfield 25, 3) := by decide +kernel
theorem dX12_remember_59 : decode cX12_remember 59 = .ok (.sipush 138, 3) := by decide +kernel
theorem dX12_remember_62 : decode cX12_remember 62 = .ok (.aload_n 0, 1) := by decide +kernel
theorem dX12_remember_63 : decode cX12_remember 63 = .ok (.getfield 190, 3) := by decide +kernel
theorem dX12_remember_66 : decode cX12_remember 66 = .ok (.imul, 1) := by decide +kernel
theorem dX12_remember_67 : decode cX12_remember 67 = .ok (.invokestatic 193, 3) := by decide +kernel
theorem dX12_remember_70 : decode cX12_remember 70 = .ok (.aload_n 0, 1) := by decide +kernel
theorem dX12_remember_71 : decode cX12_remember 71 = .ok (.dup, 1) := by decide +kernel
theorem dX12_remember_72 : decode cX12_remember 72 = .ok (.getfield 190, 3) := by decide +kernel
theorem dX12_remember_75 : decode cX12_remember 75 = .ok (.iconst 1, 1) := by decide +kernel
theorem dX12_remember_76 : decode cX12_remember 76 = .ok (.iadd, 1) := by decide +kernel
theorem dX12_remember_77 : decode cX12_remember 77 = .ok (.putfield 190, 3) := by decide +kernel
theorem dX12_remember_80 : decode cX12_remember 80 = .ok (.return_, 1) := by decide +kernel
theorem dX12_cross_0 : decode cX12_cross 0 = .ok (.aload_n 0, 1) := by decide +kernel
theorem dX12_cross_1 : decode cX12_cross 1 = .ok (.iload_n 1, 1) := by decide +kernel
theorem dX12_cross_2 : decode cX12_cross 2 = .ok (.invokevirtual 217, 3) := by decide +kernel
theorem dX12_cross_5 : decode cX12_cross 5 = .ok (.ifCond .eq 10, 3) := by decide +kernel
theorem dX12_cross_8 : decode cX12_cross 8 = .ok (.iload_n 2, 1) := by decide +kernel
theorem dX12_cross_9 : decode cX12_cross 9 = .ok (.invokestatic 220, 3) := by decide +kernel
theorem dX12_cross_12 : decode cX12_cross 12 = .ok (.ifCond .ne 6, 3) := by decide +kernel
theorem dX12_cross_15 : decode cX12_cross 15 = .ok (.ldc 64, 2) := by decide +kernel
theorem dX12_cross_17 : decode cX12_cross 17 = .ok (.ireturn, 1) := by decide +kernel
theorem dX12_cross_18 : decode cX12_cross 18 = .ok (.aload_n 0, 1) := by decide +kernel
theorem dX12_cross_19 : decode cX12_cross 19 = .ok (.getfield 22, 3) := by decide +kernel
theorem dX12_cross_22 : decode cX12_cross 22 = .ok (.iload_n 1, 1) := by decide +kernel
theorem dX12_cross_23 : decode cX12_cross 23 = .ok (.iload_n 2, 1) := by decide +kernel
theorem dX12_cross_24 : decode cX12_cross 24 = .ok (.invokestatic 223, 3) := by decide +kernel
theorem dX12_cross_27 : decode cX12_cross 27 = .ok (.ifCond .ne 6, 3) := by decide +kernel
theorem dX12_cross_30 : decode cX12_cross 30 = .ok (.ldc 227, 2) := by decide +kernel
theorem dX12_cross_32 : decode cX12_cross 32 = .ok (.ireturn, 1) := by decide +kernel
theorem dX12_cross_33 : decode cX12_cross 33 = .ok (.aload_n 0, 1) := by decide +kernel
theorem dX12_cross_34 : decode cX12_cross 34 = .ok (.invokevirtual 228, 3) := by decide +kernel
theorem dX12_cross_37 : decode cX12_cross 37 = .ok (.aload_n 0, 1) := by decide +kernel
theorem dX12_cross_38 : decode cX12_cross 38 = .ok (.getfield 22, 3) := by decide +kernel
theorem dX12_cross_41 : decode cX12_cross 41 = .ok (.iload_n 1, 1) := by decide +kernel
theorem dX12_cross_42 : decode cX12_cross 42 = .ok (.iload_n 2, 1) := by decide +kernel
theorem dX12_cross_43 : decode cX12_cross 43 = .ok (.invokestatic 231, 3) := by decide +kernel
theorem dX12_cross_46 : decode cX12_cross 46 = .ok (.aload_n 0, 1) := by decide +kernel
theorem dX12_cross_47 : decode cX12_cross 47 = .ok (.getfield 22, 3) := by decide +kernel
theorem dX12_cross_50 : decode cX12_cross 50 = .ok (.bipush 121, 2) := by decide +kernel
theorem dX12_cross_52 : decode cX12_cross 52 = .ok (.iaload, 1) := by decide +kernel
theorem dX12_cross_53 : decode cX12_cross 53 = .ok (.ireturn, 1) := by decide +kernel
theorem dX12_undo_0 : decode cX12_undo 0 = .ok (.aload_n 0, 1) := by decide +kernel
theorem dX12_undo_1 : decode cX12_undo 1 = .ok (.getfield 190, 3) := by decide +kernel
theorem dX12_undo_4 : decode cX12_undo 4 = .ok (.ifCond .ne 6, 3) := by decide +kernel
theorem dX12_undo_7 : decode cX12_undo 7 = .ok (.ldc 227, 2) := by decide +kernel
theorem dX12_undo_9 : decode cX12_undo 9 = .ok (.ireturn, 1) := by decide +kernel
theorem dX12_undo_10 : decode cX12_undo 10 = .ok (.aload_n 0, 1) := by decide +kernel
theorem dX12_undo_11 : decode cX12_undo 11 = .ok (.dup, 1) := by decide +kernel
theorem dX12_undo_12 : decode cX12_undo 12 = .ok (.getfield 190, 3) := by decide +kernel
theorem dX12_undo_15 : decode cX12_undo 15 = .ok (.iconst 1, 1) := by decide +kernel
theorem dX12_undo_16 : decode cX12_undo 16 = .ok (.isub, 1) := by decide +kernel
theorem dX12_undo_17 : decode cX12_undo 17 = .ok (.putfield 190, 3) := by decide +kernel
theorem dX12_undo_20 : decode cX12_undo 20 = .ok (.aload_n 0, 1) := by decide +kernel
theorem dX12_undo_21 : decode cX12_undo 21 = .ok (.getfield 25, 3) := by decide +kernel
theorem dX12_undo_24 : decode cX12_undo 24 = .ok (.sipush 138, 3) := by decide +kernel
theorem dX12_undo_27 : decode cX12_undo 27 = .ok (.aload_n 0, 1) := by decide +kernel
theorem dX12_undo_28 : decode cX12_undo 28 = .ok (.getfield 190, 3) := by decide +kernel
theorem dX12_undo_31 : decode cX12_undo 31 = .ok (.imul, 1) := by decide +kernel
theorem dX12_undo_32 : decode cX12_undo 32 = .ok (.aload_n 0, 1) := by decide +kernel
theorem dX12_undo_33 : decode cX12_undo 33 = .ok (.getfield 22, 3) := by decide +kernel
theorem dX12_undo_36 : decode cX12_undo 36 = .ok (.iconst 0, 1) := by decide +kernel
theorem dX12_undo_37 : decode cX12_undo 37 = .ok (.invokestatic 193, 3) := by decide +kernel
theorem dX12_undo_40 : decode cX12_undo 40 = .ok (.aload_n 0, 1) := by decide +kernel
theorem dX12_undo_41 : decode cX12_undo 41 = .ok (.getfield 190, 3) := by decide +kernel
theorem dX12_undo_44 : decode cX12_undo 44 = .ok (.ireturn, 1) := by decide +kernel
theorem dX12_person_0 : decode cX12_person 0 = .ok (.aload_n 0, 1) := by decide +kernel
theorem dX12_person_1 : decode cX12_person 1 = .ok (.iload_n 1, 1) := by decide +kernel
theorem dX12_person_2 : decode cX12_person 2 = .ok (.invokevirtual 217, 3) := by decide +kernel
theorem dX12_person_5 : decode cX12_person 5 = .ok (.ifCond .eq 15, 3) := by decide +kernel
theorem dX12_person_8 : decode cX12_person 8 = .ok (.iload_n 2, 1) := by decide +kernel
theorem dX12_person_9 : decode cX12_person 9 = .ok (.i2l, 1) := by decide +kernel
theorem dX12_person_10 : decode cX12_person 10 = .ok (.lconst 0, 1) := by decide +kernel
theorem dX12_person_11 : decode cX12_person 11 = .ok (.ldc2_w 234, 3) := by decide +kernel
theorem dX12_person_14 : decode cX12_person 14 = .ok (.invokestatic 54, 3) := by decide +kernel
theorem dX12_person_17 : decode cX12_person 17 = .ok (.ifCond .ne 6, 3) := by decide +kernel
theorem dX12_person_20 : decode cX12_person 20 = .ok (.ldc 64, 2) := by decide +kernel
theorem dX12_person_22 : decode cX12_person 22 = .ok (.ireturn, 1) := by decide +kernel
theorem dX12_person_23 : decode cX12_person 23 = .ok (.iconst 0, 1) := by decide +kernel
theorem dX12_person_24 : decode cX12_person 24 = .ok (.istore_n 3, 1) := by decide +kernel
theorem dX12_person_25 : decode cX12_person 25 = .ok (.iconst 0, 1) := by decide +kernel
theorem dX12_person_26 : decode cX12_person 26 = .ok (.istore 4, 2) := by decide +kernel
theorem dX12_person_28 : decode cX12_person 28 = .ok (.iload 4, 2) := by decide +kernel
theorem dX12_person_30 : decode cX12_person 30 = .ok (.bipush 48, 2) := by decide +kernel
theorem dX12_person_32 : decode cX12_person 32 = .ok (.if_icmp .ge 30, 3) := by decide +kernel
theorem dX12_person_35 : decode cX12_person 35 = .ok (.iload_n 3, 1) := by decide +kernel
theorem dX12_person_36 : decode cX12_person 36 = .ok (.aload_n 0, 1) := by decide +kernel
theorem dX12_person_37 : decode cX12_person 37 = .ok (.getfield 22, 3) := by decide +kernel
theorem dX12_person_40 : decode cX12_person 40 = .ok (.iload_n 1, 1) := by decide +kernel
theorem dX12_person_41 : decode cX12_person 41 = .ok (.iload 4, 2) := by decide +kernel
theorem dX12_person_43 : decode cX12_person 43 = .ok (.invokestatic 223, 3) := by decide +kernel
theorem dX12_person_46 : decode cX12_person 46 = .ok (.ifCond .eq 7, 3) := by decide +kernel
theorem dX12_person_49 : decode cX12_person 49 = .ok (.iconst 1, 1) := by decide +kernel
theorem dX12_person_50 : decode cX12_person 50 = .ok (.goto 4, 3) := by decide +kernel
theorem dX12_person_53 : decode cX12_person 53 = .ok (.iconst 0, 1) := by decide +kernel
theorem dX12_person_54 : decode cX12_person 54 = .ok (.iadd, 1) := by decide +kernel
theorem dX12_person_55 : decode cX12_person 55 = .ok (.istore_n 3, 1) := by decide +kernel
theorem dX12_person_56 : decode cX12_person 56 = .ok (.iinc 4 1, 3) := by decide +kernel
theorem dX12_person_59 : decode cX12_person 59 = .ok (.goto (-31), 3) := by decide +kernel
theorem dX12_person_62 : decode cX12_person 62 = .ok (.iload_n 2, 1) := by decide +kernel
theorem dX12_person_63 : decode cX12_person 63 = .ok (.ifCond .ne 15, 3) := by decide +kernel
theorem dX12_person_66 : decode cX12_person 66 = .ok (.aload_n 0, 1) := by decide +kernel
theorem dX12_person_67 : decode cX12_person 67 = .ok (.getfield 22, 3) := by decide +kernel
theorem dX12_person_70 : decode cX12_person 70 = .ok (.bipush 10, 2) := by decide +kernel
theorem dX12_person_72 : decode cX12_person 72 = .ok (.iload_n 1, 1) := by decide +kernel
theorem dX12_person_73 : decode cX12_person 73 = .ok (.iadd, 1) := by decide +kernel
theorem dX12_person_74 : decode cX12_person 74 = .ok (.iaload, 1) := by decide +kernel
theorem dX12_person_75 : decode cX12_person 75 = .ok (.goto 38, 3) := by decide +kernel
theorem dX12_person_78 : decode cX12_person 78 = .ok (.iload_n 2, 1) := by decide +kernel
theorem dX12_person_79 : decode cX12_person 79 = .ok (.iconst 1, 1) := by decide +kernel
theorem dX12_person_80 : decode cX12_person 80 = .ok (.if_icmp .ne 15, 3) := by decide +kernel
theorem dX12_person_83 : decode cX12_person 83 = .ok (.aload_n 0, 1) := by decide +kernel
theorem dX12_person_84 : decode cX12_person 84 = .ok (.getfield 22, 3) := by decide +kernel
theorem dX12_person_87 : decode cX12_person 87 = .ok (.bipush 15, 2) := by decide +kernel
theorem dX12_person_89 : decode cX12_person 89 = .ok (.iload_n 1, 1) := by decide +kernel
theorem dX12_person_90 : decode cX12_person 90 = .ok (.iadd, 1) := by decide +kernel
theorem dX12_person_91 : decode cX12_person 91 = .ok (.iaload, 1) := by decide +kernel
theorem dX12_person_92 : decode cX12_person 92 = .ok (.goto 21, 3) := by decide +kernel
theorem dX12_person_95 : decode cX12_person 95 = .ok (.iload_n 2, 1) := by decide +kernel
theorem dX12_person_96 : decode cX12_person 96 = .ok (.iconst 2, 1) := by decide +kernel
theorem dX12_person_97 : decode cX12_person 97 = .ok (.if_icmp .ne 15, 3) := by decide +kernel
theorem dX12_person_100 : decode cX12_person 100 = .ok (.aload_n 0, 1) := by decide +kernel
theorem dX12_person_101 : decode cX12_person 101 = .ok (.getfield 22, 3) := by decide +kernel
theorem dX12_person_104 : decode cX12_person 104 = .ok (.bipush 20, 2) := by decide +kernel
theorem dX12_person_106 : decode cX12_person 106 = .ok (.iload_n 1, 1) := by decide +kernel
theorem dX12_person_107 : decode cX12_person 107 = .ok (.iadd, 1) := by decide +kernel
theorem dX12_person_108 : decode cX12_person 108 = .ok (.iaload, 1) := by decide +kernel
theorem dX12_person_109 : decode cX12_person 109 = .ok (.goto 4, 3) := by decide +kernel
theorem dX12_person_112 : decode cX12_person 112 = .ok (.iload_n 3, 1) := by decide +kernel
theorem dX12_person_113 : decode cX12_person 113 = .ok (.ireturn, 1) := by decide +kernel
theorem dX12_cell_0 : decode cX12_cell 0 = .ok (.aload_n 0, 1) := by decide +kernel
theorem dX12_cell_1 : decode cX12_cell 1 = .ok (.getfield 186, 3) := by decide +kernel
theorem dX12_cell_4 : decode cX12_cell 4 = .ok (.ifCond .ne 6, 3) := by decide +kernel
theorem dX12_cell_7 : decode cX12_cell 7 = .ok (.ldc 227, 2) := by decide +kernel
theorem dX12_cell_9 : decode cX12_cell 9 = .ok (.ireturn, 1) := by decide +kernel
theorem dX12_cell_10 : decode cX12_cell 10 = .ok (.iload_n 1, 1) := by decide +kernel
theorem dX12_cell_11 : decode cX12_cell 11 = .ok (.invokestatic 220, 3) := by decide +kernel
theorem dX12_cell_14 : decode cX12_cell 14 = .ok (.ifCond .eq 15, 3) := by decide +kernel
theorem dX12_cell_17 : decode cX12_cell 17 = .ok (.iload_n 2, 1) := by decide +kernel
theorem dX12_cell_18 : decode cX12_cell 18 = .ok (.i2l, 1) := by decide +kernel
theorem dX12_cell_19 : decode cX12_cell 19 = .ok (.lconst 0, 1) := by decide +kernel
theorem dX12_cell_20 : decode cX12_cell 20 = .ok (.ldc2_w 234, 3) := by decide +kernel
theorem dX12_cell_23 : decode cX12_cell 23 = .ok (.invokestatic 54, 3) := by decide +kernel
theorem dX12_cell_26 : decode cX12_cell 26 = .ok (.ifCond .ne 6, 3) := by decide +kernel
theorem dX12_cell_29 : decode cX12_cell 29 = .ok (.ldc 64, 2) := by decide +kernel
theorem dX12_cell_31 : decode cX12_cell 31 = .ok (.ireturn, 1) := by decide +kernel
theorem dX12_cell_32 : decode cX12_cell 32 = .ok (.iconst 0, 1) := by decide +kernel
theorem dX12_cell_33 : decode cX12_cell 33 = .ok (.istore_n 3, 1) := by decide +kernel
theorem dX12_cell_34 : decode cX12_cell 34 = .ok (.iconst 0, 1) := by decide +kernel
theorem dX12_cell_35 : decode cX12_cell 35 = .ok (.istore 4, 2) := by decide +kernel
theorem dX12_cell_37 : decode cX12_cell 37 = .ok (.iload 4, 2) := by decide +kernel
theorem dX12_cell_39 : decode cX12_cell 39 = .ok (.aload_n 0, 1) := by decide +kernel
theorem dX12_cell_40 : decode cX12_cell 40 = .ok (.getfield 22, 3) := by decide +kernel
theorem dX12_cell_43 : decode cX12_cell 43 = .ok (.bipush 121, 2) := by decide +kernel
theorem dX12_cell_45 : decode cX12_cell 45 = .ok (.iaload, 1) := by decide +kernel
theorem dX12_cell_46 : decode cX12_cell 46 = .ok (.if_icmp .ge 31, 3) := by decide +kernel
theorem dX12_cell_49 : decode cX12_cell 49 = .ok (.iload_n 3, 1) := by decide +kernel
theorem dX12_cell_50 : decode cX12_cell 50 = .ok (.aload_n 0, 1) := by decide +kernel
theorem dX12_cell_51 : decode cX12_cell 51 = .ok (.getfield 22, 3) := by decide +kernel
theorem dX12_cell_54 : decode cX12_cell 54 = .ok (.bipush 122, 2) := by decide +kernel
theorem dX12_cell_56 : decode cX12_cell 56 = .ok (.iload 4, 2) := by decide +kernel
theorem dX12_cell_58 : decode cX12_cell 58 = .ok (.iadd, 1) := by decide +kernel
theorem dX12_cell_59 : decode cX12_cell 59 = .ok (.iaload, 1) := by decide +kernel
theorem dX12_cell_60 : decode cX12_cell 60 = .ok (.iload_n 1, 1) := by decide +kernel
theorem dX12_cell_61 : decode cX12_cell 61 = .ok (.if_icmp .ne 7, 3) := by decide +kernel
theorem dX12_cell_64 : decode cX12_cell 64 = .ok (.iconst 1, 1) := by decide +kernel
theorem dX12_cell_65 : decode cX12_cell 65 = .ok (.goto 4, 3) := by decide +kernel
theorem dX12_cell_68 : decode cX12_cell 68 = .ok (.iconst 0, 1) := by decide +kernel
theorem dX12_cell_69 : decode cX12_cell 69 = .ok (.ior, 1) := by decide +kernel
theorem dX12_cell_70 : decode cX12_cell 70 = .ok (.istore_n 3, 1) := by decide +kernel
theorem dX12_cell_71 : decode cX12_cell 71 = .ok (.iinc 4 1, 3) := by decide +kernel
theorem dX12_cell_74 : decode cX12_cell 74 = .ok (.goto (-37), 3) := by decide +kernel
theorem dX12_cell_77 : decode cX12_cell 77 = .ok (.iload_n 2, 1) := by decide +kernel
theorem dX12_cell_78 : decode cX12_cell 78 = .ok (.ifCond .ne 14, 3) := by decide +kernel
theorem dX12_cell_81 : decode cX12_cell 81 = .ok (.aload_n 0, 1) := by decide +kernel
theorem dX12_cell_82 : decode cX12_cell 82 = .ok (.getfield 22, 3) := by decide +kernel
theorem dX12_cell_85 : decode cX12_cell 85 = .ok (.iload_n 1, 1) := by decide +kernel
theorem dX12_cell_86 : decode cX12_cell 86 = .ok (.invokestatic 199, 3) := by decide +kernel
theorem dX12_cell_89 : decode cX12_cell 89 = .ok (.goto 38, 3) := by decide +kernel
theorem dX12_cell_92 : decode cX12_cell 92 = .ok (.iload_n 2, 1) := by decide +kernel
theorem dX12_cell_93 : decode cX12_cell 93 = .ok (.iconst 1, 1) := by decide +kernel
theorem dX12_cell_94 : decode cX12_cell 94 = .ok (.if_icmp .ne 15, 3) := by decide +kernel
theorem dX12_cell_97 : decode cX12_cell 97 = .ok (.aload_n 0, 1) := by decide +kernel
theorem dX12_cell_98 : decode cX12_cell 98 = .ok (.getfield 22, 3) := by decide +kernel
theorem dX12_cell_101 : decode cX12_cell 101 = .ok (.bipush 25, 2) := by decide +kernel
theorem dX12_cell_103 : decode cX12_cell 103 = .ok (.iload_n 1, 1) := by decide +kernel
theorem dX12_cell_104 : decode cX12_cell 104 = .ok (.iadd, 1) := by decide +kernel
theorem dX12_cell_105 : decode cX12_cell 105 = .ok (.iaload, 1) := by decide +kernel
theorem dX12_cell_106 : decode cX12_cell 106 = .ok (.goto 21, 3) := by decide +kernel
theorem dX12_cell_109 : decode cX12_cell 109 = .ok (.iload_n 2, 1) := by decide +kernel
theorem dX12_cell_110 : decode cX12_cell 110 = .ok (.iconst 2, 1) := by decide +kernel
theorem dX12_cell_111 : decode cX12_cell 111 = .ok (.if_icmp .ne 15, 3) := by decide +kernel
theorem dX12_cell_114 : decode cX12_cell 114 = .ok (.aload_n 0, 1) := by decide +kernel
theorem dX12_cell_115 : decode cX12_cell 115 = .ok (.getfield 22, 3) := by decide +kernel
theorem dX12_cell_118 : decode cX12_cell 118 = .ok (.bipush 73, 2) := by decide +kernel
theorem dX12_cell_120 : decode cX12_cell 120 = .ok (.iload_n 1, 1) := by decide +kernel
theorem dX12_cell_121 : decode cX12_cell 121 = .ok (.iadd, 1) := by decide +kernel
theorem dX12_cell_122 : decode cX12_cell 122 = .ok (.iaload, 1) := by decide +kernel
theorem dX12_cell_123 : decode cX12_cell 123 = .ok (.goto 4, 3) := by decide +kernel
theorem dX12_cell_126 : decode cX12_cell 126 = .ok (.iload_n 3, 1) := by decide +kernel
theorem dX12_cell_127 : decode cX12_cell 127 = .ok (.ireturn, 1) := by decide +kernel
theorem dX12_land_0 : decode cX12_land 0 = .ok (.aload_n 0, 1) := by decide +kernel
theorem dX12_land_1 : decode cX12_land 1 = .ok (.getfield 186, 3) := by decide +kernel
theorem dX12_land_4 : decode cX12_land 4 = .ok (.ifCond .ne 6, 3) := by decide +kernel
theorem dX12_land_7 : decode cX12_land 7 = .ok (.ldc 227, 2) := by decide +kernel
theorem dX12_land_9 : decode cX12_land 9 = .ok (.ireturn, 1) := by decide +kernel
theorem dX12_land_10 : decode cX12_land 10 = .ok (.iload_n 1, 1) := by decide +kernel
theorem dX12_land_11 : decode cX12_land 11 = .ok (.i2l, 1) := by decide +kernel
theorem dX12_land_12 : decode cX12_land 12 = .ok (.lconst 0, 1) := by decide +kernel
theorem dX12_land_13 : decode cX12_land 13 = .ok (.lconst 1, 1) := by decide +kernel
theorem dX12_land_14 : decode cX12_land 14 = .ok (.invokestatic 54, 3) := by decide +kernel
theorem dX12_land_17 : decode cX12_land 17 = .ok (.ifCond .eq 15, 3) := by decide +kernel
theorem dX12_land_20 : decode cX12_land 20 = .ok (.iload_n 2, 1) := by decide +kernel
theorem dX12_land_21 : decode cX12_land 21 = .ok (.i2l, 1) := by decide +kernel
theorem dX12_land_22 : decode cX12_land 22 = .ok (.lconst 0, 1) := by decide +kernel
theorem dX12_land_23 : decode cX12_land 23 = .ok (.ldc2_w 62, 3) := by decide +kernel
theorem dX12_land_26 : decode cX12_land 26 = .ok (.invokestatic 54, 3) := by decide +kernel
theorem dX12_land_29 : decode cX12_land 29 = .ok (.ifCond .ne 6, 3) := by decide +kernel
theorem dX12_land_32 : decode cX12_land 32 = .ok (.ldc 64, 2) := by decide +kernel
theorem dX12_land_34 : decode cX12_land 34 = .ok (.ireturn, 1) := by decide +kernel
theorem dX12_land_35 : decode cX12_land 35 = .ok (.iload_n 2, 1) := by decide +kernel
theorem dX12_land_36 : decode cX12_land 36 = .ok (.iconst 2, 1) := by decide +kernel
theorem dX12_land_37 : decode cX12_land 37 = .ok (.if_icmp .ne 14, 3) := by decide +kernel
theorem dX12_land_40 : decode cX12_land 40 = .ok (.aload_n 0, 1) := by decide +kernel
theorem dX12_land_41 : decode cX12_land 41 = .ok (.getfield 22, 3) := by decide +kernel
theorem dX12_land_44 : decode cX12_land 44 = .ok (.iload_n 1, 1) := by decide +kernel
theorem dX12_land_45 : decode cX12_land 45 = .ok (.invokestatic 236, 3) := by decide +kernel
theorem dX12_land_48 : decode cX12_land 48 = .ok (.goto 12, 3) := by decide +kernel
theorem dX12_land_51 : decode cX12_land 51 = .ok (.aload_n 0, 1) := by decide +kernel
theorem dX12_land_52 : decode cX12_land 52 = .ok (.getfield 22, 3) := by decide +kernel
theorem dX12_land_55 : decode cX12_land 55 = .ok (.iload_n 1, 1) := by decide +kernel
theorem dX12_land_56 : decode cX12_land 56 = .ok (.iload_n 2, 1) := by decide +kernel
theorem dX12_land_57 : decode cX12_land 57 = .ok (.invokestatic 211, 3) := by decide +kernel
theorem dX12_land_60 : decode cX12_land 60 = .ok (.ireturn, 1) := by decide +kernel
theorem dX12_bestOn_0 : decode cX12_bestOn 0 = .ok (.ldc 239, 2) := by decide +kernel
theorem dX12_bestOn_2 : decode cX12_bestOn 2 = .ok (.istore_n 3, 1) := by decide +kernel
theorem dX12_bestOn_3 : decode cX12_bestOn 3 = .ok (.iconst 0, 1) := by decide +kernel
theorem dX12_bestOn_4 : decode cX12_bestOn 4 = .ok (.istore 4, 2) := by decide +kernel
theorem dX12_bestOn_6 : decode cX12_bestOn 6 = .ok (.aload_n 1, 1) := by decide +kernel
theorem dX12_bestOn_7 : decode cX12_bestOn 7 = .ok (.bipush 10, 2) := by decide +kernel
theorem dX12_bestOn_9 : decode cX12_bestOn 9 = .ok (.iload_n 2, 1) := by decide +kernel
theorem dX12_bestOn_10 : decode cX12_bestOn 10 = .ok (.iadd, 1) := by decide +kernel
theorem dX12_bestOn_11 : decode cX12_bestOn 11 = .ok (.iaload, 1) := by decide +kernel
theorem dX12_bestOn_12 : decode cX12_bestOn 12 = .ok (.istore 5, 2) := by decide +kernel
theorem dX12_bestOn_14 : decode cX12_bestOn 14 = .ok (.iconst 0, 1) := by decide +kernel
theorem dX12_bestOn_15 : decode cX12_bestOn 15 = .ok (.istore 6, 2) := by decide +kernel
theorem dX12_bestOn_17 : decode cX12_bestOn 17 = .ok (.iload 6, 2) := by decide +kernel
theorem dX12_bestOn_19 : decode cX12_bestOn 19 = .ok (.bipush 48, 2) := by decide +kernel
theorem dX12_bestOn_21 : decode cX12_bestOn 21 = .ok (.if_icmp .ge 109, 3) := by decide +kernel
theorem dX12_bestOn_24 : decode cX12_bestOn 24 = .ok (.aload_n 1, 1) := by decide +kernel
theorem dX12_bestOn_25 : decode cX12_bestOn 25 = .ok (.iload_n 2, 1) := by decide +kernel
theorem dX12_bestOn_26 : decode cX12_bestOn 26 = .ok (.iload 6, 2) := by decide +kernel
theorem dX12_bestOn_28 : decode cX12_bestOn 28 = .ok (.invokestatic 223, 3) := by decide +kernel
theorem dX12_bestOn_31 : decode cX12_bestOn 31 = .ok (.ifCond .ne 6, 3) := by decide +kernel
theorem dX12_bestOn_34 : decode cX12_bestOn 34 = .ok (.goto 90, 3) := by decide +kernel
theorem dX12_bestOn_37 : decode cX12_bestOn 37 = .ok (.aload_n 1, 1) := by decide +kernel
theorem dX12_bestOn_38 : decode cX12_bestOn 38 = .ok (.iconst 0, 1) := by decide +kernel
theorem dX12_bestOn_39 : decode cX12_bestOn 39 = .ok (.aload_n 0, 1) := by decide +kernel
theorem dX12_bestOn_40 : decode cX12_bestOn 40 = .ok (.getfield 44, 3) := by decide +kernel
theorem dX12_bestOn_43 : decode cX12_bestOn 43 = .ok (.iconst 0, 1) := by decide +kernel
theorem dX12_bestOn_44 : decode cX12_bestOn 44 = .ok (.invokestatic 193, 3) := by decide +kernel
theorem dX12_bestOn_47 : decode cX12_bestOn 47 = .ok (.aload_n 0, 1) := by decide +kernel
theorem dX12_bestOn_48 : decode cX12_bestOn 48 = .ok (.getfield 44, 3) := by decide +kernel
theorem dX12_bestOn_51 : decode cX12_bestOn 51 = .ok (.iload_n 2, 1) := by decide +kernel
theorem dX12_bestOn_52 : decode cX12_bestOn 52 = .ok (.iload 6, 2) := by decide +kernel
theorem dX12_bestOn_54 : decode cX12_bestOn 54 = .ok (.invokestatic 231, 3) := by decide +kernel
theorem dX12_bestOn_57 : decode cX12_bestOn 57 = .ok (.aload_n 0, 1) := by decide +kernel
theorem dX12_bestOn_58 : decode cX12_bestOn 58 = .ok (.getfield 44, 3) := by decide +kernel
theorem dX12_bestOn_61 : decode cX12_bestOn 61 = .ok (.iload 5, 2) := by decide +kernel
theorem dX12_bestOn_63 : decode cX12_bestOn 63 = .ok (.invokestatic 236, 3) := by decide +kernel
theorem dX12_bestOn_66 : decode cX12_bestOn 66 = .ok (.istore 7, 2) := by decide +kernel
theorem dX12_bestOn_68 : decode cX12_bestOn 68 = .ok (.aload_n 0, 1) := by decide +kernel
theorem dX12_bestOn_69 : decode cX12_bestOn 69 = .ok (.getfield 44, 3) := by decide +kernel
theorem dX12_bestOn_72 : decode cX12_bestOn 72 = .ok (.iload 5, 2) := by decide +kernel
theorem dX12_bestOn_74 : decode cX12_bestOn 74 = .ok (.iconst 0, 1) := by decide +kernel
theorem dX12_bestOn_75 : decode cX12_bestOn 75 = .ok (.invokestatic 211, 3) := by decide +kernel
theorem dX12_bestOn_78 : decode cX12_bestOn 78 = .ok (.istore 8, 2) := by decide +kernel
theorem dX12_bestOn_80 : decode cX12_bestOn 80 = .ok (.iload_n 3, 1) := by decide +kernel
theorem dX12_bestOn_81 : decode cX12_bestOn 81 = .ok (.ldc 239, 2) := by decide +kernel
theorem dX12_bestOn_83 : decode cX12_bestOn 83 = .ok (.if_icmp .eq 28, 3) := by decide +kernel
theorem dX12_bestOn_86 : decode cX12_bestOn 86 = .ok (.iload 7, 2) := by decide +kernel
theorem dX12_bestOn_88 : decode cX12_bestOn 88 = .ok (.aload_n 0, 1) := by decide +kernel
theorem dX12_bestOn_89 : decode cX12_bestOn 89 = .ok (.getfield 240, 3) := by decide +kernel
theorem dX12_bestOn_92 : decode cX12_bestOn 92 = .ok (.if_icmp .gt 19, 3) := by decide +kernel
theorem dX12_bestOn_95 : decode cX12_bestOn 95 = .ok (.iload 7, 2) := by decide +kernel
theorem dX12_bestOn_97 : decode cX12_bestOn 97 = .ok (.aload_n 0, 1) := by decide +kernel
theorem dX12_bestOn_98 : decode cX12_bestOn 98 = .ok (.getfield 240, 3) := by decide +kernel
theorem dX12_bestOn_101 : decode cX12_bestOn 101 = .ok (.if_icmp .ne 23, 3) := by decide +kernel
theorem dX12_bestOn_104 : decode cX12_bestOn 104 = .ok (.iload 8, 2) := by decide +kernel
theorem dX12_bestOn_106 : decode cX12_bestOn 106 = .ok (.iload 4, 2) := by decide +kernel
theorem dX12_bestOn_108 : decode cX12_bestOn 108 = .ok (.if_icmp .le 16, 3) := by decide +kernel
theorem dX12_bestOn_111 : decode cX12_bestOn 111 = .ok (.iload 6, 2) := by decide +kernel
theorem dX12_bestOn_113 : decode cX12_bestOn 113 = .ok (.istore_n 3, 1) := by decide +kernel
theorem dX12_bestOn_114 : decode cX12_bestOn 114 = .ok (.aload_n 0, 1) := by decide +kernel
theorem dX12_bestOn_115 : decode cX12_bestOn 115 = .ok (.iload 7, 2) := by decide +kernel
theorem dX12_bestOn_117 : decode cX12_bestOn 117 = .ok (.putfield 240, 3) := by decide +kernel
theorem dX12_bestOn_120 : decode cX12_bestOn 120 = .ok (.iload 8, 2) := by decide +kernel
theorem dX12_bestOn_122 : decode cX12_bestOn 122 = .ok (.istore 4, 2) := by decide +kernel
theorem dX12_bestOn_124 : decode cX12_bestOn 124 = .ok (.iinc 6 1, 3) := by decide +kernel
theorem dX12_bestOn_127 : decode cX12_bestOn 127 = .ok (.goto (-110), 3) := by decide +kernel
theorem dX12_bestOn_130 : decode cX12_bestOn 130 = .ok (.iload_n 3, 1) := by decide +kernel
theorem dX12_bestOn_131 : decode cX12_bestOn 131 = .ok (.ireturn, 1) := by decide +kernel
theorem dX12_best_0 : decode cX12_best 0 = .ok (.aload_n 0, 1) := by decide +kernel
theorem dX12_best_1 : decode cX12_best 1 = .ok (.iload_n 1, 1) := by decide +kernel
theorem dX12_best_2 : decode cX12_best 2 = .ok (.invokevirtual 217, 3) := by decide +kernel
theorem dX12_best_5 : decode cX12_best 5 = .ok (.ifCond .eq 13, 3) := by decide +kernel
theorem dX12_best_8 : decode cX12_best 8 = .ok (.iload_n 2, 1) := by decide +kernel
theorem dX12_best_9 : decode cX12_best 9 = .ok (.i2l, 1) := by decide +kernel
theorem dX12_best_10 : decode cX12_best 10 = .ok (.lconst 0, 1) := by decide +kernel
theorem dX12_best_11 : decode cX12_best 11 = .ok (.lconst 1, 1) := by decide +kernel
theorem dX12_best_12 : decode cX12_best 12 = .ok (.invokestatic 54, 3) := by decide +kernel
theorem dX12_best_15 : decode cX12_best 15 = .ok (.ifCond .ne 6, 3) := by decide +kernel
theorem dX12_best_18 : decode cX12_best 18 = .ok (.ldc 64, 2) := by decide +kernel
theorem dX12_best_20 : decode cX12_best 20 = .ok (.ireturn, 1) := by decide +kernel
theorem dX12_best_21 : decode cX12_best 21 = .ok (.aload_n 0, 1) := by decide +kernel
theorem dX12_best_22 : decode cX12_best 22 = .ok (.aload_n 0, 1) := by decide +kernel
theorem dX12_best_23 : decode cX12_best 23 = .ok (.getfield 22, 3) := by decide +kernel
theorem dX12_best_26 : decode cX12_best 26 = .ok (.iload_n 1, 1) := by decide +kernel
theorem dX12_best_27 : decode cX12_best 27 = .ok (.invokevirtual 243, 3) := by decide +kernel
theorem dX12_best_30 : decode cX12_best 30 = .ok (.istore_n 3, 1) := by decide +kernel
theorem dX12_best_31 : decode cX12_best 31 = .ok (.iload_n 3, 1) := by decide +kernel
theorem dX12_best_32 : decode cX12_best 32 = .ok (.ldc 239, 2) := by decide +kernel
theorem dX12_best_34 : decode cX12_best 34 = .ok (.if_icmp .eq 7, 3) := by decide +kernel
theorem dX12_best_37 : decode cX12_best 37 = .ok (.iload_n 2, 1) := by decide +kernel
theorem dX12_best_38 : decode cX12_best 38 = .ok (.ifCond .ne 7, 3) := by decide +kernel
theorem dX12_best_41 : decode cX12_best 41 = .ok (.iload_n 3, 1) := by decide +kernel
theorem dX12_best_42 : decode cX12_best 42 = .ok (.goto 7, 3) := by decide +kernel
theorem dX12_best_45 : decode cX12_best 45 = .ok (.aload_n 0, 1) := by decide +kernel
theorem dX12_best_46 : decode cX12_best 46 = .ok (.getfield 240, 3) := by decide +kernel
theorem dX12_best_49 : decode cX12_best 49 = .ok (.ireturn, 1) := by decide +kernel
theorem dX12_areTwo_0 : decode cX12_areTwo 0 = .ok (.aload_n 0, 1) := by decide +kernel
theorem dX12_areTwo_1 : decode cX12_areTwo 1 = .ok (.iload_n 1, 1) := by decide +kernel
theorem dX12_areTwo_2 : decode cX12_areTwo 2 = .ok (.invokevirtual 217, 3) := by decide +kernel
theorem dX12_areTwo_5 : decode cX12_areTwo 5 = .ok (.ifCond .eq 20, 3) := by decide +kernel
theorem dX12_areTwo_8 : decode cX12_areTwo 8 = .ok (.aload_n 0, 1) := by decide +kernel
theorem dX12_areTwo_9 : decode cX12_areTwo 9 = .ok (.iload_n 2, 1) := by decide +kernel
theorem dX12_areTwo_10 : decode cX12_areTwo 10 = .ok (.invokevirtual 217, 3) := by decide +kernel
theorem dX12_areTwo_13 : decode cX12_areTwo 13 = .ok (.ifCond .eq 12, 3) := by decide +kernel
theorem dX12_areTwo_16 : decode cX12_areTwo 16 = .ok (.iload_n 1, 1) := by decide +kernel
theorem dX12_areTwo_17 : decode cX12_areTwo 17 = .ok (.iload_n 2, 1) := by decide +kernel
theorem dX12_areTwo_18 : decode cX12_areTwo 18 = .ok (.if_icmp .eq 7, 3) := by decide +kernel
theorem dX12_areTwo_21 : decode cX12_areTwo 21 = .ok (.iconst 1, 1) := by decide +kernel
theorem dX12_areTwo_22 : decode cX12_areTwo 22 = .ok (.goto 4, 3) := by decide +kernel
theorem dX12_areTwo_25 : decode cX12_areTwo 25 = .ok (.iconst 0, 1) := by decide +kernel
theorem dX12_areTwo_26 : decode cX12_areTwo 26 = .ok (.ireturn, 1) := by decide +kernel
theorem dX12_answer_0 : decode cX12_answer 0 = .ok (.aload_n 0, 1) := by decide +kernel
theorem dX12_answer_1 : decode cX12_answer 1 = .ok (.iload_n 1, 1) := by decide +kernel
theorem dX12_answer_2 : decode cX12_answer 2 = .ok (.iload_n 2, 1) := by decide +kernel
theorem dX12_answer_3 : decode cX12_answer 3 = .ok (.invokevirtual 246, 3) := by decide +kernel
theorem dX12_answer_6 : decode cX12_answer 6 = .ok (.ifCond .eq 13, 3) := by decide +kernel
theorem dX12_answer_9 : decode cX12_answer 9 = .ok (.iload_n 3, 1) := by decide +kernel
theorem dX12_answer_10 : decode cX12_answer 10 = .ok (.i2l, 1) := by decide +kernel
theorem dX12_answer_11 : decode cX12_answer 11 = .ok (.lconst 0, 1) := by decide +kernel
theorem dX12_answer_12 : decode cX12_answer 12 = .ok (.lconst 1, 1) := by decide +kernel
theorem dX12_answer_13 : decode cX12_answer 13 = .ok (.invokestatic 54, 3) := by decide +kernel
theorem dX12_answer_16 : decode cX12_answer 16 = .ok (.ifCond .ne 6, 3) := by decide +kernel
theorem dX12_answer_19 : decode cX12_answer 19 = .ok (.ldc 64, 2) := by decide +kernel
theorem dX12_answer_21 : decode cX12_answer 21 = .ok (.ireturn, 1) := by decide +kernel
theorem dX12_answer_22 : decode cX12_answer 22 = .ok (.aload_n 0, 1) := by decide +kernel
theorem dX12_answer_23 : decode cX12_answer 23 = .ok (.aload_n 0, 1) := by decide +kernel
theorem dX12_answer_24 : decode cX12_answer 24 = .ok (.getfield 22, 3) := by decide +kernel
theorem dX12_answer_27 : decode cX12_answer 27 = .ok (.iload_n 1, 1) := by decide +kernel
theorem dX12_answer_28 : decode cX12_answer 28 = .ok (.invokevirtual 243, 3) := by decide +kernel
theorem dX12_answer_31 : decode cX12_answer 31 = .ok (.istore 4, 2) := by decide +kernel
theorem dX12_answer_33 : decode cX12_answer 33 = .ok (.aload_n 0, 1) := by decide +kernel
theorem dX12_answer_34 : decode cX12_answer 34 = .ok (.getfield 22, 3) := by decide +kernel
theorem dX12_answer_37 : decode cX12_answer 37 = .ok (.iconst 0, 1) := by decide +kernel
theorem dX12_answer_38 : decode cX12_answer 38 = .ok (.aload_n 0, 1) := by decide +kernel
theorem dX12_answer_39 : decode cX12_answer 39 = .ok (.getfield 41, 3) := by decide +kernel
theorem dX12_answer_42 : decode cX12_answer 42 = .ok (.iconst 0, 1) := by decide +kernel
theorem dX12_answer_43 : decode cX12_answer 43 = .ok (.invokestatic 193, 3) := by decide +kernel
theorem dX12_answer_46 : decode cX12_answer 46 = .ok (.iload 4, 2) := by decide +kernel
theorem dX12_answer_48 : decode cX12_answer 48 = .ok (.ldc 239, 2) := by decide +kernel
theorem dX12_answer_50 : decode cX12_answer 50 = .ok (.if_icmp .eq 13, 3) := by decide +kernel
theorem dX12_answer_53 : decode cX12_answer 53 = .ok (.aload_n 0, 1) := by decide +kernel
theorem dX12_answer_54 : decode cX12_answer 54 = .ok (.getfield 41, 3) := by decide +kernel
theorem dX12_answer_57 : decode cX12_answer 57 = .ok (.iload_n 1, 1) := by decide +kernel
theorem dX12_answer_58 : decode cX12_answer 58 = .ok (.iload 4, 2) := by decide +kernel
theorem dX12_answer_60 : decode cX12_answer 60 = .ok (.invokestatic 231, 3) := by decide +kernel
theorem dX12_answer_63 : decode cX12_answer 63 = .ok (.aload_n 0, 1) := by decide +kernel
theorem dX12_answer_64 : decode cX12_answer 64 = .ok (.aload_n 0, 1) := by decide +kernel
theorem dX12_answer_65 : decode cX12_answer 65 = .ok (.getfield 41, 3) := by decide +kernel
theorem dX12_answer_68 : decode cX12_answer 68 = .ok (.iload_n 2, 1) := by decide +kernel
theorem dX12_answer_69 : decode cX12_answer 69 = .ok (.invokevirtual 243, 3) := by decide +kernel
theorem dX12_answer_72 : decode cX12_answer 72 = .ok (.istore 5, 2) := by decide +kernel
theorem dX12_answer_74 : decode cX12_answer 74 = .ok (.iload 5, 2) := by decide +kernel
theorem dX12_answer_76 : decode cX12_answer 76 = .ok (.ldc 239, 2) := by decide +kernel
theorem dX12_answer_78 : decode cX12_answer 78 = .ok (.if_icmp .eq 7, 3) := by decide +kernel
theorem dX12_answer_81 : decode cX12_answer 81 = .ok (.iload_n 3, 1) := by decide +kernel
theorem dX12_answer_82 : decode cX12_answer 82 = .ok (.ifCond .ne 8, 3) := by decide +kernel
theorem dX12_answer_85 : decode cX12_answer 85 = .ok (.iload 5, 2) := by decide +kernel
theorem dX12_answer_87 : decode cX12_answer 87 = .ok (.goto 7, 3) := by decide +kernel
theorem dX12_answer_90 : decode cX12_answer 90 = .ok (.aload_n 0, 1) := by decide +kernel
theorem dX12_answer_91 : decode cX12_answer 91 = .ok (.getfield 240, 3) := by decide +kernel
theorem dX12_answer_94 : decode cX12_answer 94 = .ok (.ireturn, 1) := by decide +kernel
theorem dX12_game_0 : decode cX12_game 0 = .ok (.aload_n 0, 1) := by decide +kernel
theorem dX12_game_1 : decode cX12_game 1 = .ok (.iload_n 1, 1) := by decide +kernel
theorem dX12_game_2 : decode cX12_game 2 = .ok (.iload_n 2, 1) := by decide +kernel
theorem dX12_game_3 : decode cX12_game 3 = .ok (.invokevirtual 246, 3) := by decide +kernel
theorem dX12_game_6 : decode cX12_game 6 = .ok (.ifCond .eq 13, 3) := by decide +kernel
theorem dX12_game_9 : decode cX12_game 9 = .ok (.iload_n 3, 1) := by decide +kernel
theorem dX12_game_10 : decode cX12_game 10 = .ok (.i2l, 1) := by decide +kernel
theorem dX12_game_11 : decode cX12_game 11 = .ok (.lconst 0, 1) := by decide +kernel
theorem dX12_game_12 : decode cX12_game 12 = .ok (.lconst 1, 1) := by decide +kernel
theorem dX12_game_13 : decode cX12_game 13 = .ok (.invokestatic 54, 3) := by decide +kernel
theorem dX12_game_16 : decode cX12_game 16 = .ok (.ifCond .ne 6, 3) := by decide +kernel
theorem dX12_game_19 : decode cX12_game 19 = .ok (.ldc 64, 2) := by decide +kernel
theorem dX12_game_21 : decode cX12_game 21 = .ok (.ireturn, 1) := by decide +kernel
theorem dX12_game_22 : decode cX12_game 22 = .ok (.ldc 239, 2) := by decide +kernel
theorem dX12_game_24 : decode cX12_game 24 = .ok (.istore 4, 2) := by decide +kernel
theorem dX12_game_26 : decode cX12_game 26 = .ok (.iconst 0, 1) := by decide +kernel
theorem dX12_game_27 : decode cX12_game 27 = .ok (.istore 5, 2) := by decide +kernel
theorem dX12_game_29 : decode cX12_game 29 = .ok (.iconst (-1), 1) := by decide +kernel
theorem dX12_game_30 : decode cX12_game 30 = .ok (.istore 6, 2) := by decide +kernel
theorem dX12_game_32 : decode cX12_game 32 = .ok (.iload 6, 2) := by decide +kernel
theorem dX12_game_34 : decode cX12_game 34 = .ok (.bipush 48, 2) := by decide +kernel
theorem dX12_game_36 : decode cX12_game 36 = .ok (.if_icmp .ge 153, 3) := by decide +kernel
theorem dX12_game_39 : decode cX12_game 39 = .ok (.iload 6, 2) := by decide +kernel
theorem dX12_game_41 : decode cX12_game 41 = .ok (.ifCond .lt 19, 3) := by decide +kernel
theorem dX12_game_44 : decode cX12_game 44 = .ok (.aload_n 0, 1) := by decide +kernel
theorem dX12_game_45 : decode cX12_game 45 = .ok (.getfield 22, 3) := by decide +kernel
theorem dX12_game_48 : decode cX12_game 48 = .ok (.iload_n 1, 1) := by decide +kernel
theorem dX12_game_49 : decode cX12_game 49 = .ok (.iload 6, 2) := by decide +kernel
theorem dX12_game_51 : decode cX12_game 51 = .ok (.invokestatic 223, 3) := by decide +kernel
theorem dX12_game_54 : decode cX12_game 54 = .ok (.ifCond .ne 6, 3) := by decide +kernel
theorem dX12_game_57 : decode cX12_game 57 = .ok (.goto 126, 3) := by decide +kernel
theorem dX12_game_60 : decode cX12_game 60 = .ok (.aload_n 0, 1) := by decide +kernel
theorem dX12_game_61 : decode cX12_game 61 = .ok (.getfield 22, 3) := by decide +kernel
theorem dX12_game_64 : decode cX12_game 64 = .ok (.iconst 0, 1) := by decide +kernel
theorem dX12_game_65 : decode cX12_game 65 = .ok (.aload_n 0, 1) := by decide +kernel
theorem dX12_game_66 : decode cX12_game 66 = .ok (.getfield 41, 3) := by decide +kernel
theorem dX12_game_69 : decode cX12_game 69 = .ok (.iconst 0, 1) := by decide +kernel
theorem dX12_game_70 : decode cX12_game 70 = .ok (.invokestatic 193, 3) := by decide +kernel
theorem dX12_game_73 : decode cX12_game 73 = .ok (.iload 6, 2) := by decide +kernel
theorem dX12_game_75 : decode cX12_game 75 = .ok (.ifCond .lt 13, 3) := by decide +kernel
theorem dX12_game_78 : decode cX12_game 78 = .ok (.aload_n 0, 1) := by decide +kernel
theorem dX12_game_79 : decode cX12_game 79 = .ok (.getfield 41, 3) := by decide +kernel
theorem dX12_game_82 : decode cX12_game 82 = .ok (.iload_n 1, 1) := by decide +kernel
theorem dX12_game_83 : decode cX12_game 83 = .ok (.iload 6, 2) := by decide +kernel
theorem dX12_game_85 : decode cX12_game 85 = .ok (.invokestatic 231, 3) := by decide +kernel
theorem dX12_game_88 : decode cX12_game 88 = .ok (.aload_n 0, 1) := by decide +kernel
theorem dX12_game_89 : decode cX12_game 89 = .ok (.getfield 41, 3) := by decide +kernel
theorem dX12_game_92 : decode cX12_game 92 = .ok (.aload_n 0, 1) := by decide +kernel
theorem dX12_game_93 : decode cX12_game 93 = .ok (.getfield 22, 3) := by decide +kernel
theorem dX12_game_96 : decode cX12_game 96 = .ok (.bipush 10, 2) := by decide +kernel
theorem dX12_game_98 : decode cX12_game 98 = .ok (.iload_n 2, 1) := by decide +kernel
theorem dX12_game_99 : decode cX12_game 99 = .ok (.iadd, 1) := by decide +kernel
theorem dX12_game_100 : decode cX12_game 100 = .ok (.iaload, 1) := by decide +kernel
theorem dX12_game_101 : decode cX12_game 101 = .ok (.invokestatic 236, 3) := by decide +kernel
theorem dX12_game_104 : decode cX12_game 104 = .ok (.istore 7, 2) := by decide +kernel
theorem dX12_game_106 : decode cX12_game 106 = .ok (.aload_n 0, 1) := by decide +kernel
theorem dX12_game_107 : decode cX12_game 107 = .ok (.aload_n 0, 1) := by decide +kernel
theorem dX12_game_108 : decode cX12_game 108 = .ok (.getfield 41, 3) := by decide +kernel
theorem dX12_game_111 : decode cX12_game 111 = .ok (.iload_n 2, 1) := by decide +kernel
theorem dX12_game_112 : decode cX12_game 112 = .ok (.invokevirtual 243, 3) := by decide +kernel
theorem dX12_game_115 : decode cX12_game 115 = .ok (.istore 8, 2) := by decide +kernel
theorem dX12_game_117 : decode cX12_game 117 = .ok (.iload 8, 2) := by decide +kernel
theorem dX12_game_119 : decode cX12_game 119 = .ok (.ldc 239, 2) := by decide +kernel
theorem dX12_game_121 : decode cX12_game 121 = .ok (.if_icmp .eq 22, 3) := by decide +kernel
theorem dX12_game_124 : decode cX12_game 124 = .ok (.aload_n 0, 1) := by decide +kernel
theorem dX12_game_125 : decode cX12_game 125 = .ok (.getfield 240, 3) := by decide +kernel
theorem dX12_game_128 : decode cX12_game 128 = .ok (.iload 7, 2) := by decide +kernel
theorem dX12_game_130 : decode cX12_game 130 = .ok (.if_icmp .le 13, 3) := by decide +kernel
theorem dX12_game_133 : decode cX12_game 133 = .ok (.aload_n 0, 1) := by decide +kernel
theorem dX12_game_134 : decode cX12_game 134 = .ok (.getfield 41, 3) := by decide +kernel
theorem dX12_game_137 : decode cX12_game 137 = .ok (.iload_n 2, 1) := by decide +kernel
theorem dX12_game_138 : decode cX12_game 138 = .ok (.iload 8, 2) := by decide +kernel
theorem dX12_game_140 : decode cX12_game 140 = .ok (.invokestatic 231, 3) := by decide +kernel
theorem dX12_game_143 : decode cX12_game 143 = .ok (.aload_n 0, 1) := by decide +kernel
theorem dX12_game_144 : decode cX12_game 144 = .ok (.getfield 41, 3) := by decide +kernel
theorem dX12_game_147 : decode cX12_game 147 = .ok (.aload_n 0, 1) := by decide +kernel
theorem dX12_game_148 : decode cX12_game 148 = .ok (.getfield 22, 3) := by decide +kernel
theorem dX12_game_151 : decode cX12_game 151 = .ok (.bipush 10, 2) := by decide +kernel
theorem dX12_game_153 : decode cX12_game 153 = .ok (.iload_n 1, 1) := by decide +kernel
theorem dX12_game_154 : decode cX12_game 154 = .ok (.iadd, 1) := by decide +kernel
theorem dX12_game_155 : decode cX12_game 155 = .ok (.iaload, 1) := by decide +kernel
theorem dX12_game_156 : decode cX12_game 156 = .ok (.invokestatic 236, 3) := by decide +kernel
theorem dX12_game_159 : decode cX12_game 159 = .ok (.istore 9, 2) := by decide +kernel
theorem dX12_game_161 : decode cX12_game 161 = .ok (.iload 4, 2) := by decide +kernel
theorem dX12_game_163 : decode cX12_game 163 = .ok (.ldc 239, 2) := by decide +kernel
theorem dX12_game_165 : decode cX12_game 165 = .ok (.if_icmp .eq 10, 3) := by decide +kernel
theorem dX12_game_168 : decode cX12_game 168 = .ok (.iload 9, 2) := by decide +kernel
theorem dX12_game_170 : decode cX12_game 170 = .ok (.iload 5, 2) := by decide +kernel
theorem dX12_game_172 : decode cX12_game 172 = .ok (.if_icmp .le 11, 3) := by decide +kernel
theorem dX12_game_175 : decode cX12_game 175 = .ok (.iload 6, 2) := by decide +kernel
theorem dX12_game_177 : decode cX12_game 177 = .ok (.istore 4, 2) := by decide +kernel
theorem dX12_game_179 : decode cX12_game 179 = .ok (.iload 9, 2) := by decide +kernel
