theorem dX12_game_181 : decode cX12_game 181 = .ok (.istore 5, 2) := by decide +kernel
theorem dX12_game_183 : decode cX12_game 183 = .ok (.iinc 6 1, 3) := by decide +kernel
theorem dX12_game_186 : decode cX12_game 186 = .ok (.goto (-154), 3) := by decide +kernel
theorem dX12_game_189 : decode cX12_game 189 = .ok (.iload_n 3, 1) := by decide +kernel
theorem dX12_game_190 : decode cX12_game 190 = .ok (.ifCond .ne 8, 3) := by decide +kernel
theorem dX12_game_193 : decode cX12_game 193 = .ok (.iload 4, 2) := by decide +kernel
theorem dX12_game_195 : decode cX12_game 195 = .ok (.goto 5, 3) := by decide +kernel
theorem dX12_game_198 : decode cX12_game 198 = .ok (.iload 5, 2) := by decide +kernel
theorem dX12_game_200 : decode cX12_game 200 = .ok (.ireturn, 1) := by decide +kernel
theorem dX12_held_0 : decode cX12_held 0 = .ok (.aload_n 0, 1) := by decide +kernel
theorem dX12_held_1 : decode cX12_held 1 = .ok (.getfield 186, 3) := by decide +kernel
theorem dX12_held_4 : decode cX12_held 4 = .ok (.ifCond .ne 6, 3) := by decide +kernel
theorem dX12_held_7 : decode cX12_held 7 = .ok (.ldc 227, 2) := by decide +kernel
theorem dX12_held_9 : decode cX12_held 9 = .ok (.ireturn, 1) := by decide +kernel
theorem dX12_held_10 : decode cX12_held 10 = .ok (.iload_n 1, 1) := by decide +kernel
theorem dX12_held_11 : decode cX12_held 11 = .ok (.i2l, 1) := by decide +kernel
theorem dX12_held_12 : decode cX12_held 12 = .ok (.lconst 0, 1) := by decide +kernel
theorem dX12_held_13 : decode cX12_held 13 = .ok (.lconst 1, 1) := by decide +kernel
theorem dX12_held_14 : decode cX12_held 14 = .ok (.invokestatic 54, 3) := by decide +kernel
theorem dX12_held_17 : decode cX12_held 17 = .ok (.ifCond .eq 20, 3) := by decide +kernel
theorem dX12_held_20 : decode cX12_held 20 = .ok (.iload_n 2, 1) := by decide +kernel
theorem dX12_held_21 : decode cX12_held 21 = .ok (.i2l, 1) := by decide +kernel
theorem dX12_held_22 : decode cX12_held 22 = .ok (.lconst 0, 1) := by decide +kernel
theorem dX12_held_23 : decode cX12_held 23 = .ok (.ldc2_w 249, 3) := by decide +kernel
theorem dX12_held_26 : decode cX12_held 26 = .ok (.invokestatic 54, 3) := by decide +kernel
theorem dX12_held_29 : decode cX12_held 29 = .ok (.ifCond .eq 8, 3) := by decide +kernel
theorem dX12_held_32 : decode cX12_held 32 = .ok (.iload_n 3, 1) := by decide +kernel
theorem dX12_held_33 : decode cX12_held 33 = .ok (.iconst (-1), 1) := by decide +kernel
theorem dX12_held_34 : decode cX12_held 34 = .ok (.if_icmp .ge 6, 3) := by decide +kernel
theorem dX12_held_37 : decode cX12_held 37 = .ok (.ldc 64, 2) := by decide +kernel
theorem dX12_held_39 : decode cX12_held 39 = .ok (.ireturn, 1) := by decide +kernel
theorem dX12_held_40 : decode cX12_held 40 = .ok (.iconst 0, 1) := by decide +kernel
theorem dX12_held_41 : decode cX12_held 41 = .ok (.istore 4, 2) := by decide +kernel
theorem dX12_held_43 : decode cX12_held 43 = .ok (.iconst 0, 1) := by decide +kernel
theorem dX12_held_44 : decode cX12_held 44 = .ok (.istore 5, 2) := by decide +kernel
theorem dX12_held_46 : decode cX12_held 46 = .ok (.iload 5, 2) := by decide +kernel
theorem dX12_held_48 : decode cX12_held 48 = .ok (.bipush 48, 2) := by decide +kernel
theorem dX12_held_50 : decode cX12_held 50 = .ok (.if_icmp .ge 141, 3) := by decide +kernel
theorem dX12_held_53 : decode cX12_held 53 = .ok (.iconst 0, 1) := by decide +kernel
theorem dX12_held_54 : decode cX12_held 54 = .ok (.istore 6, 2) := by decide +kernel
theorem dX12_held_56 : decode cX12_held 56 = .ok (.iconst 0, 1) := by decide +kernel
theorem dX12_held_57 : decode cX12_held 57 = .ok (.istore 7, 2) := by decide +kernel
theorem dX12_held_59 : decode cX12_held 59 = .ok (.iload 7, 2) := by decide +kernel
theorem dX12_held_61 : decode cX12_held 61 = .ok (.aload_n 0, 1) := by decide +kernel
theorem dX12_held_62 : decode cX12_held 62 = .ok (.getfield 22, 3) := by decide +kernel
theorem dX12_held_65 : decode cX12_held 65 = .ok (.iconst 4, 1) := by decide +kernel
theorem dX12_held_66 : decode cX12_held 66 = .ok (.iaload, 1) := by decide +kernel
theorem dX12_held_67 : decode cX12_held 67 = .ok (.if_icmp .ge 89, 3) := by decide +kernel
theorem dX12_held_70 : decode cX12_held 70 = .ok (.aload_n 0, 1) := by decide +kernel
theorem dX12_held_71 : decode cX12_held 71 = .ok (.getfield 22, 3) := by decide +kernel
theorem dX12_held_74 : decode cX12_held 74 = .ok (.bipush 10, 2) := by decide +kernel
theorem dX12_held_76 : decode cX12_held 76 = .ok (.iload 7, 2) := by decide +kernel
theorem dX12_held_78 : decode cX12_held 78 = .ok (.iadd, 1) := by decide +kernel
theorem dX12_held_79 : decode cX12_held 79 = .ok (.iaload, 1) := by decide +kernel
theorem dX12_held_80 : decode cX12_held 80 = .ok (.iload_n 1, 1) := by decide +kernel
theorem dX12_held_81 : decode cX12_held 81 = .ok (.if_icmp .eq 69, 3) := by decide +kernel
theorem dX12_held_84 : decode cX12_held 84 = .ok (.aload_n 0, 1) := by decide +kernel
theorem dX12_held_85 : decode cX12_held 85 = .ok (.getfield 22, 3) := by decide +kernel
theorem dX12_held_88 : decode cX12_held 88 = .ok (.iload 7, 2) := by decide +kernel
theorem dX12_held_90 : decode cX12_held 90 = .ok (.iload 5, 2) := by decide +kernel
theorem dX12_held_92 : decode cX12_held 92 = .ok (.invokestatic 223, 3) := by decide +kernel
theorem dX12_held_95 : decode cX12_held 95 = .ok (.ifCond .ne 6, 3) := by decide +kernel
theorem dX12_held_98 : decode cX12_held 98 = .ok (.goto 52, 3) := by decide +kernel
theorem dX12_held_101 : decode cX12_held 101 = .ok (.aload_n 0, 1) := by decide +kernel
theorem dX12_held_102 : decode cX12_held 102 = .ok (.getfield 22, 3) := by decide +kernel
theorem dX12_held_105 : decode cX12_held 105 = .ok (.iconst 0, 1) := by decide +kernel
theorem dX12_held_106 : decode cX12_held 106 = .ok (.aload_n 0, 1) := by decide +kernel
theorem dX12_held_107 : decode cX12_held 107 = .ok (.getfield 44, 3) := by decide +kernel
theorem dX12_held_110 : decode cX12_held 110 = .ok (.iconst 0, 1) := by decide +kernel
theorem dX12_held_111 : decode cX12_held 111 = .ok (.invokestatic 193, 3) := by decide +kernel
theorem dX12_held_114 : decode cX12_held 114 = .ok (.aload_n 0, 1) := by decide +kernel
theorem dX12_held_115 : decode cX12_held 115 = .ok (.getfield 44, 3) := by decide +kernel
theorem dX12_held_118 : decode cX12_held 118 = .ok (.iload 7, 2) := by decide +kernel
theorem dX12_held_120 : decode cX12_held 120 = .ok (.iload 5, 2) := by decide +kernel
theorem dX12_held_122 : decode cX12_held 122 = .ok (.invokestatic 231, 3) := by decide +kernel
theorem dX12_held_125 : decode cX12_held 125 = .ok (.iload 6, 2) := by decide +kernel
theorem dX12_held_127 : decode cX12_held 127 = .ok (.ifCond .ne 16, 3) := by decide +kernel
theorem dX12_held_130 : decode cX12_held 130 = .ok (.aload_n 0, 1) := by decide +kernel
theorem dX12_held_131 : decode cX12_held 131 = .ok (.getfield 44, 3) := by decide +kernel
theorem dX12_held_134 : decode cX12_held 134 = .ok (.iload_n 1, 1) := by decide +kernel
theorem dX12_held_135 : decode cX12_held 135 = .ok (.iconst 1, 1) := by decide +kernel
theorem dX12_held_136 : decode cX12_held 136 = .ok (.invokestatic 211, 3) := by decide +kernel
theorem dX12_held_139 : decode cX12_held 139 = .ok (.iload_n 2, 1) := by decide +kernel
theorem dX12_held_140 : decode cX12_held 140 = .ok (.if_icmp .ge 7, 3) := by decide +kernel
theorem dX12_held_143 : decode cX12_held 143 = .ok (.iconst 1, 1) := by decide +kernel
theorem dX12_held_144 : decode cX12_held 144 = .ok (.goto 4, 3) := by decide +kernel
theorem dX12_held_147 : decode cX12_held 147 = .ok (.iconst 0, 1) := by decide +kernel
theorem dX12_held_148 : decode cX12_held 148 = .ok (.istore 6, 2) := by decide +kernel
theorem dX12_held_150 : decode cX12_held 150 = .ok (.iinc 7 1, 3) := by decide +kernel
theorem dX12_held_153 : decode cX12_held 153 = .ok (.goto (-94), 3) := by decide +kernel
theorem dX12_held_156 : decode cX12_held 156 = .ok (.iload 6, 2) := by decide +kernel
theorem dX12_held_158 : decode cX12_held 158 = .ok (.ifCond .eq 12, 3) := by decide +kernel
theorem dX12_held_161 : decode cX12_held 161 = .ok (.iload 4, 2) := by decide +kernel
theorem dX12_held_163 : decode cX12_held 163 = .ok (.iload_n 3, 1) := by decide +kernel
theorem dX12_held_164 : decode cX12_held 164 = .ok (.if_icmp .ne 6, 3) := by decide +kernel
theorem dX12_held_167 : decode cX12_held 167 = .ok (.iload 5, 2) := by decide +kernel
theorem dX12_held_169 : decode cX12_held 169 = .ok (.ireturn, 1) := by decide +kernel
theorem dX12_held_170 : decode cX12_held 170 = .ok (.iload 4, 2) := by decide +kernel
theorem dX12_held_172 : decode cX12_held 172 = .ok (.iload 6, 2) := by decide +kernel
theorem dX12_held_174 : decode cX12_held 174 = .ok (.ifCond .eq 7, 3) := by decide +kernel
theorem dX12_held_177 : decode cX12_held 177 = .ok (.iconst 1, 1) := by decide +kernel
theorem dX12_held_178 : decode cX12_held 178 = .ok (.goto 4, 3) := by decide +kernel
theorem dX12_held_181 : decode cX12_held 181 = .ok (.iconst 0, 1) := by decide +kernel
theorem dX12_held_182 : decode cX12_held 182 = .ok (.iadd, 1) := by decide +kernel
theorem dX12_held_183 : decode cX12_held 183 = .ok (.istore 4, 2) := by decide +kernel
theorem dX12_held_185 : decode cX12_held 185 = .ok (.iinc 5 1, 3) := by decide +kernel
theorem dX12_held_188 : decode cX12_held 188 = .ok (.goto (-142), 3) := by decide +kernel
theorem dX12_held_191 : decode cX12_held 191 = .ok (.iload_n 3, 1) := by decide +kernel
theorem dX12_held_192 : decode cX12_held 192 = .ok (.ifCond .ge 8, 3) := by decide +kernel
theorem dX12_held_195 : decode cX12_held 195 = .ok (.iload 4, 2) := by decide +kernel
theorem dX12_held_197 : decode cX12_held 197 = .ok (.goto 5, 3) := by decide +kernel
theorem dX12_held_200 : decode cX12_held 200 = .ok (.ldc 239, 2) := by decide +kernel
theorem dX12_held_202 : decode cX12_held 202 = .ok (.ireturn, 1) := by decide +kernel
theorem dX12_isSo_0 : decode cX12_isSo 0 = .ok (.iconst 1, 1) := by decide +kernel
theorem dX12_isSo_1 : decode cX12_isSo 1 = .ok (.istore_n 3, 1) := by decide +kernel
theorem dX12_isSo_2 : decode cX12_isSo 2 = .ok (.iconst 0, 1) := by decide +kernel
theorem dX12_isSo_3 : decode cX12_isSo 3 = .ok (.istore 4, 2) := by decide +kernel
theorem dX12_isSo_5 : decode cX12_isSo 5 = .ok (.iload 4, 2) := by decide +kernel
theorem dX12_isSo_7 : decode cX12_isSo 7 = .ok (.bipush 8, 2) := by decide +kernel
theorem dX12_isSo_9 : decode cX12_isSo 9 = .ok (.if_icmp .ge 77, 3) := by decide +kernel
theorem dX12_isSo_12 : decode cX12_isSo 12 = .ok (.iconst 0, 1) := by decide +kernel
theorem dX12_isSo_13 : decode cX12_isSo 13 = .ok (.istore 5, 2) := by decide +kernel
theorem dX12_isSo_15 : decode cX12_isSo 15 = .ok (.iconst 0, 1) := by decide +kernel
theorem dX12_isSo_16 : decode cX12_isSo 16 = .ok (.istore 6, 2) := by decide +kernel
theorem dX12_isSo_18 : decode cX12_isSo 18 = .ok (.iload 6, 2) := by decide +kernel
theorem dX12_isSo_20 : decode cX12_isSo 20 = .ok (.bipush 6, 2) := by decide +kernel
theorem dX12_isSo_22 : decode cX12_isSo 22 = .ok (.if_icmp .ge 34, 3) := by decide +kernel
theorem dX12_isSo_25 : decode cX12_isSo 25 = .ok (.iload 5, 2) := by decide +kernel
theorem dX12_isSo_27 : decode cX12_isSo 27 = .ok (.aload_n 1, 1) := by decide +kernel
theorem dX12_isSo_28 : decode cX12_isSo 28 = .ok (.bipush 8, 2) := by decide +kernel
theorem dX12_isSo_30 : decode cX12_isSo 30 = .ok (.iload 6, 2) := by decide +kernel
theorem dX12_isSo_32 : decode cX12_isSo 32 = .ok (.imul, 1) := by decide +kernel
theorem dX12_isSo_33 : decode cX12_isSo 33 = .ok (.iload 4, 2) := by decide +kernel
theorem dX12_isSo_35 : decode cX12_isSo 35 = .ok (.iadd, 1) := by decide +kernel
theorem dX12_isSo_36 : decode cX12_isSo 36 = .ok (.invokestatic 199, 3) := by decide +kernel
theorem dX12_isSo_39 : decode cX12_isSo 39 = .ok (.ifCond .ne 7, 3) := by decide +kernel
theorem dX12_isSo_42 : decode cX12_isSo 42 = .ok (.iconst 1, 1) := by decide +kernel
theorem dX12_isSo_43 : decode cX12_isSo 43 = .ok (.goto 4, 3) := by decide +kernel
theorem dX12_isSo_46 : decode cX12_isSo 46 = .ok (.iconst 0, 1) := by decide +kernel
theorem dX12_isSo_47 : decode cX12_isSo 47 = .ok (.iadd, 1) := by decide +kernel
theorem dX12_isSo_48 : decode cX12_isSo 48 = .ok (.istore 5, 2) := by decide +kernel
theorem dX12_isSo_50 : decode cX12_isSo 50 = .ok (.iinc 6 1, 3) := by decide +kernel
theorem dX12_isSo_53 : decode cX12_isSo 53 = .ok (.goto (-35), 3) := by decide +kernel
theorem dX12_isSo_56 : decode cX12_isSo 56 = .ok (.iload_n 3, 1) := by decide +kernel
theorem dX12_isSo_57 : decode cX12_isSo 57 = .ok (.ifCond .eq 21, 3) := by decide +kernel
theorem dX12_isSo_60 : decode cX12_isSo 60 = .ok (.iload 5, 2) := by decide +kernel
theorem dX12_isSo_62 : decode cX12_isSo 62 = .ok (.aload_n 0, 1) := by decide +kernel
theorem dX12_isSo_63 : decode cX12_isSo 63 = .ok (.getfield 16, 3) := by decide +kernel
theorem dX12_isSo_66 : decode cX12_isSo 66 = .ok (.iload_n 2, 1) := by decide +kernel
theorem dX12_isSo_67 : decode cX12_isSo 67 = .ok (.iload 4, 2) := by decide +kernel
theorem dX12_isSo_69 : decode cX12_isSo 69 = .ok (.iadd, 1) := by decide +kernel
theorem dX12_isSo_70 : decode cX12_isSo 70 = .ok (.iaload, 1) := by decide +kernel
theorem dX12_isSo_71 : decode cX12_isSo 71 = .ok (.if_icmp .ne 7, 3) := by decide +kernel
theorem dX12_isSo_74 : decode cX12_isSo 74 = .ok (.iconst 1, 1) := by decide +kernel
theorem dX12_isSo_75 : decode cX12_isSo 75 = .ok (.goto 4, 3) := by decide +kernel
theorem dX12_isSo_78 : decode cX12_isSo 78 = .ok (.iconst 0, 1) := by decide +kernel
theorem dX12_isSo_79 : decode cX12_isSo 79 = .ok (.istore_n 3, 1) := by decide +kernel
theorem dX12_isSo_80 : decode cX12_isSo 80 = .ok (.iinc 4 1, 3) := by decide +kernel
theorem dX12_isSo_83 : decode cX12_isSo 83 = .ok (.goto (-78), 3) := by decide +kernel
theorem dX12_isSo_86 : decode cX12_isSo 86 = .ok (.iload_n 3, 1) := by decide +kernel
theorem dX12_isSo_87 : decode cX12_isSo 87 = .ok (.ireturn, 1) := by decide +kernel
theorem dX12_went_0 : decode cX12_went 0 = .ok (.aload_n 0, 1) := by decide +kernel
theorem dX12_went_1 : decode cX12_went 1 = .ok (.getfield 186, 3) := by decide +kernel
theorem dX12_went_4 : decode cX12_went 4 = .ok (.ifCond .ne 6, 3) := by decide +kernel
theorem dX12_went_7 : decode cX12_went 7 = .ok (.ldc 227, 2) := by decide +kernel
theorem dX12_went_9 : decode cX12_went 9 = .ok (.ireturn, 1) := by decide +kernel
theorem dX12_went_10 : decode cX12_went 10 = .ok (.iload_n 1, 1) := by decide +kernel
theorem dX12_went_11 : decode cX12_went 11 = .ok (.invokestatic 58, 3) := by decide +kernel
theorem dX12_went_14 : decode cX12_went 14 = .ok (.ifCond .eq 15, 3) := by decide +kernel
theorem dX12_went_17 : decode cX12_went 17 = .ok (.iload_n 3, 1) := by decide +kernel
theorem dX12_went_18 : decode cX12_went 18 = .ok (.i2l, 1) := by decide +kernel
theorem dX12_went_19 : decode cX12_went 19 = .ok (.lconst 0, 1) := by decide +kernel
theorem dX12_went_20 : decode cX12_went 20 = .ok (.ldc2_w 62, 3) := by decide +kernel
theorem dX12_went_23 : decode cX12_went 23 = .ok (.invokestatic 54, 3) := by decide +kernel
theorem dX12_went_26 : decode cX12_went 26 = .ok (.ifCond .ne 6, 3) := by decide +kernel
theorem dX12_went_29 : decode cX12_went 29 = .ok (.ldc 64, 2) := by decide +kernel
theorem dX12_went_31 : decode cX12_went 31 = .ok (.ireturn, 1) := by decide +kernel
theorem dX12_went_32 : decode cX12_went 32 = .ok (.aload_n 0, 1) := by decide +kernel
theorem dX12_went_33 : decode cX12_went 33 = .ok (.getfield 13, 3) := by decide +kernel
theorem dX12_went_36 : decode cX12_went 36 = .ok (.iload_n 1, 1) := by decide +kernel
theorem dX12_went_37 : decode cX12_went 37 = .ok (.iaload, 1) := by decide +kernel
theorem dX12_went_38 : decode cX12_went 38 = .ok (.ifCond .ge 9, 3) := by decide +kernel
theorem dX12_went_41 : decode cX12_went 41 = .ok (.aload_n 0, 1) := by decide +kernel
theorem dX12_went_42 : decode cX12_went 42 = .ok (.iconst 1, 1) := by decide +kernel
theorem dX12_went_43 : decode cX12_went 43 = .ok (.invokevirtual 65, 3) := by decide +kernel
theorem dX12_went_46 : decode cX12_went 46 = .ok (.ireturn, 1) := by decide +kernel
theorem dX12_went_47 : decode cX12_went 47 = .ok (.iload_n 2, 1) := by decide +kernel
theorem dX12_went_48 : decode cX12_went 48 = .ok (.ifCond .lt 16, 3) := by decide +kernel
theorem dX12_went_51 : decode cX12_went 51 = .ok (.iload_n 2, 1) := by decide +kernel
theorem dX12_went_52 : decode cX12_went 52 = .ok (.aload_n 0, 1) := by decide +kernel
theorem dX12_went_53 : decode cX12_went 53 = .ok (.getfield 13, 3) := by decide +kernel
theorem dX12_went_56 : decode cX12_went 56 = .ok (.iload_n 1, 1) := by decide +kernel
theorem dX12_went_57 : decode cX12_went 57 = .ok (.iaload, 1) := by decide +kernel
theorem dX12_went_58 : decode cX12_went 58 = .ok (.bipush 8, 2) := by decide +kernel
theorem dX12_went_60 : decode cX12_went 60 = .ok (.isub, 1) := by decide +kernel
theorem dX12_went_61 : decode cX12_went 61 = .ok (.if_icmp .le 9, 3) := by decide +kernel
theorem dX12_went_64 : decode cX12_went 64 = .ok (.aload_n 0, 1) := by decide +kernel
theorem dX12_went_65 : decode cX12_went 65 = .ok (.iconst 2, 1) := by decide +kernel
theorem dX12_went_66 : decode cX12_went 66 = .ok (.invokevirtual 65, 3) := by decide +kernel
theorem dX12_went_69 : decode cX12_went 69 = .ok (.ireturn, 1) := by decide +kernel
theorem dX12_went_70 : decode cX12_went 70 = .ok (.bipush 40, 2) := by decide +kernel
theorem dX12_went_72 : decode cX12_went 72 = .ok (.iload_n 1, 1) := by decide +kernel
theorem dX12_went_73 : decode cX12_went 73 = .ok (.imul, 1) := by decide +kernel
theorem dX12_went_74 : decode cX12_went 74 = .ok (.iload_n 2, 1) := by decide +kernel
theorem dX12_went_75 : decode cX12_went 75 = .ok (.iadd, 1) := by decide +kernel
theorem dX12_went_76 : decode cX12_went 76 = .ok (.istore 4, 2) := by decide +kernel
theorem dX12_went_78 : decode cX12_went 78 = .ok (.iconst 0, 1) := by decide +kernel
theorem dX12_went_79 : decode cX12_went 79 = .ok (.istore 5, 2) := by decide +kernel
theorem dX12_went_81 : decode cX12_went 81 = .ok (.iload 5, 2) := by decide +kernel
theorem dX12_went_83 : decode cX12_went 83 = .ok (.bipush 8, 2) := by decide +kernel
theorem dX12_went_85 : decode cX12_went 85 = .ok (.if_icmp .ge 33, 3) := by decide +kernel
theorem dX12_went_88 : decode cX12_went 88 = .ok (.aload_n 0, 1) := by decide +kernel
theorem dX12_went_89 : decode cX12_went 89 = .ok (.getfield 16, 3) := by decide +kernel
theorem dX12_went_92 : decode cX12_went 92 = .ok (.iload 4, 2) := by decide +kernel
theorem dX12_went_94 : decode cX12_went 94 = .ok (.iload 5, 2) := by decide +kernel
theorem dX12_went_96 : decode cX12_went 96 = .ok (.iadd, 1) := by decide +kernel
theorem dX12_went_97 : decode cX12_went 97 = .ok (.iaload, 1) := by decide +kernel
theorem dX12_went_98 : decode cX12_went 98 = .ok (.i2l, 1) := by decide +kernel
theorem dX12_went_99 : decode cX12_went 99 = .ok (.lconst 0, 1) := by decide +kernel
theorem dX12_went_100 : decode cX12_went 100 = .ok (.ldc2_w 251, 3) := by decide +kernel
theorem dX12_went_103 : decode cX12_went 103 = .ok (.invokestatic 54, 3) := by decide +kernel
theorem dX12_went_106 : decode cX12_went 106 = .ok (.ifCond .ne 6, 3) := by decide +kernel
theorem dX12_went_109 : decode cX12_went 109 = .ok (.ldc 64, 2) := by decide +kernel
theorem dX12_went_111 : decode cX12_went 111 = .ok (.ireturn, 1) := by decide +kernel
theorem dX12_went_112 : decode cX12_went 112 = .ok (.iinc 5 1, 3) := by decide +kernel
theorem dX12_went_115 : decode cX12_went 115 = .ok (.goto (-34), 3) := by decide +kernel
theorem dX12_went_118 : decode cX12_went 118 = .ok (.iconst 0, 1) := by decide +kernel
theorem dX12_went_119 : decode cX12_went 119 = .ok (.istore 5, 2) := by decide +kernel
theorem dX12_went_121 : decode cX12_went 121 = .ok (.ldc 239, 2) := by decide +kernel
theorem dX12_went_123 : decode cX12_went 123 = .ok (.istore 6, 2) := by decide +kernel
theorem dX12_went_125 : decode cX12_went 125 = .ok (.iconst 0, 1) := by decide +kernel
theorem dX12_went_126 : decode cX12_went 126 = .ok (.istore 7, 2) := by decide +kernel
theorem dX12_went_128 : decode cX12_went 128 = .ok (.iload 7, 2) := by decide +kernel
theorem dX12_went_130 : decode cX12_went 130 = .ok (.aload_n 0, 1) := by decide +kernel
theorem dX12_went_131 : decode cX12_went 131 = .ok (.getfield 22, 3) := by decide +kernel
theorem dX12_went_134 : decode cX12_went 134 = .ok (.iconst 4, 1) := by decide +kernel
theorem dX12_went_135 : decode cX12_went 135 = .ok (.iaload, 1) := by decide +kernel
theorem dX12_went_136 : decode cX12_went 136 = .ok (.if_icmp .ge 102, 3) := by decide +kernel
theorem dX12_went_139 : decode cX12_went 139 = .ok (.iconst 0, 1) := by decide +kernel
theorem dX12_went_140 : decode cX12_went 140 = .ok (.istore 8, 2) := by decide +kernel
theorem dX12_went_142 : decode cX12_went 142 = .ok (.iload 8, 2) := by decide +kernel
theorem dX12_went_144 : decode cX12_went 144 = .ok (.bipush 48, 2) := by decide +kernel
theorem dX12_went_146 : decode cX12_went 146 = .ok (.if_icmp .ge 86, 3) := by decide +kernel
theorem dX12_went_149 : decode cX12_went 149 = .ok (.aload_n 0, 1) := by decide +kernel
theorem dX12_went_150 : decode cX12_went 150 = .ok (.getfield 22, 3) := by decide +kernel
theorem dX12_went_153 : decode cX12_went 153 = .ok (.iload 7, 2) := by decide +kernel
theorem dX12_went_155 : decode cX12_went 155 = .ok (.iload 8, 2) := by decide +kernel
theorem dX12_went_157 : decode cX12_went 157 = .ok (.invokestatic 223, 3) := by decide +kernel
theorem dX12_went_160 : decode cX12_went 160 = .ok (.ifCond .ne 6, 3) := by decide +kernel
theorem dX12_went_163 : decode cX12_went 163 = .ok (.goto 63, 3) := by decide +kernel
theorem dX12_went_166 : decode cX12_went 166 = .ok (.aload_n 0, 1) := by decide +kernel
theorem dX12_went_167 : decode cX12_went 167 = .ok (.getfield 22, 3) := by decide +kernel
theorem dX12_went_170 : decode cX12_went 170 = .ok (.iconst 0, 1) := by decide +kernel
theorem dX12_went_171 : decode cX12_went 171 = .ok (.aload_n 0, 1) := by decide +kernel
theorem dX12_went_172 : decode cX12_went 172 = .ok (.getfield 44, 3) := by decide +kernel
theorem dX12_went_175 : decode cX12_went 175 = .ok (.iconst 0, 1) := by decide +kernel
theorem dX12_went_176 : decode cX12_went 176 = .ok (.invokestatic 193, 3) := by decide +kernel
theorem dX12_went_179 : decode cX12_went 179 = .ok (.aload_n 0, 1) := by decide +kernel
theorem dX12_went_180 : decode cX12_went 180 = .ok (.getfield 44, 3) := by decide +kernel
theorem dX12_went_183 : decode cX12_went 183 = .ok (.iload 7, 2) := by decide +kernel
theorem dX12_went_185 : decode cX12_went 185 = .ok (.iload 8, 2) := by decide +kernel
theorem dX12_went_187 : decode cX12_went 187 = .ok (.invokestatic 231, 3) := by decide +kernel
theorem dX12_went_190 : decode cX12_went 190 = .ok (.aload_n 0, 1) := by decide +kernel
theorem dX12_went_191 : decode cX12_went 191 = .ok (.aload_n 0, 1) := by decide +kernel
theorem dX12_went_192 : decode cX12_went 192 = .ok (.getfield 44, 3) := by decide +kernel
theorem dX12_went_195 : decode cX12_went 195 = .ok (.iload 4, 2) := by decide +kernel
theorem dX12_went_197 : decode cX12_went 197 = .ok (.invokevirtual 253, 3) := by decide +kernel
theorem dX12_went_200 : decode cX12_went 200 = .ok (.ifCond .eq 26, 3) := by decide +kernel
theorem dX12_went_203 : decode cX12_went 203 = .ok (.iload 5, 2) := by decide +kernel
theorem dX12_went_205 : decode cX12_went 205 = .ok (.ifCond .ne 14, 3) := by decide +kernel
theorem dX12_went_208 : decode cX12_went 208 = .ok (.bipush 48, 2) := by decide +kernel
theorem dX12_went_210 : decode cX12_went 210 = .ok (.iload 7, 2) := by decide +kernel
theorem dX12_went_212 : decode cX12_went 212 = .ok (.imul, 1) := by decide +kernel
theorem dX12_went_213 : decode cX12_went 213 = .ok (.iload 8, 2) := by decide +kernel
theorem dX12_went_215 : decode cX12_went 215 = .ok (.iadd, 1) := by decide +kernel
theorem dX12_went_216 : decode cX12_went 216 = .ok (.goto 5, 3) := by decide +kernel
theorem dX12_went_219 : decode cX12_went 219 = .ok (.iload 6, 2) := by decide +kernel
theorem dX12_went_221 : decode cX12_went 221 = .ok (.istore 6, 2) := by decide +kernel
theorem dX12_went_223 : decode cX12_went 223 = .ok (.iinc 5 1, 3) := by decide +kernel
theorem dX12_went_226 : decode cX12_went 226 = .ok (.iinc 8 1, 3) := by decide +kernel
theorem dX12_went_229 : decode cX12_went 229 = .ok (.goto (-87), 3) := by decide +kernel
theorem dX12_went_232 : decode cX12_went 232 = .ok (.iinc 7 1, 3) := by decide +kernel
theorem dX12_went_235 : decode cX12_went 235 = .ok (.goto (-107), 3) := by decide +kernel
theorem dX12_went_238 : decode cX12_went 238 = .ok (.aload_n 0, 1) := by decide +kernel
theorem dX12_went_239 : decode cX12_went 239 = .ok (.iload_n 3, 1) := by decide +kernel
theorem dX12_went_240 : decode cX12_went 240 = .ok (.ifCond .ne 8, 3) := by decide +kernel
theorem dX12_went_243 : decode cX12_went 243 = .ok (.iload 5, 2) := by decide +kernel
theorem dX12_went_245 : decode cX12_went 245 = .ok (.goto 31, 3) := by decide +kernel
theorem dX12_went_248 : decode cX12_went 248 = .ok (.iload_n 3, 1) := by decide +kernel
theorem dX12_went_249 : decode cX12_went 249 = .ok (.iconst 1, 1) := by decide +kernel
theorem dX12_went_250 : decode cX12_went 250 = .ok (.if_icmp .ne 8, 3) := by decide +kernel
theorem dX12_went_253 : decode cX12_went 253 = .ok (.iload 6, 2) := by decide +kernel
theorem dX12_went_255 : decode cX12_went 255 = .ok (.goto 21, 3) := by decide +kernel
theorem dX12_went_258 : decode cX12_went 258 = .ok (.aload_n 0, 1) := by decide +kernel
theorem dX12_went_259 : decode cX12_went 259 = .ok (.aload_n 0, 1) := by decide +kernel
theorem dX12_went_260 : decode cX12_went 260 = .ok (.getfield 22, 3) := by decide +kernel
theorem dX12_went_263 : decode cX12_went 263 = .ok (.iload 4, 2) := by decide +kernel
theorem dX12_went_265 : decode cX12_went 265 = .ok (.invokevirtual 253, 3) := by decide +kernel
theorem dX12_went_268 : decode cX12_went 268 = .ok (.ifCond .eq 7, 3) := by decide +kernel
theorem dX12_went_271 : decode cX12_went 271 = .ok (.iconst 1, 1) := by decide +kernel
theorem dX12_went_272 : decode cX12_went 272 = .ok (.goto 4, 3) := by decide +kernel
theorem dX12_went_275 : decode cX12_went 275 = .ok (.iconst 0, 1) := by decide +kernel
theorem dX12_went_276 : decode cX12_went 276 = .ok (.invokevirtual 69, 3) := by decide +kernel
theorem dX12_went_279 : decode cX12_went 279 = .ok (.ireturn, 1) := by decide +kernel
theorem dX12_image_0 : decode cX12_image 0 = .ok (.iload_n 1, 1) := by decide +kernel
theorem dX12_image_1 : decode cX12_image 1 = .ok (.i2l, 1) := by decide +kernel
theorem dX12_image_2 : decode cX12_image 2 = .ok (.lconst 0, 1) := by decide +kernel
theorem dX12_image_3 : decode cX12_image 3 = .ok (.lconst 1, 1) := by decide +kernel
theorem dX12_image_4 : decode cX12_image 4 = .ok (.invokestatic 54, 3) := by decide +kernel
theorem dX12_image_7 : decode cX12_image 7 = .ok (.ifCond .ne 6, 3) := by decide +kernel
theorem dX12_image_10 : decode cX12_image 10 = .ok (.ldc 64, 2) := by decide +kernel
theorem dX12_image_12 : decode cX12_image 12 = .ok (.ireturn, 1) := by decide +kernel
theorem dX12_image_13 : decode cX12_image 13 = .ok (.aload_n 0, 1) := by decide +kernel
theorem dX12_image_14 : decode cX12_image 14 = .ok (.getfield 186, 3) := by decide +kernel
theorem dX12_image_17 : decode cX12_image 17 = .ok (.ifCond .ne 6, 3) := by decide +kernel
theorem dX12_image_20 : decode cX12_image 20 = .ok (.ldc 227, 2) := by decide +kernel
theorem dX12_image_22 : decode cX12_image 22 = .ok (.ireturn, 1) := by decide +kernel
theorem dX12_image_23 : decode cX12_image 23 = .ok (.aload_n 0, 1) := by decide +kernel
theorem dX12_image_24 : decode cX12_image 24 = .ok (.getfield 22, 3) := by decide +kernel
theorem dX12_image_27 : decode cX12_image 27 = .ok (.iconst 0, 1) := by decide +kernel
theorem dX12_image_28 : decode cX12_image 28 = .ok (.aload_n 0, 1) := by decide +kernel
theorem dX12_image_29 : decode cX12_image 29 = .ok (.getfield 28, 3) := by decide +kernel
theorem dX12_image_32 : decode cX12_image 32 = .ok (.sipush 138, 3) := by decide +kernel
theorem dX12_image_35 : decode cX12_image 35 = .ok (.iload_n 1, 1) := by decide +kernel
theorem dX12_image_36 : decode cX12_image 36 = .ok (.imul, 1) := by decide +kernel
theorem dX12_image_37 : decode cX12_image 37 = .ok (.invokestatic 193, 3) := by decide +kernel
theorem dX12_image_40 : decode cX12_image 40 = .ok (.aload_n 0, 1) := by decide +kernel
theorem dX12_image_41 : decode cX12_image 41 = .ok (.getfield 31, 3) := by decide +kernel
theorem dX12_image_44 : decode cX12_image 44 = .ok (.iload_n 1, 1) := by decide +kernel
theorem dX12_image_45 : decode cX12_image 45 = .ok (.iconst 1, 1) := by decide +kernel
theorem dX12_image_46 : decode cX12_image 46 = .ok (.bastore, 1) := by decide +kernel
theorem dX12_image_47 : decode cX12_image 47 = .ok (.iconst 1, 1) := by decide +kernel
theorem dX12_image_48 : decode cX12_image 48 = .ok (.ireturn, 1) := by decide +kernel
theorem dX12_restore_0 : decode cX12_restore 0 = .ok (.iload_n 1, 1) := by decide +kernel
theorem dX12_restore_1 : decode cX12_restore 1 = .ok (.i2l, 1) := by decide +kernel
theorem dX12_restore_2 : decode cX12_restore 2 = .ok (.lconst 0, 1) := by decide +kernel
theorem dX12_restore_3 : decode cX12_restore 3 = .ok (.lconst 1, 1) := by decide +kernel
theorem dX12_restore_4 : decode cX12_restore 4 = .ok (.invokestatic 54, 3) := by decide +kernel
theorem dX12_restore_7 : decode cX12_restore 7 = .ok (.ifCond .ne 6, 3) := by decide +kernel
theorem dX12_restore_10 : decode cX12_restore 10 = .ok (.ldc 64, 2) := by decide +kernel
theorem dX12_restore_12 : decode cX12_restore 12 = .ok (.ireturn, 1) := by decide +kernel
theorem dX12_restore_13 : decode cX12_restore 13 = .ok (.aload_n 0, 1) := by decide +kernel
theorem dX12_restore_14 : decode cX12_restore 14 = .ok (.getfield 31, 3) := by decide +kernel
theorem dX12_restore_17 : decode cX12_restore 17 = .ok (.iload_n 1, 1) := by decide +kernel
theorem dX12_restore_18 : decode cX12_restore 18 = .ok (.baload, 1) := by decide +kernel
theorem dX12_restore_19 : decode cX12_restore 19 = .ok (.ifCond .ne 6, 3) := by decide +kernel
theorem dX12_restore_22 : decode cX12_restore 22 = .ok (.ldc 227, 2) := by decide +kernel
theorem dX12_restore_24 : decode cX12_restore 24 = .ok (.ireturn, 1) := by decide +kernel
theorem dX12_restore_25 : decode cX12_restore 25 = .ok (.aload_n 0, 1) := by decide +kernel
theorem dX12_restore_26 : decode cX12_restore 26 = .ok (.getfield 28, 3) := by decide +kernel
theorem dX12_restore_29 : decode cX12_restore 29 = .ok (.sipush 138, 3) := by decide +kernel
theorem dX12_restore_32 : decode cX12_restore 32 = .ok (.iload_n 1, 1) := by decide +kernel
theorem dX12_restore_33 : decode cX12_restore 33 = .ok (.imul, 1) := by decide +kernel
theorem dX12_restore_34 : decode cX12_restore 34 = .ok (.aload_n 0, 1) := by decide +kernel
theorem dX12_restore_35 : decode cX12_restore 35 = .ok (.getfield 22, 3) := by decide +kernel
theorem dX12_restore_38 : decode cX12_restore 38 = .ok (.iconst 0, 1) := by decide +kernel
theorem dX12_restore_39 : decode cX12_restore 39 = .ok (.invokestatic 193, 3) := by decide +kernel
theorem dX12_restore_42 : decode cX12_restore 42 = .ok (.aload_n 0, 1) := by decide +kernel
theorem dX12_restore_43 : decode cX12_restore 43 = .ok (.iconst 0, 1) := by decide +kernel
theorem dX12_restore_44 : decode cX12_restore 44 = .ok (.putfield 190, 3) := by decide +kernel
theorem dX12_restore_47 : decode cX12_restore 47 = .ok (.iconst 1, 1) := by decide +kernel
theorem dX12_restore_48 : decode cX12_restore 48 = .ok (.ireturn, 1) := by decide +kernel
theorem dX12_kind_0 : decode cX12_kind 0 = .ok (.aload_n 0, 1) := by decide +kernel
theorem dX12_kind_1 : decode cX12_kind 1 = .ok (.iload_n 1, 1) := by decide +kernel
theorem dX12_kind_2 : decode cX12_kind 2 = .ok (.invokevirtual 217, 3) := by decide +kernel
theorem dX12_kind_5 : decode cX12_kind 5 = .ok (.ifCond .eq 14, 3) := by decide +kernel
theorem dX12_kind_8 : decode cX12_kind 8 = .ok (.aload_n 0, 1) := by decide +kernel
theorem dX12_kind_9 : decode cX12_kind 9 = .ok (.getfield 22, 3) := by decide +kernel
theorem dX12_kind_12 : decode cX12_kind 12 = .ok (.iconst 5, 1) := by decide +kernel
theorem dX12_kind_13 : decode cX12_kind 13 = .ok (.iload_n 1, 1) := by decide +kernel
theorem dX12_kind_14 : decode cX12_kind 14 = .ok (.iadd, 1) := by decide +kernel
theorem dX12_kind_15 : decode cX12_kind 15 = .ok (.iaload, 1) := by decide +kernel
theorem dX12_kind_16 : decode cX12_kind 16 = .ok (.goto 5, 3) := by decide +kernel
theorem dX12_kind_19 : decode cX12_kind 19 = .ok (.ldc 64, 2) := by decide +kernel
theorem dX12_kind_21 : decode cX12_kind 21 = .ok (.ireturn, 1) := by decide +kernel
theorem dX12_isOf_0 : decode cX12_isOf 0 = .ok (.iload_n 1, 1) := by decide +kernel
theorem dX12_isOf_1 : decode cX12_isOf 1 = .ok (.ifCond .eq 33, 3) := by decide +kernel
theorem dX12_isOf_4 : decode cX12_isOf 4 = .ok (.iload_n 0, 1) := by decide +kernel
theorem dX12_isOf_5 : decode cX12_isOf 5 = .ok (.iload_n 1, 1) := by decide +kernel
theorem dX12_isOf_6 : decode cX12_isOf 6 = .ok (.if_icmp .eq 28, 3) := by decide +kernel
theorem dX12_isOf_9 : decode cX12_isOf 9 = .ok (.iload_n 1, 1) := by decide +kernel
theorem dX12_isOf_10 : decode cX12_isOf 10 = .ok (.iconst 1, 1) := by decide +kernel
theorem dX12_isOf_11 : decode cX12_isOf 11 = .ok (.if_icmp .ne 13, 3) := by decide +kernel
theorem dX12_isOf_14 : decode cX12_isOf 14 = .ok (.iload_n 0, 1) := by decide +kernel
theorem dX12_isOf_15 : decode cX12_isOf 15 = .ok (.iconst 2, 1) := by decide +kernel
theorem dX12_isOf_16 : decode cX12_isOf 16 = .ok (.if_icmp .eq 18, 3) := by decide +kernel
theorem dX12_isOf_19 : decode cX12_isOf 19 = .ok (.iload_n 0, 1) := by decide +kernel
theorem dX12_isOf_20 : decode cX12_isOf 20 = .ok (.iconst 3, 1) := by decide +kernel
theorem dX12_isOf_21 : decode cX12_isOf 21 = .ok (.if_icmp .eq 13, 3) := by decide +kernel
theorem dX12_isOf_24 : decode cX12_isOf 24 = .ok (.iload_n 1, 1) := by decide +kernel
theorem dX12_isOf_25 : decode cX12_isOf 25 = .ok (.iconst 4, 1) := by decide +kernel
theorem dX12_isOf_26 : decode cX12_isOf 26 = .ok (.if_icmp .ne 12, 3) := by decide +kernel
theorem dX12_isOf_29 : decode cX12_isOf 29 = .ok (.iload_n 0, 1) := by decide +kernel
theorem dX12_isOf_30 : decode cX12_isOf 30 = .ok (.iconst 5, 1) := by decide +kernel
theorem dX12_isOf_31 : decode cX12_isOf 31 = .ok (.if_icmp .ne 7, 3) := by decide +kernel
theorem dX12_isOf_34 : decode cX12_isOf 34 = .ok (.iconst 1, 1) := by decide +kernel
theorem dX12_isOf_35 : decode cX12_isOf 35 = .ok (.goto 4, 3) := by decide +kernel
theorem dX12_isOf_38 : decode cX12_isOf 38 = .ok (.iconst 0, 1) := by decide +kernel
theorem dX12_isOf_39 : decode cX12_isOf 39 = .ok (.ireturn, 1) := by decide +kernel
theorem dX12_as_0 : decode cX12_as 0 = .ok (.aload_n 0, 1) := by decide +kernel
theorem dX12_as_1 : decode cX12_as 1 = .ok (.iload_n 1, 1) := by decide +kernel
theorem dX12_as_2 : decode cX12_as 2 = .ok (.invokevirtual 217, 3) := by decide +kernel
theorem dX12_as_5 : decode cX12_as 5 = .ok (.ifCond .eq 15, 3) := by decide +kernel
theorem dX12_as_8 : decode cX12_as 8 = .ok (.iload_n 2, 1) := by decide +kernel
theorem dX12_as_9 : decode cX12_as 9 = .ok (.i2l, 1) := by decide +kernel
theorem dX12_as_10 : decode cX12_as 10 = .ok (.lconst 0, 1) := by decide +kernel
theorem dX12_as_11 : decode cX12_as 11 = .ok (.ldc2_w 257, 3) := by decide +kernel
theorem dX12_as_14 : decode cX12_as 14 = .ok (.invokestatic 54, 3) := by decide +kernel
theorem dX12_as_17 : decode cX12_as 17 = .ok (.ifCond .ne 6, 3) := by decide +kernel
theorem dX12_as_20 : decode cX12_as 20 = .ok (.ldc 64, 2) := by decide +kernel
theorem dX12_as_22 : decode cX12_as 22 = .ok (.ireturn, 1) := by decide +kernel
theorem dX12_as_23 : decode cX12_as 23 = .ok (.aload_n 0, 1) := by decide +kernel
theorem dX12_as_24 : decode cX12_as 24 = .ok (.getfield 22, 3) := by decide +kernel
theorem dX12_as_27 : decode cX12_as 27 = .ok (.iconst 5, 1) := by decide +kernel
theorem dX12_as_28 : decode cX12_as 28 = .ok (.iload_n 1, 1) := by decide +kernel
theorem dX12_as_29 : decode cX12_as 29 = .ok (.iadd, 1) := by decide +kernel
theorem dX12_as_30 : decode cX12_as 30 = .ok (.iaload, 1) := by decide +kernel
theorem dX12_as_31 : decode cX12_as 31 = .ok (.iload_n 2, 1) := by decide +kernel
theorem dX12_as_32 : decode cX12_as 32 = .ok (.invokestatic 259, 3) := by decide +kernel
theorem dX12_as_35 : decode cX12_as 35 = .ok (.ifCond .eq 11, 3) := by decide +kernel
theorem dX12_as_38 : decode cX12_as 38 = .ok (.aload_n 0, 1) := by decide +kernel
theorem dX12_as_39 : decode cX12_as 39 = .ok (.iload_n 1, 1) := by decide +kernel
theorem dX12_as_40 : decode cX12_as 40 = .ok (.invokevirtual 69, 3) := by decide +kernel
theorem dX12_as_43 : decode cX12_as 43 = .ok (.goto 8, 3) := by decide +kernel
theorem dX12_as_46 : decode cX12_as 46 = .ok (.aload_n 0, 1) := by decide +kernel
theorem dX12_as_47 : decode cX12_as 47 = .ok (.iconst 3, 1) := by decide +kernel
theorem dX12_as_48 : decode cX12_as 48 = .ok (.invokevirtual 65, 3) := by decide +kernel
theorem dX12_as_51 : decode cX12_as 51 = .ok (.ireturn, 1) := by decide +kernel
theorem dX12_leave_0 : decode cX12_leave 0 = .ok (.lconst 1, 1) := by decide +kernel
theorem dX12_leave_1 : decode cX12_leave 1 = .ok (.lstore_n 3, 1) := by decide +kernel
theorem dX12_leave_2 : decode cX12_leave 2 = .ok (.lload_n 3, 1) := by decide +kernel
theorem dX12_leave_3 : decode cX12_leave 3 = .ok (.ldc2_w 262, 3) := by decide +kernel
theorem dX12_leave_6 : decode cX12_leave 6 = .ok (.lmul, 1) := by decide +kernel
theorem dX12_leave_7 : decode cX12_leave 7 = .ok (.lload_n 1, 1) := by decide +kernel
theorem dX12_leave_8 : decode cX12_leave 8 = .ok (.lcmp, 1) := by decide +kernel
theorem dX12_leave_9 : decode cX12_leave 9 = .ok (.ifCond .gt 12, 3) := by decide +kernel
theorem dX12_leave_12 : decode cX12_leave 12 = .ok (.lload_n 3, 1) := by decide +kernel
theorem dX12_leave_13 : decode cX12_leave 13 = .ok (.ldc2_w 262, 3) := by decide +kernel
theorem dX12_leave_16 : decode cX12_leave 16 = .ok (.lmul, 1) := by decide +kernel
theorem dX12_leave_17 : decode cX12_leave 17 = .ok (.lstore_n 3, 1) := by decide +kernel
theorem dX12_leave_18 : decode cX12_leave 18 = .ok (.goto (-16), 3) := by decide +kernel
theorem dX12_leave_21 : decode cX12_leave 21 = .ok (.lload_n 1, 1) := by decide +kernel
theorem dX12_leave_22 : decode cX12_leave 22 = .ok (.lstore 5, 2) := by decide +kernel
theorem dX12_leave_24 : decode cX12_leave 24 = .ok (.lload_n 3, 1) := by decide +kernel
theorem dX12_leave_25 : decode cX12_leave 25 = .ok (.lconst 0, 1) := by decide +kernel
theorem dX12_leave_26 : decode cX12_leave 26 = .ok (.lcmp, 1) := by decide +kernel
theorem dX12_leave_27 : decode cX12_leave 27 = .ok (.ifCond .le 42, 3) := by decide +kernel
theorem dX12_leave_30 : decode cX12_leave 30 = .ok (.aload_n 0, 1) := by decide +kernel
theorem dX12_leave_31 : decode cX12_leave 31 = .ok (.getfield 35, 3) := by decide +kernel
theorem dX12_leave_34 : decode cX12_leave 34 = .ok (.aload_n 0, 1) := by decide +kernel
theorem dX12_leave_35 : decode cX12_leave 35 = .ok (.getfield 264, 3) := by decide +kernel
theorem dX12_leave_38 : decode cX12_leave 38 = .ok (.lload 5, 2) := by decide +kernel
theorem dX12_leave_40 : decode cX12_leave 40 = .ok (.lload_n 3, 1) := by decide +kernel
theorem dX12_leave_41 : decode cX12_leave 41 = .ok (.ldiv, 1) := by decide +kernel
theorem dX12_leave_42 : decode cX12_leave 42 = .ok (.l2i, 1) := by decide +kernel
theorem dX12_leave_43 : decode cX12_leave 43 = .ok (.iastore, 1) := by decide +kernel
theorem dX12_leave_44 : decode cX12_leave 44 = .ok (.lload 5, 2) := by decide +kernel
theorem dX12_leave_46 : decode cX12_leave 46 = .ok (.lload_n 3, 1) := by decide +kernel
theorem dX12_leave_47 : decode cX12_leave 47 = .ok (.lrem, 1) := by decide +kernel
theorem dX12_leave_48 : decode cX12_leave 48 = .ok (.lstore 5, 2) := by decide +kernel
theorem dX12_leave_50 : decode cX12_leave 50 = .ok (.aload_n 0, 1) := by decide +kernel
theorem dX12_leave_51 : decode cX12_leave 51 = .ok (.dup, 1) := by decide +kernel
theorem dX12_leave_52 : decode cX12_leave 52 = .ok (.getfield 264, 3) := by decide +kernel
theorem dX12_leave_55 : decode cX12_leave 55 = .ok (.iconst 1, 1) := by decide +kernel
theorem dX12_leave_56 : decode cX12_leave 56 = .ok (.iadd, 1) := by decide +kernel
theorem dX12_leave_57 : decode cX12_leave 57 = .ok (.putfield 264, 3) := by decide +kernel
theorem dX12_leave_60 : decode cX12_leave 60 = .ok (.lload_n 3, 1) := by decide +kernel
theorem dX12_leave_61 : decode cX12_leave 61 = .ok (.ldc2_w 262, 3) := by decide +kernel
theorem dX12_leave_64 : decode cX12_leave 64 = .ok (.ldiv, 1) := by decide +kernel
theorem dX12_leave_65 : decode cX12_leave 65 = .ok (.lstore_n 3, 1) := by decide +kernel
theorem dX12_leave_66 : decode cX12_leave 66 = .ok (.goto (-42), 3) := by decide +kernel
theorem dX12_leave_69 : decode cX12_leave 69 = .ok (.return_, 1) := by decide +kernel
theorem dX12_mark_0 : decode cX12_mark 0 = .ok (.aload_n 0, 1) := by decide +kernel
theorem dX12_mark_1 : decode cX12_mark 1 = .ok (.getfield 22, 3) := by decide +kernel
theorem dX12_mark_4 : decode cX12_mark 4 = .ok (.iconst 5, 1) := by decide +kernel
theorem dX12_mark_5 : decode cX12_mark 5 = .ok (.iload_n 1, 1) := by decide +kernel
theorem dX12_mark_6 : decode cX12_mark 6 = .ok (.iadd, 1) := by decide +kernel
theorem dX12_mark_7 : decode cX12_mark 7 = .ok (.iaload, 1) := by decide +kernel
theorem dX12_mark_8 : decode cX12_mark 8 = .ok (.istore_n 2, 1) := by decide +kernel
theorem dX12_mark_9 : decode cX12_mark 9 = .ok (.iload_n 1, 1) := by decide +kernel
theorem dX12_mark_10 : decode cX12_mark 10 = .ok (.aload_n 0, 1) := by decide +kernel
theorem dX12_mark_11 : decode cX12_mark 11 = .ok (.getfield 22, 3) := by decide +kernel
theorem dX12_mark_14 : decode cX12_mark 14 = .ok (.bipush 15, 2) := by decide +kernel
theorem dX12_mark_16 : decode cX12_mark 16 = .ok (.iload_n 1, 1) := by decide +kernel
theorem dX12_mark_17 : decode cX12_mark 17 = .ok (.iadd, 1) := by decide +kernel
theorem dX12_mark_18 : decode cX12_mark 18 = .ok (.iaload, 1) := by decide +kernel
theorem dX12_mark_19 : decode cX12_mark 19 = .ok (.iadd, 1) := by decide +kernel
theorem dX12_mark_20 : decode cX12_mark 20 = .ok (.istore_n 3, 1) := by decide +kernel
theorem dX12_mark_21 : decode cX12_mark 21 = .ok (.aload_n 0, 1) := by decide +kernel
theorem dX12_mark_22 : decode cX12_mark 22 = .ok (.iload_n 2, 1) := by decide +kernel
theorem dX12_mark_23 : decode cX12_mark 23 = .ok (.iconst 2, 1) := by decide +kernel
theorem dX12_mark_24 : decode cX12_mark 24 = .ok (.if_icmp .ne 9, 3) := by decide +kernel
theorem dX12_mark_27 : decode cX12_mark 27 = .ok (.ldc2_w 267, 3) := by decide +kernel
theorem dX12_mark_30 : decode cX12_mark 30 = .ok (.goto 17, 3) := by decide +kernel
theorem dX12_mark_33 : decode cX12_mark 33 = .ok (.iload_n 2, 1) := by decide +kernel
theorem dX12_mark_34 : decode cX12_mark 34 = .ok (.iconst 3, 1) := by decide +kernel
theorem dX12_mark_35 : decode cX12_mark 35 = .ok (.if_icmp .ne 9, 3) := by decide +kernel
theorem dX12_mark_38 : decode cX12_mark 38 = .ok (.ldc2_w 269, 3) := by decide +kernel
theorem dX12_mark_41 : decode cX12_mark 41 = .ok (.goto 6, 3) := by decide +kernel
theorem dX12_mark_44 : decode cX12_mark 44 = .ok (.ldc2_w 271, 3) := by decide +kernel
theorem dX12_mark_47 : decode cX12_mark 47 = .ok (.invokevirtual 273, 3) := by decide +kernel
theorem dX12_mark_50 : decode cX12_mark 50 = .ok (.iload_n 2, 1) := by decide +kernel
theorem dX12_mark_51 : decode cX12_mark 51 = .ok (.iconst 2, 1) := by decide +kernel
theorem dX12_mark_52 : decode cX12_mark 52 = .ok (.if_icmp .ne 9, 3) := by decide +kernel
theorem dX12_mark_55 : decode cX12_mark 55 = .ok (.iconst 2, 1) := by decide +kernel
theorem dX12_mark_56 : decode cX12_mark 56 = .ok (.iload_n 3, 1) := by decide +kernel
theorem dX12_mark_57 : decode cX12_mark 57 = .ok (.imul, 1) := by decide +kernel
theorem dX12_mark_58 : decode cX12_mark 58 = .ok (.goto 17, 3) := by decide +kernel
theorem dX12_mark_61 : decode cX12_mark 61 = .ok (.iload_n 2, 1) := by decide +kernel
theorem dX12_mark_62 : decode cX12_mark 62 = .ok (.iconst 3, 1) := by decide +kernel
theorem dX12_mark_63 : decode cX12_mark 63 = .ok (.if_icmp .ne 11, 3) := by decide +kernel
theorem dX12_mark_66 : decode cX12_mark 66 = .ok (.iload_n 3, 1) := by decide +kernel
theorem dX12_mark_67 : decode cX12_mark 67 = .ok (.sipush 1000, 3) := by decide +kernel
theorem dX12_mark_70 : decode cX12_mark 70 = .ok (.isub, 1) := by decide +kernel
theorem dX12_mark_71 : decode cX12_mark 71 = .ok (.goto 4, 3) := by decide +kernel
theorem dX12_mark_74 : decode cX12_mark 74 = .ok (.iload_n 3, 1) := by decide +kernel
theorem dX12_mark_75 : decode cX12_mark 75 = .ok (.ireturn, 1) := by decide +kernel
theorem dX12_sizeOf_0 : decode cX12_sizeOf 0 = .ok (.aload_n 0, 1) := by decide +kernel
theorem dX12_sizeOf_1 : decode cX12_sizeOf 1 = .ok (.getfield 22, 3) := by decide +kernel
theorem dX12_sizeOf_4 : decode cX12_sizeOf 4 = .ok (.bipush 20, 2) := by decide +kernel
theorem dX12_sizeOf_6 : decode cX12_sizeOf 6 = .ok (.iload_n 1, 1) := by decide +kernel
theorem dX12_sizeOf_7 : decode cX12_sizeOf 7 = .ok (.iadd, 1) := by decide +kernel
theorem dX12_sizeOf_8 : decode cX12_sizeOf 8 = .ok (.iaload, 1) := by decide +kernel
theorem dX12_sizeOf_9 : decode cX12_sizeOf 9 = .ok (.bipush 100, 2) := by decide +kernel
theorem dX12_sizeOf_11 : decode cX12_sizeOf 11 = .ok (.isub, 1) := by decide +kernel
theorem dX12_sizeOf_12 : decode cX12_sizeOf 12 = .ok (.istore_n 2, 1) := by decide +kernel
theorem dX12_sizeOf_13 : decode cX12_sizeOf 13 = .ok (.aload_n 0, 1) := by decide +kernel
theorem dX12_sizeOf_14 : decode cX12_sizeOf 14 = .ok (.getfield 22, 3) := by decide +kernel
theorem dX12_sizeOf_17 : decode cX12_sizeOf 17 = .ok (.iconst 5, 1) := by decide +kernel
theorem dX12_sizeOf_18 : decode cX12_sizeOf 18 = .ok (.iload_n 1, 1) := by decide +kernel
theorem dX12_sizeOf_19 : decode cX12_sizeOf 19 = .ok (.iadd, 1) := by decide +kernel
theorem dX12_sizeOf_20 : decode cX12_sizeOf 20 = .ok (.iaload, 1) := by decide +kernel
theorem dX12_sizeOf_21 : decode cX12_sizeOf 21 = .ok (.iconst 5, 1) := by decide +kernel
theorem dX12_sizeOf_22 : decode cX12_sizeOf 22 = .ok (.if_icmp .ne 7, 3) := by decide +kernel
theorem dX12_sizeOf_25 : decode cX12_sizeOf 25 = .ok (.iconst 1, 1) := by decide +kernel
theorem dX12_sizeOf_26 : decode cX12_sizeOf 26 = .ok (.goto 4, 3) := by decide +kernel
theorem dX12_sizeOf_29 : decode cX12_sizeOf 29 = .ok (.iconst 0, 1) := by decide +kernel
theorem dX12_sizeOf_30 : decode cX12_sizeOf 30 = .ok (.istore_n 3, 1) := by decide +kernel
theorem dX12_sizeOf_31 : decode cX12_sizeOf 31 = .ok (.aload_n 0, 1) := by decide +kernel
theorem dX12_sizeOf_32 : decode cX12_sizeOf 32 = .ok (.iload_n 3, 1) := by decide +kernel
theorem dX12_sizeOf_33 : decode cX12_sizeOf 33 = .ok (.ifCond .eq 9, 3) := by decide +kernel
theorem dX12_sizeOf_36 : decode cX12_sizeOf 36 = .ok (.ldc2_w 277, 3) := by decide +kernel
theorem dX12_sizeOf_39 : decode cX12_sizeOf 39 = .ok (.goto 6, 3) := by decide +kernel
theorem dX12_sizeOf_42 : decode cX12_sizeOf 42 = .ok (.ldc2_w 279, 3) := by decide +kernel
theorem dX12_sizeOf_45 : decode cX12_sizeOf 45 = .ok (.invokevirtual 273, 3) := by decide +kernel
theorem dX12_sizeOf_48 : decode cX12_sizeOf 48 = .ok (.iload_n 3, 1) := by decide +kernel
theorem dX12_sizeOf_49 : decode cX12_sizeOf 49 = .ok (.ifCond .eq 9, 3) := by decide +kernel
theorem dX12_sizeOf_52 : decode cX12_sizeOf 52 = .ok (.iconst 2, 1) := by decide +kernel
theorem dX12_sizeOf_53 : decode cX12_sizeOf 53 = .ok (.iload_n 2, 1) := by decide +kernel
theorem dX12_sizeOf_54 : decode cX12_sizeOf 54 = .ok (.imul, 1) := by decide +kernel
theorem dX12_sizeOf_55 : decode cX12_sizeOf 55 = .ok (.goto 4, 3) := by decide +kernel
theorem dX12_sizeOf_58 : decode cX12_sizeOf 58 = .ok (.iload_n 2, 1) := by decide +kernel
theorem dX12_sizeOf_59 : decode cX12_sizeOf 59 = .ok (.ireturn, 1) := by decide +kernel
theorem dX12_ask_0 : decode cX12_ask 0 = .ok (.aload_n 0, 1) := by decide +kernel
theorem dX12_ask_1 : decode cX12_ask 1 = .ok (.iload_n 1, 1) := by decide +kernel
theorem dX12_ask_2 : decode cX12_ask 2 = .ok (.invokevirtual 217, 3) := by decide +kernel
theorem dX12_ask_5 : decode cX12_ask 5 = .ok (.ifCond .eq 13, 3) := by decide +kernel
theorem dX12_ask_8 : decode cX12_ask 8 = .ok (.iload_n 2, 1) := by decide +kernel
theorem dX12_ask_9 : decode cX12_ask 9 = .ok (.i2l, 1) := by decide +kernel
theorem dX12_ask_10 : decode cX12_ask 10 = .ok (.lconst 0, 1) := by decide +kernel
theorem dX12_ask_11 : decode cX12_ask 11 = .ok (.lconst 1, 1) := by decide +kernel
theorem dX12_ask_12 : decode cX12_ask 12 = .ok (.invokestatic 54, 3) := by decide +kernel
theorem dX12_ask_15 : decode cX12_ask 15 = .ok (.ifCond .ne 6, 3) := by decide +kernel
theorem dX12_ask_18 : decode cX12_ask 18 = .ok (.ldc 64, 2) := by decide +kernel
theorem dX12_ask_20 : decode cX12_ask 20 = .ok (.ireturn, 1) := by decide +kernel
theorem dX12_ask_21 : decode cX12_ask 21 = .ok (.aload_n 0, 1) := by decide +kernel
theorem dX12_ask_22 : decode cX12_ask 22 = .ok (.iconst 0, 1) := by decide +kernel
theorem dX12_ask_23 : decode cX12_ask 23 = .ok (.putfield 264, 3) := by decide +kernel
theorem dX12_ask_26 : decode cX12_ask 26 = .ok (.aload_n 0, 1) := by decide +kernel
theorem dX12_ask_27 : decode cX12_ask 27 = .ok (.getfield 22, 3) := by decide +kernel
theorem dX12_ask_30 : decode cX12_ask 30 = .ok (.iconst 5, 1) := by decide +kernel
theorem dX12_ask_31 : decode cX12_ask 31 = .ok (.iload_n 1, 1) := by decide +kernel
theorem dX12_ask_32 : decode cX12_ask 32 = .ok (.iadd, 1) := by decide +kernel
theorem dX12_ask_33 : decode cX12_ask 33 = .ok (.iaload, 1) := by decide +kernel
theorem dX12_ask_34 : decode cX12_ask 34 = .ok (.istore_n 3, 1) := by decide +kernel
theorem dX12_ask_35 : decode cX12_ask 35 = .ok (.iload_n 3, 1) := by decide +kernel
theorem dX12_ask_36 : decode cX12_ask 36 = .ok (.iconst 4, 1) := by decide +kernel
theorem dX12_ask_37 : decode cX12_ask 37 = .ok (.if_icmp .ge 63, 3) := by decide +kernel
theorem dX12_ask_40 : decode cX12_ask 40 = .ok (.iload_n 2, 1) := by decide +kernel
theorem dX12_ask_41 : decode cX12_ask 41 = .ok (.iconst 1, 1) := by decide +kernel
theorem dX12_ask_42 : decode cX12_ask 42 = .ok (.if_icmp .ne 9, 3) := by decide +kernel
theorem dX12_ask_45 : decode cX12_ask 45 = .ok (.aload_n 0, 1) := by decide +kernel
theorem dX12_ask_46 : decode cX12_ask 46 = .ok (.iload_n 1, 1) := by decide +kernel
theorem dX12_ask_47 : decode cX12_ask 47 = .ok (.invokevirtual 281, 3) := by decide +kernel
theorem dX12_ask_50 : decode cX12_ask 50 = .ok (.ireturn, 1) := by decide +kernel
theorem dX12_ask_51 : decode cX12_ask 51 = .ok (.aload_n 0, 1) := by decide +kernel
theorem dX12_ask_52 : decode cX12_ask 52 = .ok (.iload_n 3, 1) := by decide +kernel
theorem dX12_ask_53 : decode cX12_ask 53 = .ok (.iconst 2, 1) := by decide +kernel
theorem dX12_ask_54 : decode cX12_ask 54 = .ok (.if_icmp .ne 9, 3) := by decide +kernel
theorem dX12_ask_57 : decode cX12_ask 57 = .ok (.ldc2_w 284, 3) := by decide +kernel
theorem dX12_ask_60 : decode cX12_ask 60 = .ok (.goto 6, 3) := by decide +kernel
theorem dX12_ask_63 : decode cX12_ask 63 = .ok (.ldc2_w 286, 3) := by decide +kernel
theorem dX12_ask_66 : decode cX12_ask 66 = .ok (.invokevirtual 273, 3) := by decide +kernel
theorem dX12_ask_69 : decode cX12_ask 69 = .ok (.aload_n 0, 1) := by decide +kernel
theorem dX12_ask_70 : decode cX12_ask 70 = .ok (.getfield 22, 3) := by decide +kernel
theorem dX12_ask_73 : decode cX12_ask 73 = .ok (.bipush 20, 2) := by decide +kernel
theorem dX12_ask_75 : decode cX12_ask 75 = .ok (.iload_n 1, 1) := by decide +kernel
theorem dX12_ask_76 : decode cX12_ask 76 = .ok (.iadd, 1) := by decide +kernel
theorem dX12_ask_77 : decode cX12_ask 77 = .ok (.iaload, 1) := by decide +kernel
theorem dX12_ask_78 : decode cX12_ask 78 = .ok (.aload_n 0, 1) := by decide +kernel
theorem dX12_ask_79 : decode cX12_ask 79 = .ok (.iload_n 1, 1) := by decide +kernel
theorem dX12_ask_80 : decode cX12_ask 80 = .ok (.invokevirtual 281, 3) := by decide +kernel
theorem dX12_ask_83 : decode cX12_ask 83 = .ok (.iadd, 1) := by decide +kernel
theorem dX12_ask_84 : decode cX12_ask 84 = .ok (.istore 4, 2) := by decide +kernel
theorem dX12_ask_86 : decode cX12_ask 86 = .ok (.iload_n 3, 1) := by decide +kernel
theorem dX12_ask_87 : decode cX12_ask 87 = .ok (.iconst 2, 1) := by decide +kernel
theorem dX12_ask_88 : decode cX12_ask 88 = .ok (.if_icmp .ne 9, 3) := by decide +kernel
theorem dX12_ask_91 : decode cX12_ask 91 = .ok (.iload 4, 2) := by decide +kernel
theorem dX12_ask_93 : decode cX12_ask 93 = .ok (.ineg, 1) := by decide +kernel
theorem dX12_ask_94 : decode cX12_ask 94 = .ok (.goto 5, 3) := by decide +kernel
theorem dX12_ask_97 : decode cX12_ask 97 = .ok (.iload 4, 2) := by decide +kernel
theorem dX12_ask_99 : decode cX12_ask 99 = .ok (.ireturn, 1) := by decide +kernel
theorem dX12_ask_100 : decode cX12_ask 100 = .ok (.iload_n 2, 1) := by decide +kernel
theorem dX12_ask_101 : decode cX12_ask 101 = .ok (.ifCond .ne 9, 3) := by decide +kernel
theorem dX12_ask_104 : decode cX12_ask 104 = .ok (.aload_n 0, 1) := by decide +kernel
theorem dX12_ask_105 : decode cX12_ask 105 = .ok (.iload_n 1, 1) := by decide +kernel
theorem dX12_ask_106 : decode cX12_ask 106 = .ok (.invokevirtual 288, 3) := by decide +kernel
theorem dX12_ask_109 : decode cX12_ask 109 = .ok (.ireturn, 1) := by decide +kernel
theorem dX12_ask_110 : decode cX12_ask 110 = .ok (.aload_n 0, 1) := by decide +kernel
theorem dX12_ask_111 : decode cX12_ask 111 = .ok (.ldc2_w 291, 3) := by decide +kernel
theorem dX12_ask_114 : decode cX12_ask 114 = .ok (.invokevirtual 273, 3) := by decide +kernel
theorem dX12_ask_117 : decode cX12_ask 117 = .ok (.iload_n 1, 1) := by decide +kernel
theorem dX12_ask_118 : decode cX12_ask 118 = .ok (.aload_n 0, 1) := by decide +kernel
theorem dX12_ask_119 : decode cX12_ask 119 = .ok (.iload_n 1, 1) := by decide +kernel
theorem dX12_ask_120 : decode cX12_ask 120 = .ok (.invokevirtual 288, 3) := by decide +kernel
theorem dX12_ask_123 : decode cX12_ask 123 = .ok (.isub, 1) := by decide +kernel
theorem dX12_ask_124 : decode cX12_ask 124 = .ok (.ireturn, 1) := by decide +kernel
theorem dX12_trace_0 : decode cX12_trace 0 = .ok (.iload_n 1, 1) := by decide +kernel
theorem dX12_trace_1 : decode cX12_trace 1 = .ok (.i2l, 1) := by decide +kernel
theorem dX12_trace_2 : decode cX12_trace 2 = .ok (.lconst 0, 1) := by decide +kernel
theorem dX12_trace_3 : decode cX12_trace 3 = .ok (.aload_n 0, 1) := by decide +kernel
theorem dX12_trace_4 : decode cX12_trace 4 = .ok (.getfield 264, 3) := by decide +kernel
theorem dX12_trace_7 : decode cX12_trace 7 = .ok (.iconst 1, 1) := by decide +kernel
theorem dX12_trace_8 : decode cX12_trace 8 = .ok (.isub, 1) := by decide +kernel
theorem dX12_trace_9 : decode cX12_trace 9 = .ok (.i2l, 1) := by decide +kernel
theorem dX12_trace_10 : decode cX12_trace 10 = .ok (.invokestatic 54, 3) := by decide +kernel
theorem dX12_trace_13 : decode cX12_trace 13 = .ok (.ifCond .eq 12, 3) := by decide +kernel
theorem dX12_trace_16 : decode cX12_trace 16 = .ok (.aload_n 0, 1) := by decide +kernel
theorem dX12_trace_17 : decode cX12_trace 17 = .ok (.getfield 35, 3) := by decide +kernel
theorem dX12_trace_20 : decode cX12_trace 20 = .ok (.iload_n 1, 1) := by decide +kernel
theorem dX12_trace_21 : decode cX12_trace 21 = .ok (.iaload, 1) := by decide +kernel
theorem dX12_trace_22 : decode cX12_trace 22 = .ok (.goto 5, 3) := by decide +kernel
theorem dX12_trace_25 : decode cX12_trace 25 = .ok (.ldc 239, 2) := by decide +kernel
theorem dX12_trace_27 : decode cX12_trace 27 = .ok (.ireturn, 1) := by decide +kernel
theorem dX12_count_0 : decode cX12_count 0 = .ok (.iconst 0, 1) := by decide +kernel
theorem dX12_count_1 : decode cX12_count 1 = .ok (.istore_n 2, 1) := by decide +kernel
theorem dX12_count_2 : decode cX12_count 2 = .ok (.iconst 0, 1) := by decide +kernel
theorem dX12_count_3 : decode cX12_count 3 = .ok (.istore_n 3, 1) := by decide +kernel
theorem dX12_count_4 : decode cX12_count 4 = .ok (.iconst 0, 1) := by decide +kernel
theorem dX12_count_5 : decode cX12_count 5 = .ok (.istore 4, 2) := by decide +kernel
theorem dX12_count_7 : decode cX12_count 7 = .ok (.iload 4, 2) := by decide +kernel
theorem dX12_count_9 : decode cX12_count 9 = .ok (.bipush 8, 2) := by decide +kernel
theorem dX12_count_11 : decode cX12_count 11 = .ok (.if_icmp .ge 27, 3) := by decide +kernel
theorem dX12_count_14 : decode cX12_count 14 = .ok (.iload_n 2, 1) := by decide +kernel
theorem dX12_count_15 : decode cX12_count 15 = .ok (.aload_n 0, 1) := by decide +kernel
theorem dX12_count_16 : decode cX12_count 16 = .ok (.getfield 13, 3) := by decide +kernel
theorem dX12_count_19 : decode cX12_count 19 = .ok (.iload 4, 2) := by decide +kernel
theorem dX12_count_21 : decode cX12_count 21 = .ok (.iaload, 1) := by decide +kernel
theorem dX12_count_22 : decode cX12_count 22 = .ok (.ifCond .ge 7, 3) := by decide +kernel
theorem dX12_count_25 : decode cX12_count 25 = .ok (.iconst 0, 1) := by decide +kernel
theorem dX12_count_26 : decode cX12_count 26 = .ok (.goto 4, 3) := by decide +kernel
theorem dX12_count_29 : decode cX12_count 29 = .ok (.iconst 1, 1) := by decide +kernel
theorem dX12_count_30 : decode cX12_count 30 = .ok (.iadd, 1) := by decide +kernel
theorem dX12_count_31 : decode cX12_count 31 = .ok (.istore_n 2, 1) := by decide +kernel
theorem dX12_count_32 : decode cX12_count 32 = .ok (.iinc 4 1, 3) := by decide +kernel
theorem dX12_count_35 : decode cX12_count 35 = .ok (.goto (-28), 3) := by decide +kernel
theorem dX12_count_38 : decode cX12_count 38 = .ok (.iconst 0, 1) := by decide +kernel
theorem dX12_count_39 : decode cX12_count 39 = .ok (.istore 4, 2) := by decide +kernel
theorem dX12_count_41 : decode cX12_count 41 = .ok (.iload 4, 2) := by decide +kernel
theorem dX12_count_43 : decode cX12_count 43 = .ok (.bipush 48, 2) := by decide +kernel
theorem dX12_count_45 : decode cX12_count 45 = .ok (.if_icmp .ge 22, 3) := by decide +kernel
theorem dX12_count_48 : decode cX12_count 48 = .ok (.iload_n 3, 1) := by decide +kernel
theorem dX12_count_49 : decode cX12_count 49 = .ok (.aload_n 0, 1) := by decide +kernel
theorem dX12_count_50 : decode cX12_count 50 = .ok (.getfield 22, 3) := by decide +kernel
theorem dX12_count_53 : decode cX12_count 53 = .ok (.bipush 25, 2) := by decide +kernel
theorem dX12_count_55 : decode cX12_count 55 = .ok (.iload 4, 2) := by decide +kernel
theorem dX12_count_57 : decode cX12_count 57 = .ok (.iadd, 1) := by decide +kernel
theorem dX12_count_58 : decode cX12_count 58 = .ok (.iaload, 1) := by decide +kernel
theorem dX12_count_59 : decode cX12_count 59 = .ok (.iadd, 1) := by decide +kernel
theorem dX12_count_60 : decode cX12_count 60 = .ok (.istore_n 3, 1) := by decide +kernel
theorem dX12_count_61 : decode cX12_count 61 = .ok (.iinc 4 1, 3) := by decide +kernel
theorem dX12_count_64 : decode cX12_count 64 = .ok (.goto (-23), 3) := by decide +kernel
theorem dX12_count_67 : decode cX12_count 67 = .ok (.iload_n 1, 1) := by decide +kernel
theorem dX12_count_68 : decode cX12_count 68 = .ok (.tableswitch 80 0 6 #[44, 46, 53, 61, 68, 73, 75], 44) := by decide +kernel
theorem dX12_count_112 : decode cX12_count 112 = .ok (.iload_n 2, 1) := by decide +kernel
theorem dX12_count_113 : decode cX12_count 113 = .ok (.ireturn, 1) := by decide +kernel
theorem dX12_count_114 : decode cX12_count 114 = .ok (.aload_n 0, 1) := by decide +kernel
theorem dX12_count_115 : decode cX12_count 115 = .ok (.getfield 22, 3) := by decide +kernel
theorem dX12_count_118 : decode cX12_count 118 = .ok (.iconst 4, 1) := by decide +kernel
theorem dX12_count_119 : decode cX12_count 119 = .ok (.iaload, 1) := by decide +kernel
theorem dX12_count_120 : decode cX12_count 120 = .ok (.ireturn, 1) := by decide +kernel
theorem dX12_count_121 : decode cX12_count 121 = .ok (.aload_n 0, 1) := by decide +kernel
theorem dX12_count_122 : decode cX12_count 122 = .ok (.getfield 22, 3) := by decide +kernel
theorem dX12_count_125 : decode cX12_count 125 = .ok (.bipush 121, 2) := by decide +kernel
theorem dX12_count_127 : decode cX12_count 127 = .ok (.iaload, 1) := by decide +kernel
theorem dX12_count_128 : decode cX12_count 128 = .ok (.ireturn, 1) := by decide +kernel
theorem dX12_count_129 : decode cX12_count 129 = .ok (.aload_n 0, 1) := by decide +kernel
theorem dX12_count_130 : decode cX12_count 130 = .ok (.getfield 22, 3) := by decide +kernel
theorem dX12_count_133 : decode cX12_count 133 = .ok (.iconst 3, 1) := by decide +kernel
theorem dX12_count_134 : decode cX12_count 134 = .ok (.iaload, 1) := by decide +kernel
theorem dX12_count_135 : decode cX12_count 135 = .ok (.ireturn, 1) := by decide +kernel
theorem dX12_count_136 : decode cX12_count 136 = .ok (.aload_n 0, 1) := by decide +kernel
theorem dX12_count_137 : decode cX12_count 137 = .ok (.getfield 190, 3) := by decide +kernel
theorem dX12_count_140 : decode cX12_count 140 = .ok (.ireturn, 1) := by decide +kernel
theorem dX12_count_141 : decode cX12_count 141 = .ok (.iload_n 3, 1) := by decide +kernel
theorem dX12_count_142 : decode cX12_count 142 = .ok (.ireturn, 1) := by decide +kernel
theorem dX12_count_143 : decode cX12_count 143 = .ok (.aload_n 0, 1) := by decide +kernel
theorem dX12_count_144 : decode cX12_count 144 = .ok (.getfield 74, 3) := by decide +kernel
theorem dX12_count_147 : decode cX12_count 147 = .ok (.ireturn, 1) := by decide +kernel
theorem dX12_count_148 : decode cX12_count 148 = .ok (.ldc 64, 2) := by decide +kernel
theorem dX12_count_150 : decode cX12_count 150 = .ok (.ireturn, 1) := by decide +kernel
theorem dX12_status_0 : decode cX12_status 0 = .ok (.aload_n 0, 1) := by decide +kernel
theorem dX12_status_1 : decode cX12_status 1 = .ok (.getfield 47, 3) := by decide +kernel
theorem dX12_status_4 : decode cX12_status 4 = .ok (.ireturn, 1) := by decide +kernel
theorem dX4_init_0 : decode cX4_init 0 = .ok (.aload_n 0, 1) := by decide +kernel
theorem dX4_init_1 : decode cX4_init 1 = .ok (.invokespecial 3, 3) := by decide +kernel
theorem dX4_init_4 : decode cX4_init 4 = .ok (.aload_n 0, 1) := by decide +kernel
theorem dX4_init_5 : decode cX4_init 5 = .ok (.bipush 8, 2) := by decide +kernel
theorem dX4_init_7 : decode cX4_init 7 = .ok (.newarray .int, 2) := by decide +kernel
theorem dX4_init_9 : decode cX4_init 9 = .ok (.putfield 11, 3) := by decide +kernel
theorem dX4_init_12 : decode cX4_init 12 = .ok (.aload_n 0, 1) := by decide +kernel
theorem dX4_init_13 : decode cX4_init 13 = .ok (.bipush 8, 2) := by decide +kernel
theorem dX4_init_15 : decode cX4_init 15 = .ok (.newarray .boolean, 2) := by decide +kernel
theorem dX4_init_17 : decode cX4_init 17 = .ok (.putfield 15, 3) := by decide +kernel
theorem dX4_init_20 : decode cX4_init 20 = .ok (.aload_n 0, 1) := by decide +kernel
theorem dX4_init_21 : decode cX4_init 21 = .ok (.iconst 0, 1) := by decide +kernel
theorem dX4_init_22 : decode cX4_init 22 = .ok (.putfield 19, 3) := by decide +kernel
theorem dX4_init_25 : decode cX4_init 25 = .ok (.aload_n 0, 1) := by decide +kernel
theorem dX4_init_26 : decode cX4_init 26 = .ok (.bipush 8, 2) := by decide +kernel
theorem dX4_init_28 : decode cX4_init 28 = .ok (.newarray .int, 2) := by decide +kernel
theorem dX4_init_30 : decode cX4_init 30 = .ok (.putfield 23, 3) := by decide +kernel
theorem dX4_init_33 : decode cX4_init 33 = .ok (.aload_n 0, 1) := by decide +kernel
theorem dX4_init_34 : decode cX4_init 34 = .ok (.bipush 8, 2) := by decide +kernel
theorem dX4_init_36 : decode cX4_init 36 = .ok (.newarray .int, 2) := by decide +kernel
theorem dX4_init_38 : decode cX4_init 38 = .ok (.putfield 26, 3) := by decide +kernel
theorem dX4_init_41 : decode cX4_init 41 = .ok (.return_, 1) := by decide +kernel
theorem dX4_begin_0 : decode cX4_begin 0 = .ok (.aload_n 0, 1) := by decide +kernel
theorem dX4_begin_1 : decode cX4_begin 1 = .ok (.iconst 0, 1) := by decide +kernel
theorem dX4_begin_2 : decode cX4_begin 2 = .ok (.putfield 19, 3) := by decide +kernel
theorem dX4_begin_5 : decode cX4_begin 5 = .ok (.aload_n 0, 1) := by decide +kernel
theorem dX4_begin_6 : decode cX4_begin 6 = .ok (.aload_n 1, 1) := by decide +kernel
theorem dX4_begin_7 : decode cX4_begin 7 = .ok (.getfield 29, 3) := by decide +kernel
theorem dX4_begin_10 : decode cX4_begin 10 = .ok (.aload_n 1, 1) := by decide +kernel
theorem dX4_begin_11 : decode cX4_begin 11 = .ok (.getfield 34, 3) := by decide +kernel
theorem dX4_begin_14 : decode cX4_begin 14 = .ok (.invokevirtual 37, 3) := by decide +kernel
theorem dX4_begin_17 : decode cX4_begin 17 = .ok (.return_, 1) := by decide +kernel
theorem dX4_become_0 : decode cX4_become 0 = .ok (.aload_n 0, 1) := by decide +kernel
theorem dX4_become_1 : decode cX4_become 1 = .ok (.aload_n 1, 1) := by decide +kernel
theorem dX4_become_2 : decode cX4_become 2 = .ok (.getfield 19, 3) := by decide +kernel
theorem dX4_become_5 : decode cX4_become 5 = .ok (.putfield 19, 3) := by decide +kernel
theorem dX4_become_8 : decode cX4_become 8 = .ok (.aload_n 1, 1) := by decide +kernel
theorem dX4_become_9 : decode cX4_become 9 = .ok (.getfield 11, 3) := by decide +kernel
theorem dX4_become_12 : decode cX4_become 12 = .ok (.iconst 0, 1) := by decide +kernel
theorem dX4_become_13 : decode cX4_become 13 = .ok (.aload_n 0, 1) := by decide +kernel
theorem dX4_become_14 : decode cX4_become 14 = .ok (.getfield 11, 3) := by decide +kernel
theorem dX4_become_17 : decode cX4_become 17 = .ok (.iconst 0, 1) := by decide +kernel
theorem dX4_become_18 : decode cX4_become 18 = .ok (.bipush 8, 2) := by decide +kernel
theorem dX4_become_20 : decode cX4_become 20 = .ok (.invokestatic 41, 3) := by decide +kernel
theorem dX4_become_23 : decode cX4_become 23 = .ok (.aload_n 1, 1) := by decide +kernel
theorem dX4_become_24 : decode cX4_become 24 = .ok (.getfield 15, 3) := by decide +kernel
theorem dX4_become_27 : decode cX4_become 27 = .ok (.iconst 0, 1) := by decide +kernel
theorem dX4_become_28 : decode cX4_become 28 = .ok (.aload_n 0, 1) := by decide +kernel
theorem dX4_become_29 : decode cX4_become 29 = .ok (.getfield 15, 3) := by decide +kernel
theorem dX4_become_32 : decode cX4_become 32 = .ok (.iconst 0, 1) := by decide +kernel
theorem dX4_become_33 : decode cX4_become 33 = .ok (.bipush 8, 2) := by decide +kernel
theorem dX4_become_35 : decode cX4_become 35 = .ok (.invokestatic 41, 3) := by decide +kernel
theorem dX4_become_38 : decode cX4_become 38 = .ok (.aload_n 1, 1) := by decide +kernel
theorem dX4_become_39 : decode cX4_become 39 = .ok (.getfield 23, 3) := by decide +kernel
theorem dX4_become_42 : decode cX4_become 42 = .ok (.iconst 0, 1) := by decide +kernel
theorem dX4_become_43 : decode cX4_become 43 = .ok (.aload_n 0, 1) := by decide +kernel
theorem dX4_become_44 : decode cX4_become 44 = .ok (.getfield 23, 3) := by decide +kernel
theorem dX4_become_47 : decode cX4_become 47 = .ok (.iconst 0, 1) := by decide +kernel
theorem dX4_become_48 : decode cX4_become 48 = .ok (.bipush 8, 2) := by decide +kernel
theorem dX4_become_50 : decode cX4_become 50 = .ok (.invokestatic 41, 3) := by decide +kernel
theorem dX4_become_53 : decode cX4_become 53 = .ok (.aload_n 1, 1) := by decide +kernel
theorem dX4_become_54 : decode cX4_become 54 = .ok (.getfield 26, 3) := by decide +kernel
theorem dX4_become_57 : decode cX4_become 57 = .ok (.iconst 0, 1) := by decide +kernel
theorem dX4_become_58 : decode cX4_become 58 = .ok (.aload_n 0, 1) := by decide +kernel
theorem dX4_become_59 : decode cX4_become 59 = .ok (.getfield 26, 3) := by decide +kernel
theorem dX4_become_62 : decode cX4_become 62 = .ok (.iconst 0, 1) := by decide +kernel
theorem dX4_become_63 : decode cX4_become 63 = .ok (.bipush 8, 2) := by decide +kernel
theorem dX4_become_65 : decode cX4_become 65 = .ok (.invokestatic 41, 3) := by decide +kernel
theorem dX4_become_68 : decode cX4_become 68 = .ok (.return_, 1) := by decide +kernel
theorem dX4_move_0 : decode cX4_move 0 = .ok (.aload_n 1, 1) := by decide +kernel
theorem dX4_move_1 : decode cX4_move 1 = .ok (.instanceof 47, 3) := by decide +kernel
theorem dX4_move_4 : decode cX4_move 4 = .ok (.ifCond .eq 4, 3) := by decide +kernel
theorem dX4_move_7 : decode cX4_move 7 = .ok (.return_, 1) := by decide +kernel
theorem dX4_move_8 : decode cX4_move 8 = .ok (.aload_n 0, 1) := by decide +kernel
theorem dX4_move_9 : decode cX4_move 9 = .ok (.iload_n 2, 1) := by decide +kernel
theorem dX4_move_10 : decode cX4_move 10 = .ok (.aload_n 1, 1) := by decide +kernel
theorem dX4_move_11 : decode cX4_move 11 = .ok (.instanceof 49, 3) := by decide +kernel
theorem dX4_move_14 : decode cX4_move 14 = .ok (.invokevirtual 51, 3) := by decide +kernel
theorem dX4_move_17 : decode cX4_move 17 = .ok (.aload_n 1, 1) := by decide +kernel
theorem dX4_move_18 : decode cX4_move 18 = .ok (.instanceof 55, 3) := by decide +kernel
theorem dX4_move_21 : decode cX4_move 21 = .ok (.ifCond .eq 12, 3) := by decide +kernel
theorem dX4_move_24 : decode cX4_move 24 = .ok (.aload_n 0, 1) := by decide +kernel
theorem dX4_move_25 : decode cX4_move 25 = .ok (.iload_n 2, 1) := by decide +kernel
theorem dX4_move_26 : decode cX4_move 26 = .ok (.invokestatic 57, 3) := by decide +kernel
theorem dX4_move_29 : decode cX4_move 29 = .ok (.iconst 0, 1) := by decide +kernel
theorem dX4_move_30 : decode cX4_move 30 = .ok (.invokevirtual 51, 3) := by decide +kernel
theorem dX4_move_33 : decode cX4_move 33 = .ok (.aload_n 0, 1) := by decide +kernel
theorem dX4_move_34 : decode cX4_move 34 = .ok (.getfield 19, 3) := by decide +kernel
theorem dX4_move_37 : decode cX4_move 37 = .ok (.istore 4, 2) := by decide +kernel
theorem dX4_move_39 : decode cX4_move 39 = .ok (.iload 4, 2) := by decide +kernel
theorem dX4_move_41 : decode cX4_move 41 = .ok (.aload_n 3, 1) := by decide +kernel
theorem dX4_move_42 : decode cX4_move 42 = .ok (.getfield 61, 3) := by decide +kernel
theorem dX4_move_45 : decode cX4_move 45 = .ok (.if_icmp .le 17, 3) := by decide +kernel
theorem dX4_move_48 : decode cX4_move 48 = .ok (.aload_n 0, 1) := by decide +kernel
theorem dX4_move_49 : decode cX4_move 49 = .ok (.aload_n 0, 1) := by decide +kernel
theorem dX4_move_50 : decode cX4_move 50 = .ok (.invokevirtual 64, 3) := by decide +kernel
theorem dX4_move_53 : decode cX4_move 53 = .ok (.invokevirtual 68, 3) := by decide +kernel
theorem dX4_move_56 : decode cX4_move 56 = .ok (.iinc 4 (-1), 3) := by decide +kernel
theorem dX4_move_59 : decode cX4_move 59 = .ok (.goto (-20), 3) := by decide +kernel
theorem dX4_move_62 : decode cX4_move 62 = .ok (.aload_n 0, 1) := by decide +kernel
theorem dX4_move_63 : decode cX4_move 63 = .ok (.aload_n 3, 1) := by decide +kernel
theorem dX4_move_64 : decode cX4_move 64 = .ok (.getfield 29, 3) := by decide +kernel
theorem dX4_move_67 : decode cX4_move 67 = .ok (.aload_n 3, 1) := by decide +kernel
theorem dX4_move_68 : decode cX4_move 68 = .ok (.getfield 34, 3) := by decide +kernel
theorem dX4_move_71 : decode cX4_move 71 = .ok (.invokevirtual 37, 3) := by decide +kernel
theorem dX4_move_74 : decode cX4_move 74 = .ok (.return_, 1) := by decide +kernel
theorem dX4_mirrored_0 : decode cX4_mirrored 0 = .ok (.iload_n 0, 1) := by decide +kernel
theorem dX4_mirrored_1 : decode cX4_mirrored 1 = .ok (.iload_n 0, 1) := by decide +kernel
theorem dX4_mirrored_2 : decode cX4_mirrored 2 = .ok (.bipush 8, 2) := by decide +kernel
theorem dX4_mirrored_4 : decode cX4_mirrored 4 = .ok (.irem, 1) := by decide +kernel
theorem dX4_mirrored_5 : decode cX4_mirrored 5 = .ok (.isub, 1) := by decide +kernel
theorem dX4_mirrored_6 : decode cX4_mirrored 6 = .ok (.bipush 7, 2) := by decide +kernel
theorem dX4_mirrored_8 : decode cX4_mirrored 8 = .ok (.iload_n 0, 1) := by decide +kernel
theorem dX4_mirrored_9 : decode cX4_mirrored 9 = .ok (.bipush 8, 2) := by decide +kernel
theorem dX4_mirrored_11 : decode cX4_mirrored 11 = .ok (.irem, 1) := by decide +kernel
theorem dX4_mirrored_12 : decode cX4_mirrored 12 = .ok (.isub, 1) := by decide +kernel
theorem dX4_mirrored_13 : decode cX4_mirrored 13 = .ok (.iadd, 1) := by decide +kernel
theorem dX4_mirrored_14 : decode cX4_mirrored 14 = .ok (.ireturn, 1) := by decide +kernel
theorem dX4_add_0 : decode cX4_add 0 = .ok (.aload_n 0, 1) := by decide +kernel
theorem dX4_add_1 : decode cX4_add 1 = .ok (.iload_n 1, 1) := by decide +kernel
theorem dX4_add_2 : decode cX4_add 2 = .ok (.bipush 8, 2) := by decide +kernel
theorem dX4_add_4 : decode cX4_add 4 = .ok (.irem, 1) := by decide +kernel
theorem dX4_add_5 : decode cX4_add 5 = .ok (.invokevirtual 72, 3) := by decide +kernel
theorem dX4_add_8 : decode cX4_add 8 = .ok (.istore_n 3, 1) := by decide +kernel
theorem dX4_add_9 : decode cX4_add 9 = .ok (.iload_n 3, 1) := by decide +kernel
theorem dX4_add_10 : decode cX4_add 10 = .ok (.ifCond .lt 8, 3) := by decide +kernel
theorem dX4_add_13 : decode cX4_add 13 = .ok (.aload_n 0, 1) := by decide +kernel
theorem dX4_add_14 : decode cX4_add 14 = .ok (.iload_n 3, 1) := by decide +kernel
theorem dX4_add_15 : decode cX4_add 15 = .ok (.invokevirtual 68, 3) := by decide +kernel
theorem dX4_add_18 : decode cX4_add 18 = .ok (.aload_n 0, 1) := by decide +kernel
theorem dX4_add_19 : decode cX4_add 19 = .ok (.getfield 19, 3) := by decide +kernel
theorem dX4_add_22 : decode cX4_add 22 = .ok (.bipush 8, 2) := by decide +kernel
theorem dX4_add_24 : decode cX4_add 24 = .ok (.if_icmp .ge 33, 3) := by decide +kernel
theorem dX4_add_27 : decode cX4_add 27 = .ok (.aload_n 0, 1) := by decide +kernel
theorem dX4_add_28 : decode cX4_add 28 = .ok (.getfield 11, 3) := by decide +kernel
theorem dX4_add_31 : decode cX4_add 31 = .ok (.aload_n 0, 1) := by decide +kernel
theorem dX4_add_32 : decode cX4_add 32 = .ok (.getfield 19, 3) := by decide +kernel
theorem dX4_add_35 : decode cX4_add 35 = .ok (.iload_n 1, 1) := by decide +kernel
theorem dX4_add_36 : decode cX4_add 36 = .ok (.iastore, 1) := by decide +kernel
theorem dX4_add_37 : decode cX4_add 37 = .ok (.aload_n 0, 1) := by decide +kernel
theorem dX4_add_38 : decode cX4_add 38 = .ok (.getfield 15, 3) := by decide +kernel
theorem dX4_add_41 : decode cX4_add 41 = .ok (.aload_n 0, 1) := by decide +kernel
theorem dX4_add_42 : decode cX4_add 42 = .ok (.getfield 19, 3) := by decide +kernel
theorem dX4_add_45 : decode cX4_add 45 = .ok (.iload_n 2, 1) := by decide +kernel
theorem dX4_add_46 : decode cX4_add 46 = .ok (.bastore, 1) := by decide +kernel
theorem dX4_add_47 : decode cX4_add 47 = .ok (.aload_n 0, 1) := by decide +kernel
theorem dX4_add_48 : decode cX4_add 48 = .ok (.dup, 1) := by decide +kernel
theorem dX4_add_49 : decode cX4_add 49 = .ok (.getfield 19, 3) := by decide +kernel
theorem dX4_add_52 : decode cX4_add 52 = .ok (.iconst 1, 1) := by decide +kernel
theorem dX4_add_53 : decode cX4_add 53 = .ok (.iadd, 1) := by decide +kernel
theorem dX4_add_54 : decode cX4_add 54 = .ok (.putfield 19, 3) := by decide +kernel
theorem dX4_add_57 : decode cX4_add 57 = .ok (.return_, 1) := by decide +kernel
theorem dX4_remove_0 : decode cX4_remove 0 = .ok (.iload_n 1, 1) := by decide +kernel
theorem dX4_remove_1 : decode cX4_remove 1 = .ok (.iconst 1, 1) := by decide +kernel
theorem dX4_remove_2 : decode cX4_remove 2 = .ok (.iadd, 1) := by decide +kernel
theorem dX4_remove_3 : decode cX4_remove 3 = .ok (.istore_n 2, 1) := by decide +kernel
theorem dX4_remove_4 : decode cX4_remove 4 = .ok (.iload_n 2, 1) := by decide +kernel
theorem dX4_remove_5 : decode cX4_remove 5 = .ok (.aload_n 0, 1) := by decide +kernel
theorem dX4_remove_6 : decode cX4_remove 6 = .ok (.getfield 19, 3) := by decide +kernel
theorem dX4_remove_9 : decode cX4_remove 9 = .ok (.if_icmp .ge 37, 3) := by decide +kernel
theorem dX4_remove_12 : decode cX4_remove 12 = .ok (.aload_n 0, 1) := by decide +kernel
theorem dX4_remove_13 : decode cX4_remove 13 = .ok (.getfield 11, 3) := by decide +kernel
theorem dX4_remove_16 : decode cX4_remove 16 = .ok (.iload_n 2, 1) := by decide +kernel
theorem dX4_remove_17 : decode cX4_remove 17 = .ok (.iconst 1, 1) := by decide +kernel
theorem dX4_remove_18 : decode cX4_remove 18 = .ok (.isub, 1) := by decide +kernel
theorem dX4_remove_19 : decode cX4_remove 19 = .ok (.aload_n 0, 1) := by decide +kernel
theorem dX4_remove_20 : decode cX4_remove 20 = .ok (.getfield 11, 3) := by decide +kernel
theorem dX4_remove_23 : decode cX4_remove 23 = .ok (.iload_n 2, 1) := by decide +kernel
theorem dX4_remove_24 : decode cX4_remove 24 = .ok (.iaload, 1) := by decide +kernel
theorem dX4_remove_25 : decode cX4_remove 25 = .ok (.iastore, 1) := by decide +kernel
theorem dX4_remove_26 : decode cX4_remove 26 = .ok (.aload_n 0, 1) := by decide +kernel
theorem dX4_remove_27 : decode cX4_remove 27 = .ok (.getfield 15, 3) := by decide +kernel
theorem dX4_remove_30 : decode cX4_remove 30 = .ok (.iload_n 2, 1) := by decide +kernel
theorem dX4_remove_31 : decode cX4_remove 31 = .ok (.iconst 1, 1) := by decide +kernel
theorem dX4_remove_32 : decode cX4_remove 32 = .ok (.isub, 1) := by decide +kernel
theorem dX4_remove_33 : decode cX4_remove 33 = .ok (.aload_n 0, 1) := by decide +kernel
theorem dX4_remove_34 : decode cX4_remove 34 = .ok (.getfield 15, 3) := by decide +kernel
theorem dX4_remove_37 : decode cX4_remove 37 = .ok (.iload_n 2, 1) := by decide +kernel
theorem dX4_remove_38 : decode cX4_remove 38 = .ok (.baload, 1) := by decide +kernel
theorem dX4_remove_39 : decode cX4_remove 39 = .ok (.bastore, 1) := by decide +kernel
theorem dX4_remove_40 : decode cX4_remove 40 = .ok (.iinc 2 1, 3) := by decide +kernel
theorem dX4_remove_43 : decode cX4_remove 43 = .ok (.goto (-39), 3) := by decide +kernel
theorem dX4_remove_46 : decode cX4_remove 46 = .ok (.aload_n 0, 1) := by decide +kernel
theorem dX4_remove_47 : decode cX4_remove 47 = .ok (.dup, 1) := by decide +kernel
theorem dX4_remove_48 : decode cX4_remove 48 = .ok (.getfield 19, 3) := by decide +kernel
theorem dX4_remove_51 : decode cX4_remove 51 = .ok (.iconst 1, 1) := by decide +kernel
theorem dX4_remove_52 : decode cX4_remove 52 = .ok (.isub, 1) := by decide +kernel
theorem dX4_remove_53 : decode cX4_remove 53 = .ok (.putfield 19, 3) := by decide +kernel
theorem dX4_remove_56 : decode cX4_remove 56 = .ok (.return_, 1) := by decide +kernel
theorem dX4_whichGoes_0 : decode cX4_whichGoes 0 = .ok (.iconst 0, 1) := by decide +kernel
theorem dX4_whichGoes_1 : decode cX4_whichGoes 1 = .ok (.istore_n 1, 1) := by decide +kernel
theorem dX4_whichGoes_2 : decode cX4_whichGoes 2 = .ok (.iload_n 1, 1) := by decide +kernel
theorem dX4_whichGoes_3 : decode cX4_whichGoes 3 = .ok (.aload_n 0, 1) := by decide +kernel
theorem dX4_whichGoes_4 : decode cX4_whichGoes 4 = .ok (.getfield 19, 3) := by decide +kernel
theorem dX4_whichGoes_7 : decode cX4_whichGoes 7 = .ok (.if_icmp .ge 20, 3) := by decide +kernel
theorem dX4_whichGoes_10 : decode cX4_whichGoes 10 = .ok (.aload_n 0, 1) := by decide +kernel
theorem dX4_whichGoes_11 : decode cX4_whichGoes 11 = .ok (.getfield 15, 3) := by decide +kernel
theorem dX4_whichGoes_14 : decode cX4_whichGoes 14 = .ok (.iload_n 1, 1) := by decide +kernel
theorem dX4_whichGoes_15 : decode cX4_whichGoes 15 = .ok (.baload, 1) := by decide +kernel
theorem dX4_whichGoes_16 : decode cX4_whichGoes 16 = .ok (.ifCond .eq 5, 3) := by decide +kernel
theorem dX4_whichGoes_19 : decode cX4_whichGoes 19 = .ok (.iload_n 1, 1) := by decide +kernel
theorem dX4_whichGoes_20 : decode cX4_whichGoes 20 = .ok (.ireturn, 1) := by decide +kernel
theorem dX4_whichGoes_21 : decode cX4_whichGoes 21 = .ok (.iinc 1 1, 3) := by decide +kernel
theorem dX4_whichGoes_24 : decode cX4_whichGoes 24 = .ok (.goto (-22), 3) := by decide +kernel
theorem dX4_whichGoes_27 : decode cX4_whichGoes 27 = .ok (.iconst 0, 1) := by decide +kernel
theorem dX4_whichGoes_28 : decode cX4_whichGoes 28 = .ok (.ireturn, 1) := by decide +kernel
theorem dX4_cornerIn_0 : decode cX4_cornerIn 0 = .ok (.iconst 0, 1) := by decide +kernel
theorem dX4_cornerIn_1 : decode cX4_cornerIn 1 = .ok (.istore_n 2, 1) := by decide +kernel
theorem dX4_cornerIn_2 : decode cX4_cornerIn 2 = .ok (.iload_n 2, 1) := by decide +kernel
theorem dX4_cornerIn_3 : decode cX4_cornerIn 3 = .ok (.aload_n 0, 1) := by decide +kernel
theorem dX4_cornerIn_4 : decode cX4_cornerIn 4 = .ok (.getfield 19, 3) := by decide +kernel
theorem dX4_cornerIn_7 : decode cX4_cornerIn 7 = .ok (.if_icmp .ge 24, 3) := by decide +kernel
theorem dX4_cornerIn_10 : decode cX4_cornerIn 10 = .ok (.aload_n 0, 1) := by decide +kernel
theorem dX4_cornerIn_11 : decode cX4_cornerIn 11 = .ok (.getfield 11, 3) := by decide +kernel
theorem dX4_cornerIn_14 : decode cX4_cornerIn 14 = .ok (.iload_n 2, 1) := by decide +kernel
theorem dX4_cornerIn_15 : decode cX4_cornerIn 15 = .ok (.iaload, 1) := by decide +kernel
theorem dX4_cornerIn_16 : decode cX4_cornerIn 16 = .ok (.bipush 8, 2) := by decide +kernel
theorem dX4_cornerIn_18 : decode cX4_cornerIn 18 = .ok (.irem, 1) := by decide +kernel
theorem dX4_cornerIn_19 : decode cX4_cornerIn 19 = .ok (.iload_n 1, 1) := by decide +kernel
theorem dX4_cornerIn_20 : decode cX4_cornerIn 20 = .ok (.if_icmp .ne 5, 3) := by decide +kernel
theorem dX4_cornerIn_23 : decode cX4_cornerIn 23 = .ok (.iload_n 2, 1) := by decide +kernel
theorem dX4_cornerIn_24 : decode cX4_cornerIn 24 = .ok (.ireturn, 1) := by decide +kernel
theorem dX4_cornerIn_25 : decode cX4_cornerIn 25 = .ok (.iinc 2 1, 3) := by decide +kernel
theorem dX4_cornerIn_28 : decode cX4_cornerIn 28 = .ok (.goto (-26), 3) := by decide +kernel
theorem dX4_cornerIn_31 : decode cX4_cornerIn 31 = .ok (.iconst (-1), 1) := by decide +kernel
theorem dX4_cornerIn_32 : decode cX4_cornerIn 32 = .ok (.ireturn, 1) := by decide +kernel
theorem dX4_isCorner_0 : decode cX4_isCorner 0 = .ok (.aload_n 0, 1) := by decide +kernel
theorem dX4_isCorner_1 : decode cX4_isCorner 1 = .ok (.iload_n 1, 1) := by decide +kernel
theorem dX4_isCorner_2 : decode cX4_isCorner 2 = .ok (.bipush 8, 2) := by decide +kernel
theorem dX4_isCorner_4 : decode cX4_isCorner 4 = .ok (.irem, 1) := by decide +kernel
theorem dX4_isCorner_5 : decode cX4_isCorner 5 = .ok (.invokevirtual 72, 3) := by decide +kernel
theorem dX4_isCorner_8 : decode cX4_isCorner 8 = .ok (.istore_n 2, 1) := by decide +kernel
theorem dX4_isCorner_9 : decode cX4_isCorner 9 = .ok (.iload_n 2, 1) := by decide +kernel
theorem dX4_isCorner_10 : decode cX4_isCorner 10 = .ok (.ifCond .lt 17, 3) := by decide +kernel
theorem dX4_isCorner_13 : decode cX4_isCorner 13 = .ok (.aload_n 0, 1) := by decide +kernel
theorem dX4_isCorner_14 : decode cX4_isCorner 14 = .ok (.getfield 11, 3) := by decide +kernel
theorem dX4_isCorner_17 : decode cX4_isCorner 17 = .ok (.iload_n 2, 1) := by decide +kernel
theorem dX4_isCorner_18 : decode cX4_isCorner 18 = .ok (.iaload, 1) := by decide +kernel
theorem dX4_isCorner_19 : decode cX4_isCorner 19 = .ok (.iload_n 1, 1) := by decide +kernel
theorem dX4_isCorner_20 : decode cX4_isCorner 20 = .ok (.if_icmp .ne 7, 3) := by decide +kernel
theorem dX4_isCorner_23 : decode cX4_isCorner 23 = .ok (.iconst 1, 1) := by decide +kernel
theorem dX4_isCorner_24 : decode cX4_isCorner 24 = .ok (.goto 4, 3) := by decide +kernel
theorem dX4_isCorner_27 : decode cX4_isCorner 27 = .ok (.iconst 0, 1) := by decide +kernel
theorem dX4_isCorner_28 : decode cX4_isCorner 28 = .ok (.ireturn, 1) := by decide +kernel
theorem dX4_lay_0 : decode cX4_lay 0 = .ok (.iconst (-1), 1) := by decide +kernel
theorem dX4_lay_1 : decode cX4_lay 1 = .ok (.istore_n 3, 1) := by decide +kernel
theorem dX4_lay_2 : decode cX4_lay 2 = .ok (.iload_n 1, 1) := by decide +kernel
theorem dX4_lay_3 : decode cX4_lay 3 = .ok (.istore 4, 2) := by decide +kernel
theorem dX4_lay_5 : decode cX4_lay 5 = .ok (.iconst 0, 1) := by decide +kernel
theorem dX4_lay_6 : decode cX4_lay 6 = .ok (.istore 5, 2) := by decide +kernel
theorem dX4_lay_8 : decode cX4_lay 8 = .ok (.iload 5, 2) := by decide +kernel
theorem dX4_lay_10 : decode cX4_lay 10 = .ok (.bipush 8, 2) := by decide +kernel
theorem dX4_lay_12 : decode cX4_lay 12 = .ok (.if_icmp .ge 52, 3) := by decide +kernel
theorem dX4_lay_15 : decode cX4_lay 15 = .ok (.aload_n 0, 1) := by decide +kernel
theorem dX4_lay_16 : decode cX4_lay 16 = .ok (.iload 5, 2) := by decide +kernel
theorem dX4_lay_18 : decode cX4_lay 18 = .ok (.invokevirtual 72, 3) := by decide +kernel
theorem dX4_lay_21 : decode cX4_lay 21 = .ok (.istore 6, 2) := by decide +kernel
theorem dX4_lay_23 : decode cX4_lay 23 = .ok (.iload 6, 2) := by decide +kernel
theorem dX4_lay_25 : decode cX4_lay 25 = .ok (.ifCond .lt 33, 3) := by decide +kernel
theorem dX4_lay_28 : decode cX4_lay 28 = .ok (.aload_n 0, 1) := by decide +kernel
theorem dX4_lay_29 : decode cX4_lay 29 = .ok (.getfield 11, 3) := by decide +kernel
theorem dX4_lay_32 : decode cX4_lay 32 = .ok (.iload 6, 2) := by decide +kernel
theorem dX4_lay_34 : decode cX4_lay 34 = .ok (.iaload, 1) := by decide +kernel
theorem dX4_lay_35 : decode cX4_lay 35 = .ok (.bipush 8, 2) := by decide +kernel
theorem dX4_lay_37 : decode cX4_lay 37 = .ok (.idiv, 1) := by decide +kernel
theorem dX4_lay_38 : decode cX4_lay 38 = .ok (.istore 7, 2) := by decide +kernel
theorem dX4_lay_40 : decode cX4_lay 40 = .ok (.aload_n 0, 1) := by decide +kernel
theorem dX4_lay_41 : decode cX4_lay 41 = .ok (.iload_n 3, 1) := by decide +kernel
theorem dX4_lay_42 : decode cX4_lay 42 = .ok (.iload 4, 2) := by decide +kernel
theorem dX4_lay_44 : decode cX4_lay 44 = .ok (.iload 5, 2) := by decide +kernel
theorem dX4_lay_46 : decode cX4_lay 46 = .ok (.iload 7, 2) := by decide +kernel
theorem dX4_lay_48 : decode cX4_lay 48 = .ok (.invokevirtual 75, 3) := by decide +kernel
theorem dX4_lay_51 : decode cX4_lay 51 = .ok (.iload 5, 2) := by decide +kernel
theorem dX4_lay_53 : decode cX4_lay 53 = .ok (.istore_n 3, 1) := by decide +kernel
theorem dX4_lay_54 : decode cX4_lay 54 = .ok (.iload 7, 2) := by decide +kernel
theorem dX4_lay_56 : decode cX4_lay 56 = .ok (.istore 4, 2) := by decide +kernel
theorem dX4_lay_58 : decode cX4_lay 58 = .ok (.iinc 5 1, 3) := by decide +kernel
theorem dX4_lay_61 : decode cX4_lay 61 = .ok (.goto (-53), 3) := by decide +kernel
theorem dX4_lay_64 : decode cX4_lay 64 = .ok (.aload_n 0, 1) := by decide +kernel
theorem dX4_lay_65 : decode cX4_lay 65 = .ok (.iload_n 3, 1) := by decide +kernel
theorem dX4_lay_66 : decode cX4_lay 66 = .ok (.iload 4, 2) := by decide +kernel
theorem dX4_lay_68 : decode cX4_lay 68 = .ok (.bipush 8, 2) := by decide +kernel
theorem dX4_lay_70 : decode cX4_lay 70 = .ok (.iload_n 2, 1) := by decide +kernel
theorem dX4_lay_71 : decode cX4_lay 71 = .ok (.invokevirtual 75, 3) := by decide +kernel
theorem dX4_lay_74 : decode cX4_lay 74 = .ok (.return_, 1) := by decide +kernel
theorem dX4_layBetween_0 : decode cX4_layBetween 0 = .ok (.iload_n 3, 1) := by decide +kernel
